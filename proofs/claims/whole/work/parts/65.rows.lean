/-! ===== rows: adding, copying ===== -/
def RW (r n : Nat) (σ : Hs) (F : Nat → Int32) : Prop := σ r 1 = nI n ∧ ∀ k, k < n → σ (r + 1) k = F k
theorem r22_add (d n : Nat) (hn : n < 60) (v : Int32) (σ : Hs) (h : σ 22 1 = nI n) : callD (d + 1) 44 [.ref 22, .int v] σ = some (some (.int 1), rep (rep σ 23 (upd (σ 23) n v)) 22 (upd (σ 22) 1 (nI (n + 1)))) := by
  have n31 : n < 2147483648 := by omega
  have e0 : (nI n < 0) = False := eq_false (nI_pos n31)
  have e1 : (nI n < 60) = True := by rw [show (60 : Int32) = nI 60 from rfl, lt_nn n31 (by omega)]; exact eq_true (by omega)
  simp only [c44, s44_0, s44_1_o22, s44_1_o24, s44_1_o26, s44_1_o28, s44_1_o71, s44_1_o74, s44_4, s44_7, s44_8_o22, s44_8_o24, s44_8_o26, s44_8_o28, s44_8_o71, s44_8_o74, s44_11, s44_12_o22, s44_12_o24, s44_12_o26, s44_12_o28, s44_12_o71, s44_12_o74, s44_15_o23, s44_15_o25, s44_15_o27, s44_15_o29, s44_15_o72, s44_15_o75, s44_16, s44_19, s44_20, s44_21, s44_22_o22, s44_22_o24, s44_22_o26, s44_22_o28, s44_22_o71, s44_22_o74, s44_25, s44_26_o22, s44_26_o24, s44_26_o26, s44_26_o28, s44_26_o71, s44_26_o74, s44_29, s44_30_o23, s44_30_o25, s44_30_o27, s44_30_o29, s44_30_o72, s44_30_o75, s44_31, s44_32, s44_33_o22, s44_33_o24, s44_33_o26, s44_33_o28, s44_33_o71, s44_33_o74, s44_36, s44_37, s44_38_o22, s44_38_o24, s44_38_o26, s44_38_o28, s44_38_o71, s44_38_o74, s44_41, s44_42, h, e0, e1, vp_nI hn, cl_nI n31, up2_rep, rep_at, nI_1, isB_1, simprocAttr, if_true, if_false, true_and, and_true, false_and, and_false, not_false_eq_true, not_true_eq_false, gd_T, kont_i, kont_v]
theorem r22_full (d : Nat) (v : Int32) (σ : Hs) (h : σ 22 1 = nI 60) : callD (d + 1) 44 [.ref 22, .int v] σ = some (some (.int 0), σ) := by
  have e0 : (nI 60 < 0) = False := eq_false (nI_pos (by omega))
  have e1 : (nI 60 < 60) = False := eq_false (fun q => Int32.lt_irrefl q)
  simp only [c44, s44_0, s44_1_o22, s44_1_o24, s44_1_o26, s44_1_o28, s44_1_o71, s44_1_o74, s44_4, s44_7, s44_8_o22, s44_8_o24, s44_8_o26, s44_8_o28, s44_8_o71, s44_8_o74, s44_11, s44_12_o22, s44_12_o24, s44_12_o26, s44_12_o28, s44_12_o71, s44_12_o74, s44_15_o23, s44_15_o25, s44_15_o27, s44_15_o29, s44_15_o72, s44_15_o75, s44_16, s44_19, s44_20, s44_21, s44_22_o22, s44_22_o24, s44_22_o26, s44_22_o28, s44_22_o71, s44_22_o74, s44_25, s44_26_o22, s44_26_o24, s44_26_o26, s44_26_o28, s44_26_o71, s44_26_o74, s44_29, s44_30_o23, s44_30_o25, s44_30_o27, s44_30_o29, s44_30_o72, s44_30_o75, s44_31, s44_32, s44_33_o22, s44_33_o24, s44_33_o26, s44_33_o28, s44_33_o71, s44_33_o74, s44_36, s44_37, s44_38_o22, s44_38_o24, s44_38_o26, s44_38_o28, s44_38_o71, s44_38_o74, s44_41, s44_42, h, e0, e1, isB_0, simprocAttr, if_true, if_false, true_and, and_true, false_and, and_false, not_false_eq_true, not_true_eq_false, gd_T, kont_i, kont_v]
theorem RW_add22 {n : Nat} {v : Int32} {σ : Hs} {F : Nat → Int32} (h : RW 22 n σ F) : RW 22 (n + 1) (rep (rep σ 23 (upd (σ 23) n v)) 22 (upd (σ 22) 1 (nI (n + 1)))) (upd F n v) := by
  refine ⟨?_, fun k hk => ?_⟩
  · rw [rep_self, upd_at, if_pos rfl]
  · rw [rep_ne (by omega), rep_self, upd_at, upd_at]
    by_cases c : k = n
    · rw [if_pos c, if_pos c]
    · rw [if_neg c, if_neg c]; exact h.2 k (by omega)
theorem r24_add (d n : Nat) (hn : n < 12) (v : Int32) (σ : Hs) (h : σ 24 1 = nI n) : callD (d + 1) 44 [.ref 24, .int v] σ = some (some (.int 1), rep (rep σ 25 (upd (σ 25) n v)) 24 (upd (σ 24) 1 (nI (n + 1)))) := by
  have n31 : n < 2147483648 := by omega
  have e0 : (nI n < 0) = False := eq_false (nI_pos n31)
  have e1 : (nI n < 12) = True := by rw [show (12 : Int32) = nI 12 from rfl, lt_nn n31 (by omega)]; exact eq_true (by omega)
  simp only [c44, s44_0, s44_1_o22, s44_1_o24, s44_1_o26, s44_1_o28, s44_1_o71, s44_1_o74, s44_4, s44_7, s44_8_o22, s44_8_o24, s44_8_o26, s44_8_o28, s44_8_o71, s44_8_o74, s44_11, s44_12_o22, s44_12_o24, s44_12_o26, s44_12_o28, s44_12_o71, s44_12_o74, s44_15_o23, s44_15_o25, s44_15_o27, s44_15_o29, s44_15_o72, s44_15_o75, s44_16, s44_19, s44_20, s44_21, s44_22_o22, s44_22_o24, s44_22_o26, s44_22_o28, s44_22_o71, s44_22_o74, s44_25, s44_26_o22, s44_26_o24, s44_26_o26, s44_26_o28, s44_26_o71, s44_26_o74, s44_29, s44_30_o23, s44_30_o25, s44_30_o27, s44_30_o29, s44_30_o72, s44_30_o75, s44_31, s44_32, s44_33_o22, s44_33_o24, s44_33_o26, s44_33_o28, s44_33_o71, s44_33_o74, s44_36, s44_37, s44_38_o22, s44_38_o24, s44_38_o26, s44_38_o28, s44_38_o71, s44_38_o74, s44_41, s44_42, h, e0, e1, vp_nI hn, cl_nI n31, up2_rep, rep_at, nI_1, isB_1, simprocAttr, if_true, if_false, true_and, and_true, false_and, and_false, not_false_eq_true, not_true_eq_false, gd_T, kont_i, kont_v]
theorem r24_full (d : Nat) (v : Int32) (σ : Hs) (h : σ 24 1 = nI 12) : callD (d + 1) 44 [.ref 24, .int v] σ = some (some (.int 0), σ) := by
  have e0 : (nI 12 < 0) = False := eq_false (nI_pos (by omega))
  have e1 : (nI 12 < 12) = False := eq_false (fun q => Int32.lt_irrefl q)
  simp only [c44, s44_0, s44_1_o22, s44_1_o24, s44_1_o26, s44_1_o28, s44_1_o71, s44_1_o74, s44_4, s44_7, s44_8_o22, s44_8_o24, s44_8_o26, s44_8_o28, s44_8_o71, s44_8_o74, s44_11, s44_12_o22, s44_12_o24, s44_12_o26, s44_12_o28, s44_12_o71, s44_12_o74, s44_15_o23, s44_15_o25, s44_15_o27, s44_15_o29, s44_15_o72, s44_15_o75, s44_16, s44_19, s44_20, s44_21, s44_22_o22, s44_22_o24, s44_22_o26, s44_22_o28, s44_22_o71, s44_22_o74, s44_25, s44_26_o22, s44_26_o24, s44_26_o26, s44_26_o28, s44_26_o71, s44_26_o74, s44_29, s44_30_o23, s44_30_o25, s44_30_o27, s44_30_o29, s44_30_o72, s44_30_o75, s44_31, s44_32, s44_33_o22, s44_33_o24, s44_33_o26, s44_33_o28, s44_33_o71, s44_33_o74, s44_36, s44_37, s44_38_o22, s44_38_o24, s44_38_o26, s44_38_o28, s44_38_o71, s44_38_o74, s44_41, s44_42, h, e0, e1, isB_0, simprocAttr, if_true, if_false, true_and, and_true, false_and, and_false, not_false_eq_true, not_true_eq_false, gd_T, kont_i, kont_v]
theorem RW_add24 {n : Nat} {v : Int32} {σ : Hs} {F : Nat → Int32} (h : RW 24 n σ F) : RW 24 (n + 1) (rep (rep σ 25 (upd (σ 25) n v)) 24 (upd (σ 24) 1 (nI (n + 1)))) (upd F n v) := by
  refine ⟨?_, fun k hk => ?_⟩
  · rw [rep_self, upd_at, if_pos rfl]
  · rw [rep_ne (by omega), rep_self, upd_at, upd_at]
    by_cases c : k = n
    · rw [if_pos c, if_pos c]
    · rw [if_neg c, if_neg c]; exact h.2 k (by omega)
theorem r26_add (d n : Nat) (hn : n < 12) (v : Int32) (σ : Hs) (h : σ 26 1 = nI n) : callD (d + 1) 44 [.ref 26, .int v] σ = some (some (.int 1), rep (rep σ 27 (upd (σ 27) n v)) 26 (upd (σ 26) 1 (nI (n + 1)))) := by
  have n31 : n < 2147483648 := by omega
  have e0 : (nI n < 0) = False := eq_false (nI_pos n31)
  have e1 : (nI n < 12) = True := by rw [show (12 : Int32) = nI 12 from rfl, lt_nn n31 (by omega)]; exact eq_true (by omega)
  simp only [c44, s44_0, s44_1_o22, s44_1_o24, s44_1_o26, s44_1_o28, s44_1_o71, s44_1_o74, s44_4, s44_7, s44_8_o22, s44_8_o24, s44_8_o26, s44_8_o28, s44_8_o71, s44_8_o74, s44_11, s44_12_o22, s44_12_o24, s44_12_o26, s44_12_o28, s44_12_o71, s44_12_o74, s44_15_o23, s44_15_o25, s44_15_o27, s44_15_o29, s44_15_o72, s44_15_o75, s44_16, s44_19, s44_20, s44_21, s44_22_o22, s44_22_o24, s44_22_o26, s44_22_o28, s44_22_o71, s44_22_o74, s44_25, s44_26_o22, s44_26_o24, s44_26_o26, s44_26_o28, s44_26_o71, s44_26_o74, s44_29, s44_30_o23, s44_30_o25, s44_30_o27, s44_30_o29, s44_30_o72, s44_30_o75, s44_31, s44_32, s44_33_o22, s44_33_o24, s44_33_o26, s44_33_o28, s44_33_o71, s44_33_o74, s44_36, s44_37, s44_38_o22, s44_38_o24, s44_38_o26, s44_38_o28, s44_38_o71, s44_38_o74, s44_41, s44_42, h, e0, e1, vp_nI hn, cl_nI n31, up2_rep, rep_at, nI_1, isB_1, simprocAttr, if_true, if_false, true_and, and_true, false_and, and_false, not_false_eq_true, not_true_eq_false, gd_T, kont_i, kont_v]
theorem r26_full (d : Nat) (v : Int32) (σ : Hs) (h : σ 26 1 = nI 12) : callD (d + 1) 44 [.ref 26, .int v] σ = some (some (.int 0), σ) := by
  have e0 : (nI 12 < 0) = False := eq_false (nI_pos (by omega))
  have e1 : (nI 12 < 12) = False := eq_false (fun q => Int32.lt_irrefl q)
  simp only [c44, s44_0, s44_1_o22, s44_1_o24, s44_1_o26, s44_1_o28, s44_1_o71, s44_1_o74, s44_4, s44_7, s44_8_o22, s44_8_o24, s44_8_o26, s44_8_o28, s44_8_o71, s44_8_o74, s44_11, s44_12_o22, s44_12_o24, s44_12_o26, s44_12_o28, s44_12_o71, s44_12_o74, s44_15_o23, s44_15_o25, s44_15_o27, s44_15_o29, s44_15_o72, s44_15_o75, s44_16, s44_19, s44_20, s44_21, s44_22_o22, s44_22_o24, s44_22_o26, s44_22_o28, s44_22_o71, s44_22_o74, s44_25, s44_26_o22, s44_26_o24, s44_26_o26, s44_26_o28, s44_26_o71, s44_26_o74, s44_29, s44_30_o23, s44_30_o25, s44_30_o27, s44_30_o29, s44_30_o72, s44_30_o75, s44_31, s44_32, s44_33_o22, s44_33_o24, s44_33_o26, s44_33_o28, s44_33_o71, s44_33_o74, s44_36, s44_37, s44_38_o22, s44_38_o24, s44_38_o26, s44_38_o28, s44_38_o71, s44_38_o74, s44_41, s44_42, h, e0, e1, isB_0, simprocAttr, if_true, if_false, true_and, and_true, false_and, and_false, not_false_eq_true, not_true_eq_false, gd_T, kont_i, kont_v]
theorem RW_add26 {n : Nat} {v : Int32} {σ : Hs} {F : Nat → Int32} (h : RW 26 n σ F) : RW 26 (n + 1) (rep (rep σ 27 (upd (σ 27) n v)) 26 (upd (σ 26) 1 (nI (n + 1)))) (upd F n v) := by
  refine ⟨?_, fun k hk => ?_⟩
  · rw [rep_self, upd_at, if_pos rfl]
  · rw [rep_ne (by omega), rep_self, upd_at, upd_at]
    by_cases c : k = n
    · rw [if_pos c, if_pos c]
    · rw [if_neg c, if_neg c]; exact h.2 k (by omega)
theorem r28_add (d n : Nat) (hn : n < 24) (v : Int32) (σ : Hs) (h : σ 28 1 = nI n) : callD (d + 1) 44 [.ref 28, .int v] σ = some (some (.int 1), rep (rep σ 29 (upd (σ 29) n v)) 28 (upd (σ 28) 1 (nI (n + 1)))) := by
  have n31 : n < 2147483648 := by omega
  have e0 : (nI n < 0) = False := eq_false (nI_pos n31)
  have e1 : (nI n < 24) = True := by rw [show (24 : Int32) = nI 24 from rfl, lt_nn n31 (by omega)]; exact eq_true (by omega)
  simp only [c44, s44_0, s44_1_o22, s44_1_o24, s44_1_o26, s44_1_o28, s44_1_o71, s44_1_o74, s44_4, s44_7, s44_8_o22, s44_8_o24, s44_8_o26, s44_8_o28, s44_8_o71, s44_8_o74, s44_11, s44_12_o22, s44_12_o24, s44_12_o26, s44_12_o28, s44_12_o71, s44_12_o74, s44_15_o23, s44_15_o25, s44_15_o27, s44_15_o29, s44_15_o72, s44_15_o75, s44_16, s44_19, s44_20, s44_21, s44_22_o22, s44_22_o24, s44_22_o26, s44_22_o28, s44_22_o71, s44_22_o74, s44_25, s44_26_o22, s44_26_o24, s44_26_o26, s44_26_o28, s44_26_o71, s44_26_o74, s44_29, s44_30_o23, s44_30_o25, s44_30_o27, s44_30_o29, s44_30_o72, s44_30_o75, s44_31, s44_32, s44_33_o22, s44_33_o24, s44_33_o26, s44_33_o28, s44_33_o71, s44_33_o74, s44_36, s44_37, s44_38_o22, s44_38_o24, s44_38_o26, s44_38_o28, s44_38_o71, s44_38_o74, s44_41, s44_42, h, e0, e1, vp_nI hn, cl_nI n31, up2_rep, rep_at, nI_1, isB_1, simprocAttr, if_true, if_false, true_and, and_true, false_and, and_false, not_false_eq_true, not_true_eq_false, gd_T, kont_i, kont_v]
theorem r28_full (d : Nat) (v : Int32) (σ : Hs) (h : σ 28 1 = nI 24) : callD (d + 1) 44 [.ref 28, .int v] σ = some (some (.int 0), σ) := by
  have e0 : (nI 24 < 0) = False := eq_false (nI_pos (by omega))
  have e1 : (nI 24 < 24) = False := eq_false (fun q => Int32.lt_irrefl q)
  simp only [c44, s44_0, s44_1_o22, s44_1_o24, s44_1_o26, s44_1_o28, s44_1_o71, s44_1_o74, s44_4, s44_7, s44_8_o22, s44_8_o24, s44_8_o26, s44_8_o28, s44_8_o71, s44_8_o74, s44_11, s44_12_o22, s44_12_o24, s44_12_o26, s44_12_o28, s44_12_o71, s44_12_o74, s44_15_o23, s44_15_o25, s44_15_o27, s44_15_o29, s44_15_o72, s44_15_o75, s44_16, s44_19, s44_20, s44_21, s44_22_o22, s44_22_o24, s44_22_o26, s44_22_o28, s44_22_o71, s44_22_o74, s44_25, s44_26_o22, s44_26_o24, s44_26_o26, s44_26_o28, s44_26_o71, s44_26_o74, s44_29, s44_30_o23, s44_30_o25, s44_30_o27, s44_30_o29, s44_30_o72, s44_30_o75, s44_31, s44_32, s44_33_o22, s44_33_o24, s44_33_o26, s44_33_o28, s44_33_o71, s44_33_o74, s44_36, s44_37, s44_38_o22, s44_38_o24, s44_38_o26, s44_38_o28, s44_38_o71, s44_38_o74, s44_41, s44_42, h, e0, e1, isB_0, simprocAttr, if_true, if_false, true_and, and_true, false_and, and_false, not_false_eq_true, not_true_eq_false, gd_T, kont_i, kont_v]
theorem RW_add28 {n : Nat} {v : Int32} {σ : Hs} {F : Nat → Int32} (h : RW 28 n σ F) : RW 28 (n + 1) (rep (rep σ 29 (upd (σ 29) n v)) 28 (upd (σ 28) 1 (nI (n + 1)))) (upd F n v) := by
  refine ⟨?_, fun k hk => ?_⟩
  · rw [rep_self, upd_at, if_pos rfl]
  · rw [rep_ne (by omega), rep_self, upd_at, upd_at]
    by_cases c : k = n
    · rw [if_pos c, if_pos c]
    · rw [if_neg c, if_neg c]; exact h.2 k (by omega)
theorem r71_add (d n : Nat) (hn : n < 60) (v : Int32) (σ : Hs) (h : σ 71 1 = nI n) : callD (d + 1) 44 [.ref 71, .int v] σ = some (some (.int 1), rep (rep σ 72 (upd (σ 72) n v)) 71 (upd (σ 71) 1 (nI (n + 1)))) := by
  have n31 : n < 2147483648 := by omega
  have e0 : (nI n < 0) = False := eq_false (nI_pos n31)
  have e1 : (nI n < 60) = True := by rw [show (60 : Int32) = nI 60 from rfl, lt_nn n31 (by omega)]; exact eq_true (by omega)
  simp only [c44, s44_0, s44_1_o22, s44_1_o24, s44_1_o26, s44_1_o28, s44_1_o71, s44_1_o74, s44_4, s44_7, s44_8_o22, s44_8_o24, s44_8_o26, s44_8_o28, s44_8_o71, s44_8_o74, s44_11, s44_12_o22, s44_12_o24, s44_12_o26, s44_12_o28, s44_12_o71, s44_12_o74, s44_15_o23, s44_15_o25, s44_15_o27, s44_15_o29, s44_15_o72, s44_15_o75, s44_16, s44_19, s44_20, s44_21, s44_22_o22, s44_22_o24, s44_22_o26, s44_22_o28, s44_22_o71, s44_22_o74, s44_25, s44_26_o22, s44_26_o24, s44_26_o26, s44_26_o28, s44_26_o71, s44_26_o74, s44_29, s44_30_o23, s44_30_o25, s44_30_o27, s44_30_o29, s44_30_o72, s44_30_o75, s44_31, s44_32, s44_33_o22, s44_33_o24, s44_33_o26, s44_33_o28, s44_33_o71, s44_33_o74, s44_36, s44_37, s44_38_o22, s44_38_o24, s44_38_o26, s44_38_o28, s44_38_o71, s44_38_o74, s44_41, s44_42, h, e0, e1, vp_nI hn, cl_nI n31, up2_rep, rep_at, nI_1, isB_1, simprocAttr, if_true, if_false, true_and, and_true, false_and, and_false, not_false_eq_true, not_true_eq_false, gd_T, kont_i, kont_v]
theorem r71_full (d : Nat) (v : Int32) (σ : Hs) (h : σ 71 1 = nI 60) : callD (d + 1) 44 [.ref 71, .int v] σ = some (some (.int 0), σ) := by
  have e0 : (nI 60 < 0) = False := eq_false (nI_pos (by omega))
  have e1 : (nI 60 < 60) = False := eq_false (fun q => Int32.lt_irrefl q)
  simp only [c44, s44_0, s44_1_o22, s44_1_o24, s44_1_o26, s44_1_o28, s44_1_o71, s44_1_o74, s44_4, s44_7, s44_8_o22, s44_8_o24, s44_8_o26, s44_8_o28, s44_8_o71, s44_8_o74, s44_11, s44_12_o22, s44_12_o24, s44_12_o26, s44_12_o28, s44_12_o71, s44_12_o74, s44_15_o23, s44_15_o25, s44_15_o27, s44_15_o29, s44_15_o72, s44_15_o75, s44_16, s44_19, s44_20, s44_21, s44_22_o22, s44_22_o24, s44_22_o26, s44_22_o28, s44_22_o71, s44_22_o74, s44_25, s44_26_o22, s44_26_o24, s44_26_o26, s44_26_o28, s44_26_o71, s44_26_o74, s44_29, s44_30_o23, s44_30_o25, s44_30_o27, s44_30_o29, s44_30_o72, s44_30_o75, s44_31, s44_32, s44_33_o22, s44_33_o24, s44_33_o26, s44_33_o28, s44_33_o71, s44_33_o74, s44_36, s44_37, s44_38_o22, s44_38_o24, s44_38_o26, s44_38_o28, s44_38_o71, s44_38_o74, s44_41, s44_42, h, e0, e1, isB_0, simprocAttr, if_true, if_false, true_and, and_true, false_and, and_false, not_false_eq_true, not_true_eq_false, gd_T, kont_i, kont_v]
theorem RW_add71 {n : Nat} {v : Int32} {σ : Hs} {F : Nat → Int32} (h : RW 71 n σ F) : RW 71 (n + 1) (rep (rep σ 72 (upd (σ 72) n v)) 71 (upd (σ 71) 1 (nI (n + 1)))) (upd F n v) := by
  refine ⟨?_, fun k hk => ?_⟩
  · rw [rep_self, upd_at, if_pos rfl]
  · rw [rep_ne (by omega), rep_self, upd_at, upd_at]
    by_cases c : k = n
    · rw [if_pos c, if_pos c]
    · rw [if_neg c, if_neg c]; exact h.2 k (by omega)
theorem r74_add (d n : Nat) (hn : n < 30) (v : Int32) (σ : Hs) (h : σ 74 1 = nI n) : callD (d + 1) 44 [.ref 74, .int v] σ = some (some (.int 1), rep (rep σ 75 (upd (σ 75) n v)) 74 (upd (σ 74) 1 (nI (n + 1)))) := by
  have n31 : n < 2147483648 := by omega
  have e0 : (nI n < 0) = False := eq_false (nI_pos n31)
  have e1 : (nI n < 30) = True := by rw [show (30 : Int32) = nI 30 from rfl, lt_nn n31 (by omega)]; exact eq_true (by omega)
  simp only [c44, s44_0, s44_1_o22, s44_1_o24, s44_1_o26, s44_1_o28, s44_1_o71, s44_1_o74, s44_4, s44_7, s44_8_o22, s44_8_o24, s44_8_o26, s44_8_o28, s44_8_o71, s44_8_o74, s44_11, s44_12_o22, s44_12_o24, s44_12_o26, s44_12_o28, s44_12_o71, s44_12_o74, s44_15_o23, s44_15_o25, s44_15_o27, s44_15_o29, s44_15_o72, s44_15_o75, s44_16, s44_19, s44_20, s44_21, s44_22_o22, s44_22_o24, s44_22_o26, s44_22_o28, s44_22_o71, s44_22_o74, s44_25, s44_26_o22, s44_26_o24, s44_26_o26, s44_26_o28, s44_26_o71, s44_26_o74, s44_29, s44_30_o23, s44_30_o25, s44_30_o27, s44_30_o29, s44_30_o72, s44_30_o75, s44_31, s44_32, s44_33_o22, s44_33_o24, s44_33_o26, s44_33_o28, s44_33_o71, s44_33_o74, s44_36, s44_37, s44_38_o22, s44_38_o24, s44_38_o26, s44_38_o28, s44_38_o71, s44_38_o74, s44_41, s44_42, h, e0, e1, vp_nI hn, cl_nI n31, up2_rep, rep_at, nI_1, isB_1, simprocAttr, if_true, if_false, true_and, and_true, false_and, and_false, not_false_eq_true, not_true_eq_false, gd_T, kont_i, kont_v]
theorem r74_full (d : Nat) (v : Int32) (σ : Hs) (h : σ 74 1 = nI 30) : callD (d + 1) 44 [.ref 74, .int v] σ = some (some (.int 0), σ) := by
  have e0 : (nI 30 < 0) = False := eq_false (nI_pos (by omega))
  have e1 : (nI 30 < 30) = False := eq_false (fun q => Int32.lt_irrefl q)
  simp only [c44, s44_0, s44_1_o22, s44_1_o24, s44_1_o26, s44_1_o28, s44_1_o71, s44_1_o74, s44_4, s44_7, s44_8_o22, s44_8_o24, s44_8_o26, s44_8_o28, s44_8_o71, s44_8_o74, s44_11, s44_12_o22, s44_12_o24, s44_12_o26, s44_12_o28, s44_12_o71, s44_12_o74, s44_15_o23, s44_15_o25, s44_15_o27, s44_15_o29, s44_15_o72, s44_15_o75, s44_16, s44_19, s44_20, s44_21, s44_22_o22, s44_22_o24, s44_22_o26, s44_22_o28, s44_22_o71, s44_22_o74, s44_25, s44_26_o22, s44_26_o24, s44_26_o26, s44_26_o28, s44_26_o71, s44_26_o74, s44_29, s44_30_o23, s44_30_o25, s44_30_o27, s44_30_o29, s44_30_o72, s44_30_o75, s44_31, s44_32, s44_33_o22, s44_33_o24, s44_33_o26, s44_33_o28, s44_33_o71, s44_33_o74, s44_36, s44_37, s44_38_o22, s44_38_o24, s44_38_o26, s44_38_o28, s44_38_o71, s44_38_o74, s44_41, s44_42, h, e0, e1, isB_0, simprocAttr, if_true, if_false, true_and, and_true, false_and, and_false, not_false_eq_true, not_true_eq_false, gd_T, kont_i, kont_v]
theorem RW_add74 {n : Nat} {v : Int32} {σ : Hs} {F : Nat → Int32} (h : RW 74 n σ F) : RW 74 (n + 1) (rep (rep σ 75 (upd (σ 75) n v)) 74 (upd (σ 74) 1 (nI (n + 1)))) (upd F n v) := by
  refine ⟨?_, fun k hk => ?_⟩
  · rw [rep_self, upd_at, if_pos rfl]
  · rw [rep_ne (by omega), rep_self, upd_at, upd_at]
    by_cases c : k = n
    · rw [if_pos c, if_pos c]
    · rw [if_neg c, if_neg c]; exact h.2 k (by omega)
theorem r16_copy_l_45 (d n : Nat) (hn : n ≤ 60) (σ : Hs) : ∀ m k, k + m = n → ru d 45 18 [.ref 16, .ref 45, .int (nI k)] [] (rep (rep σ 16 (upd (σ 16) 1 (nI n))) 17 (cpT (σ 46) (σ 17) k)) = some (none, rep (rep σ 16 (upd (σ 16) 1 (nI n))) 17 (cpT (σ 46) (σ 17) n)) := by
  intro m
  induction m with
  | zero =>
    intro k hk
    obtain rfl : k = n := by omega
    have k31 : k < 2147483648 := by omega
    simp only [s45_18]
    simp only [s45_19, s45_20_o16, s45_20_o18, s45_20_o20, s45_20_o22, s45_20_o24, s45_20_o26, s45_20_o28, s45_20_o45, s45_20_o47, s45_20_o49, s45_20_o51, s45_20_o53, s45_20_o55, s45_20_o57, s45_23, s45_44, rep_at, upd_at, Int32.le_refl, simprocAttr, if_true, if_false, true_and, and_true, false_and, and_false, not_false_eq_true, not_true_eq_false, gd_T, kont_i, kont_v]
  | succ m ih =>
    intro k hk
    have k31 : k < 2147483648 := by omega
    have kc : k < 60 := by omega
    have hi := ih (k + 1) (by omega)
    simp only [s45_18]
    simp only [s45_19, s45_20_o16, s45_20_o18, s45_20_o20, s45_20_o22, s45_20_o24, s45_20_o26, s45_20_o28, s45_20_o45, s45_20_o47, s45_20_o49, s45_20_o51, s45_20_o53, s45_20_o55, s45_20_o57, s45_23, s45_26, s45_27_o16, s45_27_o18, s45_27_o20, s45_27_o22, s45_27_o24, s45_27_o26, s45_27_o28, s45_27_o45, s45_27_o47, s45_27_o49, s45_27_o51, s45_27_o53, s45_27_o55, s45_27_o57, s45_30, s45_31, s45_32_o16, s45_32_o18, s45_32_o20, s45_32_o22, s45_32_o24, s45_32_o26, s45_32_o28, s45_32_o45, s45_32_o47, s45_32_o49, s45_32_o51, s45_32_o53, s45_32_o55, s45_32_o57, s45_32_o71, s45_35, s45_36_o17, s45_36_o19, s45_36_o21, s45_36_o23, s45_36_o25, s45_36_o27, s45_36_o29, s45_36_o46, s45_36_o48, s45_36_o50, s45_36_o52, s45_36_o54, s45_36_o56, s45_36_o58, s45_36_o72, s45_37_o17, s45_37_o19, s45_37_o21, s45_37_o23, s45_37_o25, s45_37_o27, s45_37_o29, s45_37_o46, s45_37_o48, s45_37_o50, s45_37_o52, s45_37_o54, s45_37_o56, s45_37_o58, s45_38, s45_41, rep_at, upd_at, le_nn (show n < 2147483648 by omega) k31, vp_nI kc, cl_nI k31, up2_rep, rep_rep, cpT_s, nI_1, hi, simprocAttr, if_true, if_false, true_and, and_true, false_and, and_false, not_false_eq_true, not_true_eq_false, gd_T, kont_i, kont_v]
    rw [if_neg (by omega)]
theorem r16_copy_45 (d n : Nat) (hn : n ≤ 60) (σ : Hs) (F : Nat → Int32) (h : RW 45 n σ F) : ∃ σ', callD (d + 1) 45 [.ref 16, .ref 45] σ = some (none, σ') ∧ RW 16 n σ' F ∧ ∀ o, o ≠ 16 → o ≠ 17 → σ' o = σ o := by
  have hl := r16_copy_l_45 d n hn σ n 0 (by omega)
  rw [cpT_0] at hl
  have e : rep (rep σ 16 (upd (σ 16) 1 (nI n))) 17 (σ 17) = rep σ 16 (upd (σ 16) 1 (nI n)) := by
    funext q
    rw [rep_at]
    by_cases c : q = 17
    · rw [if_pos c, c, rep_ne (by omega)]
    · rw [if_neg c]
  rw [e] at hl
  refine ⟨rep (rep σ 16 (upd (σ 16) 1 (nI n))) 17 (cpT (σ 46) (σ 17) n), ?_, ⟨?_, fun k hk => ?_⟩, fun o o1 o2 => (rep_ne o2).trans (rep_ne o1)⟩
  · have e2 : jmin (nI n) 60 = nI n := by
      rw [show (60 : Int32) = nI 60 from rfl, jmin_n (by omega) (by omega), Nat.min_eq_left hn]
    simp only [s45_0, s45_1, s45_2_o16, s45_2_o18, s45_2_o20, s45_2_o22, s45_2_o24, s45_2_o26, s45_2_o28, s45_2_o45, s45_2_o47, s45_2_o49, s45_2_o51, s45_2_o53, s45_2_o55, s45_2_o57, s45_2_o71, s45_5, s45_6_o16, s45_6_o18, s45_6_o20, s45_6_o22, s45_6_o24, s45_6_o26, s45_6_o28, s45_6_o45, s45_6_o47, s45_6_o49, s45_6_o51, s45_6_o53, s45_6_o55, s45_6_o57, s45_9_o17, s45_9_o19, s45_9_o21, s45_9_o23, s45_9_o25, s45_9_o27, s45_9_o29, s45_9_o46, s45_9_o48, s45_9_o50, s45_9_o52, s45_9_o54, s45_9_o56, s45_9_o58, s45_10, s45_13_o16, s45_13_o18, s45_13_o20, s45_13_o22, s45_13_o24, s45_13_o26, s45_13_o28, s45_13_o45, s45_13_o47, s45_13_o49, s45_13_o51, s45_13_o53, s45_13_o55, s45_13_o57, s45_16, s45_17, c45, h.1, e2, up2_rep, simprocAttr, if_true, if_false, true_and, and_true, false_and, and_false, not_false_eq_true, not_true_eq_false, gd_T, kont_i, kont_v]
    exact hl
  · rw [rep_ne (by omega), rep_self, upd_at, if_pos rfl]
  · rw [rep_self]
    unfold cpT
    rw [if_pos hk]
    exact h.2 k hk
theorem r18_copy_l_47 (d n : Nat) (hn : n ≤ 60) (σ : Hs) : ∀ m k, k + m = n → ru d 45 18 [.ref 18, .ref 47, .int (nI k)] [] (rep (rep σ 18 (upd (σ 18) 1 (nI n))) 19 (cpT (σ 48) (σ 19) k)) = some (none, rep (rep σ 18 (upd (σ 18) 1 (nI n))) 19 (cpT (σ 48) (σ 19) n)) := by
  intro m
  induction m with
  | zero =>
    intro k hk
    obtain rfl : k = n := by omega
    have k31 : k < 2147483648 := by omega
    simp only [s45_18]
    simp only [s45_19, s45_20_o16, s45_20_o18, s45_20_o20, s45_20_o22, s45_20_o24, s45_20_o26, s45_20_o28, s45_20_o45, s45_20_o47, s45_20_o49, s45_20_o51, s45_20_o53, s45_20_o55, s45_20_o57, s45_23, s45_44, rep_at, upd_at, Int32.le_refl, simprocAttr, if_true, if_false, true_and, and_true, false_and, and_false, not_false_eq_true, not_true_eq_false, gd_T, kont_i, kont_v]
  | succ m ih =>
    intro k hk
    have k31 : k < 2147483648 := by omega
    have kc : k < 60 := by omega
    have hi := ih (k + 1) (by omega)
    simp only [s45_18]
    simp only [s45_19, s45_20_o16, s45_20_o18, s45_20_o20, s45_20_o22, s45_20_o24, s45_20_o26, s45_20_o28, s45_20_o45, s45_20_o47, s45_20_o49, s45_20_o51, s45_20_o53, s45_20_o55, s45_20_o57, s45_23, s45_26, s45_27_o16, s45_27_o18, s45_27_o20, s45_27_o22, s45_27_o24, s45_27_o26, s45_27_o28, s45_27_o45, s45_27_o47, s45_27_o49, s45_27_o51, s45_27_o53, s45_27_o55, s45_27_o57, s45_30, s45_31, s45_32_o16, s45_32_o18, s45_32_o20, s45_32_o22, s45_32_o24, s45_32_o26, s45_32_o28, s45_32_o45, s45_32_o47, s45_32_o49, s45_32_o51, s45_32_o53, s45_32_o55, s45_32_o57, s45_32_o71, s45_35, s45_36_o17, s45_36_o19, s45_36_o21, s45_36_o23, s45_36_o25, s45_36_o27, s45_36_o29, s45_36_o46, s45_36_o48, s45_36_o50, s45_36_o52, s45_36_o54, s45_36_o56, s45_36_o58, s45_36_o72, s45_37_o17, s45_37_o19, s45_37_o21, s45_37_o23, s45_37_o25, s45_37_o27, s45_37_o29, s45_37_o46, s45_37_o48, s45_37_o50, s45_37_o52, s45_37_o54, s45_37_o56, s45_37_o58, s45_38, s45_41, rep_at, upd_at, le_nn (show n < 2147483648 by omega) k31, vp_nI kc, cl_nI k31, up2_rep, rep_rep, cpT_s, nI_1, hi, simprocAttr, if_true, if_false, true_and, and_true, false_and, and_false, not_false_eq_true, not_true_eq_false, gd_T, kont_i, kont_v]
    rw [if_neg (by omega)]
theorem r18_copy_47 (d n : Nat) (hn : n ≤ 60) (σ : Hs) (F : Nat → Int32) (h : RW 47 n σ F) : ∃ σ', callD (d + 1) 45 [.ref 18, .ref 47] σ = some (none, σ') ∧ RW 18 n σ' F ∧ ∀ o, o ≠ 18 → o ≠ 19 → σ' o = σ o := by
  have hl := r18_copy_l_47 d n hn σ n 0 (by omega)
  rw [cpT_0] at hl
  have e : rep (rep σ 18 (upd (σ 18) 1 (nI n))) 19 (σ 19) = rep σ 18 (upd (σ 18) 1 (nI n)) := by
    funext q
    rw [rep_at]
    by_cases c : q = 19
    · rw [if_pos c, c, rep_ne (by omega)]
    · rw [if_neg c]
  rw [e] at hl
  refine ⟨rep (rep σ 18 (upd (σ 18) 1 (nI n))) 19 (cpT (σ 48) (σ 19) n), ?_, ⟨?_, fun k hk => ?_⟩, fun o o1 o2 => (rep_ne o2).trans (rep_ne o1)⟩
  · have e2 : jmin (nI n) 60 = nI n := by
      rw [show (60 : Int32) = nI 60 from rfl, jmin_n (by omega) (by omega), Nat.min_eq_left hn]
    simp only [s45_0, s45_1, s45_2_o16, s45_2_o18, s45_2_o20, s45_2_o22, s45_2_o24, s45_2_o26, s45_2_o28, s45_2_o45, s45_2_o47, s45_2_o49, s45_2_o51, s45_2_o53, s45_2_o55, s45_2_o57, s45_2_o71, s45_5, s45_6_o16, s45_6_o18, s45_6_o20, s45_6_o22, s45_6_o24, s45_6_o26, s45_6_o28, s45_6_o45, s45_6_o47, s45_6_o49, s45_6_o51, s45_6_o53, s45_6_o55, s45_6_o57, s45_9_o17, s45_9_o19, s45_9_o21, s45_9_o23, s45_9_o25, s45_9_o27, s45_9_o29, s45_9_o46, s45_9_o48, s45_9_o50, s45_9_o52, s45_9_o54, s45_9_o56, s45_9_o58, s45_10, s45_13_o16, s45_13_o18, s45_13_o20, s45_13_o22, s45_13_o24, s45_13_o26, s45_13_o28, s45_13_o45, s45_13_o47, s45_13_o49, s45_13_o51, s45_13_o53, s45_13_o55, s45_13_o57, s45_16, s45_17, c45, h.1, e2, up2_rep, simprocAttr, if_true, if_false, true_and, and_true, false_and, and_false, not_false_eq_true, not_true_eq_false, gd_T, kont_i, kont_v]
    exact hl
  · rw [rep_ne (by omega), rep_self, upd_at, if_pos rfl]
  · rw [rep_self]
    unfold cpT
    rw [if_pos hk]
    exact h.2 k hk
theorem r20_copy_l_49 (d n : Nat) (hn : n ≤ 60) (σ : Hs) : ∀ m k, k + m = n → ru d 45 18 [.ref 20, .ref 49, .int (nI k)] [] (rep (rep σ 20 (upd (σ 20) 1 (nI n))) 21 (cpT (σ 50) (σ 21) k)) = some (none, rep (rep σ 20 (upd (σ 20) 1 (nI n))) 21 (cpT (σ 50) (σ 21) n)) := by
  intro m
  induction m with
  | zero =>
    intro k hk
    obtain rfl : k = n := by omega
    have k31 : k < 2147483648 := by omega
    simp only [s45_18]
    simp only [s45_19, s45_20_o16, s45_20_o18, s45_20_o20, s45_20_o22, s45_20_o24, s45_20_o26, s45_20_o28, s45_20_o45, s45_20_o47, s45_20_o49, s45_20_o51, s45_20_o53, s45_20_o55, s45_20_o57, s45_23, s45_44, rep_at, upd_at, Int32.le_refl, simprocAttr, if_true, if_false, true_and, and_true, false_and, and_false, not_false_eq_true, not_true_eq_false, gd_T, kont_i, kont_v]
  | succ m ih =>
    intro k hk
    have k31 : k < 2147483648 := by omega
    have kc : k < 60 := by omega
    have hi := ih (k + 1) (by omega)
    simp only [s45_18]
    simp only [s45_19, s45_20_o16, s45_20_o18, s45_20_o20, s45_20_o22, s45_20_o24, s45_20_o26, s45_20_o28, s45_20_o45, s45_20_o47, s45_20_o49, s45_20_o51, s45_20_o53, s45_20_o55, s45_20_o57, s45_23, s45_26, s45_27_o16, s45_27_o18, s45_27_o20, s45_27_o22, s45_27_o24, s45_27_o26, s45_27_o28, s45_27_o45, s45_27_o47, s45_27_o49, s45_27_o51, s45_27_o53, s45_27_o55, s45_27_o57, s45_30, s45_31, s45_32_o16, s45_32_o18, s45_32_o20, s45_32_o22, s45_32_o24, s45_32_o26, s45_32_o28, s45_32_o45, s45_32_o47, s45_32_o49, s45_32_o51, s45_32_o53, s45_32_o55, s45_32_o57, s45_32_o71, s45_35, s45_36_o17, s45_36_o19, s45_36_o21, s45_36_o23, s45_36_o25, s45_36_o27, s45_36_o29, s45_36_o46, s45_36_o48, s45_36_o50, s45_36_o52, s45_36_o54, s45_36_o56, s45_36_o58, s45_36_o72, s45_37_o17, s45_37_o19, s45_37_o21, s45_37_o23, s45_37_o25, s45_37_o27, s45_37_o29, s45_37_o46, s45_37_o48, s45_37_o50, s45_37_o52, s45_37_o54, s45_37_o56, s45_37_o58, s45_38, s45_41, rep_at, upd_at, le_nn (show n < 2147483648 by omega) k31, vp_nI kc, cl_nI k31, up2_rep, rep_rep, cpT_s, nI_1, hi, simprocAttr, if_true, if_false, true_and, and_true, false_and, and_false, not_false_eq_true, not_true_eq_false, gd_T, kont_i, kont_v]
    rw [if_neg (by omega)]
theorem r20_copy_49 (d n : Nat) (hn : n ≤ 60) (σ : Hs) (F : Nat → Int32) (h : RW 49 n σ F) : ∃ σ', callD (d + 1) 45 [.ref 20, .ref 49] σ = some (none, σ') ∧ RW 20 n σ' F ∧ ∀ o, o ≠ 20 → o ≠ 21 → σ' o = σ o := by
  have hl := r20_copy_l_49 d n hn σ n 0 (by omega)
  rw [cpT_0] at hl
  have e : rep (rep σ 20 (upd (σ 20) 1 (nI n))) 21 (σ 21) = rep σ 20 (upd (σ 20) 1 (nI n)) := by
    funext q
    rw [rep_at]
    by_cases c : q = 21
    · rw [if_pos c, c, rep_ne (by omega)]
    · rw [if_neg c]
  rw [e] at hl
  refine ⟨rep (rep σ 20 (upd (σ 20) 1 (nI n))) 21 (cpT (σ 50) (σ 21) n), ?_, ⟨?_, fun k hk => ?_⟩, fun o o1 o2 => (rep_ne o2).trans (rep_ne o1)⟩
  · have e2 : jmin (nI n) 60 = nI n := by
      rw [show (60 : Int32) = nI 60 from rfl, jmin_n (by omega) (by omega), Nat.min_eq_left hn]
    simp only [s45_0, s45_1, s45_2_o16, s45_2_o18, s45_2_o20, s45_2_o22, s45_2_o24, s45_2_o26, s45_2_o28, s45_2_o45, s45_2_o47, s45_2_o49, s45_2_o51, s45_2_o53, s45_2_o55, s45_2_o57, s45_2_o71, s45_5, s45_6_o16, s45_6_o18, s45_6_o20, s45_6_o22, s45_6_o24, s45_6_o26, s45_6_o28, s45_6_o45, s45_6_o47, s45_6_o49, s45_6_o51, s45_6_o53, s45_6_o55, s45_6_o57, s45_9_o17, s45_9_o19, s45_9_o21, s45_9_o23, s45_9_o25, s45_9_o27, s45_9_o29, s45_9_o46, s45_9_o48, s45_9_o50, s45_9_o52, s45_9_o54, s45_9_o56, s45_9_o58, s45_10, s45_13_o16, s45_13_o18, s45_13_o20, s45_13_o22, s45_13_o24, s45_13_o26, s45_13_o28, s45_13_o45, s45_13_o47, s45_13_o49, s45_13_o51, s45_13_o53, s45_13_o55, s45_13_o57, s45_16, s45_17, c45, h.1, e2, up2_rep, simprocAttr, if_true, if_false, true_and, and_true, false_and, and_false, not_false_eq_true, not_true_eq_false, gd_T, kont_i, kont_v]
    exact hl
  · rw [rep_ne (by omega), rep_self, upd_at, if_pos rfl]
  · rw [rep_self]
    unfold cpT
    rw [if_pos hk]
    exact h.2 k hk
theorem r45_copy_l_16 (d n : Nat) (hn : n ≤ 60) (σ : Hs) : ∀ m k, k + m = n → ru d 45 18 [.ref 45, .ref 16, .int (nI k)] [] (rep (rep σ 45 (upd (σ 45) 1 (nI n))) 46 (cpT (σ 17) (σ 46) k)) = some (none, rep (rep σ 45 (upd (σ 45) 1 (nI n))) 46 (cpT (σ 17) (σ 46) n)) := by
  intro m
  induction m with
  | zero =>
    intro k hk
    obtain rfl : k = n := by omega
    have k31 : k < 2147483648 := by omega
    simp only [s45_18]
    simp only [s45_19, s45_20_o16, s45_20_o18, s45_20_o20, s45_20_o22, s45_20_o24, s45_20_o26, s45_20_o28, s45_20_o45, s45_20_o47, s45_20_o49, s45_20_o51, s45_20_o53, s45_20_o55, s45_20_o57, s45_23, s45_44, rep_at, upd_at, Int32.le_refl, simprocAttr, if_true, if_false, true_and, and_true, false_and, and_false, not_false_eq_true, not_true_eq_false, gd_T, kont_i, kont_v]
  | succ m ih =>
    intro k hk
    have k31 : k < 2147483648 := by omega
    have kc : k < 60 := by omega
    have hi := ih (k + 1) (by omega)
    simp only [s45_18]
    simp only [s45_19, s45_20_o16, s45_20_o18, s45_20_o20, s45_20_o22, s45_20_o24, s45_20_o26, s45_20_o28, s45_20_o45, s45_20_o47, s45_20_o49, s45_20_o51, s45_20_o53, s45_20_o55, s45_20_o57, s45_23, s45_26, s45_27_o16, s45_27_o18, s45_27_o20, s45_27_o22, s45_27_o24, s45_27_o26, s45_27_o28, s45_27_o45, s45_27_o47, s45_27_o49, s45_27_o51, s45_27_o53, s45_27_o55, s45_27_o57, s45_30, s45_31, s45_32_o16, s45_32_o18, s45_32_o20, s45_32_o22, s45_32_o24, s45_32_o26, s45_32_o28, s45_32_o45, s45_32_o47, s45_32_o49, s45_32_o51, s45_32_o53, s45_32_o55, s45_32_o57, s45_32_o71, s45_35, s45_36_o17, s45_36_o19, s45_36_o21, s45_36_o23, s45_36_o25, s45_36_o27, s45_36_o29, s45_36_o46, s45_36_o48, s45_36_o50, s45_36_o52, s45_36_o54, s45_36_o56, s45_36_o58, s45_36_o72, s45_37_o17, s45_37_o19, s45_37_o21, s45_37_o23, s45_37_o25, s45_37_o27, s45_37_o29, s45_37_o46, s45_37_o48, s45_37_o50, s45_37_o52, s45_37_o54, s45_37_o56, s45_37_o58, s45_38, s45_41, rep_at, upd_at, le_nn (show n < 2147483648 by omega) k31, vp_nI kc, cl_nI k31, up2_rep, rep_rep, cpT_s, nI_1, hi, simprocAttr, if_true, if_false, true_and, and_true, false_and, and_false, not_false_eq_true, not_true_eq_false, gd_T, kont_i, kont_v]
    rw [if_neg (by omega)]
theorem r45_copy_16 (d n : Nat) (hn : n ≤ 60) (σ : Hs) (F : Nat → Int32) (h : RW 16 n σ F) : ∃ σ', callD (d + 1) 45 [.ref 45, .ref 16] σ = some (none, σ') ∧ RW 45 n σ' F ∧ ∀ o, o ≠ 45 → o ≠ 46 → σ' o = σ o := by
  have hl := r45_copy_l_16 d n hn σ n 0 (by omega)
  rw [cpT_0] at hl
  have e : rep (rep σ 45 (upd (σ 45) 1 (nI n))) 46 (σ 46) = rep σ 45 (upd (σ 45) 1 (nI n)) := by
    funext q
    rw [rep_at]
    by_cases c : q = 46
    · rw [if_pos c, c, rep_ne (by omega)]
    · rw [if_neg c]
  rw [e] at hl
  refine ⟨rep (rep σ 45 (upd (σ 45) 1 (nI n))) 46 (cpT (σ 17) (σ 46) n), ?_, ⟨?_, fun k hk => ?_⟩, fun o o1 o2 => (rep_ne o2).trans (rep_ne o1)⟩
  · have e2 : jmin (nI n) 60 = nI n := by
      rw [show (60 : Int32) = nI 60 from rfl, jmin_n (by omega) (by omega), Nat.min_eq_left hn]
    simp only [s45_0, s45_1, s45_2_o16, s45_2_o18, s45_2_o20, s45_2_o22, s45_2_o24, s45_2_o26, s45_2_o28, s45_2_o45, s45_2_o47, s45_2_o49, s45_2_o51, s45_2_o53, s45_2_o55, s45_2_o57, s45_2_o71, s45_5, s45_6_o16, s45_6_o18, s45_6_o20, s45_6_o22, s45_6_o24, s45_6_o26, s45_6_o28, s45_6_o45, s45_6_o47, s45_6_o49, s45_6_o51, s45_6_o53, s45_6_o55, s45_6_o57, s45_9_o17, s45_9_o19, s45_9_o21, s45_9_o23, s45_9_o25, s45_9_o27, s45_9_o29, s45_9_o46, s45_9_o48, s45_9_o50, s45_9_o52, s45_9_o54, s45_9_o56, s45_9_o58, s45_10, s45_13_o16, s45_13_o18, s45_13_o20, s45_13_o22, s45_13_o24, s45_13_o26, s45_13_o28, s45_13_o45, s45_13_o47, s45_13_o49, s45_13_o51, s45_13_o53, s45_13_o55, s45_13_o57, s45_16, s45_17, c45, h.1, e2, up2_rep, simprocAttr, if_true, if_false, true_and, and_true, false_and, and_false, not_false_eq_true, not_true_eq_false, gd_T, kont_i, kont_v]
    exact hl
  · rw [rep_ne (by omega), rep_self, upd_at, if_pos rfl]
  · rw [rep_self]
    unfold cpT
    rw [if_pos hk]
    exact h.2 k hk
theorem r47_copy_l_18 (d n : Nat) (hn : n ≤ 60) (σ : Hs) : ∀ m k, k + m = n → ru d 45 18 [.ref 47, .ref 18, .int (nI k)] [] (rep (rep σ 47 (upd (σ 47) 1 (nI n))) 48 (cpT (σ 19) (σ 48) k)) = some (none, rep (rep σ 47 (upd (σ 47) 1 (nI n))) 48 (cpT (σ 19) (σ 48) n)) := by
  intro m
  induction m with
  | zero =>
    intro k hk
    obtain rfl : k = n := by omega
    have k31 : k < 2147483648 := by omega
    simp only [s45_18]
    simp only [s45_19, s45_20_o16, s45_20_o18, s45_20_o20, s45_20_o22, s45_20_o24, s45_20_o26, s45_20_o28, s45_20_o45, s45_20_o47, s45_20_o49, s45_20_o51, s45_20_o53, s45_20_o55, s45_20_o57, s45_23, s45_44, rep_at, upd_at, Int32.le_refl, simprocAttr, if_true, if_false, true_and, and_true, false_and, and_false, not_false_eq_true, not_true_eq_false, gd_T, kont_i, kont_v]
  | succ m ih =>
    intro k hk
    have k31 : k < 2147483648 := by omega
    have kc : k < 60 := by omega
    have hi := ih (k + 1) (by omega)
    simp only [s45_18]
    simp only [s45_19, s45_20_o16, s45_20_o18, s45_20_o20, s45_20_o22, s45_20_o24, s45_20_o26, s45_20_o28, s45_20_o45, s45_20_o47, s45_20_o49, s45_20_o51, s45_20_o53, s45_20_o55, s45_20_o57, s45_23, s45_26, s45_27_o16, s45_27_o18, s45_27_o20, s45_27_o22, s45_27_o24, s45_27_o26, s45_27_o28, s45_27_o45, s45_27_o47, s45_27_o49, s45_27_o51, s45_27_o53, s45_27_o55, s45_27_o57, s45_30, s45_31, s45_32_o16, s45_32_o18, s45_32_o20, s45_32_o22, s45_32_o24, s45_32_o26, s45_32_o28, s45_32_o45, s45_32_o47, s45_32_o49, s45_32_o51, s45_32_o53, s45_32_o55, s45_32_o57, s45_32_o71, s45_35, s45_36_o17, s45_36_o19, s45_36_o21, s45_36_o23, s45_36_o25, s45_36_o27, s45_36_o29, s45_36_o46, s45_36_o48, s45_36_o50, s45_36_o52, s45_36_o54, s45_36_o56, s45_36_o58, s45_36_o72, s45_37_o17, s45_37_o19, s45_37_o21, s45_37_o23, s45_37_o25, s45_37_o27, s45_37_o29, s45_37_o46, s45_37_o48, s45_37_o50, s45_37_o52, s45_37_o54, s45_37_o56, s45_37_o58, s45_38, s45_41, rep_at, upd_at, le_nn (show n < 2147483648 by omega) k31, vp_nI kc, cl_nI k31, up2_rep, rep_rep, cpT_s, nI_1, hi, simprocAttr, if_true, if_false, true_and, and_true, false_and, and_false, not_false_eq_true, not_true_eq_false, gd_T, kont_i, kont_v]
    rw [if_neg (by omega)]
theorem r47_copy_18 (d n : Nat) (hn : n ≤ 60) (σ : Hs) (F : Nat → Int32) (h : RW 18 n σ F) : ∃ σ', callD (d + 1) 45 [.ref 47, .ref 18] σ = some (none, σ') ∧ RW 47 n σ' F ∧ ∀ o, o ≠ 47 → o ≠ 48 → σ' o = σ o := by
  have hl := r47_copy_l_18 d n hn σ n 0 (by omega)
  rw [cpT_0] at hl
  have e : rep (rep σ 47 (upd (σ 47) 1 (nI n))) 48 (σ 48) = rep σ 47 (upd (σ 47) 1 (nI n)) := by
    funext q
    rw [rep_at]
    by_cases c : q = 48
    · rw [if_pos c, c, rep_ne (by omega)]
    · rw [if_neg c]
  rw [e] at hl
  refine ⟨rep (rep σ 47 (upd (σ 47) 1 (nI n))) 48 (cpT (σ 19) (σ 48) n), ?_, ⟨?_, fun k hk => ?_⟩, fun o o1 o2 => (rep_ne o2).trans (rep_ne o1)⟩
  · have e2 : jmin (nI n) 60 = nI n := by
      rw [show (60 : Int32) = nI 60 from rfl, jmin_n (by omega) (by omega), Nat.min_eq_left hn]
    simp only [s45_0, s45_1, s45_2_o16, s45_2_o18, s45_2_o20, s45_2_o22, s45_2_o24, s45_2_o26, s45_2_o28, s45_2_o45, s45_2_o47, s45_2_o49, s45_2_o51, s45_2_o53, s45_2_o55, s45_2_o57, s45_2_o71, s45_5, s45_6_o16, s45_6_o18, s45_6_o20, s45_6_o22, s45_6_o24, s45_6_o26, s45_6_o28, s45_6_o45, s45_6_o47, s45_6_o49, s45_6_o51, s45_6_o53, s45_6_o55, s45_6_o57, s45_9_o17, s45_9_o19, s45_9_o21, s45_9_o23, s45_9_o25, s45_9_o27, s45_9_o29, s45_9_o46, s45_9_o48, s45_9_o50, s45_9_o52, s45_9_o54, s45_9_o56, s45_9_o58, s45_10, s45_13_o16, s45_13_o18, s45_13_o20, s45_13_o22, s45_13_o24, s45_13_o26, s45_13_o28, s45_13_o45, s45_13_o47, s45_13_o49, s45_13_o51, s45_13_o53, s45_13_o55, s45_13_o57, s45_16, s45_17, c45, h.1, e2, up2_rep, simprocAttr, if_true, if_false, true_and, and_true, false_and, and_false, not_false_eq_true, not_true_eq_false, gd_T, kont_i, kont_v]
    exact hl
  · rw [rep_ne (by omega), rep_self, upd_at, if_pos rfl]
  · rw [rep_self]
    unfold cpT
    rw [if_pos hk]
    exact h.2 k hk
theorem r49_copy_l_20 (d n : Nat) (hn : n ≤ 60) (σ : Hs) : ∀ m k, k + m = n → ru d 45 18 [.ref 49, .ref 20, .int (nI k)] [] (rep (rep σ 49 (upd (σ 49) 1 (nI n))) 50 (cpT (σ 21) (σ 50) k)) = some (none, rep (rep σ 49 (upd (σ 49) 1 (nI n))) 50 (cpT (σ 21) (σ 50) n)) := by
  intro m
  induction m with
  | zero =>
    intro k hk
    obtain rfl : k = n := by omega
    have k31 : k < 2147483648 := by omega
    simp only [s45_18]
    simp only [s45_19, s45_20_o16, s45_20_o18, s45_20_o20, s45_20_o22, s45_20_o24, s45_20_o26, s45_20_o28, s45_20_o45, s45_20_o47, s45_20_o49, s45_20_o51, s45_20_o53, s45_20_o55, s45_20_o57, s45_23, s45_44, rep_at, upd_at, Int32.le_refl, simprocAttr, if_true, if_false, true_and, and_true, false_and, and_false, not_false_eq_true, not_true_eq_false, gd_T, kont_i, kont_v]
  | succ m ih =>
    intro k hk
    have k31 : k < 2147483648 := by omega
    have kc : k < 60 := by omega
    have hi := ih (k + 1) (by omega)
    simp only [s45_18]
    simp only [s45_19, s45_20_o16, s45_20_o18, s45_20_o20, s45_20_o22, s45_20_o24, s45_20_o26, s45_20_o28, s45_20_o45, s45_20_o47, s45_20_o49, s45_20_o51, s45_20_o53, s45_20_o55, s45_20_o57, s45_23, s45_26, s45_27_o16, s45_27_o18, s45_27_o20, s45_27_o22, s45_27_o24, s45_27_o26, s45_27_o28, s45_27_o45, s45_27_o47, s45_27_o49, s45_27_o51, s45_27_o53, s45_27_o55, s45_27_o57, s45_30, s45_31, s45_32_o16, s45_32_o18, s45_32_o20, s45_32_o22, s45_32_o24, s45_32_o26, s45_32_o28, s45_32_o45, s45_32_o47, s45_32_o49, s45_32_o51, s45_32_o53, s45_32_o55, s45_32_o57, s45_32_o71, s45_35, s45_36_o17, s45_36_o19, s45_36_o21, s45_36_o23, s45_36_o25, s45_36_o27, s45_36_o29, s45_36_o46, s45_36_o48, s45_36_o50, s45_36_o52, s45_36_o54, s45_36_o56, s45_36_o58, s45_36_o72, s45_37_o17, s45_37_o19, s45_37_o21, s45_37_o23, s45_37_o25, s45_37_o27, s45_37_o29, s45_37_o46, s45_37_o48, s45_37_o50, s45_37_o52, s45_37_o54, s45_37_o56, s45_37_o58, s45_38, s45_41, rep_at, upd_at, le_nn (show n < 2147483648 by omega) k31, vp_nI kc, cl_nI k31, up2_rep, rep_rep, cpT_s, nI_1, hi, simprocAttr, if_true, if_false, true_and, and_true, false_and, and_false, not_false_eq_true, not_true_eq_false, gd_T, kont_i, kont_v]
    rw [if_neg (by omega)]
theorem r49_copy_20 (d n : Nat) (hn : n ≤ 60) (σ : Hs) (F : Nat → Int32) (h : RW 20 n σ F) : ∃ σ', callD (d + 1) 45 [.ref 49, .ref 20] σ = some (none, σ') ∧ RW 49 n σ' F ∧ ∀ o, o ≠ 49 → o ≠ 50 → σ' o = σ o := by
  have hl := r49_copy_l_20 d n hn σ n 0 (by omega)
  rw [cpT_0] at hl
  have e : rep (rep σ 49 (upd (σ 49) 1 (nI n))) 50 (σ 50) = rep σ 49 (upd (σ 49) 1 (nI n)) := by
    funext q
    rw [rep_at]
    by_cases c : q = 50
    · rw [if_pos c, c, rep_ne (by omega)]
    · rw [if_neg c]
  rw [e] at hl
  refine ⟨rep (rep σ 49 (upd (σ 49) 1 (nI n))) 50 (cpT (σ 21) (σ 50) n), ?_, ⟨?_, fun k hk => ?_⟩, fun o o1 o2 => (rep_ne o2).trans (rep_ne o1)⟩
  · have e2 : jmin (nI n) 60 = nI n := by
      rw [show (60 : Int32) = nI 60 from rfl, jmin_n (by omega) (by omega), Nat.min_eq_left hn]
    simp only [s45_0, s45_1, s45_2_o16, s45_2_o18, s45_2_o20, s45_2_o22, s45_2_o24, s45_2_o26, s45_2_o28, s45_2_o45, s45_2_o47, s45_2_o49, s45_2_o51, s45_2_o53, s45_2_o55, s45_2_o57, s45_2_o71, s45_5, s45_6_o16, s45_6_o18, s45_6_o20, s45_6_o22, s45_6_o24, s45_6_o26, s45_6_o28, s45_6_o45, s45_6_o47, s45_6_o49, s45_6_o51, s45_6_o53, s45_6_o55, s45_6_o57, s45_9_o17, s45_9_o19, s45_9_o21, s45_9_o23, s45_9_o25, s45_9_o27, s45_9_o29, s45_9_o46, s45_9_o48, s45_9_o50, s45_9_o52, s45_9_o54, s45_9_o56, s45_9_o58, s45_10, s45_13_o16, s45_13_o18, s45_13_o20, s45_13_o22, s45_13_o24, s45_13_o26, s45_13_o28, s45_13_o45, s45_13_o47, s45_13_o49, s45_13_o51, s45_13_o53, s45_13_o55, s45_13_o57, s45_16, s45_17, c45, h.1, e2, up2_rep, simprocAttr, if_true, if_false, true_and, and_true, false_and, and_false, not_false_eq_true, not_true_eq_false, gd_T, kont_i, kont_v]
    exact hl
  · rw [rep_ne (by omega), rep_self, upd_at, if_pos rfl]
  · rw [rep_self]
    unfold cpT
    rw [if_pos hk]
    exact h.2 k hk
theorem r16_copy_l_71 (d n : Nat) (hn : n ≤ 60) (σ : Hs) : ∀ m k, k + m = n → ru d 45 18 [.ref 16, .ref 71, .int (nI k)] [] (rep (rep σ 16 (upd (σ 16) 1 (nI n))) 17 (cpT (σ 72) (σ 17) k)) = some (none, rep (rep σ 16 (upd (σ 16) 1 (nI n))) 17 (cpT (σ 72) (σ 17) n)) := by
  intro m
  induction m with
  | zero =>
    intro k hk
    obtain rfl : k = n := by omega
    have k31 : k < 2147483648 := by omega
    simp only [s45_18]
    simp only [s45_19, s45_20_o16, s45_20_o18, s45_20_o20, s45_20_o22, s45_20_o24, s45_20_o26, s45_20_o28, s45_20_o45, s45_20_o47, s45_20_o49, s45_20_o51, s45_20_o53, s45_20_o55, s45_20_o57, s45_23, s45_44, rep_at, upd_at, Int32.le_refl, simprocAttr, if_true, if_false, true_and, and_true, false_and, and_false, not_false_eq_true, not_true_eq_false, gd_T, kont_i, kont_v]
  | succ m ih =>
    intro k hk
    have k31 : k < 2147483648 := by omega
    have kc : k < 60 := by omega
    have hi := ih (k + 1) (by omega)
    simp only [s45_18]
    simp only [s45_19, s45_20_o16, s45_20_o18, s45_20_o20, s45_20_o22, s45_20_o24, s45_20_o26, s45_20_o28, s45_20_o45, s45_20_o47, s45_20_o49, s45_20_o51, s45_20_o53, s45_20_o55, s45_20_o57, s45_23, s45_26, s45_27_o16, s45_27_o18, s45_27_o20, s45_27_o22, s45_27_o24, s45_27_o26, s45_27_o28, s45_27_o45, s45_27_o47, s45_27_o49, s45_27_o51, s45_27_o53, s45_27_o55, s45_27_o57, s45_30, s45_31, s45_32_o16, s45_32_o18, s45_32_o20, s45_32_o22, s45_32_o24, s45_32_o26, s45_32_o28, s45_32_o45, s45_32_o47, s45_32_o49, s45_32_o51, s45_32_o53, s45_32_o55, s45_32_o57, s45_32_o71, s45_35, s45_36_o17, s45_36_o19, s45_36_o21, s45_36_o23, s45_36_o25, s45_36_o27, s45_36_o29, s45_36_o46, s45_36_o48, s45_36_o50, s45_36_o52, s45_36_o54, s45_36_o56, s45_36_o58, s45_36_o72, s45_37_o17, s45_37_o19, s45_37_o21, s45_37_o23, s45_37_o25, s45_37_o27, s45_37_o29, s45_37_o46, s45_37_o48, s45_37_o50, s45_37_o52, s45_37_o54, s45_37_o56, s45_37_o58, s45_38, s45_41, rep_at, upd_at, le_nn (show n < 2147483648 by omega) k31, vp_nI kc, cl_nI k31, up2_rep, rep_rep, cpT_s, nI_1, hi, simprocAttr, if_true, if_false, true_and, and_true, false_and, and_false, not_false_eq_true, not_true_eq_false, gd_T, kont_i, kont_v]
    rw [if_neg (by omega)]
theorem r16_copy_71 (d n : Nat) (hn : n ≤ 60) (σ : Hs) (F : Nat → Int32) (h : RW 71 n σ F) : ∃ σ', callD (d + 1) 45 [.ref 16, .ref 71] σ = some (none, σ') ∧ RW 16 n σ' F ∧ ∀ o, o ≠ 16 → o ≠ 17 → σ' o = σ o := by
  have hl := r16_copy_l_71 d n hn σ n 0 (by omega)
  rw [cpT_0] at hl
  have e : rep (rep σ 16 (upd (σ 16) 1 (nI n))) 17 (σ 17) = rep σ 16 (upd (σ 16) 1 (nI n)) := by
    funext q
    rw [rep_at]
    by_cases c : q = 17
    · rw [if_pos c, c, rep_ne (by omega)]
    · rw [if_neg c]
  rw [e] at hl
  refine ⟨rep (rep σ 16 (upd (σ 16) 1 (nI n))) 17 (cpT (σ 72) (σ 17) n), ?_, ⟨?_, fun k hk => ?_⟩, fun o o1 o2 => (rep_ne o2).trans (rep_ne o1)⟩
  · have e2 : jmin (nI n) 60 = nI n := by
      rw [show (60 : Int32) = nI 60 from rfl, jmin_n (by omega) (by omega), Nat.min_eq_left hn]
    simp only [s45_0, s45_1, s45_2_o16, s45_2_o18, s45_2_o20, s45_2_o22, s45_2_o24, s45_2_o26, s45_2_o28, s45_2_o45, s45_2_o47, s45_2_o49, s45_2_o51, s45_2_o53, s45_2_o55, s45_2_o57, s45_2_o71, s45_5, s45_6_o16, s45_6_o18, s45_6_o20, s45_6_o22, s45_6_o24, s45_6_o26, s45_6_o28, s45_6_o45, s45_6_o47, s45_6_o49, s45_6_o51, s45_6_o53, s45_6_o55, s45_6_o57, s45_9_o17, s45_9_o19, s45_9_o21, s45_9_o23, s45_9_o25, s45_9_o27, s45_9_o29, s45_9_o46, s45_9_o48, s45_9_o50, s45_9_o52, s45_9_o54, s45_9_o56, s45_9_o58, s45_10, s45_13_o16, s45_13_o18, s45_13_o20, s45_13_o22, s45_13_o24, s45_13_o26, s45_13_o28, s45_13_o45, s45_13_o47, s45_13_o49, s45_13_o51, s45_13_o53, s45_13_o55, s45_13_o57, s45_16, s45_17, c45, h.1, e2, up2_rep, simprocAttr, if_true, if_false, true_and, and_true, false_and, and_false, not_false_eq_true, not_true_eq_false, gd_T, kont_i, kont_v]
    exact hl
  · rw [rep_ne (by omega), rep_self, upd_at, if_pos rfl]
  · rw [rep_self]
    unfold cpT
    rw [if_pos hk]
    exact h.2 k hk
theorem r18_copy_l_71 (d n : Nat) (hn : n ≤ 60) (σ : Hs) : ∀ m k, k + m = n → ru d 45 18 [.ref 18, .ref 71, .int (nI k)] [] (rep (rep σ 18 (upd (σ 18) 1 (nI n))) 19 (cpT (σ 72) (σ 19) k)) = some (none, rep (rep σ 18 (upd (σ 18) 1 (nI n))) 19 (cpT (σ 72) (σ 19) n)) := by
  intro m
  induction m with
  | zero =>
    intro k hk
    obtain rfl : k = n := by omega
    have k31 : k < 2147483648 := by omega
    simp only [s45_18]
    simp only [s45_19, s45_20_o16, s45_20_o18, s45_20_o20, s45_20_o22, s45_20_o24, s45_20_o26, s45_20_o28, s45_20_o45, s45_20_o47, s45_20_o49, s45_20_o51, s45_20_o53, s45_20_o55, s45_20_o57, s45_23, s45_44, rep_at, upd_at, Int32.le_refl, simprocAttr, if_true, if_false, true_and, and_true, false_and, and_false, not_false_eq_true, not_true_eq_false, gd_T, kont_i, kont_v]
  | succ m ih =>
    intro k hk
    have k31 : k < 2147483648 := by omega
    have kc : k < 60 := by omega
    have hi := ih (k + 1) (by omega)
    simp only [s45_18]
    simp only [s45_19, s45_20_o16, s45_20_o18, s45_20_o20, s45_20_o22, s45_20_o24, s45_20_o26, s45_20_o28, s45_20_o45, s45_20_o47, s45_20_o49, s45_20_o51, s45_20_o53, s45_20_o55, s45_20_o57, s45_23, s45_26, s45_27_o16, s45_27_o18, s45_27_o20, s45_27_o22, s45_27_o24, s45_27_o26, s45_27_o28, s45_27_o45, s45_27_o47, s45_27_o49, s45_27_o51, s45_27_o53, s45_27_o55, s45_27_o57, s45_30, s45_31, s45_32_o16, s45_32_o18, s45_32_o20, s45_32_o22, s45_32_o24, s45_32_o26, s45_32_o28, s45_32_o45, s45_32_o47, s45_32_o49, s45_32_o51, s45_32_o53, s45_32_o55, s45_32_o57, s45_32_o71, s45_35, s45_36_o17, s45_36_o19, s45_36_o21, s45_36_o23, s45_36_o25, s45_36_o27, s45_36_o29, s45_36_o46, s45_36_o48, s45_36_o50, s45_36_o52, s45_36_o54, s45_36_o56, s45_36_o58, s45_36_o72, s45_37_o17, s45_37_o19, s45_37_o21, s45_37_o23, s45_37_o25, s45_37_o27, s45_37_o29, s45_37_o46, s45_37_o48, s45_37_o50, s45_37_o52, s45_37_o54, s45_37_o56, s45_37_o58, s45_38, s45_41, rep_at, upd_at, le_nn (show n < 2147483648 by omega) k31, vp_nI kc, cl_nI k31, up2_rep, rep_rep, cpT_s, nI_1, hi, simprocAttr, if_true, if_false, true_and, and_true, false_and, and_false, not_false_eq_true, not_true_eq_false, gd_T, kont_i, kont_v]
    rw [if_neg (by omega)]
theorem r18_copy_71 (d n : Nat) (hn : n ≤ 60) (σ : Hs) (F : Nat → Int32) (h : RW 71 n σ F) : ∃ σ', callD (d + 1) 45 [.ref 18, .ref 71] σ = some (none, σ') ∧ RW 18 n σ' F ∧ ∀ o, o ≠ 18 → o ≠ 19 → σ' o = σ o := by
  have hl := r18_copy_l_71 d n hn σ n 0 (by omega)
  rw [cpT_0] at hl
  have e : rep (rep σ 18 (upd (σ 18) 1 (nI n))) 19 (σ 19) = rep σ 18 (upd (σ 18) 1 (nI n)) := by
    funext q
    rw [rep_at]
    by_cases c : q = 19
    · rw [if_pos c, c, rep_ne (by omega)]
    · rw [if_neg c]
  rw [e] at hl
  refine ⟨rep (rep σ 18 (upd (σ 18) 1 (nI n))) 19 (cpT (σ 72) (σ 19) n), ?_, ⟨?_, fun k hk => ?_⟩, fun o o1 o2 => (rep_ne o2).trans (rep_ne o1)⟩
  · have e2 : jmin (nI n) 60 = nI n := by
      rw [show (60 : Int32) = nI 60 from rfl, jmin_n (by omega) (by omega), Nat.min_eq_left hn]
    simp only [s45_0, s45_1, s45_2_o16, s45_2_o18, s45_2_o20, s45_2_o22, s45_2_o24, s45_2_o26, s45_2_o28, s45_2_o45, s45_2_o47, s45_2_o49, s45_2_o51, s45_2_o53, s45_2_o55, s45_2_o57, s45_2_o71, s45_5, s45_6_o16, s45_6_o18, s45_6_o20, s45_6_o22, s45_6_o24, s45_6_o26, s45_6_o28, s45_6_o45, s45_6_o47, s45_6_o49, s45_6_o51, s45_6_o53, s45_6_o55, s45_6_o57, s45_9_o17, s45_9_o19, s45_9_o21, s45_9_o23, s45_9_o25, s45_9_o27, s45_9_o29, s45_9_o46, s45_9_o48, s45_9_o50, s45_9_o52, s45_9_o54, s45_9_o56, s45_9_o58, s45_10, s45_13_o16, s45_13_o18, s45_13_o20, s45_13_o22, s45_13_o24, s45_13_o26, s45_13_o28, s45_13_o45, s45_13_o47, s45_13_o49, s45_13_o51, s45_13_o53, s45_13_o55, s45_13_o57, s45_16, s45_17, c45, h.1, e2, up2_rep, simprocAttr, if_true, if_false, true_and, and_true, false_and, and_false, not_false_eq_true, not_true_eq_false, gd_T, kont_i, kont_v]
    exact hl
  · rw [rep_ne (by omega), rep_self, upd_at, if_pos rfl]
  · rw [rep_self]
    unfold cpT
    rw [if_pos hk]
    exact h.2 k hk
theorem r20_copy_l_71 (d n : Nat) (hn : n ≤ 60) (σ : Hs) : ∀ m k, k + m = n → ru d 45 18 [.ref 20, .ref 71, .int (nI k)] [] (rep (rep σ 20 (upd (σ 20) 1 (nI n))) 21 (cpT (σ 72) (σ 21) k)) = some (none, rep (rep σ 20 (upd (σ 20) 1 (nI n))) 21 (cpT (σ 72) (σ 21) n)) := by
  intro m
  induction m with
  | zero =>
    intro k hk
    obtain rfl : k = n := by omega
    have k31 : k < 2147483648 := by omega
    simp only [s45_18]
    simp only [s45_19, s45_20_o16, s45_20_o18, s45_20_o20, s45_20_o22, s45_20_o24, s45_20_o26, s45_20_o28, s45_20_o45, s45_20_o47, s45_20_o49, s45_20_o51, s45_20_o53, s45_20_o55, s45_20_o57, s45_23, s45_44, rep_at, upd_at, Int32.le_refl, simprocAttr, if_true, if_false, true_and, and_true, false_and, and_false, not_false_eq_true, not_true_eq_false, gd_T, kont_i, kont_v]
  | succ m ih =>
    intro k hk
    have k31 : k < 2147483648 := by omega
    have kc : k < 60 := by omega
    have hi := ih (k + 1) (by omega)
    simp only [s45_18]
    simp only [s45_19, s45_20_o16, s45_20_o18, s45_20_o20, s45_20_o22, s45_20_o24, s45_20_o26, s45_20_o28, s45_20_o45, s45_20_o47, s45_20_o49, s45_20_o51, s45_20_o53, s45_20_o55, s45_20_o57, s45_23, s45_26, s45_27_o16, s45_27_o18, s45_27_o20, s45_27_o22, s45_27_o24, s45_27_o26, s45_27_o28, s45_27_o45, s45_27_o47, s45_27_o49, s45_27_o51, s45_27_o53, s45_27_o55, s45_27_o57, s45_30, s45_31, s45_32_o16, s45_32_o18, s45_32_o20, s45_32_o22, s45_32_o24, s45_32_o26, s45_32_o28, s45_32_o45, s45_32_o47, s45_32_o49, s45_32_o51, s45_32_o53, s45_32_o55, s45_32_o57, s45_32_o71, s45_35, s45_36_o17, s45_36_o19, s45_36_o21, s45_36_o23, s45_36_o25, s45_36_o27, s45_36_o29, s45_36_o46, s45_36_o48, s45_36_o50, s45_36_o52, s45_36_o54, s45_36_o56, s45_36_o58, s45_36_o72, s45_37_o17, s45_37_o19, s45_37_o21, s45_37_o23, s45_37_o25, s45_37_o27, s45_37_o29, s45_37_o46, s45_37_o48, s45_37_o50, s45_37_o52, s45_37_o54, s45_37_o56, s45_37_o58, s45_38, s45_41, rep_at, upd_at, le_nn (show n < 2147483648 by omega) k31, vp_nI kc, cl_nI k31, up2_rep, rep_rep, cpT_s, nI_1, hi, simprocAttr, if_true, if_false, true_and, and_true, false_and, and_false, not_false_eq_true, not_true_eq_false, gd_T, kont_i, kont_v]
    rw [if_neg (by omega)]
theorem r20_copy_71 (d n : Nat) (hn : n ≤ 60) (σ : Hs) (F : Nat → Int32) (h : RW 71 n σ F) : ∃ σ', callD (d + 1) 45 [.ref 20, .ref 71] σ = some (none, σ') ∧ RW 20 n σ' F ∧ ∀ o, o ≠ 20 → o ≠ 21 → σ' o = σ o := by
  have hl := r20_copy_l_71 d n hn σ n 0 (by omega)
  rw [cpT_0] at hl
  have e : rep (rep σ 20 (upd (σ 20) 1 (nI n))) 21 (σ 21) = rep σ 20 (upd (σ 20) 1 (nI n)) := by
    funext q
    rw [rep_at]
    by_cases c : q = 21
    · rw [if_pos c, c, rep_ne (by omega)]
    · rw [if_neg c]
  rw [e] at hl
  refine ⟨rep (rep σ 20 (upd (σ 20) 1 (nI n))) 21 (cpT (σ 72) (σ 21) n), ?_, ⟨?_, fun k hk => ?_⟩, fun o o1 o2 => (rep_ne o2).trans (rep_ne o1)⟩
  · have e2 : jmin (nI n) 60 = nI n := by
      rw [show (60 : Int32) = nI 60 from rfl, jmin_n (by omega) (by omega), Nat.min_eq_left hn]
    simp only [s45_0, s45_1, s45_2_o16, s45_2_o18, s45_2_o20, s45_2_o22, s45_2_o24, s45_2_o26, s45_2_o28, s45_2_o45, s45_2_o47, s45_2_o49, s45_2_o51, s45_2_o53, s45_2_o55, s45_2_o57, s45_2_o71, s45_5, s45_6_o16, s45_6_o18, s45_6_o20, s45_6_o22, s45_6_o24, s45_6_o26, s45_6_o28, s45_6_o45, s45_6_o47, s45_6_o49, s45_6_o51, s45_6_o53, s45_6_o55, s45_6_o57, s45_9_o17, s45_9_o19, s45_9_o21, s45_9_o23, s45_9_o25, s45_9_o27, s45_9_o29, s45_9_o46, s45_9_o48, s45_9_o50, s45_9_o52, s45_9_o54, s45_9_o56, s45_9_o58, s45_10, s45_13_o16, s45_13_o18, s45_13_o20, s45_13_o22, s45_13_o24, s45_13_o26, s45_13_o28, s45_13_o45, s45_13_o47, s45_13_o49, s45_13_o51, s45_13_o53, s45_13_o55, s45_13_o57, s45_16, s45_17, c45, h.1, e2, up2_rep, simprocAttr, if_true, if_false, true_and, and_true, false_and, and_false, not_false_eq_true, not_true_eq_false, gd_T, kont_i, kont_v]
    exact hl
  · rw [rep_ne (by omega), rep_self, upd_at, if_pos rfl]
  · rw [rep_self]
    unfold cpT
    rw [if_pos hk]
    exact h.2 k hk
theorem r22_copy_l_51 (d n : Nat) (hn : n ≤ 60) (σ : Hs) : ∀ m k, k + m = n → ru d 45 18 [.ref 22, .ref 51, .int (nI k)] [] (rep (rep σ 22 (upd (σ 22) 1 (nI n))) 23 (cpT (σ 52) (σ 23) k)) = some (none, rep (rep σ 22 (upd (σ 22) 1 (nI n))) 23 (cpT (σ 52) (σ 23) n)) := by
  intro m
  induction m with
  | zero =>
    intro k hk
    obtain rfl : k = n := by omega
    have k31 : k < 2147483648 := by omega
    simp only [s45_18]
    simp only [s45_19, s45_20_o16, s45_20_o18, s45_20_o20, s45_20_o22, s45_20_o24, s45_20_o26, s45_20_o28, s45_20_o45, s45_20_o47, s45_20_o49, s45_20_o51, s45_20_o53, s45_20_o55, s45_20_o57, s45_23, s45_44, rep_at, upd_at, Int32.le_refl, simprocAttr, if_true, if_false, true_and, and_true, false_and, and_false, not_false_eq_true, not_true_eq_false, gd_T, kont_i, kont_v]
  | succ m ih =>
    intro k hk
    have k31 : k < 2147483648 := by omega
    have kc : k < 60 := by omega
    have hi := ih (k + 1) (by omega)
    simp only [s45_18]
    simp only [s45_19, s45_20_o16, s45_20_o18, s45_20_o20, s45_20_o22, s45_20_o24, s45_20_o26, s45_20_o28, s45_20_o45, s45_20_o47, s45_20_o49, s45_20_o51, s45_20_o53, s45_20_o55, s45_20_o57, s45_23, s45_26, s45_27_o16, s45_27_o18, s45_27_o20, s45_27_o22, s45_27_o24, s45_27_o26, s45_27_o28, s45_27_o45, s45_27_o47, s45_27_o49, s45_27_o51, s45_27_o53, s45_27_o55, s45_27_o57, s45_30, s45_31, s45_32_o16, s45_32_o18, s45_32_o20, s45_32_o22, s45_32_o24, s45_32_o26, s45_32_o28, s45_32_o45, s45_32_o47, s45_32_o49, s45_32_o51, s45_32_o53, s45_32_o55, s45_32_o57, s45_32_o71, s45_35, s45_36_o17, s45_36_o19, s45_36_o21, s45_36_o23, s45_36_o25, s45_36_o27, s45_36_o29, s45_36_o46, s45_36_o48, s45_36_o50, s45_36_o52, s45_36_o54, s45_36_o56, s45_36_o58, s45_36_o72, s45_37_o17, s45_37_o19, s45_37_o21, s45_37_o23, s45_37_o25, s45_37_o27, s45_37_o29, s45_37_o46, s45_37_o48, s45_37_o50, s45_37_o52, s45_37_o54, s45_37_o56, s45_37_o58, s45_38, s45_41, rep_at, upd_at, le_nn (show n < 2147483648 by omega) k31, vp_nI kc, cl_nI k31, up2_rep, rep_rep, cpT_s, nI_1, hi, simprocAttr, if_true, if_false, true_and, and_true, false_and, and_false, not_false_eq_true, not_true_eq_false, gd_T, kont_i, kont_v]
    rw [if_neg (by omega)]
theorem r22_copy_51 (d n : Nat) (hn : n ≤ 60) (σ : Hs) (F : Nat → Int32) (h : RW 51 n σ F) : ∃ σ', callD (d + 1) 45 [.ref 22, .ref 51] σ = some (none, σ') ∧ RW 22 n σ' F ∧ ∀ o, o ≠ 22 → o ≠ 23 → σ' o = σ o := by
  have hl := r22_copy_l_51 d n hn σ n 0 (by omega)
  rw [cpT_0] at hl
  have e : rep (rep σ 22 (upd (σ 22) 1 (nI n))) 23 (σ 23) = rep σ 22 (upd (σ 22) 1 (nI n)) := by
    funext q
    rw [rep_at]
    by_cases c : q = 23
    · rw [if_pos c, c, rep_ne (by omega)]
    · rw [if_neg c]
  rw [e] at hl
  refine ⟨rep (rep σ 22 (upd (σ 22) 1 (nI n))) 23 (cpT (σ 52) (σ 23) n), ?_, ⟨?_, fun k hk => ?_⟩, fun o o1 o2 => (rep_ne o2).trans (rep_ne o1)⟩
  · have e2 : jmin (nI n) 60 = nI n := by
      rw [show (60 : Int32) = nI 60 from rfl, jmin_n (by omega) (by omega), Nat.min_eq_left hn]
    simp only [s45_0, s45_1, s45_2_o16, s45_2_o18, s45_2_o20, s45_2_o22, s45_2_o24, s45_2_o26, s45_2_o28, s45_2_o45, s45_2_o47, s45_2_o49, s45_2_o51, s45_2_o53, s45_2_o55, s45_2_o57, s45_2_o71, s45_5, s45_6_o16, s45_6_o18, s45_6_o20, s45_6_o22, s45_6_o24, s45_6_o26, s45_6_o28, s45_6_o45, s45_6_o47, s45_6_o49, s45_6_o51, s45_6_o53, s45_6_o55, s45_6_o57, s45_9_o17, s45_9_o19, s45_9_o21, s45_9_o23, s45_9_o25, s45_9_o27, s45_9_o29, s45_9_o46, s45_9_o48, s45_9_o50, s45_9_o52, s45_9_o54, s45_9_o56, s45_9_o58, s45_10, s45_13_o16, s45_13_o18, s45_13_o20, s45_13_o22, s45_13_o24, s45_13_o26, s45_13_o28, s45_13_o45, s45_13_o47, s45_13_o49, s45_13_o51, s45_13_o53, s45_13_o55, s45_13_o57, s45_16, s45_17, c45, h.1, e2, up2_rep, simprocAttr, if_true, if_false, true_and, and_true, false_and, and_false, not_false_eq_true, not_true_eq_false, gd_T, kont_i, kont_v]
    exact hl
  · rw [rep_ne (by omega), rep_self, upd_at, if_pos rfl]
  · rw [rep_self]
    unfold cpT
    rw [if_pos hk]
    exact h.2 k hk
theorem r51_copy_l_22 (d n : Nat) (hn : n ≤ 60) (σ : Hs) : ∀ m k, k + m = n → ru d 45 18 [.ref 51, .ref 22, .int (nI k)] [] (rep (rep σ 51 (upd (σ 51) 1 (nI n))) 52 (cpT (σ 23) (σ 52) k)) = some (none, rep (rep σ 51 (upd (σ 51) 1 (nI n))) 52 (cpT (σ 23) (σ 52) n)) := by
  intro m
  induction m with
  | zero =>
    intro k hk
    obtain rfl : k = n := by omega
    have k31 : k < 2147483648 := by omega
    simp only [s45_18]
    simp only [s45_19, s45_20_o16, s45_20_o18, s45_20_o20, s45_20_o22, s45_20_o24, s45_20_o26, s45_20_o28, s45_20_o45, s45_20_o47, s45_20_o49, s45_20_o51, s45_20_o53, s45_20_o55, s45_20_o57, s45_23, s45_44, rep_at, upd_at, Int32.le_refl, simprocAttr, if_true, if_false, true_and, and_true, false_and, and_false, not_false_eq_true, not_true_eq_false, gd_T, kont_i, kont_v]
  | succ m ih =>
    intro k hk
    have k31 : k < 2147483648 := by omega
    have kc : k < 60 := by omega
    have hi := ih (k + 1) (by omega)
    simp only [s45_18]
    simp only [s45_19, s45_20_o16, s45_20_o18, s45_20_o20, s45_20_o22, s45_20_o24, s45_20_o26, s45_20_o28, s45_20_o45, s45_20_o47, s45_20_o49, s45_20_o51, s45_20_o53, s45_20_o55, s45_20_o57, s45_23, s45_26, s45_27_o16, s45_27_o18, s45_27_o20, s45_27_o22, s45_27_o24, s45_27_o26, s45_27_o28, s45_27_o45, s45_27_o47, s45_27_o49, s45_27_o51, s45_27_o53, s45_27_o55, s45_27_o57, s45_30, s45_31, s45_32_o16, s45_32_o18, s45_32_o20, s45_32_o22, s45_32_o24, s45_32_o26, s45_32_o28, s45_32_o45, s45_32_o47, s45_32_o49, s45_32_o51, s45_32_o53, s45_32_o55, s45_32_o57, s45_32_o71, s45_35, s45_36_o17, s45_36_o19, s45_36_o21, s45_36_o23, s45_36_o25, s45_36_o27, s45_36_o29, s45_36_o46, s45_36_o48, s45_36_o50, s45_36_o52, s45_36_o54, s45_36_o56, s45_36_o58, s45_36_o72, s45_37_o17, s45_37_o19, s45_37_o21, s45_37_o23, s45_37_o25, s45_37_o27, s45_37_o29, s45_37_o46, s45_37_o48, s45_37_o50, s45_37_o52, s45_37_o54, s45_37_o56, s45_37_o58, s45_38, s45_41, rep_at, upd_at, le_nn (show n < 2147483648 by omega) k31, vp_nI kc, cl_nI k31, up2_rep, rep_rep, cpT_s, nI_1, hi, simprocAttr, if_true, if_false, true_and, and_true, false_and, and_false, not_false_eq_true, not_true_eq_false, gd_T, kont_i, kont_v]
    rw [if_neg (by omega)]
theorem r51_copy_22 (d n : Nat) (hn : n ≤ 60) (σ : Hs) (F : Nat → Int32) (h : RW 22 n σ F) : ∃ σ', callD (d + 1) 45 [.ref 51, .ref 22] σ = some (none, σ') ∧ RW 51 n σ' F ∧ ∀ o, o ≠ 51 → o ≠ 52 → σ' o = σ o := by
  have hl := r51_copy_l_22 d n hn σ n 0 (by omega)
  rw [cpT_0] at hl
  have e : rep (rep σ 51 (upd (σ 51) 1 (nI n))) 52 (σ 52) = rep σ 51 (upd (σ 51) 1 (nI n)) := by
    funext q
    rw [rep_at]
    by_cases c : q = 52
    · rw [if_pos c, c, rep_ne (by omega)]
    · rw [if_neg c]
  rw [e] at hl
  refine ⟨rep (rep σ 51 (upd (σ 51) 1 (nI n))) 52 (cpT (σ 23) (σ 52) n), ?_, ⟨?_, fun k hk => ?_⟩, fun o o1 o2 => (rep_ne o2).trans (rep_ne o1)⟩
  · have e2 : jmin (nI n) 60 = nI n := by
      rw [show (60 : Int32) = nI 60 from rfl, jmin_n (by omega) (by omega), Nat.min_eq_left hn]
    simp only [s45_0, s45_1, s45_2_o16, s45_2_o18, s45_2_o20, s45_2_o22, s45_2_o24, s45_2_o26, s45_2_o28, s45_2_o45, s45_2_o47, s45_2_o49, s45_2_o51, s45_2_o53, s45_2_o55, s45_2_o57, s45_2_o71, s45_5, s45_6_o16, s45_6_o18, s45_6_o20, s45_6_o22, s45_6_o24, s45_6_o26, s45_6_o28, s45_6_o45, s45_6_o47, s45_6_o49, s45_6_o51, s45_6_o53, s45_6_o55, s45_6_o57, s45_9_o17, s45_9_o19, s45_9_o21, s45_9_o23, s45_9_o25, s45_9_o27, s45_9_o29, s45_9_o46, s45_9_o48, s45_9_o50, s45_9_o52, s45_9_o54, s45_9_o56, s45_9_o58, s45_10, s45_13_o16, s45_13_o18, s45_13_o20, s45_13_o22, s45_13_o24, s45_13_o26, s45_13_o28, s45_13_o45, s45_13_o47, s45_13_o49, s45_13_o51, s45_13_o53, s45_13_o55, s45_13_o57, s45_16, s45_17, c45, h.1, e2, up2_rep, simprocAttr, if_true, if_false, true_and, and_true, false_and, and_false, not_false_eq_true, not_true_eq_false, gd_T, kont_i, kont_v]
    exact hl
  · rw [rep_ne (by omega), rep_self, upd_at, if_pos rfl]
  · rw [rep_self]
    unfold cpT
    rw [if_pos hk]
    exact h.2 k hk
theorem r24_copy_l_53 (d n : Nat) (hn : n ≤ 12) (σ : Hs) : ∀ m k, k + m = n → ru d 45 18 [.ref 24, .ref 53, .int (nI k)] [] (rep (rep σ 24 (upd (σ 24) 1 (nI n))) 25 (cpT (σ 54) (σ 25) k)) = some (none, rep (rep σ 24 (upd (σ 24) 1 (nI n))) 25 (cpT (σ 54) (σ 25) n)) := by
  intro m
  induction m with
  | zero =>
    intro k hk
    obtain rfl : k = n := by omega
    have k31 : k < 2147483648 := by omega
    simp only [s45_18]
    simp only [s45_19, s45_20_o16, s45_20_o18, s45_20_o20, s45_20_o22, s45_20_o24, s45_20_o26, s45_20_o28, s45_20_o45, s45_20_o47, s45_20_o49, s45_20_o51, s45_20_o53, s45_20_o55, s45_20_o57, s45_23, s45_44, rep_at, upd_at, Int32.le_refl, simprocAttr, if_true, if_false, true_and, and_true, false_and, and_false, not_false_eq_true, not_true_eq_false, gd_T, kont_i, kont_v]
  | succ m ih =>
    intro k hk
    have k31 : k < 2147483648 := by omega
    have kc : k < 12 := by omega
    have hi := ih (k + 1) (by omega)
    simp only [s45_18]
    simp only [s45_19, s45_20_o16, s45_20_o18, s45_20_o20, s45_20_o22, s45_20_o24, s45_20_o26, s45_20_o28, s45_20_o45, s45_20_o47, s45_20_o49, s45_20_o51, s45_20_o53, s45_20_o55, s45_20_o57, s45_23, s45_26, s45_27_o16, s45_27_o18, s45_27_o20, s45_27_o22, s45_27_o24, s45_27_o26, s45_27_o28, s45_27_o45, s45_27_o47, s45_27_o49, s45_27_o51, s45_27_o53, s45_27_o55, s45_27_o57, s45_30, s45_31, s45_32_o16, s45_32_o18, s45_32_o20, s45_32_o22, s45_32_o24, s45_32_o26, s45_32_o28, s45_32_o45, s45_32_o47, s45_32_o49, s45_32_o51, s45_32_o53, s45_32_o55, s45_32_o57, s45_32_o71, s45_35, s45_36_o17, s45_36_o19, s45_36_o21, s45_36_o23, s45_36_o25, s45_36_o27, s45_36_o29, s45_36_o46, s45_36_o48, s45_36_o50, s45_36_o52, s45_36_o54, s45_36_o56, s45_36_o58, s45_36_o72, s45_37_o17, s45_37_o19, s45_37_o21, s45_37_o23, s45_37_o25, s45_37_o27, s45_37_o29, s45_37_o46, s45_37_o48, s45_37_o50, s45_37_o52, s45_37_o54, s45_37_o56, s45_37_o58, s45_38, s45_41, rep_at, upd_at, le_nn (show n < 2147483648 by omega) k31, vp_nI kc, cl_nI k31, up2_rep, rep_rep, cpT_s, nI_1, hi, simprocAttr, if_true, if_false, true_and, and_true, false_and, and_false, not_false_eq_true, not_true_eq_false, gd_T, kont_i, kont_v]
    rw [if_neg (by omega)]
theorem r24_copy_53 (d n : Nat) (hn : n ≤ 12) (σ : Hs) (F : Nat → Int32) (h : RW 53 n σ F) : ∃ σ', callD (d + 1) 45 [.ref 24, .ref 53] σ = some (none, σ') ∧ RW 24 n σ' F ∧ ∀ o, o ≠ 24 → o ≠ 25 → σ' o = σ o := by
  have hl := r24_copy_l_53 d n hn σ n 0 (by omega)
  rw [cpT_0] at hl
  have e : rep (rep σ 24 (upd (σ 24) 1 (nI n))) 25 (σ 25) = rep σ 24 (upd (σ 24) 1 (nI n)) := by
    funext q
    rw [rep_at]
    by_cases c : q = 25
    · rw [if_pos c, c, rep_ne (by omega)]
    · rw [if_neg c]
  rw [e] at hl
  refine ⟨rep (rep σ 24 (upd (σ 24) 1 (nI n))) 25 (cpT (σ 54) (σ 25) n), ?_, ⟨?_, fun k hk => ?_⟩, fun o o1 o2 => (rep_ne o2).trans (rep_ne o1)⟩
  · have e2 : jmin (nI n) 12 = nI n := by
      rw [show (12 : Int32) = nI 12 from rfl, jmin_n (by omega) (by omega), Nat.min_eq_left hn]
    simp only [s45_0, s45_1, s45_2_o16, s45_2_o18, s45_2_o20, s45_2_o22, s45_2_o24, s45_2_o26, s45_2_o28, s45_2_o45, s45_2_o47, s45_2_o49, s45_2_o51, s45_2_o53, s45_2_o55, s45_2_o57, s45_2_o71, s45_5, s45_6_o16, s45_6_o18, s45_6_o20, s45_6_o22, s45_6_o24, s45_6_o26, s45_6_o28, s45_6_o45, s45_6_o47, s45_6_o49, s45_6_o51, s45_6_o53, s45_6_o55, s45_6_o57, s45_9_o17, s45_9_o19, s45_9_o21, s45_9_o23, s45_9_o25, s45_9_o27, s45_9_o29, s45_9_o46, s45_9_o48, s45_9_o50, s45_9_o52, s45_9_o54, s45_9_o56, s45_9_o58, s45_10, s45_13_o16, s45_13_o18, s45_13_o20, s45_13_o22, s45_13_o24, s45_13_o26, s45_13_o28, s45_13_o45, s45_13_o47, s45_13_o49, s45_13_o51, s45_13_o53, s45_13_o55, s45_13_o57, s45_16, s45_17, c45, h.1, e2, up2_rep, simprocAttr, if_true, if_false, true_and, and_true, false_and, and_false, not_false_eq_true, not_true_eq_false, gd_T, kont_i, kont_v]
    exact hl
  · rw [rep_ne (by omega), rep_self, upd_at, if_pos rfl]
  · rw [rep_self]
    unfold cpT
    rw [if_pos hk]
    exact h.2 k hk
theorem r53_copy_l_24 (d n : Nat) (hn : n ≤ 12) (σ : Hs) : ∀ m k, k + m = n → ru d 45 18 [.ref 53, .ref 24, .int (nI k)] [] (rep (rep σ 53 (upd (σ 53) 1 (nI n))) 54 (cpT (σ 25) (σ 54) k)) = some (none, rep (rep σ 53 (upd (σ 53) 1 (nI n))) 54 (cpT (σ 25) (σ 54) n)) := by
  intro m
  induction m with
  | zero =>
    intro k hk
    obtain rfl : k = n := by omega
    have k31 : k < 2147483648 := by omega
    simp only [s45_18]
    simp only [s45_19, s45_20_o16, s45_20_o18, s45_20_o20, s45_20_o22, s45_20_o24, s45_20_o26, s45_20_o28, s45_20_o45, s45_20_o47, s45_20_o49, s45_20_o51, s45_20_o53, s45_20_o55, s45_20_o57, s45_23, s45_44, rep_at, upd_at, Int32.le_refl, simprocAttr, if_true, if_false, true_and, and_true, false_and, and_false, not_false_eq_true, not_true_eq_false, gd_T, kont_i, kont_v]
  | succ m ih =>
    intro k hk
    have k31 : k < 2147483648 := by omega
    have kc : k < 12 := by omega
    have hi := ih (k + 1) (by omega)
    simp only [s45_18]
    simp only [s45_19, s45_20_o16, s45_20_o18, s45_20_o20, s45_20_o22, s45_20_o24, s45_20_o26, s45_20_o28, s45_20_o45, s45_20_o47, s45_20_o49, s45_20_o51, s45_20_o53, s45_20_o55, s45_20_o57, s45_23, s45_26, s45_27_o16, s45_27_o18, s45_27_o20, s45_27_o22, s45_27_o24, s45_27_o26, s45_27_o28, s45_27_o45, s45_27_o47, s45_27_o49, s45_27_o51, s45_27_o53, s45_27_o55, s45_27_o57, s45_30, s45_31, s45_32_o16, s45_32_o18, s45_32_o20, s45_32_o22, s45_32_o24, s45_32_o26, s45_32_o28, s45_32_o45, s45_32_o47, s45_32_o49, s45_32_o51, s45_32_o53, s45_32_o55, s45_32_o57, s45_32_o71, s45_35, s45_36_o17, s45_36_o19, s45_36_o21, s45_36_o23, s45_36_o25, s45_36_o27, s45_36_o29, s45_36_o46, s45_36_o48, s45_36_o50, s45_36_o52, s45_36_o54, s45_36_o56, s45_36_o58, s45_36_o72, s45_37_o17, s45_37_o19, s45_37_o21, s45_37_o23, s45_37_o25, s45_37_o27, s45_37_o29, s45_37_o46, s45_37_o48, s45_37_o50, s45_37_o52, s45_37_o54, s45_37_o56, s45_37_o58, s45_38, s45_41, rep_at, upd_at, le_nn (show n < 2147483648 by omega) k31, vp_nI kc, cl_nI k31, up2_rep, rep_rep, cpT_s, nI_1, hi, simprocAttr, if_true, if_false, true_and, and_true, false_and, and_false, not_false_eq_true, not_true_eq_false, gd_T, kont_i, kont_v]
    rw [if_neg (by omega)]
theorem r53_copy_24 (d n : Nat) (hn : n ≤ 12) (σ : Hs) (F : Nat → Int32) (h : RW 24 n σ F) : ∃ σ', callD (d + 1) 45 [.ref 53, .ref 24] σ = some (none, σ') ∧ RW 53 n σ' F ∧ ∀ o, o ≠ 53 → o ≠ 54 → σ' o = σ o := by
  have hl := r53_copy_l_24 d n hn σ n 0 (by omega)
  rw [cpT_0] at hl
  have e : rep (rep σ 53 (upd (σ 53) 1 (nI n))) 54 (σ 54) = rep σ 53 (upd (σ 53) 1 (nI n)) := by
    funext q
    rw [rep_at]
    by_cases c : q = 54
    · rw [if_pos c, c, rep_ne (by omega)]
    · rw [if_neg c]
  rw [e] at hl
  refine ⟨rep (rep σ 53 (upd (σ 53) 1 (nI n))) 54 (cpT (σ 25) (σ 54) n), ?_, ⟨?_, fun k hk => ?_⟩, fun o o1 o2 => (rep_ne o2).trans (rep_ne o1)⟩
  · have e2 : jmin (nI n) 12 = nI n := by
      rw [show (12 : Int32) = nI 12 from rfl, jmin_n (by omega) (by omega), Nat.min_eq_left hn]
    simp only [s45_0, s45_1, s45_2_o16, s45_2_o18, s45_2_o20, s45_2_o22, s45_2_o24, s45_2_o26, s45_2_o28, s45_2_o45, s45_2_o47, s45_2_o49, s45_2_o51, s45_2_o53, s45_2_o55, s45_2_o57, s45_2_o71, s45_5, s45_6_o16, s45_6_o18, s45_6_o20, s45_6_o22, s45_6_o24, s45_6_o26, s45_6_o28, s45_6_o45, s45_6_o47, s45_6_o49, s45_6_o51, s45_6_o53, s45_6_o55, s45_6_o57, s45_9_o17, s45_9_o19, s45_9_o21, s45_9_o23, s45_9_o25, s45_9_o27, s45_9_o29, s45_9_o46, s45_9_o48, s45_9_o50, s45_9_o52, s45_9_o54, s45_9_o56, s45_9_o58, s45_10, s45_13_o16, s45_13_o18, s45_13_o20, s45_13_o22, s45_13_o24, s45_13_o26, s45_13_o28, s45_13_o45, s45_13_o47, s45_13_o49, s45_13_o51, s45_13_o53, s45_13_o55, s45_13_o57, s45_16, s45_17, c45, h.1, e2, up2_rep, simprocAttr, if_true, if_false, true_and, and_true, false_and, and_false, not_false_eq_true, not_true_eq_false, gd_T, kont_i, kont_v]
    exact hl
  · rw [rep_ne (by omega), rep_self, upd_at, if_pos rfl]
  · rw [rep_self]
    unfold cpT
    rw [if_pos hk]
    exact h.2 k hk
theorem r26_copy_l_55 (d n : Nat) (hn : n ≤ 12) (σ : Hs) : ∀ m k, k + m = n → ru d 45 18 [.ref 26, .ref 55, .int (nI k)] [] (rep (rep σ 26 (upd (σ 26) 1 (nI n))) 27 (cpT (σ 56) (σ 27) k)) = some (none, rep (rep σ 26 (upd (σ 26) 1 (nI n))) 27 (cpT (σ 56) (σ 27) n)) := by
  intro m
  induction m with
  | zero =>
    intro k hk
    obtain rfl : k = n := by omega
    have k31 : k < 2147483648 := by omega
    simp only [s45_18]
    simp only [s45_19, s45_20_o16, s45_20_o18, s45_20_o20, s45_20_o22, s45_20_o24, s45_20_o26, s45_20_o28, s45_20_o45, s45_20_o47, s45_20_o49, s45_20_o51, s45_20_o53, s45_20_o55, s45_20_o57, s45_23, s45_44, rep_at, upd_at, Int32.le_refl, simprocAttr, if_true, if_false, true_and, and_true, false_and, and_false, not_false_eq_true, not_true_eq_false, gd_T, kont_i, kont_v]
  | succ m ih =>
    intro k hk
    have k31 : k < 2147483648 := by omega
    have kc : k < 12 := by omega
    have hi := ih (k + 1) (by omega)
    simp only [s45_18]
    simp only [s45_19, s45_20_o16, s45_20_o18, s45_20_o20, s45_20_o22, s45_20_o24, s45_20_o26, s45_20_o28, s45_20_o45, s45_20_o47, s45_20_o49, s45_20_o51, s45_20_o53, s45_20_o55, s45_20_o57, s45_23, s45_26, s45_27_o16, s45_27_o18, s45_27_o20, s45_27_o22, s45_27_o24, s45_27_o26, s45_27_o28, s45_27_o45, s45_27_o47, s45_27_o49, s45_27_o51, s45_27_o53, s45_27_o55, s45_27_o57, s45_30, s45_31, s45_32_o16, s45_32_o18, s45_32_o20, s45_32_o22, s45_32_o24, s45_32_o26, s45_32_o28, s45_32_o45, s45_32_o47, s45_32_o49, s45_32_o51, s45_32_o53, s45_32_o55, s45_32_o57, s45_32_o71, s45_35, s45_36_o17, s45_36_o19, s45_36_o21, s45_36_o23, s45_36_o25, s45_36_o27, s45_36_o29, s45_36_o46, s45_36_o48, s45_36_o50, s45_36_o52, s45_36_o54, s45_36_o56, s45_36_o58, s45_36_o72, s45_37_o17, s45_37_o19, s45_37_o21, s45_37_o23, s45_37_o25, s45_37_o27, s45_37_o29, s45_37_o46, s45_37_o48, s45_37_o50, s45_37_o52, s45_37_o54, s45_37_o56, s45_37_o58, s45_38, s45_41, rep_at, upd_at, le_nn (show n < 2147483648 by omega) k31, vp_nI kc, cl_nI k31, up2_rep, rep_rep, cpT_s, nI_1, hi, simprocAttr, if_true, if_false, true_and, and_true, false_and, and_false, not_false_eq_true, not_true_eq_false, gd_T, kont_i, kont_v]
    rw [if_neg (by omega)]
theorem r26_copy_55 (d n : Nat) (hn : n ≤ 12) (σ : Hs) (F : Nat → Int32) (h : RW 55 n σ F) : ∃ σ', callD (d + 1) 45 [.ref 26, .ref 55] σ = some (none, σ') ∧ RW 26 n σ' F ∧ ∀ o, o ≠ 26 → o ≠ 27 → σ' o = σ o := by
  have hl := r26_copy_l_55 d n hn σ n 0 (by omega)
  rw [cpT_0] at hl
  have e : rep (rep σ 26 (upd (σ 26) 1 (nI n))) 27 (σ 27) = rep σ 26 (upd (σ 26) 1 (nI n)) := by
    funext q
    rw [rep_at]
    by_cases c : q = 27
    · rw [if_pos c, c, rep_ne (by omega)]
    · rw [if_neg c]
  rw [e] at hl
  refine ⟨rep (rep σ 26 (upd (σ 26) 1 (nI n))) 27 (cpT (σ 56) (σ 27) n), ?_, ⟨?_, fun k hk => ?_⟩, fun o o1 o2 => (rep_ne o2).trans (rep_ne o1)⟩
  · have e2 : jmin (nI n) 12 = nI n := by
      rw [show (12 : Int32) = nI 12 from rfl, jmin_n (by omega) (by omega), Nat.min_eq_left hn]
    simp only [s45_0, s45_1, s45_2_o16, s45_2_o18, s45_2_o20, s45_2_o22, s45_2_o24, s45_2_o26, s45_2_o28, s45_2_o45, s45_2_o47, s45_2_o49, s45_2_o51, s45_2_o53, s45_2_o55, s45_2_o57, s45_2_o71, s45_5, s45_6_o16, s45_6_o18, s45_6_o20, s45_6_o22, s45_6_o24, s45_6_o26, s45_6_o28, s45_6_o45, s45_6_o47, s45_6_o49, s45_6_o51, s45_6_o53, s45_6_o55, s45_6_o57, s45_9_o17, s45_9_o19, s45_9_o21, s45_9_o23, s45_9_o25, s45_9_o27, s45_9_o29, s45_9_o46, s45_9_o48, s45_9_o50, s45_9_o52, s45_9_o54, s45_9_o56, s45_9_o58, s45_10, s45_13_o16, s45_13_o18, s45_13_o20, s45_13_o22, s45_13_o24, s45_13_o26, s45_13_o28, s45_13_o45, s45_13_o47, s45_13_o49, s45_13_o51, s45_13_o53, s45_13_o55, s45_13_o57, s45_16, s45_17, c45, h.1, e2, up2_rep, simprocAttr, if_true, if_false, true_and, and_true, false_and, and_false, not_false_eq_true, not_true_eq_false, gd_T, kont_i, kont_v]
    exact hl
  · rw [rep_ne (by omega), rep_self, upd_at, if_pos rfl]
  · rw [rep_self]
    unfold cpT
    rw [if_pos hk]
    exact h.2 k hk
theorem r55_copy_l_26 (d n : Nat) (hn : n ≤ 12) (σ : Hs) : ∀ m k, k + m = n → ru d 45 18 [.ref 55, .ref 26, .int (nI k)] [] (rep (rep σ 55 (upd (σ 55) 1 (nI n))) 56 (cpT (σ 27) (σ 56) k)) = some (none, rep (rep σ 55 (upd (σ 55) 1 (nI n))) 56 (cpT (σ 27) (σ 56) n)) := by
  intro m
  induction m with
  | zero =>
    intro k hk
    obtain rfl : k = n := by omega
    have k31 : k < 2147483648 := by omega
    simp only [s45_18]
    simp only [s45_19, s45_20_o16, s45_20_o18, s45_20_o20, s45_20_o22, s45_20_o24, s45_20_o26, s45_20_o28, s45_20_o45, s45_20_o47, s45_20_o49, s45_20_o51, s45_20_o53, s45_20_o55, s45_20_o57, s45_23, s45_44, rep_at, upd_at, Int32.le_refl, simprocAttr, if_true, if_false, true_and, and_true, false_and, and_false, not_false_eq_true, not_true_eq_false, gd_T, kont_i, kont_v]
  | succ m ih =>
    intro k hk
    have k31 : k < 2147483648 := by omega
    have kc : k < 12 := by omega
    have hi := ih (k + 1) (by omega)
    simp only [s45_18]
    simp only [s45_19, s45_20_o16, s45_20_o18, s45_20_o20, s45_20_o22, s45_20_o24, s45_20_o26, s45_20_o28, s45_20_o45, s45_20_o47, s45_20_o49, s45_20_o51, s45_20_o53, s45_20_o55, s45_20_o57, s45_23, s45_26, s45_27_o16, s45_27_o18, s45_27_o20, s45_27_o22, s45_27_o24, s45_27_o26, s45_27_o28, s45_27_o45, s45_27_o47, s45_27_o49, s45_27_o51, s45_27_o53, s45_27_o55, s45_27_o57, s45_30, s45_31, s45_32_o16, s45_32_o18, s45_32_o20, s45_32_o22, s45_32_o24, s45_32_o26, s45_32_o28, s45_32_o45, s45_32_o47, s45_32_o49, s45_32_o51, s45_32_o53, s45_32_o55, s45_32_o57, s45_32_o71, s45_35, s45_36_o17, s45_36_o19, s45_36_o21, s45_36_o23, s45_36_o25, s45_36_o27, s45_36_o29, s45_36_o46, s45_36_o48, s45_36_o50, s45_36_o52, s45_36_o54, s45_36_o56, s45_36_o58, s45_36_o72, s45_37_o17, s45_37_o19, s45_37_o21, s45_37_o23, s45_37_o25, s45_37_o27, s45_37_o29, s45_37_o46, s45_37_o48, s45_37_o50, s45_37_o52, s45_37_o54, s45_37_o56, s45_37_o58, s45_38, s45_41, rep_at, upd_at, le_nn (show n < 2147483648 by omega) k31, vp_nI kc, cl_nI k31, up2_rep, rep_rep, cpT_s, nI_1, hi, simprocAttr, if_true, if_false, true_and, and_true, false_and, and_false, not_false_eq_true, not_true_eq_false, gd_T, kont_i, kont_v]
    rw [if_neg (by omega)]
theorem r55_copy_26 (d n : Nat) (hn : n ≤ 12) (σ : Hs) (F : Nat → Int32) (h : RW 26 n σ F) : ∃ σ', callD (d + 1) 45 [.ref 55, .ref 26] σ = some (none, σ') ∧ RW 55 n σ' F ∧ ∀ o, o ≠ 55 → o ≠ 56 → σ' o = σ o := by
  have hl := r55_copy_l_26 d n hn σ n 0 (by omega)
  rw [cpT_0] at hl
  have e : rep (rep σ 55 (upd (σ 55) 1 (nI n))) 56 (σ 56) = rep σ 55 (upd (σ 55) 1 (nI n)) := by
    funext q
    rw [rep_at]
    by_cases c : q = 56
    · rw [if_pos c, c, rep_ne (by omega)]
    · rw [if_neg c]
  rw [e] at hl
  refine ⟨rep (rep σ 55 (upd (σ 55) 1 (nI n))) 56 (cpT (σ 27) (σ 56) n), ?_, ⟨?_, fun k hk => ?_⟩, fun o o1 o2 => (rep_ne o2).trans (rep_ne o1)⟩
  · have e2 : jmin (nI n) 12 = nI n := by
      rw [show (12 : Int32) = nI 12 from rfl, jmin_n (by omega) (by omega), Nat.min_eq_left hn]
    simp only [s45_0, s45_1, s45_2_o16, s45_2_o18, s45_2_o20, s45_2_o22, s45_2_o24, s45_2_o26, s45_2_o28, s45_2_o45, s45_2_o47, s45_2_o49, s45_2_o51, s45_2_o53, s45_2_o55, s45_2_o57, s45_2_o71, s45_5, s45_6_o16, s45_6_o18, s45_6_o20, s45_6_o22, s45_6_o24, s45_6_o26, s45_6_o28, s45_6_o45, s45_6_o47, s45_6_o49, s45_6_o51, s45_6_o53, s45_6_o55, s45_6_o57, s45_9_o17, s45_9_o19, s45_9_o21, s45_9_o23, s45_9_o25, s45_9_o27, s45_9_o29, s45_9_o46, s45_9_o48, s45_9_o50, s45_9_o52, s45_9_o54, s45_9_o56, s45_9_o58, s45_10, s45_13_o16, s45_13_o18, s45_13_o20, s45_13_o22, s45_13_o24, s45_13_o26, s45_13_o28, s45_13_o45, s45_13_o47, s45_13_o49, s45_13_o51, s45_13_o53, s45_13_o55, s45_13_o57, s45_16, s45_17, c45, h.1, e2, up2_rep, simprocAttr, if_true, if_false, true_and, and_true, false_and, and_false, not_false_eq_true, not_true_eq_false, gd_T, kont_i, kont_v]
    exact hl
  · rw [rep_ne (by omega), rep_self, upd_at, if_pos rfl]
  · rw [rep_self]
    unfold cpT
    rw [if_pos hk]
    exact h.2 k hk
theorem r28_copy_l_57 (d n : Nat) (hn : n ≤ 24) (σ : Hs) : ∀ m k, k + m = n → ru d 45 18 [.ref 28, .ref 57, .int (nI k)] [] (rep (rep σ 28 (upd (σ 28) 1 (nI n))) 29 (cpT (σ 58) (σ 29) k)) = some (none, rep (rep σ 28 (upd (σ 28) 1 (nI n))) 29 (cpT (σ 58) (σ 29) n)) := by
  intro m
  induction m with
  | zero =>
    intro k hk
    obtain rfl : k = n := by omega
    have k31 : k < 2147483648 := by omega
    simp only [s45_18]
    simp only [s45_19, s45_20_o16, s45_20_o18, s45_20_o20, s45_20_o22, s45_20_o24, s45_20_o26, s45_20_o28, s45_20_o45, s45_20_o47, s45_20_o49, s45_20_o51, s45_20_o53, s45_20_o55, s45_20_o57, s45_23, s45_44, rep_at, upd_at, Int32.le_refl, simprocAttr, if_true, if_false, true_and, and_true, false_and, and_false, not_false_eq_true, not_true_eq_false, gd_T, kont_i, kont_v]
  | succ m ih =>
    intro k hk
    have k31 : k < 2147483648 := by omega
    have kc : k < 24 := by omega
    have hi := ih (k + 1) (by omega)
    simp only [s45_18]
    simp only [s45_19, s45_20_o16, s45_20_o18, s45_20_o20, s45_20_o22, s45_20_o24, s45_20_o26, s45_20_o28, s45_20_o45, s45_20_o47, s45_20_o49, s45_20_o51, s45_20_o53, s45_20_o55, s45_20_o57, s45_23, s45_26, s45_27_o16, s45_27_o18, s45_27_o20, s45_27_o22, s45_27_o24, s45_27_o26, s45_27_o28, s45_27_o45, s45_27_o47, s45_27_o49, s45_27_o51, s45_27_o53, s45_27_o55, s45_27_o57, s45_30, s45_31, s45_32_o16, s45_32_o18, s45_32_o20, s45_32_o22, s45_32_o24, s45_32_o26, s45_32_o28, s45_32_o45, s45_32_o47, s45_32_o49, s45_32_o51, s45_32_o53, s45_32_o55, s45_32_o57, s45_32_o71, s45_35, s45_36_o17, s45_36_o19, s45_36_o21, s45_36_o23, s45_36_o25, s45_36_o27, s45_36_o29, s45_36_o46, s45_36_o48, s45_36_o50, s45_36_o52, s45_36_o54, s45_36_o56, s45_36_o58, s45_36_o72, s45_37_o17, s45_37_o19, s45_37_o21, s45_37_o23, s45_37_o25, s45_37_o27, s45_37_o29, s45_37_o46, s45_37_o48, s45_37_o50, s45_37_o52, s45_37_o54, s45_37_o56, s45_37_o58, s45_38, s45_41, rep_at, upd_at, le_nn (show n < 2147483648 by omega) k31, vp_nI kc, cl_nI k31, up2_rep, rep_rep, cpT_s, nI_1, hi, simprocAttr, if_true, if_false, true_and, and_true, false_and, and_false, not_false_eq_true, not_true_eq_false, gd_T, kont_i, kont_v]
    rw [if_neg (by omega)]
theorem r28_copy_57 (d n : Nat) (hn : n ≤ 24) (σ : Hs) (F : Nat → Int32) (h : RW 57 n σ F) : ∃ σ', callD (d + 1) 45 [.ref 28, .ref 57] σ = some (none, σ') ∧ RW 28 n σ' F ∧ ∀ o, o ≠ 28 → o ≠ 29 → σ' o = σ o := by
  have hl := r28_copy_l_57 d n hn σ n 0 (by omega)
  rw [cpT_0] at hl
  have e : rep (rep σ 28 (upd (σ 28) 1 (nI n))) 29 (σ 29) = rep σ 28 (upd (σ 28) 1 (nI n)) := by
    funext q
    rw [rep_at]
    by_cases c : q = 29
    · rw [if_pos c, c, rep_ne (by omega)]
    · rw [if_neg c]
  rw [e] at hl
  refine ⟨rep (rep σ 28 (upd (σ 28) 1 (nI n))) 29 (cpT (σ 58) (σ 29) n), ?_, ⟨?_, fun k hk => ?_⟩, fun o o1 o2 => (rep_ne o2).trans (rep_ne o1)⟩
  · have e2 : jmin (nI n) 24 = nI n := by
      rw [show (24 : Int32) = nI 24 from rfl, jmin_n (by omega) (by omega), Nat.min_eq_left hn]
    simp only [s45_0, s45_1, s45_2_o16, s45_2_o18, s45_2_o20, s45_2_o22, s45_2_o24, s45_2_o26, s45_2_o28, s45_2_o45, s45_2_o47, s45_2_o49, s45_2_o51, s45_2_o53, s45_2_o55, s45_2_o57, s45_2_o71, s45_5, s45_6_o16, s45_6_o18, s45_6_o20, s45_6_o22, s45_6_o24, s45_6_o26, s45_6_o28, s45_6_o45, s45_6_o47, s45_6_o49, s45_6_o51, s45_6_o53, s45_6_o55, s45_6_o57, s45_9_o17, s45_9_o19, s45_9_o21, s45_9_o23, s45_9_o25, s45_9_o27, s45_9_o29, s45_9_o46, s45_9_o48, s45_9_o50, s45_9_o52, s45_9_o54, s45_9_o56, s45_9_o58, s45_10, s45_13_o16, s45_13_o18, s45_13_o20, s45_13_o22, s45_13_o24, s45_13_o26, s45_13_o28, s45_13_o45, s45_13_o47, s45_13_o49, s45_13_o51, s45_13_o53, s45_13_o55, s45_13_o57, s45_16, s45_17, c45, h.1, e2, up2_rep, simprocAttr, if_true, if_false, true_and, and_true, false_and, and_false, not_false_eq_true, not_true_eq_false, gd_T, kont_i, kont_v]
    exact hl
  · rw [rep_ne (by omega), rep_self, upd_at, if_pos rfl]
  · rw [rep_self]
    unfold cpT
    rw [if_pos hk]
    exact h.2 k hk
theorem r57_copy_l_28 (d n : Nat) (hn : n ≤ 24) (σ : Hs) : ∀ m k, k + m = n → ru d 45 18 [.ref 57, .ref 28, .int (nI k)] [] (rep (rep σ 57 (upd (σ 57) 1 (nI n))) 58 (cpT (σ 29) (σ 58) k)) = some (none, rep (rep σ 57 (upd (σ 57) 1 (nI n))) 58 (cpT (σ 29) (σ 58) n)) := by
  intro m
  induction m with
  | zero =>
    intro k hk
    obtain rfl : k = n := by omega
    have k31 : k < 2147483648 := by omega
    simp only [s45_18]
    simp only [s45_19, s45_20_o16, s45_20_o18, s45_20_o20, s45_20_o22, s45_20_o24, s45_20_o26, s45_20_o28, s45_20_o45, s45_20_o47, s45_20_o49, s45_20_o51, s45_20_o53, s45_20_o55, s45_20_o57, s45_23, s45_44, rep_at, upd_at, Int32.le_refl, simprocAttr, if_true, if_false, true_and, and_true, false_and, and_false, not_false_eq_true, not_true_eq_false, gd_T, kont_i, kont_v]
  | succ m ih =>
    intro k hk
    have k31 : k < 2147483648 := by omega
    have kc : k < 24 := by omega
    have hi := ih (k + 1) (by omega)
    simp only [s45_18]
    simp only [s45_19, s45_20_o16, s45_20_o18, s45_20_o20, s45_20_o22, s45_20_o24, s45_20_o26, s45_20_o28, s45_20_o45, s45_20_o47, s45_20_o49, s45_20_o51, s45_20_o53, s45_20_o55, s45_20_o57, s45_23, s45_26, s45_27_o16, s45_27_o18, s45_27_o20, s45_27_o22, s45_27_o24, s45_27_o26, s45_27_o28, s45_27_o45, s45_27_o47, s45_27_o49, s45_27_o51, s45_27_o53, s45_27_o55, s45_27_o57, s45_30, s45_31, s45_32_o16, s45_32_o18, s45_32_o20, s45_32_o22, s45_32_o24, s45_32_o26, s45_32_o28, s45_32_o45, s45_32_o47, s45_32_o49, s45_32_o51, s45_32_o53, s45_32_o55, s45_32_o57, s45_32_o71, s45_35, s45_36_o17, s45_36_o19, s45_36_o21, s45_36_o23, s45_36_o25, s45_36_o27, s45_36_o29, s45_36_o46, s45_36_o48, s45_36_o50, s45_36_o52, s45_36_o54, s45_36_o56, s45_36_o58, s45_36_o72, s45_37_o17, s45_37_o19, s45_37_o21, s45_37_o23, s45_37_o25, s45_37_o27, s45_37_o29, s45_37_o46, s45_37_o48, s45_37_o50, s45_37_o52, s45_37_o54, s45_37_o56, s45_37_o58, s45_38, s45_41, rep_at, upd_at, le_nn (show n < 2147483648 by omega) k31, vp_nI kc, cl_nI k31, up2_rep, rep_rep, cpT_s, nI_1, hi, simprocAttr, if_true, if_false, true_and, and_true, false_and, and_false, not_false_eq_true, not_true_eq_false, gd_T, kont_i, kont_v]
    rw [if_neg (by omega)]
theorem r57_copy_28 (d n : Nat) (hn : n ≤ 24) (σ : Hs) (F : Nat → Int32) (h : RW 28 n σ F) : ∃ σ', callD (d + 1) 45 [.ref 57, .ref 28] σ = some (none, σ') ∧ RW 57 n σ' F ∧ ∀ o, o ≠ 57 → o ≠ 58 → σ' o = σ o := by
  have hl := r57_copy_l_28 d n hn σ n 0 (by omega)
  rw [cpT_0] at hl
  have e : rep (rep σ 57 (upd (σ 57) 1 (nI n))) 58 (σ 58) = rep σ 57 (upd (σ 57) 1 (nI n)) := by
    funext q
    rw [rep_at]
    by_cases c : q = 58
    · rw [if_pos c, c, rep_ne (by omega)]
    · rw [if_neg c]
  rw [e] at hl
  refine ⟨rep (rep σ 57 (upd (σ 57) 1 (nI n))) 58 (cpT (σ 29) (σ 58) n), ?_, ⟨?_, fun k hk => ?_⟩, fun o o1 o2 => (rep_ne o2).trans (rep_ne o1)⟩
  · have e2 : jmin (nI n) 24 = nI n := by
      rw [show (24 : Int32) = nI 24 from rfl, jmin_n (by omega) (by omega), Nat.min_eq_left hn]
    simp only [s45_0, s45_1, s45_2_o16, s45_2_o18, s45_2_o20, s45_2_o22, s45_2_o24, s45_2_o26, s45_2_o28, s45_2_o45, s45_2_o47, s45_2_o49, s45_2_o51, s45_2_o53, s45_2_o55, s45_2_o57, s45_2_o71, s45_5, s45_6_o16, s45_6_o18, s45_6_o20, s45_6_o22, s45_6_o24, s45_6_o26, s45_6_o28, s45_6_o45, s45_6_o47, s45_6_o49, s45_6_o51, s45_6_o53, s45_6_o55, s45_6_o57, s45_9_o17, s45_9_o19, s45_9_o21, s45_9_o23, s45_9_o25, s45_9_o27, s45_9_o29, s45_9_o46, s45_9_o48, s45_9_o50, s45_9_o52, s45_9_o54, s45_9_o56, s45_9_o58, s45_10, s45_13_o16, s45_13_o18, s45_13_o20, s45_13_o22, s45_13_o24, s45_13_o26, s45_13_o28, s45_13_o45, s45_13_o47, s45_13_o49, s45_13_o51, s45_13_o53, s45_13_o55, s45_13_o57, s45_16, s45_17, c45, h.1, e2, up2_rep, simprocAttr, if_true, if_false, true_and, and_true, false_and, and_false, not_false_eq_true, not_true_eq_false, gd_T, kont_i, kont_v]
    exact hl
  · rw [rep_ne (by omega), rep_self, upd_at, if_pos rfl]
  · rw [rep_self]
    unfold cpT
    rw [if_pos hk]
    exact h.2 k hk
