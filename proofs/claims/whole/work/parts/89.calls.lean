/-! ===== the calls: sheet, put ===== -/
theorem RR.shx {i : Nat} {σ σ2 : Hs} (h : RR i σ) (hS : SHr σ2) (hW : WB σ2) (f : ∀ o, (o < 77 ∨ (84 < o ∧ o < 100)) → σ2 o = σ o) : RR (i + 1) σ2 := by
  obtain ⟨a1, a2, a3, a4, a5, a6, -, a8, -⟩ := h
  have e88 : σ2 88 = σ 88 := f 88 (by omega)
  refine ⟨?_, ?_, ?_, a4.fr (by omega) (fun o ho => f o (by omega)) (by rw [f 87 (by omega)]), a5.fr (f 85 (by omega)) (f 91 (by omega)), a6.fr (fun o ho => f o (by omega)) (by rw [f 87 (by omega)]), hS, a8.fr (fun o ho => f o (by omega)), hW⟩
  · rw [e88]; exact a1.fr (fun o o1 o2 => f o (by omega))
  · rw [e88]; exact a2
  · rw [e88]; exact a3.mono (by omega)
theorem k_isSheet (d : Nat) (v : Int32) (σ : Hs) : callD (d + 1) 107 [.int v] σ = some (some (.int (b2 (0 ≤ v ∧ v ≤ 3))), σ) := by
  simp only [c107, s107_0, s107_1, s107_4, s107_5, s107_6, s107_9, s107_10, s107_13, s107_14, isB_0, isB_1]
  have e : (4 ≤ v) = ¬ v ≤ 3 := by
    rw [Int32.le_iff_toInt_le, Int32.le_iff_toInt_le, show (4 : Int32).toInt = 4 from rfl, show (3 : Int32).toInt = 3 from rfl]
    exact propext ⟨fun q => by omega, fun q => by omega⟩
  by_cases h1 : v < 0
  · rw [if_pos h1, b2_F (fun h => Int32.not_le.mpr h1 h.1)]
  · rw [if_neg h1]
    by_cases h2 : v ≤ 3
    · rw [if_neg (by rw [e]; exact fun q => q h2), b2_T ⟨Int32.not_lt.mp h1, h2⟩]
    · rw [if_pos (by rw [e]; exact h2), b2_F (fun h => h2 h.2)]
theorem m_isSheet (d : Nat) (v : Int32) (σ : Hs) : callD (d + 2) 203 [.int v] σ = some (some (.int (b2 (0 ≤ v ∧ v ≤ 3))), σ) := by
  simp only [c203, s203_0, s203_1, s203_2, s203_3, s203_6, m_within, b2_B, simprocAttr, if_true, if_false, true_and, and_true, false_and, and_false, not_false_eq_true, not_true_eq_false, gd_T, kont_i, kont_v]
theorem she_n {v : Int32} (h : 0 ≤ v ∧ v ≤ 3) : ∃ p : Nat, p < 4 ∧ v = nI p := by
  obtain ⟨p, -, a, e⟩ := within_n (a := 0) (b := 3) h rfl rfl (by omega) (by omega)
  exact ⟨p, by omega, e⟩
def zF (F : Nat → Int32) (m : Nat) : Nat → Int32 := fun q => if q < m then 0 else F q
theorem zF_s (F : Nat → Int32) (m : Nat) : upd (zF F m) m 0 = zF F (m + 1) := by
  funext q
  simp only [upd, zF]
  by_cases c : q = m
  · rw [if_pos c, if_pos (by omega)]
  · rw [if_neg c]
    by_cases c2 : q < m
    · rw [if_pos c2, if_pos (by omega)]
    · rw [if_neg c2, if_neg (by omega)]
theorem zF_0 (F : Nat → Int32) : zF F 0 = F := by
  funext q
  simp only [zF]
  rw [if_neg (by omega)]
def zM (F : Nat → Int32) (a m : Nat) : Nat → Int32 := fun q => if a ≤ q ∧ q < a + m then 0 else F q
theorem zM_s (F : Nat → Int32) (a m : Nat) : upd (zM F a m) (a + m) 0 = zM F a (m + 1) := by
  funext q
  simp only [upd, zM]
  by_cases c : q = a + m
  · rw [if_pos c, if_pos (by omega)]
  · rw [if_neg c]
    by_cases c2 : a ≤ q ∧ q < a + m
    · rw [if_pos c2, if_pos (by omega)]
    · rw [if_neg c2, if_neg (by omega)]
theorem zM_0 (F : Nat → Int32) (a : Nat) : zM F a 0 = F := by
  funext q
  simp only [zM]
  rw [if_neg (by omega)]
theorem k_begin_l_0 (d : Nat) (b n : Int32) (σ : Hs) (F : Nat → Int32) : ∀ m k, k + m = 24 → ru d 47 17 [.ref 77, .int b, .int n, .int (nI k)] [] (rep σ 78 (zF F k)) = some (none, rep σ 78 (zF F 24)) := by
  intro m
  induction m with
  | zero =>
    intro k hk
    obtain rfl : k = 24 := by omega
    simp only [s47_17]
    simp only [s47_18, s47_20, s47_36, show (24 : Int32) ≤ nI 24 from Int32.le_refl _, simprocAttr, if_true, if_false, true_and, and_true, false_and, and_false, not_false_eq_true, not_true_eq_false, gd_T, kont_i, kont_v]
  | succ m ih =>
    intro k hk
    have k31 : k < 2147483648 := by omega
    have k24 : k < 24 := by omega
    have e : (24 ≤ nI k) = False := by rw [show (24 : Int32) = nI 24 from rfl, le_nn (by omega) k31]; exact eq_false (by omega)
    have hi := ih (k + 1) (by omega)
    simp only [s47_17]
    simp only [s47_18, s47_20, s47_23, s47_24_o77, s47_24_o79, s47_24_o81, s47_24_o83, s47_27, s47_28, s47_29_o78, s47_29_o80, s47_29_o82, s47_29_o84, s47_30, s47_33, e, vp_nI k24, cl_nI k31, up2_rep, rep_self, rep_rep, zF_s, nI_1, hi, simprocAttr, if_true, if_false, true_and, and_true, false_and, and_false, not_false_eq_true, not_true_eq_false, gd_T, kont_i, kont_v]
theorem k_begin_0 (d n : Nat) (hn : n ≤ 24) (b : Int32) (σ : Hs) : callD (d + 1) 47 [.ref 77, .int b, .int (nI n)] σ = some (none, rep (rep σ 77 (upd (upd (σ 77) 1 b) 2 (nI n))) 78 (zF (σ 78) 24)) := by
  have hl := k_begin_l_0 d b (nI n) (rep σ 77 (upd (upd (σ 77) 1 b) 2 (nI n))) (σ 78) 24 0 rfl
  have e : rep (rep σ 77 (upd (upd (σ 77) 1 b) 2 (nI n))) 78 (σ 78) = rep σ 77 (upd (upd (σ 77) 1 b) 2 (nI n)) := by
    funext q
    rw [rep_at]
    by_cases c : q = 78
    · rw [if_pos c, c, rep_ne (by omega)]
    · rw [if_neg c]
  rw [zF_0, e, n_0] at hl
  have em : jmin (nI n) 24 = nI n := by rw [show (24 : Int32) = nI 24 from rfl, jmin_n (by omega) (by omega), Nat.min_eq_left hn]
  simp only [c47, s47_0, s47_1, s47_2_o77, s47_2_o79, s47_2_o81, s47_2_o83, s47_5, s47_6, s47_7, s47_9, s47_12_o77, s47_12_o79, s47_12_o81, s47_12_o83, s47_15, s47_16, em, up2_rep, rep_self, rep_rep, simprocAttr, if_true, if_false, true_and, and_true, false_and, and_false, not_false_eq_true, not_true_eq_false, gd_T, kont_i, kont_v]
  exact hl
theorem k_begin_l_1 (d : Nat) (b n : Int32) (σ : Hs) (F : Nat → Int32) : ∀ m k, k + m = 24 → ru d 47 17 [.ref 79, .int b, .int n, .int (nI k)] [] (rep σ 80 (zF F k)) = some (none, rep σ 80 (zF F 24)) := by
  intro m
  induction m with
  | zero =>
    intro k hk
    obtain rfl : k = 24 := by omega
    simp only [s47_17]
    simp only [s47_18, s47_20, s47_36, show (24 : Int32) ≤ nI 24 from Int32.le_refl _, simprocAttr, if_true, if_false, true_and, and_true, false_and, and_false, not_false_eq_true, not_true_eq_false, gd_T, kont_i, kont_v]
  | succ m ih =>
    intro k hk
    have k31 : k < 2147483648 := by omega
    have k24 : k < 24 := by omega
    have e : (24 ≤ nI k) = False := by rw [show (24 : Int32) = nI 24 from rfl, le_nn (by omega) k31]; exact eq_false (by omega)
    have hi := ih (k + 1) (by omega)
    simp only [s47_17]
    simp only [s47_18, s47_20, s47_23, s47_24_o77, s47_24_o79, s47_24_o81, s47_24_o83, s47_27, s47_28, s47_29_o78, s47_29_o80, s47_29_o82, s47_29_o84, s47_30, s47_33, e, vp_nI k24, cl_nI k31, up2_rep, rep_self, rep_rep, zF_s, nI_1, hi, simprocAttr, if_true, if_false, true_and, and_true, false_and, and_false, not_false_eq_true, not_true_eq_false, gd_T, kont_i, kont_v]
theorem k_begin_1 (d n : Nat) (hn : n ≤ 24) (b : Int32) (σ : Hs) : callD (d + 1) 47 [.ref 79, .int b, .int (nI n)] σ = some (none, rep (rep σ 79 (upd (upd (σ 79) 1 b) 2 (nI n))) 80 (zF (σ 80) 24)) := by
  have hl := k_begin_l_1 d b (nI n) (rep σ 79 (upd (upd (σ 79) 1 b) 2 (nI n))) (σ 80) 24 0 rfl
  have e : rep (rep σ 79 (upd (upd (σ 79) 1 b) 2 (nI n))) 80 (σ 80) = rep σ 79 (upd (upd (σ 79) 1 b) 2 (nI n)) := by
    funext q
    rw [rep_at]
    by_cases c : q = 80
    · rw [if_pos c, c, rep_ne (by omega)]
    · rw [if_neg c]
  rw [zF_0, e, n_0] at hl
  have em : jmin (nI n) 24 = nI n := by rw [show (24 : Int32) = nI 24 from rfl, jmin_n (by omega) (by omega), Nat.min_eq_left hn]
  simp only [c47, s47_0, s47_1, s47_2_o77, s47_2_o79, s47_2_o81, s47_2_o83, s47_5, s47_6, s47_7, s47_9, s47_12_o77, s47_12_o79, s47_12_o81, s47_12_o83, s47_15, s47_16, em, up2_rep, rep_self, rep_rep, simprocAttr, if_true, if_false, true_and, and_true, false_and, and_false, not_false_eq_true, not_true_eq_false, gd_T, kont_i, kont_v]
  exact hl
theorem k_begin_l_2 (d : Nat) (b n : Int32) (σ : Hs) (F : Nat → Int32) : ∀ m k, k + m = 24 → ru d 47 17 [.ref 81, .int b, .int n, .int (nI k)] [] (rep σ 82 (zF F k)) = some (none, rep σ 82 (zF F 24)) := by
  intro m
  induction m with
  | zero =>
    intro k hk
    obtain rfl : k = 24 := by omega
    simp only [s47_17]
    simp only [s47_18, s47_20, s47_36, show (24 : Int32) ≤ nI 24 from Int32.le_refl _, simprocAttr, if_true, if_false, true_and, and_true, false_and, and_false, not_false_eq_true, not_true_eq_false, gd_T, kont_i, kont_v]
  | succ m ih =>
    intro k hk
    have k31 : k < 2147483648 := by omega
    have k24 : k < 24 := by omega
    have e : (24 ≤ nI k) = False := by rw [show (24 : Int32) = nI 24 from rfl, le_nn (by omega) k31]; exact eq_false (by omega)
    have hi := ih (k + 1) (by omega)
    simp only [s47_17]
    simp only [s47_18, s47_20, s47_23, s47_24_o77, s47_24_o79, s47_24_o81, s47_24_o83, s47_27, s47_28, s47_29_o78, s47_29_o80, s47_29_o82, s47_29_o84, s47_30, s47_33, e, vp_nI k24, cl_nI k31, up2_rep, rep_self, rep_rep, zF_s, nI_1, hi, simprocAttr, if_true, if_false, true_and, and_true, false_and, and_false, not_false_eq_true, not_true_eq_false, gd_T, kont_i, kont_v]
theorem k_begin_2 (d n : Nat) (hn : n ≤ 24) (b : Int32) (σ : Hs) : callD (d + 1) 47 [.ref 81, .int b, .int (nI n)] σ = some (none, rep (rep σ 81 (upd (upd (σ 81) 1 b) 2 (nI n))) 82 (zF (σ 82) 24)) := by
  have hl := k_begin_l_2 d b (nI n) (rep σ 81 (upd (upd (σ 81) 1 b) 2 (nI n))) (σ 82) 24 0 rfl
  have e : rep (rep σ 81 (upd (upd (σ 81) 1 b) 2 (nI n))) 82 (σ 82) = rep σ 81 (upd (upd (σ 81) 1 b) 2 (nI n)) := by
    funext q
    rw [rep_at]
    by_cases c : q = 82
    · rw [if_pos c, c, rep_ne (by omega)]
    · rw [if_neg c]
  rw [zF_0, e, n_0] at hl
  have em : jmin (nI n) 24 = nI n := by rw [show (24 : Int32) = nI 24 from rfl, jmin_n (by omega) (by omega), Nat.min_eq_left hn]
  simp only [c47, s47_0, s47_1, s47_2_o77, s47_2_o79, s47_2_o81, s47_2_o83, s47_5, s47_6, s47_7, s47_9, s47_12_o77, s47_12_o79, s47_12_o81, s47_12_o83, s47_15, s47_16, em, up2_rep, rep_self, rep_rep, simprocAttr, if_true, if_false, true_and, and_true, false_and, and_false, not_false_eq_true, not_true_eq_false, gd_T, kont_i, kont_v]
  exact hl
theorem k_begin_l_3 (d : Nat) (b n : Int32) (σ : Hs) (F : Nat → Int32) : ∀ m k, k + m = 24 → ru d 47 17 [.ref 83, .int b, .int n, .int (nI k)] [] (rep σ 84 (zF F k)) = some (none, rep σ 84 (zF F 24)) := by
  intro m
  induction m with
  | zero =>
    intro k hk
    obtain rfl : k = 24 := by omega
    simp only [s47_17]
    simp only [s47_18, s47_20, s47_36, show (24 : Int32) ≤ nI 24 from Int32.le_refl _, simprocAttr, if_true, if_false, true_and, and_true, false_and, and_false, not_false_eq_true, not_true_eq_false, gd_T, kont_i, kont_v]
  | succ m ih =>
    intro k hk
    have k31 : k < 2147483648 := by omega
    have k24 : k < 24 := by omega
    have e : (24 ≤ nI k) = False := by rw [show (24 : Int32) = nI 24 from rfl, le_nn (by omega) k31]; exact eq_false (by omega)
    have hi := ih (k + 1) (by omega)
    simp only [s47_17]
    simp only [s47_18, s47_20, s47_23, s47_24_o77, s47_24_o79, s47_24_o81, s47_24_o83, s47_27, s47_28, s47_29_o78, s47_29_o80, s47_29_o82, s47_29_o84, s47_30, s47_33, e, vp_nI k24, cl_nI k31, up2_rep, rep_self, rep_rep, zF_s, nI_1, hi, simprocAttr, if_true, if_false, true_and, and_true, false_and, and_false, not_false_eq_true, not_true_eq_false, gd_T, kont_i, kont_v]
theorem k_begin_3 (d n : Nat) (hn : n ≤ 24) (b : Int32) (σ : Hs) : callD (d + 1) 47 [.ref 83, .int b, .int (nI n)] σ = some (none, rep (rep σ 83 (upd (upd (σ 83) 1 b) 2 (nI n))) 84 (zF (σ 84) 24)) := by
  have hl := k_begin_l_3 d b (nI n) (rep σ 83 (upd (upd (σ 83) 1 b) 2 (nI n))) (σ 84) 24 0 rfl
  have e : rep (rep σ 83 (upd (upd (σ 83) 1 b) 2 (nI n))) 84 (σ 84) = rep σ 83 (upd (upd (σ 83) 1 b) 2 (nI n)) := by
    funext q
    rw [rep_at]
    by_cases c : q = 84
    · rw [if_pos c, c, rep_ne (by omega)]
    · rw [if_neg c]
  rw [zF_0, e, n_0] at hl
  have em : jmin (nI n) 24 = nI n := by rw [show (24 : Int32) = nI 24 from rfl, jmin_n (by omega) (by omega), Nat.min_eq_left hn]
  simp only [c47, s47_0, s47_1, s47_2_o77, s47_2_o79, s47_2_o81, s47_2_o83, s47_5, s47_6, s47_7, s47_9, s47_12_o77, s47_12_o79, s47_12_o81, s47_12_o83, s47_15, s47_16, em, up2_rep, rep_self, rep_rep, simprocAttr, if_true, if_false, true_and, and_true, false_and, and_false, not_false_eq_true, not_true_eq_false, gd_T, kont_i, kont_v]
  exact hl
theorem m_sheet_l (d j : Nat) (hj : j < 4) (b n : Int32) (F : Nat → Int32) (σ : Hs) : ∀ m k, k + m = 24 → ru d 204 93 [.ref 87, .int (nI j), .int b, .int n, .int (nI k)] [] (rep σ 102 (zM F (24 * j) k)) = some (some (.int 1), rep σ 102 (zM F (24 * j) 24)) := by
  intro m
  induction m with
  | zero =>
    intro k hk
    obtain rfl : k = 24 := by omega
    simp only [s204_93]
    simp only [s204_95, s204_97, s204_119, s204_120, show (24 : Int32) ≤ nI 24 from Int32.le_refl _, simprocAttr, if_true, if_false, true_and, and_true, false_and, and_false, not_false_eq_true, not_true_eq_false, gd_T, kont_i, kont_v]
  | succ m ih =>
    intro k hk
    have k31 : k < 2147483648 := by omega
    have e : (24 ≤ nI k) = False := by rw [show (24 : Int32) = nI 24 from rfl, le_nn (by omega) k31]; exact eq_false (by omega)
    have hi := ih (k + 1) (by omega)
    have ix : (24 : Int32) * nI j + nI k = nI (24 * j + k) := by rw [show (24 : Int32) = nI 24 from rfl, pk_mul, nI_add]
    simp only [s204_93]
    simp only [s204_95, s204_97, s204_100, s204_101_o87, s204_104, s204_106, s204_107, s204_108, s204_110, s204_111, s204_112_o102, s204_113, s204_116, e, ix, vp_nI (show 24 * j + k < 96 by omega), cl_nI (show 24 * j + k < 2147483648 by omega), up2_rep, rep_self, rep_rep, zM_s, nI_1, hi, simprocAttr, if_true, if_false, true_and, and_true, false_and, and_false, not_false_eq_true, not_true_eq_false, gd_T, kont_i, kont_v]
def bitO (b : Int32) : Prop := b = 0 ∨ b = 8 ∨ b = 16 ∨ b = 32
theorem sheet_ok_0 {i : Nat} {σ : Hs} (h : RR i σ) (d n : Nat) (hn : n ≤ 24) (b x : Int32) (hb : bitO b) (c1 : callD (d + 100) 89 [.ref 0, .int 0, .int b, .int x] σ = some (some (.int 1), rep (rep σ 77 (upd (upd (σ 77) 1 b) 2 (nI n))) 78 (zF (σ 78) 24)))
    (c2 : ∀ τ : Hs, τ 100 = σ 100 → τ 101 = σ 101 → τ 102 = σ 102 → callD (d + 100) 204 [.ref 87, .int 0, .int b, .int x] τ = some (some (.int 1), rep (rep (rep τ 100 (upd (σ 100) 0 b)) 101 (upd (σ 101) 0 (nI n))) 102 (zM (σ 102) 0 24))) : Step d i 89 204 [.int 0, .int b, .int x] σ := by
  have c2 := c2 (rep (rep σ 77 (upd (upd (σ 77) 1 b) 2 (nI n))) 78 (zF (σ 78) 24)) ((rep_ne (by omega)).trans (rep_ne (by omega))) ((rep_ne (by omega)).trans (rep_ne (by omega))) ((rep_ne (by omega)).trans (rep_ne (by omega)))
  refine ⟨_, _, _, c1, c2, h.shx ?_ (h.wb.two c1 c2) (fun o ho => ?_)⟩
  · intro q hq
    obtain ⟨⟨a1, a2⟩, m, m1, m2, m3, m4⟩ := h.2.2.2.2.2.2.1 q hq
    by_cases c : q = 0
    · subst c
      refine ⟨⟨?_, ?_⟩, n, hn, ?_, ?_, fun k hk => ?_⟩
      · simp only [rep_at, upd_at, simprocAttr, if_true, if_false, true_and, and_true, false_and, and_false, not_false_eq_true, not_true_eq_false, gd_T, kont_i, kont_v]
      · simp only [rep_at, upd_at, simprocAttr, if_true, if_false, true_and, and_true, false_and, and_false, not_false_eq_true, not_true_eq_false, gd_T, kont_i, kont_v]; exact hb
      · simp only [rep_at, upd_at, simprocAttr, if_true, if_false, true_and, and_true, false_and, and_false, not_false_eq_true, not_true_eq_false, gd_T, kont_i, kont_v]
      · simp only [rep_at, upd_at, simprocAttr, if_true, if_false, true_and, and_true, false_and, and_false, not_false_eq_true, not_true_eq_false, gd_T, kont_i, kont_v]
      · simp only [rep_at, simprocAttr, if_true, if_false, true_and, and_true, false_and, and_false, not_false_eq_true, not_true_eq_false, gd_T, kont_i, kont_v]
        unfold zF zM
        rw [if_pos hk, if_pos (by omega)]
    · have e1 : ∀ o, (o = 77 + 2 * q ∨ o = 78 + 2 * q) → rep (rep (rep (rep (rep σ 77 (upd (upd (σ 77) 1 b) 2 (nI n))) 78 (zF (σ 78) 24)) 100 (upd (σ 100) 0 b)) 101 (upd (σ 101) 0 (nI n))) 102 (zM (σ 102) 0 24) o = σ o := fun o ho => by rw [rep_ne (by omega), rep_ne (by omega), rep_ne (by omega), rep_ne (by omega), rep_ne (by omega)]
      have e100 : rep (rep (rep (rep (rep σ 77 (upd (upd (σ 77) 1 b) 2 (nI n))) 78 (zF (σ 78) 24)) 100 (upd (σ 100) 0 b)) 101 (upd (σ 101) 0 (nI n))) 102 (zM (σ 102) 0 24) 100 q = σ 100 q := by
        rw [rep_ne (by omega), rep_ne (by omega), rep_self, upd_at, if_neg c]
      have e101 : rep (rep (rep (rep (rep σ 77 (upd (upd (σ 77) 1 b) 2 (nI n))) 78 (zF (σ 78) 24)) 100 (upd (σ 100) 0 b)) 101 (upd (σ 101) 0 (nI n))) 102 (zM (σ 102) 0 24) 101 q = σ 101 q := by
        rw [rep_ne (by omega), rep_self, upd_at, if_neg c]
      refine ⟨⟨?_, ?_⟩, m, m1, ?_, ?_, fun k hk => ?_⟩
      · rw [e1 _ (Or.inl rfl), e100]; exact a1
      · rw [e100]; exact a2
      · rw [e1 _ (Or.inl rfl)]; exact m2
      · rw [e101]; exact m3
      · rw [e1 _ (Or.inr rfl), rep_self]
        unfold zM
        rw [if_neg (by omega)]
        exact m4 k hk
  · rw [rep_ne (by omega), rep_ne (by omega), rep_ne (by omega), rep_ne (by omega), rep_ne (by omega)]
theorem L_sheet_0 {i : Nat} {σ : Hs} (h : RR i σ) (d : Nat) (b x : Int32) : Step d i 89 204 [.int 0, .int b, .int x] σ := by
  have hs : ((0 : Int32) ≤ 0 ∧ (0 : Int32) ≤ 3) = True := eq_true (by decide)
  have fin : ∀ τ : Hs, τ 100 = σ 100 → τ 101 = σ 101 → τ 102 = σ 102 → ∀ (n : Nat), ru (d + 99) 204 93 [.ref 87, .int 0, .int b, .int x, .int 0] [] (rep (rep τ 100 (upd (σ 100) 0 b)) 101 (upd (σ 101) 0 (nI n))) = some (some (.int 1), rep (rep (rep τ 100 (upd (σ 100) 0 b)) 101 (upd (σ 101) 0 (nI n))) 102 (zM (σ 102) 0 24)) := by
    intro τ t0 t1 t2 n
    have hl := m_sheet_l (d + 99) 0 (by omega) b x (σ 102) (rep (rep τ 100 (upd (σ 100) 0 b)) 101 (upd (σ 101) 0 (nI n))) 24 0 rfl
    have e : rep (rep (rep τ 100 (upd (σ 100) 0 b)) 101 (upd (σ 101) 0 (nI n))) 102 (σ 102) = rep (rep τ 100 (upd (σ 100) 0 b)) 101 (upd (σ 101) 0 (nI n)) := by
      rw [← t2]
      funext q
      rw [rep_at]
      by_cases c : q = 102
      · rw [if_pos c, c, rep_ne (by omega), rep_ne (by omega)]
      · rw [if_neg c]
    rw [zM_0, e] at hl
    exact hl
  by_cases b0 : b = 0
  · subst b0
    refine sheet_ok_0 h d 0 (by omega) 0 x (Or.inl rfl) ?_ (fun τ t0 t1 t2 => ?_)
    · have hb := k_begin_0 (d + 98) 0 (by omega) 0 σ
      rw [n_0] at hb ⊢
      simp only [c89, s89_0, s89_1, s89_4, s89_7, s89_8, s89_11, s89_12, s89_14, s89_17, s89_18, s89_20, s89_23, s89_24, s89_26, s89_29, s89_30, s89_31_o0, s89_34, s89_35, s89_36, s89_39, s89_40, s89_43, s89_44, s89_45_o0, s89_48, s89_49, s89_50, s89_53, s89_54, s89_56, s89_59, s89_60, s89_61_o0, s89_64, s89_65, s89_66_o0, s89_69, s89_70_o76, s89_71, s89_72, s89_73, s89_76, s89_77, s89_80, s89_81_o77, s89_81_o79, s89_81_o81, s89_81_o83, s89_84, s89_85, k_isSheet, hs, b2_t, vp_lit, cr76_0, hb, simprocAttr, if_true, if_false, true_and, and_true, false_and, and_false, not_false_eq_true, not_true_eq_false, gd_T, kont_i, kont_v]
    · have hf := fin τ t0 t1 t2 0
      rw [n_0] at hf ⊢
      rw [← hf]
      simp only [c204, s204_0, s204_1, s204_4, s204_7, s204_8, s204_11, s204_12, s204_14, s204_17, s204_18, s204_20, s204_23, s204_24, s204_26, s204_29, s204_30, s204_32_o87, s204_35, s204_36, s204_37, s204_40, s204_41, s204_44, s204_45, s204_47_o87, s204_50, s204_51, s204_52, s204_55, s204_56, s204_58, s204_61, s204_62, s204_64_o87, s204_67, s204_68, s204_69_o87, s204_72, s204_73, s204_74_o100, s204_75, s204_76_o87, s204_79, s204_80, s204_81, s204_84, s204_85, s204_88, s204_89_o101, s204_90, s204_91, m_isSheet, hs, b2_t, vp_lit, up2_rep, rep_at, t0, t1, simprocAttr, if_true, if_false, true_and, and_true, false_and, and_false, not_false_eq_true, not_true_eq_false, gd_T, kont_i, kont_v]
  by_cases b8 : b = 8
  · subst b8
    by_cases x0 : x < 0
    · refine Step_err h 3 (v := -1000003) ?_ ?_
      · have q := eq_false (Int32.not_le.mpr x0)
        simp only [c89, s89_0, s89_1, s89_4, s89_7, s89_8, s89_11, s89_12, s89_14, s89_17, s89_18, s89_20, s89_23, s89_24, s89_26, s89_29, s89_30, s89_31_o0, s89_34, s89_35, s89_36, s89_39, s89_40, s89_43, s89_44, s89_45_o0, s89_48, s89_49, s89_50, s89_53, s89_54, s89_56, s89_59, s89_60, s89_61_o0, s89_64, s89_65, s89_66_o0, s89_69, s89_70_o76, s89_71, s89_72, s89_73, s89_76, s89_77, s89_80, s89_81_o77, s89_81_o79, s89_81_o81, s89_81_o83, s89_84, s89_85, k_isSheet, hs, b2_t, q, k_failed_3, simprocAttr, if_true, if_false, true_and, and_true, false_and, and_false, not_false_eq_true, not_true_eq_false, gd_T, kont_i, kont_v]
      · have q := eq_false (Int32.not_le.mpr x0)
        simp only [c204, s204_0, s204_1, s204_4, s204_7, s204_8, s204_11, s204_12, s204_14, s204_17, s204_18, s204_20, s204_23, s204_24, s204_26, s204_29, s204_30, s204_32_o87, s204_35, s204_36, s204_37, s204_40, s204_41, s204_44, s204_45, s204_47_o87, s204_50, s204_51, s204_52, s204_55, s204_56, s204_58, s204_61, s204_62, s204_64_o87, s204_67, s204_68, s204_69_o87, s204_72, s204_73, s204_74_o100, s204_75, s204_76_o87, s204_79, s204_80, s204_81, s204_84, s204_85, s204_88, s204_89_o101, s204_90, s204_91, m_isSheet, hs, b2_t, q, m_fin_3, simprocAttr, if_true, if_false, true_and, and_true, false_and, and_false, not_false_eq_true, not_true_eq_false, gd_T, kont_i, kont_v]
    · have q := eq_true (Int32.not_lt.mp x0)
      by_cases x1 : x ≤ 24
      · have q1 := eq_true x1
        obtain ⟨n, hn, rfl⟩ := nI_of x0
        have n24 : n ≤ 24 := by rw [show (24 : Int32) = nI 24 from rfl, le_nn hn (by omega)] at x1; exact x1
        refine sheet_ok_0 h d n n24 8 (nI n) (by unfold bitO; simp) ?_ (fun τ t0 t1 t2 => ?_)
        · have hb := k_begin_0 (d + 98) n n24 8 σ
          simp only [c89, s89_0, s89_1, s89_4, s89_7, s89_8, s89_11, s89_12, s89_14, s89_17, s89_18, s89_20, s89_23, s89_24, s89_26, s89_29, s89_30, s89_31_o0, s89_34, s89_35, s89_36, s89_39, s89_40, s89_43, s89_44, s89_45_o0, s89_48, s89_49, s89_50, s89_53, s89_54, s89_56, s89_59, s89_60, s89_61_o0, s89_64, s89_65, s89_66_o0, s89_69, s89_70_o76, s89_71, s89_72, s89_73, s89_76, s89_77, s89_80, s89_81_o77, s89_81_o79, s89_81_o81, s89_81_o83, s89_84, s89_85, k_isSheet, hs, b2_t, q, q1, vp_lit, cr76_0, hb, simprocAttr, if_true, if_false, true_and, and_true, false_and, and_false, not_false_eq_true, not_true_eq_false, gd_T, kont_i, kont_v]
        · have hf := fin τ t0 t1 t2 n
          rw [← hf]
          simp only [c204, s204_0, s204_1, s204_4, s204_7, s204_8, s204_11, s204_12, s204_14, s204_17, s204_18, s204_20, s204_23, s204_24, s204_26, s204_29, s204_30, s204_32_o87, s204_35, s204_36, s204_37, s204_40, s204_41, s204_44, s204_45, s204_47_o87, s204_50, s204_51, s204_52, s204_55, s204_56, s204_58, s204_61, s204_62, s204_64_o87, s204_67, s204_68, s204_69_o87, s204_72, s204_73, s204_74_o100, s204_75, s204_76_o87, s204_79, s204_80, s204_81, s204_84, s204_85, s204_88, s204_89_o101, s204_90, s204_91, m_isSheet, hs, b2_t, q, q1, vp_lit, up2_rep, rep_at, t0, t1, simprocAttr, if_true, if_false, true_and, and_true, false_and, and_false, not_false_eq_true, not_true_eq_false, gd_T, kont_i, kont_v]
      · have q1 := eq_false x1
        refine Step_err h 1 (v := -1000001) ?_ ?_
        · simp only [c89, s89_0, s89_1, s89_4, s89_7, s89_8, s89_11, s89_12, s89_14, s89_17, s89_18, s89_20, s89_23, s89_24, s89_26, s89_29, s89_30, s89_31_o0, s89_34, s89_35, s89_36, s89_39, s89_40, s89_43, s89_44, s89_45_o0, s89_48, s89_49, s89_50, s89_53, s89_54, s89_56, s89_59, s89_60, s89_61_o0, s89_64, s89_65, s89_66_o0, s89_69, s89_70_o76, s89_71, s89_72, s89_73, s89_76, s89_77, s89_80, s89_81_o77, s89_81_o79, s89_81_o81, s89_81_o83, s89_84, s89_85, k_isSheet, hs, b2_t, q, q1, k_failed_1, simprocAttr, if_true, if_false, true_and, and_true, false_and, and_false, not_false_eq_true, not_true_eq_false, gd_T, kont_i, kont_v]
        · simp only [c204, s204_0, s204_1, s204_4, s204_7, s204_8, s204_11, s204_12, s204_14, s204_17, s204_18, s204_20, s204_23, s204_24, s204_26, s204_29, s204_30, s204_32_o87, s204_35, s204_36, s204_37, s204_40, s204_41, s204_44, s204_45, s204_47_o87, s204_50, s204_51, s204_52, s204_55, s204_56, s204_58, s204_61, s204_62, s204_64_o87, s204_67, s204_68, s204_69_o87, s204_72, s204_73, s204_74_o100, s204_75, s204_76_o87, s204_79, s204_80, s204_81, s204_84, s204_85, s204_88, s204_89_o101, s204_90, s204_91, m_isSheet, hs, b2_t, q, q1, m_fin_1, simprocAttr, if_true, if_false, true_and, and_true, false_and, and_false, not_false_eq_true, not_true_eq_false, gd_T, kont_i, kont_v]
  by_cases b16 : b = 16
  · subst b16
    by_cases x0 : x < 0
    · refine Step_err h 3 (v := -1000003) ?_ ?_
      · have q := eq_false (Int32.not_le.mpr x0)
        simp only [c89, s89_0, s89_1, s89_4, s89_7, s89_8, s89_11, s89_12, s89_14, s89_17, s89_18, s89_20, s89_23, s89_24, s89_26, s89_29, s89_30, s89_31_o0, s89_34, s89_35, s89_36, s89_39, s89_40, s89_43, s89_44, s89_45_o0, s89_48, s89_49, s89_50, s89_53, s89_54, s89_56, s89_59, s89_60, s89_61_o0, s89_64, s89_65, s89_66_o0, s89_69, s89_70_o76, s89_71, s89_72, s89_73, s89_76, s89_77, s89_80, s89_81_o77, s89_81_o79, s89_81_o81, s89_81_o83, s89_84, s89_85, k_isSheet, hs, b2_t, q, k_failed_3, simprocAttr, if_true, if_false, true_and, and_true, false_and, and_false, not_false_eq_true, not_true_eq_false, gd_T, kont_i, kont_v]
      · have q := eq_false (Int32.not_le.mpr x0)
        simp only [c204, s204_0, s204_1, s204_4, s204_7, s204_8, s204_11, s204_12, s204_14, s204_17, s204_18, s204_20, s204_23, s204_24, s204_26, s204_29, s204_30, s204_32_o87, s204_35, s204_36, s204_37, s204_40, s204_41, s204_44, s204_45, s204_47_o87, s204_50, s204_51, s204_52, s204_55, s204_56, s204_58, s204_61, s204_62, s204_64_o87, s204_67, s204_68, s204_69_o87, s204_72, s204_73, s204_74_o100, s204_75, s204_76_o87, s204_79, s204_80, s204_81, s204_84, s204_85, s204_88, s204_89_o101, s204_90, s204_91, m_isSheet, hs, b2_t, q, m_fin_3, simprocAttr, if_true, if_false, true_and, and_true, false_and, and_false, not_false_eq_true, not_true_eq_false, gd_T, kont_i, kont_v]
    · have q := eq_true (Int32.not_lt.mp x0)
      by_cases x1 : x ≤ 24
      · have q1 := eq_true x1
        obtain ⟨n, hn, rfl⟩ := nI_of x0
        have n24 : n ≤ 24 := by rw [show (24 : Int32) = nI 24 from rfl, le_nn hn (by omega)] at x1; exact x1
        refine sheet_ok_0 h d n n24 16 (nI n) (by unfold bitO; simp) ?_ (fun τ t0 t1 t2 => ?_)
        · have hb := k_begin_0 (d + 98) n n24 16 σ
          simp only [c89, s89_0, s89_1, s89_4, s89_7, s89_8, s89_11, s89_12, s89_14, s89_17, s89_18, s89_20, s89_23, s89_24, s89_26, s89_29, s89_30, s89_31_o0, s89_34, s89_35, s89_36, s89_39, s89_40, s89_43, s89_44, s89_45_o0, s89_48, s89_49, s89_50, s89_53, s89_54, s89_56, s89_59, s89_60, s89_61_o0, s89_64, s89_65, s89_66_o0, s89_69, s89_70_o76, s89_71, s89_72, s89_73, s89_76, s89_77, s89_80, s89_81_o77, s89_81_o79, s89_81_o81, s89_81_o83, s89_84, s89_85, k_isSheet, hs, b2_t, q, q1, vp_lit, cr76_0, hb, simprocAttr, if_true, if_false, true_and, and_true, false_and, and_false, not_false_eq_true, not_true_eq_false, gd_T, kont_i, kont_v]
        · have hf := fin τ t0 t1 t2 n
          rw [← hf]
          simp only [c204, s204_0, s204_1, s204_4, s204_7, s204_8, s204_11, s204_12, s204_14, s204_17, s204_18, s204_20, s204_23, s204_24, s204_26, s204_29, s204_30, s204_32_o87, s204_35, s204_36, s204_37, s204_40, s204_41, s204_44, s204_45, s204_47_o87, s204_50, s204_51, s204_52, s204_55, s204_56, s204_58, s204_61, s204_62, s204_64_o87, s204_67, s204_68, s204_69_o87, s204_72, s204_73, s204_74_o100, s204_75, s204_76_o87, s204_79, s204_80, s204_81, s204_84, s204_85, s204_88, s204_89_o101, s204_90, s204_91, m_isSheet, hs, b2_t, q, q1, vp_lit, up2_rep, rep_at, t0, t1, simprocAttr, if_true, if_false, true_and, and_true, false_and, and_false, not_false_eq_true, not_true_eq_false, gd_T, kont_i, kont_v]
      · have q1 := eq_false x1
        refine Step_err h 1 (v := -1000001) ?_ ?_
        · simp only [c89, s89_0, s89_1, s89_4, s89_7, s89_8, s89_11, s89_12, s89_14, s89_17, s89_18, s89_20, s89_23, s89_24, s89_26, s89_29, s89_30, s89_31_o0, s89_34, s89_35, s89_36, s89_39, s89_40, s89_43, s89_44, s89_45_o0, s89_48, s89_49, s89_50, s89_53, s89_54, s89_56, s89_59, s89_60, s89_61_o0, s89_64, s89_65, s89_66_o0, s89_69, s89_70_o76, s89_71, s89_72, s89_73, s89_76, s89_77, s89_80, s89_81_o77, s89_81_o79, s89_81_o81, s89_81_o83, s89_84, s89_85, k_isSheet, hs, b2_t, q, q1, k_failed_1, simprocAttr, if_true, if_false, true_and, and_true, false_and, and_false, not_false_eq_true, not_true_eq_false, gd_T, kont_i, kont_v]
        · simp only [c204, s204_0, s204_1, s204_4, s204_7, s204_8, s204_11, s204_12, s204_14, s204_17, s204_18, s204_20, s204_23, s204_24, s204_26, s204_29, s204_30, s204_32_o87, s204_35, s204_36, s204_37, s204_40, s204_41, s204_44, s204_45, s204_47_o87, s204_50, s204_51, s204_52, s204_55, s204_56, s204_58, s204_61, s204_62, s204_64_o87, s204_67, s204_68, s204_69_o87, s204_72, s204_73, s204_74_o100, s204_75, s204_76_o87, s204_79, s204_80, s204_81, s204_84, s204_85, s204_88, s204_89_o101, s204_90, s204_91, m_isSheet, hs, b2_t, q, q1, m_fin_1, simprocAttr, if_true, if_false, true_and, and_true, false_and, and_false, not_false_eq_true, not_true_eq_false, gd_T, kont_i, kont_v]
  by_cases b32 : b = 32
  · subst b32
    by_cases x0 : x < 0
    · refine Step_err h 3 (v := -1000003) ?_ ?_
      · have q := eq_false (Int32.not_le.mpr x0)
        simp only [c89, s89_0, s89_1, s89_4, s89_7, s89_8, s89_11, s89_12, s89_14, s89_17, s89_18, s89_20, s89_23, s89_24, s89_26, s89_29, s89_30, s89_31_o0, s89_34, s89_35, s89_36, s89_39, s89_40, s89_43, s89_44, s89_45_o0, s89_48, s89_49, s89_50, s89_53, s89_54, s89_56, s89_59, s89_60, s89_61_o0, s89_64, s89_65, s89_66_o0, s89_69, s89_70_o76, s89_71, s89_72, s89_73, s89_76, s89_77, s89_80, s89_81_o77, s89_81_o79, s89_81_o81, s89_81_o83, s89_84, s89_85, k_isSheet, hs, b2_t, q, k_failed_3, simprocAttr, if_true, if_false, true_and, and_true, false_and, and_false, not_false_eq_true, not_true_eq_false, gd_T, kont_i, kont_v]
      · have q := eq_false (Int32.not_le.mpr x0)
        simp only [c204, s204_0, s204_1, s204_4, s204_7, s204_8, s204_11, s204_12, s204_14, s204_17, s204_18, s204_20, s204_23, s204_24, s204_26, s204_29, s204_30, s204_32_o87, s204_35, s204_36, s204_37, s204_40, s204_41, s204_44, s204_45, s204_47_o87, s204_50, s204_51, s204_52, s204_55, s204_56, s204_58, s204_61, s204_62, s204_64_o87, s204_67, s204_68, s204_69_o87, s204_72, s204_73, s204_74_o100, s204_75, s204_76_o87, s204_79, s204_80, s204_81, s204_84, s204_85, s204_88, s204_89_o101, s204_90, s204_91, m_isSheet, hs, b2_t, q, m_fin_3, simprocAttr, if_true, if_false, true_and, and_true, false_and, and_false, not_false_eq_true, not_true_eq_false, gd_T, kont_i, kont_v]
    · have q := eq_true (Int32.not_lt.mp x0)
      by_cases x1 : x ≤ 24
      · have q1 := eq_true x1
        obtain ⟨n, hn, rfl⟩ := nI_of x0
        have n24 : n ≤ 24 := by rw [show (24 : Int32) = nI 24 from rfl, le_nn hn (by omega)] at x1; exact x1
        refine sheet_ok_0 h d n n24 32 (nI n) (by unfold bitO; simp) ?_ (fun τ t0 t1 t2 => ?_)
        · have hb := k_begin_0 (d + 98) n n24 32 σ
          simp only [c89, s89_0, s89_1, s89_4, s89_7, s89_8, s89_11, s89_12, s89_14, s89_17, s89_18, s89_20, s89_23, s89_24, s89_26, s89_29, s89_30, s89_31_o0, s89_34, s89_35, s89_36, s89_39, s89_40, s89_43, s89_44, s89_45_o0, s89_48, s89_49, s89_50, s89_53, s89_54, s89_56, s89_59, s89_60, s89_61_o0, s89_64, s89_65, s89_66_o0, s89_69, s89_70_o76, s89_71, s89_72, s89_73, s89_76, s89_77, s89_80, s89_81_o77, s89_81_o79, s89_81_o81, s89_81_o83, s89_84, s89_85, k_isSheet, hs, b2_t, q, q1, vp_lit, cr76_0, hb, simprocAttr, if_true, if_false, true_and, and_true, false_and, and_false, not_false_eq_true, not_true_eq_false, gd_T, kont_i, kont_v]
        · have hf := fin τ t0 t1 t2 n
          rw [← hf]
          simp only [c204, s204_0, s204_1, s204_4, s204_7, s204_8, s204_11, s204_12, s204_14, s204_17, s204_18, s204_20, s204_23, s204_24, s204_26, s204_29, s204_30, s204_32_o87, s204_35, s204_36, s204_37, s204_40, s204_41, s204_44, s204_45, s204_47_o87, s204_50, s204_51, s204_52, s204_55, s204_56, s204_58, s204_61, s204_62, s204_64_o87, s204_67, s204_68, s204_69_o87, s204_72, s204_73, s204_74_o100, s204_75, s204_76_o87, s204_79, s204_80, s204_81, s204_84, s204_85, s204_88, s204_89_o101, s204_90, s204_91, m_isSheet, hs, b2_t, q, q1, vp_lit, up2_rep, rep_at, t0, t1, simprocAttr, if_true, if_false, true_and, and_true, false_and, and_false, not_false_eq_true, not_true_eq_false, gd_T, kont_i, kont_v]
      · have q1 := eq_false x1
        refine Step_err h 1 (v := -1000001) ?_ ?_
        · simp only [c89, s89_0, s89_1, s89_4, s89_7, s89_8, s89_11, s89_12, s89_14, s89_17, s89_18, s89_20, s89_23, s89_24, s89_26, s89_29, s89_30, s89_31_o0, s89_34, s89_35, s89_36, s89_39, s89_40, s89_43, s89_44, s89_45_o0, s89_48, s89_49, s89_50, s89_53, s89_54, s89_56, s89_59, s89_60, s89_61_o0, s89_64, s89_65, s89_66_o0, s89_69, s89_70_o76, s89_71, s89_72, s89_73, s89_76, s89_77, s89_80, s89_81_o77, s89_81_o79, s89_81_o81, s89_81_o83, s89_84, s89_85, k_isSheet, hs, b2_t, q, q1, k_failed_1, simprocAttr, if_true, if_false, true_and, and_true, false_and, and_false, not_false_eq_true, not_true_eq_false, gd_T, kont_i, kont_v]
        · simp only [c204, s204_0, s204_1, s204_4, s204_7, s204_8, s204_11, s204_12, s204_14, s204_17, s204_18, s204_20, s204_23, s204_24, s204_26, s204_29, s204_30, s204_32_o87, s204_35, s204_36, s204_37, s204_40, s204_41, s204_44, s204_45, s204_47_o87, s204_50, s204_51, s204_52, s204_55, s204_56, s204_58, s204_61, s204_62, s204_64_o87, s204_67, s204_68, s204_69_o87, s204_72, s204_73, s204_74_o100, s204_75, s204_76_o87, s204_79, s204_80, s204_81, s204_84, s204_85, s204_88, s204_89_o101, s204_90, s204_91, m_isSheet, hs, b2_t, q, q1, m_fin_1, simprocAttr, if_true, if_false, true_and, and_true, false_and, and_false, not_false_eq_true, not_true_eq_false, gd_T, kont_i, kont_v]
  refine Step_err h 1 (v := -1000001) ?_ ?_
  · simp only [c89, s89_0, s89_1, s89_4, s89_7, s89_8, s89_11, s89_12, s89_14, s89_17, s89_18, s89_20, s89_23, s89_24, s89_26, s89_29, s89_30, s89_31_o0, s89_34, s89_35, s89_36, s89_39, s89_40, s89_43, s89_44, s89_45_o0, s89_48, s89_49, s89_50, s89_53, s89_54, s89_56, s89_59, s89_60, s89_61_o0, s89_64, s89_65, s89_66_o0, s89_69, s89_70_o76, s89_71, s89_72, s89_73, s89_76, s89_77, s89_80, s89_81_o77, s89_81_o79, s89_81_o81, s89_81_o83, s89_84, s89_85, k_isSheet, hs, b2_t, b0, b8, b16, b32, k_failed_1, simprocAttr, if_true, if_false, true_and, and_true, false_and, and_false, not_false_eq_true, not_true_eq_false, gd_T, kont_i, kont_v]
  · simp only [c204, s204_0, s204_1, s204_4, s204_7, s204_8, s204_11, s204_12, s204_14, s204_17, s204_18, s204_20, s204_23, s204_24, s204_26, s204_29, s204_30, s204_32_o87, s204_35, s204_36, s204_37, s204_40, s204_41, s204_44, s204_45, s204_47_o87, s204_50, s204_51, s204_52, s204_55, s204_56, s204_58, s204_61, s204_62, s204_64_o87, s204_67, s204_68, s204_69_o87, s204_72, s204_73, s204_74_o100, s204_75, s204_76_o87, s204_79, s204_80, s204_81, s204_84, s204_85, s204_88, s204_89_o101, s204_90, s204_91, m_isSheet, hs, b2_t, b0, b8, b16, b32, m_fin_1, simprocAttr, if_true, if_false, true_and, and_true, false_and, and_false, not_false_eq_true, not_true_eq_false, gd_T, kont_i, kont_v]
theorem sheet_ok_1 {i : Nat} {σ : Hs} (h : RR i σ) (d n : Nat) (hn : n ≤ 24) (b x : Int32) (hb : bitO b) (c1 : callD (d + 100) 89 [.ref 0, .int 1, .int b, .int x] σ = some (some (.int 1), rep (rep σ 79 (upd (upd (σ 79) 1 b) 2 (nI n))) 80 (zF (σ 80) 24)))
    (c2 : ∀ τ : Hs, τ 100 = σ 100 → τ 101 = σ 101 → τ 102 = σ 102 → callD (d + 100) 204 [.ref 87, .int 1, .int b, .int x] τ = some (some (.int 1), rep (rep (rep τ 100 (upd (σ 100) 1 b)) 101 (upd (σ 101) 1 (nI n))) 102 (zM (σ 102) 24 24))) : Step d i 89 204 [.int 1, .int b, .int x] σ := by
  have c2 := c2 (rep (rep σ 79 (upd (upd (σ 79) 1 b) 2 (nI n))) 80 (zF (σ 80) 24)) ((rep_ne (by omega)).trans (rep_ne (by omega))) ((rep_ne (by omega)).trans (rep_ne (by omega))) ((rep_ne (by omega)).trans (rep_ne (by omega)))
  refine ⟨_, _, _, c1, c2, h.shx ?_ (h.wb.two c1 c2) (fun o ho => ?_)⟩
  · intro q hq
    obtain ⟨⟨a1, a2⟩, m, m1, m2, m3, m4⟩ := h.2.2.2.2.2.2.1 q hq
    by_cases c : q = 1
    · subst c
      refine ⟨⟨?_, ?_⟩, n, hn, ?_, ?_, fun k hk => ?_⟩
      · simp only [rep_at, upd_at, simprocAttr, if_true, if_false, true_and, and_true, false_and, and_false, not_false_eq_true, not_true_eq_false, gd_T, kont_i, kont_v]
      · simp only [rep_at, upd_at, simprocAttr, if_true, if_false, true_and, and_true, false_and, and_false, not_false_eq_true, not_true_eq_false, gd_T, kont_i, kont_v]; exact hb
      · simp only [rep_at, upd_at, simprocAttr, if_true, if_false, true_and, and_true, false_and, and_false, not_false_eq_true, not_true_eq_false, gd_T, kont_i, kont_v]
      · simp only [rep_at, upd_at, simprocAttr, if_true, if_false, true_and, and_true, false_and, and_false, not_false_eq_true, not_true_eq_false, gd_T, kont_i, kont_v]
      · simp only [rep_at, simprocAttr, if_true, if_false, true_and, and_true, false_and, and_false, not_false_eq_true, not_true_eq_false, gd_T, kont_i, kont_v]
        unfold zF zM
        rw [if_pos hk, if_pos (by omega)]
    · have e1 : ∀ o, (o = 77 + 2 * q ∨ o = 78 + 2 * q) → rep (rep (rep (rep (rep σ 79 (upd (upd (σ 79) 1 b) 2 (nI n))) 80 (zF (σ 80) 24)) 100 (upd (σ 100) 1 b)) 101 (upd (σ 101) 1 (nI n))) 102 (zM (σ 102) 24 24) o = σ o := fun o ho => by rw [rep_ne (by omega), rep_ne (by omega), rep_ne (by omega), rep_ne (by omega), rep_ne (by omega)]
      have e100 : rep (rep (rep (rep (rep σ 79 (upd (upd (σ 79) 1 b) 2 (nI n))) 80 (zF (σ 80) 24)) 100 (upd (σ 100) 1 b)) 101 (upd (σ 101) 1 (nI n))) 102 (zM (σ 102) 24 24) 100 q = σ 100 q := by
        rw [rep_ne (by omega), rep_ne (by omega), rep_self, upd_at, if_neg c]
      have e101 : rep (rep (rep (rep (rep σ 79 (upd (upd (σ 79) 1 b) 2 (nI n))) 80 (zF (σ 80) 24)) 100 (upd (σ 100) 1 b)) 101 (upd (σ 101) 1 (nI n))) 102 (zM (σ 102) 24 24) 101 q = σ 101 q := by
        rw [rep_ne (by omega), rep_self, upd_at, if_neg c]
      refine ⟨⟨?_, ?_⟩, m, m1, ?_, ?_, fun k hk => ?_⟩
      · rw [e1 _ (Or.inl rfl), e100]; exact a1
      · rw [e100]; exact a2
      · rw [e1 _ (Or.inl rfl)]; exact m2
      · rw [e101]; exact m3
      · rw [e1 _ (Or.inr rfl), rep_self]
        unfold zM
        rw [if_neg (by omega)]
        exact m4 k hk
  · rw [rep_ne (by omega), rep_ne (by omega), rep_ne (by omega), rep_ne (by omega), rep_ne (by omega)]
theorem L_sheet_1 {i : Nat} {σ : Hs} (h : RR i σ) (d : Nat) (b x : Int32) : Step d i 89 204 [.int 1, .int b, .int x] σ := by
  have hs : ((0 : Int32) ≤ 1 ∧ (1 : Int32) ≤ 3) = True := eq_true (by decide)
  have fin : ∀ τ : Hs, τ 100 = σ 100 → τ 101 = σ 101 → τ 102 = σ 102 → ∀ (n : Nat), ru (d + 99) 204 93 [.ref 87, .int 1, .int b, .int x, .int 0] [] (rep (rep τ 100 (upd (σ 100) 1 b)) 101 (upd (σ 101) 1 (nI n))) = some (some (.int 1), rep (rep (rep τ 100 (upd (σ 100) 1 b)) 101 (upd (σ 101) 1 (nI n))) 102 (zM (σ 102) 24 24)) := by
    intro τ t0 t1 t2 n
    have hl := m_sheet_l (d + 99) 1 (by omega) b x (σ 102) (rep (rep τ 100 (upd (σ 100) 1 b)) 101 (upd (σ 101) 1 (nI n))) 24 0 rfl
    have e : rep (rep (rep τ 100 (upd (σ 100) 1 b)) 101 (upd (σ 101) 1 (nI n))) 102 (σ 102) = rep (rep τ 100 (upd (σ 100) 1 b)) 101 (upd (σ 101) 1 (nI n)) := by
      rw [← t2]
      funext q
      rw [rep_at]
      by_cases c : q = 102
      · rw [if_pos c, c, rep_ne (by omega), rep_ne (by omega)]
      · rw [if_neg c]
    rw [zM_0, e] at hl
    exact hl
  by_cases b0 : b = 0
  · subst b0
    refine sheet_ok_1 h d 0 (by omega) 0 x (Or.inl rfl) ?_ (fun τ t0 t1 t2 => ?_)
    · have hb := k_begin_1 (d + 98) 0 (by omega) 0 σ
      rw [n_0] at hb ⊢
      simp only [c89, s89_0, s89_1, s89_4, s89_7, s89_8, s89_11, s89_12, s89_14, s89_17, s89_18, s89_20, s89_23, s89_24, s89_26, s89_29, s89_30, s89_31_o0, s89_34, s89_35, s89_36, s89_39, s89_40, s89_43, s89_44, s89_45_o0, s89_48, s89_49, s89_50, s89_53, s89_54, s89_56, s89_59, s89_60, s89_61_o0, s89_64, s89_65, s89_66_o0, s89_69, s89_70_o76, s89_71, s89_72, s89_73, s89_76, s89_77, s89_80, s89_81_o77, s89_81_o79, s89_81_o81, s89_81_o83, s89_84, s89_85, k_isSheet, hs, b2_t, vp_lit, cr76_1, hb, simprocAttr, if_true, if_false, true_and, and_true, false_and, and_false, not_false_eq_true, not_true_eq_false, gd_T, kont_i, kont_v]
    · have hf := fin τ t0 t1 t2 0
      rw [n_0] at hf ⊢
      rw [← hf]
      simp only [c204, s204_0, s204_1, s204_4, s204_7, s204_8, s204_11, s204_12, s204_14, s204_17, s204_18, s204_20, s204_23, s204_24, s204_26, s204_29, s204_30, s204_32_o87, s204_35, s204_36, s204_37, s204_40, s204_41, s204_44, s204_45, s204_47_o87, s204_50, s204_51, s204_52, s204_55, s204_56, s204_58, s204_61, s204_62, s204_64_o87, s204_67, s204_68, s204_69_o87, s204_72, s204_73, s204_74_o100, s204_75, s204_76_o87, s204_79, s204_80, s204_81, s204_84, s204_85, s204_88, s204_89_o101, s204_90, s204_91, m_isSheet, hs, b2_t, vp_lit, up2_rep, rep_at, t0, t1, simprocAttr, if_true, if_false, true_and, and_true, false_and, and_false, not_false_eq_true, not_true_eq_false, gd_T, kont_i, kont_v]
  by_cases b8 : b = 8
  · subst b8
    by_cases x0 : x < 0
    · refine Step_err h 3 (v := -1000003) ?_ ?_
      · have q := eq_false (Int32.not_le.mpr x0)
        simp only [c89, s89_0, s89_1, s89_4, s89_7, s89_8, s89_11, s89_12, s89_14, s89_17, s89_18, s89_20, s89_23, s89_24, s89_26, s89_29, s89_30, s89_31_o0, s89_34, s89_35, s89_36, s89_39, s89_40, s89_43, s89_44, s89_45_o0, s89_48, s89_49, s89_50, s89_53, s89_54, s89_56, s89_59, s89_60, s89_61_o0, s89_64, s89_65, s89_66_o0, s89_69, s89_70_o76, s89_71, s89_72, s89_73, s89_76, s89_77, s89_80, s89_81_o77, s89_81_o79, s89_81_o81, s89_81_o83, s89_84, s89_85, k_isSheet, hs, b2_t, q, k_failed_3, simprocAttr, if_true, if_false, true_and, and_true, false_and, and_false, not_false_eq_true, not_true_eq_false, gd_T, kont_i, kont_v]
      · have q := eq_false (Int32.not_le.mpr x0)
        simp only [c204, s204_0, s204_1, s204_4, s204_7, s204_8, s204_11, s204_12, s204_14, s204_17, s204_18, s204_20, s204_23, s204_24, s204_26, s204_29, s204_30, s204_32_o87, s204_35, s204_36, s204_37, s204_40, s204_41, s204_44, s204_45, s204_47_o87, s204_50, s204_51, s204_52, s204_55, s204_56, s204_58, s204_61, s204_62, s204_64_o87, s204_67, s204_68, s204_69_o87, s204_72, s204_73, s204_74_o100, s204_75, s204_76_o87, s204_79, s204_80, s204_81, s204_84, s204_85, s204_88, s204_89_o101, s204_90, s204_91, m_isSheet, hs, b2_t, q, m_fin_3, simprocAttr, if_true, if_false, true_and, and_true, false_and, and_false, not_false_eq_true, not_true_eq_false, gd_T, kont_i, kont_v]
    · have q := eq_true (Int32.not_lt.mp x0)
      by_cases x1 : x ≤ 24
      · have q1 := eq_true x1
        obtain ⟨n, hn, rfl⟩ := nI_of x0
        have n24 : n ≤ 24 := by rw [show (24 : Int32) = nI 24 from rfl, le_nn hn (by omega)] at x1; exact x1
        refine sheet_ok_1 h d n n24 8 (nI n) (by unfold bitO; simp) ?_ (fun τ t0 t1 t2 => ?_)
        · have hb := k_begin_1 (d + 98) n n24 8 σ
          simp only [c89, s89_0, s89_1, s89_4, s89_7, s89_8, s89_11, s89_12, s89_14, s89_17, s89_18, s89_20, s89_23, s89_24, s89_26, s89_29, s89_30, s89_31_o0, s89_34, s89_35, s89_36, s89_39, s89_40, s89_43, s89_44, s89_45_o0, s89_48, s89_49, s89_50, s89_53, s89_54, s89_56, s89_59, s89_60, s89_61_o0, s89_64, s89_65, s89_66_o0, s89_69, s89_70_o76, s89_71, s89_72, s89_73, s89_76, s89_77, s89_80, s89_81_o77, s89_81_o79, s89_81_o81, s89_81_o83, s89_84, s89_85, k_isSheet, hs, b2_t, q, q1, vp_lit, cr76_1, hb, simprocAttr, if_true, if_false, true_and, and_true, false_and, and_false, not_false_eq_true, not_true_eq_false, gd_T, kont_i, kont_v]
        · have hf := fin τ t0 t1 t2 n
          rw [← hf]
          simp only [c204, s204_0, s204_1, s204_4, s204_7, s204_8, s204_11, s204_12, s204_14, s204_17, s204_18, s204_20, s204_23, s204_24, s204_26, s204_29, s204_30, s204_32_o87, s204_35, s204_36, s204_37, s204_40, s204_41, s204_44, s204_45, s204_47_o87, s204_50, s204_51, s204_52, s204_55, s204_56, s204_58, s204_61, s204_62, s204_64_o87, s204_67, s204_68, s204_69_o87, s204_72, s204_73, s204_74_o100, s204_75, s204_76_o87, s204_79, s204_80, s204_81, s204_84, s204_85, s204_88, s204_89_o101, s204_90, s204_91, m_isSheet, hs, b2_t, q, q1, vp_lit, up2_rep, rep_at, t0, t1, simprocAttr, if_true, if_false, true_and, and_true, false_and, and_false, not_false_eq_true, not_true_eq_false, gd_T, kont_i, kont_v]
      · have q1 := eq_false x1
        refine Step_err h 1 (v := -1000001) ?_ ?_
        · simp only [c89, s89_0, s89_1, s89_4, s89_7, s89_8, s89_11, s89_12, s89_14, s89_17, s89_18, s89_20, s89_23, s89_24, s89_26, s89_29, s89_30, s89_31_o0, s89_34, s89_35, s89_36, s89_39, s89_40, s89_43, s89_44, s89_45_o0, s89_48, s89_49, s89_50, s89_53, s89_54, s89_56, s89_59, s89_60, s89_61_o0, s89_64, s89_65, s89_66_o0, s89_69, s89_70_o76, s89_71, s89_72, s89_73, s89_76, s89_77, s89_80, s89_81_o77, s89_81_o79, s89_81_o81, s89_81_o83, s89_84, s89_85, k_isSheet, hs, b2_t, q, q1, k_failed_1, simprocAttr, if_true, if_false, true_and, and_true, false_and, and_false, not_false_eq_true, not_true_eq_false, gd_T, kont_i, kont_v]
        · simp only [c204, s204_0, s204_1, s204_4, s204_7, s204_8, s204_11, s204_12, s204_14, s204_17, s204_18, s204_20, s204_23, s204_24, s204_26, s204_29, s204_30, s204_32_o87, s204_35, s204_36, s204_37, s204_40, s204_41, s204_44, s204_45, s204_47_o87, s204_50, s204_51, s204_52, s204_55, s204_56, s204_58, s204_61, s204_62, s204_64_o87, s204_67, s204_68, s204_69_o87, s204_72, s204_73, s204_74_o100, s204_75, s204_76_o87, s204_79, s204_80, s204_81, s204_84, s204_85, s204_88, s204_89_o101, s204_90, s204_91, m_isSheet, hs, b2_t, q, q1, m_fin_1, simprocAttr, if_true, if_false, true_and, and_true, false_and, and_false, not_false_eq_true, not_true_eq_false, gd_T, kont_i, kont_v]
  by_cases b16 : b = 16
  · subst b16
    by_cases x0 : x < 0
    · refine Step_err h 3 (v := -1000003) ?_ ?_
      · have q := eq_false (Int32.not_le.mpr x0)
        simp only [c89, s89_0, s89_1, s89_4, s89_7, s89_8, s89_11, s89_12, s89_14, s89_17, s89_18, s89_20, s89_23, s89_24, s89_26, s89_29, s89_30, s89_31_o0, s89_34, s89_35, s89_36, s89_39, s89_40, s89_43, s89_44, s89_45_o0, s89_48, s89_49, s89_50, s89_53, s89_54, s89_56, s89_59, s89_60, s89_61_o0, s89_64, s89_65, s89_66_o0, s89_69, s89_70_o76, s89_71, s89_72, s89_73, s89_76, s89_77, s89_80, s89_81_o77, s89_81_o79, s89_81_o81, s89_81_o83, s89_84, s89_85, k_isSheet, hs, b2_t, q, k_failed_3, simprocAttr, if_true, if_false, true_and, and_true, false_and, and_false, not_false_eq_true, not_true_eq_false, gd_T, kont_i, kont_v]
      · have q := eq_false (Int32.not_le.mpr x0)
        simp only [c204, s204_0, s204_1, s204_4, s204_7, s204_8, s204_11, s204_12, s204_14, s204_17, s204_18, s204_20, s204_23, s204_24, s204_26, s204_29, s204_30, s204_32_o87, s204_35, s204_36, s204_37, s204_40, s204_41, s204_44, s204_45, s204_47_o87, s204_50, s204_51, s204_52, s204_55, s204_56, s204_58, s204_61, s204_62, s204_64_o87, s204_67, s204_68, s204_69_o87, s204_72, s204_73, s204_74_o100, s204_75, s204_76_o87, s204_79, s204_80, s204_81, s204_84, s204_85, s204_88, s204_89_o101, s204_90, s204_91, m_isSheet, hs, b2_t, q, m_fin_3, simprocAttr, if_true, if_false, true_and, and_true, false_and, and_false, not_false_eq_true, not_true_eq_false, gd_T, kont_i, kont_v]
    · have q := eq_true (Int32.not_lt.mp x0)
      by_cases x1 : x ≤ 24
      · have q1 := eq_true x1
        obtain ⟨n, hn, rfl⟩ := nI_of x0
        have n24 : n ≤ 24 := by rw [show (24 : Int32) = nI 24 from rfl, le_nn hn (by omega)] at x1; exact x1
        refine sheet_ok_1 h d n n24 16 (nI n) (by unfold bitO; simp) ?_ (fun τ t0 t1 t2 => ?_)
        · have hb := k_begin_1 (d + 98) n n24 16 σ
          simp only [c89, s89_0, s89_1, s89_4, s89_7, s89_8, s89_11, s89_12, s89_14, s89_17, s89_18, s89_20, s89_23, s89_24, s89_26, s89_29, s89_30, s89_31_o0, s89_34, s89_35, s89_36, s89_39, s89_40, s89_43, s89_44, s89_45_o0, s89_48, s89_49, s89_50, s89_53, s89_54, s89_56, s89_59, s89_60, s89_61_o0, s89_64, s89_65, s89_66_o0, s89_69, s89_70_o76, s89_71, s89_72, s89_73, s89_76, s89_77, s89_80, s89_81_o77, s89_81_o79, s89_81_o81, s89_81_o83, s89_84, s89_85, k_isSheet, hs, b2_t, q, q1, vp_lit, cr76_1, hb, simprocAttr, if_true, if_false, true_and, and_true, false_and, and_false, not_false_eq_true, not_true_eq_false, gd_T, kont_i, kont_v]
        · have hf := fin τ t0 t1 t2 n
          rw [← hf]
          simp only [c204, s204_0, s204_1, s204_4, s204_7, s204_8, s204_11, s204_12, s204_14, s204_17, s204_18, s204_20, s204_23, s204_24, s204_26, s204_29, s204_30, s204_32_o87, s204_35, s204_36, s204_37, s204_40, s204_41, s204_44, s204_45, s204_47_o87, s204_50, s204_51, s204_52, s204_55, s204_56, s204_58, s204_61, s204_62, s204_64_o87, s204_67, s204_68, s204_69_o87, s204_72, s204_73, s204_74_o100, s204_75, s204_76_o87, s204_79, s204_80, s204_81, s204_84, s204_85, s204_88, s204_89_o101, s204_90, s204_91, m_isSheet, hs, b2_t, q, q1, vp_lit, up2_rep, rep_at, t0, t1, simprocAttr, if_true, if_false, true_and, and_true, false_and, and_false, not_false_eq_true, not_true_eq_false, gd_T, kont_i, kont_v]
      · have q1 := eq_false x1
        refine Step_err h 1 (v := -1000001) ?_ ?_
        · simp only [c89, s89_0, s89_1, s89_4, s89_7, s89_8, s89_11, s89_12, s89_14, s89_17, s89_18, s89_20, s89_23, s89_24, s89_26, s89_29, s89_30, s89_31_o0, s89_34, s89_35, s89_36, s89_39, s89_40, s89_43, s89_44, s89_45_o0, s89_48, s89_49, s89_50, s89_53, s89_54, s89_56, s89_59, s89_60, s89_61_o0, s89_64, s89_65, s89_66_o0, s89_69, s89_70_o76, s89_71, s89_72, s89_73, s89_76, s89_77, s89_80, s89_81_o77, s89_81_o79, s89_81_o81, s89_81_o83, s89_84, s89_85, k_isSheet, hs, b2_t, q, q1, k_failed_1, simprocAttr, if_true, if_false, true_and, and_true, false_and, and_false, not_false_eq_true, not_true_eq_false, gd_T, kont_i, kont_v]
        · simp only [c204, s204_0, s204_1, s204_4, s204_7, s204_8, s204_11, s204_12, s204_14, s204_17, s204_18, s204_20, s204_23, s204_24, s204_26, s204_29, s204_30, s204_32_o87, s204_35, s204_36, s204_37, s204_40, s204_41, s204_44, s204_45, s204_47_o87, s204_50, s204_51, s204_52, s204_55, s204_56, s204_58, s204_61, s204_62, s204_64_o87, s204_67, s204_68, s204_69_o87, s204_72, s204_73, s204_74_o100, s204_75, s204_76_o87, s204_79, s204_80, s204_81, s204_84, s204_85, s204_88, s204_89_o101, s204_90, s204_91, m_isSheet, hs, b2_t, q, q1, m_fin_1, simprocAttr, if_true, if_false, true_and, and_true, false_and, and_false, not_false_eq_true, not_true_eq_false, gd_T, kont_i, kont_v]
  by_cases b32 : b = 32
  · subst b32
    by_cases x0 : x < 0
    · refine Step_err h 3 (v := -1000003) ?_ ?_
      · have q := eq_false (Int32.not_le.mpr x0)
        simp only [c89, s89_0, s89_1, s89_4, s89_7, s89_8, s89_11, s89_12, s89_14, s89_17, s89_18, s89_20, s89_23, s89_24, s89_26, s89_29, s89_30, s89_31_o0, s89_34, s89_35, s89_36, s89_39, s89_40, s89_43, s89_44, s89_45_o0, s89_48, s89_49, s89_50, s89_53, s89_54, s89_56, s89_59, s89_60, s89_61_o0, s89_64, s89_65, s89_66_o0, s89_69, s89_70_o76, s89_71, s89_72, s89_73, s89_76, s89_77, s89_80, s89_81_o77, s89_81_o79, s89_81_o81, s89_81_o83, s89_84, s89_85, k_isSheet, hs, b2_t, q, k_failed_3, simprocAttr, if_true, if_false, true_and, and_true, false_and, and_false, not_false_eq_true, not_true_eq_false, gd_T, kont_i, kont_v]
      · have q := eq_false (Int32.not_le.mpr x0)
        simp only [c204, s204_0, s204_1, s204_4, s204_7, s204_8, s204_11, s204_12, s204_14, s204_17, s204_18, s204_20, s204_23, s204_24, s204_26, s204_29, s204_30, s204_32_o87, s204_35, s204_36, s204_37, s204_40, s204_41, s204_44, s204_45, s204_47_o87, s204_50, s204_51, s204_52, s204_55, s204_56, s204_58, s204_61, s204_62, s204_64_o87, s204_67, s204_68, s204_69_o87, s204_72, s204_73, s204_74_o100, s204_75, s204_76_o87, s204_79, s204_80, s204_81, s204_84, s204_85, s204_88, s204_89_o101, s204_90, s204_91, m_isSheet, hs, b2_t, q, m_fin_3, simprocAttr, if_true, if_false, true_and, and_true, false_and, and_false, not_false_eq_true, not_true_eq_false, gd_T, kont_i, kont_v]
    · have q := eq_true (Int32.not_lt.mp x0)
      by_cases x1 : x ≤ 24
      · have q1 := eq_true x1
        obtain ⟨n, hn, rfl⟩ := nI_of x0
        have n24 : n ≤ 24 := by rw [show (24 : Int32) = nI 24 from rfl, le_nn hn (by omega)] at x1; exact x1
        refine sheet_ok_1 h d n n24 32 (nI n) (by unfold bitO; simp) ?_ (fun τ t0 t1 t2 => ?_)
        · have hb := k_begin_1 (d + 98) n n24 32 σ
          simp only [c89, s89_0, s89_1, s89_4, s89_7, s89_8, s89_11, s89_12, s89_14, s89_17, s89_18, s89_20, s89_23, s89_24, s89_26, s89_29, s89_30, s89_31_o0, s89_34, s89_35, s89_36, s89_39, s89_40, s89_43, s89_44, s89_45_o0, s89_48, s89_49, s89_50, s89_53, s89_54, s89_56, s89_59, s89_60, s89_61_o0, s89_64, s89_65, s89_66_o0, s89_69, s89_70_o76, s89_71, s89_72, s89_73, s89_76, s89_77, s89_80, s89_81_o77, s89_81_o79, s89_81_o81, s89_81_o83, s89_84, s89_85, k_isSheet, hs, b2_t, q, q1, vp_lit, cr76_1, hb, simprocAttr, if_true, if_false, true_and, and_true, false_and, and_false, not_false_eq_true, not_true_eq_false, gd_T, kont_i, kont_v]
        · have hf := fin τ t0 t1 t2 n
          rw [← hf]
          simp only [c204, s204_0, s204_1, s204_4, s204_7, s204_8, s204_11, s204_12, s204_14, s204_17, s204_18, s204_20, s204_23, s204_24, s204_26, s204_29, s204_30, s204_32_o87, s204_35, s204_36, s204_37, s204_40, s204_41, s204_44, s204_45, s204_47_o87, s204_50, s204_51, s204_52, s204_55, s204_56, s204_58, s204_61, s204_62, s204_64_o87, s204_67, s204_68, s204_69_o87, s204_72, s204_73, s204_74_o100, s204_75, s204_76_o87, s204_79, s204_80, s204_81, s204_84, s204_85, s204_88, s204_89_o101, s204_90, s204_91, m_isSheet, hs, b2_t, q, q1, vp_lit, up2_rep, rep_at, t0, t1, simprocAttr, if_true, if_false, true_and, and_true, false_and, and_false, not_false_eq_true, not_true_eq_false, gd_T, kont_i, kont_v]
      · have q1 := eq_false x1
        refine Step_err h 1 (v := -1000001) ?_ ?_
        · simp only [c89, s89_0, s89_1, s89_4, s89_7, s89_8, s89_11, s89_12, s89_14, s89_17, s89_18, s89_20, s89_23, s89_24, s89_26, s89_29, s89_30, s89_31_o0, s89_34, s89_35, s89_36, s89_39, s89_40, s89_43, s89_44, s89_45_o0, s89_48, s89_49, s89_50, s89_53, s89_54, s89_56, s89_59, s89_60, s89_61_o0, s89_64, s89_65, s89_66_o0, s89_69, s89_70_o76, s89_71, s89_72, s89_73, s89_76, s89_77, s89_80, s89_81_o77, s89_81_o79, s89_81_o81, s89_81_o83, s89_84, s89_85, k_isSheet, hs, b2_t, q, q1, k_failed_1, simprocAttr, if_true, if_false, true_and, and_true, false_and, and_false, not_false_eq_true, not_true_eq_false, gd_T, kont_i, kont_v]
        · simp only [c204, s204_0, s204_1, s204_4, s204_7, s204_8, s204_11, s204_12, s204_14, s204_17, s204_18, s204_20, s204_23, s204_24, s204_26, s204_29, s204_30, s204_32_o87, s204_35, s204_36, s204_37, s204_40, s204_41, s204_44, s204_45, s204_47_o87, s204_50, s204_51, s204_52, s204_55, s204_56, s204_58, s204_61, s204_62, s204_64_o87, s204_67, s204_68, s204_69_o87, s204_72, s204_73, s204_74_o100, s204_75, s204_76_o87, s204_79, s204_80, s204_81, s204_84, s204_85, s204_88, s204_89_o101, s204_90, s204_91, m_isSheet, hs, b2_t, q, q1, m_fin_1, simprocAttr, if_true, if_false, true_and, and_true, false_and, and_false, not_false_eq_true, not_true_eq_false, gd_T, kont_i, kont_v]
  refine Step_err h 1 (v := -1000001) ?_ ?_
  · simp only [c89, s89_0, s89_1, s89_4, s89_7, s89_8, s89_11, s89_12, s89_14, s89_17, s89_18, s89_20, s89_23, s89_24, s89_26, s89_29, s89_30, s89_31_o0, s89_34, s89_35, s89_36, s89_39, s89_40, s89_43, s89_44, s89_45_o0, s89_48, s89_49, s89_50, s89_53, s89_54, s89_56, s89_59, s89_60, s89_61_o0, s89_64, s89_65, s89_66_o0, s89_69, s89_70_o76, s89_71, s89_72, s89_73, s89_76, s89_77, s89_80, s89_81_o77, s89_81_o79, s89_81_o81, s89_81_o83, s89_84, s89_85, k_isSheet, hs, b2_t, b0, b8, b16, b32, k_failed_1, simprocAttr, if_true, if_false, true_and, and_true, false_and, and_false, not_false_eq_true, not_true_eq_false, gd_T, kont_i, kont_v]
  · simp only [c204, s204_0, s204_1, s204_4, s204_7, s204_8, s204_11, s204_12, s204_14, s204_17, s204_18, s204_20, s204_23, s204_24, s204_26, s204_29, s204_30, s204_32_o87, s204_35, s204_36, s204_37, s204_40, s204_41, s204_44, s204_45, s204_47_o87, s204_50, s204_51, s204_52, s204_55, s204_56, s204_58, s204_61, s204_62, s204_64_o87, s204_67, s204_68, s204_69_o87, s204_72, s204_73, s204_74_o100, s204_75, s204_76_o87, s204_79, s204_80, s204_81, s204_84, s204_85, s204_88, s204_89_o101, s204_90, s204_91, m_isSheet, hs, b2_t, b0, b8, b16, b32, m_fin_1, simprocAttr, if_true, if_false, true_and, and_true, false_and, and_false, not_false_eq_true, not_true_eq_false, gd_T, kont_i, kont_v]
theorem sheet_ok_2 {i : Nat} {σ : Hs} (h : RR i σ) (d n : Nat) (hn : n ≤ 24) (b x : Int32) (hb : bitO b) (c1 : callD (d + 100) 89 [.ref 0, .int 2, .int b, .int x] σ = some (some (.int 1), rep (rep σ 81 (upd (upd (σ 81) 1 b) 2 (nI n))) 82 (zF (σ 82) 24)))
    (c2 : ∀ τ : Hs, τ 100 = σ 100 → τ 101 = σ 101 → τ 102 = σ 102 → callD (d + 100) 204 [.ref 87, .int 2, .int b, .int x] τ = some (some (.int 1), rep (rep (rep τ 100 (upd (σ 100) 2 b)) 101 (upd (σ 101) 2 (nI n))) 102 (zM (σ 102) 48 24))) : Step d i 89 204 [.int 2, .int b, .int x] σ := by
  have c2 := c2 (rep (rep σ 81 (upd (upd (σ 81) 1 b) 2 (nI n))) 82 (zF (σ 82) 24)) ((rep_ne (by omega)).trans (rep_ne (by omega))) ((rep_ne (by omega)).trans (rep_ne (by omega))) ((rep_ne (by omega)).trans (rep_ne (by omega)))
  refine ⟨_, _, _, c1, c2, h.shx ?_ (h.wb.two c1 c2) (fun o ho => ?_)⟩
  · intro q hq
    obtain ⟨⟨a1, a2⟩, m, m1, m2, m3, m4⟩ := h.2.2.2.2.2.2.1 q hq
    by_cases c : q = 2
    · subst c
      refine ⟨⟨?_, ?_⟩, n, hn, ?_, ?_, fun k hk => ?_⟩
      · simp only [rep_at, upd_at, simprocAttr, if_true, if_false, true_and, and_true, false_and, and_false, not_false_eq_true, not_true_eq_false, gd_T, kont_i, kont_v]
      · simp only [rep_at, upd_at, simprocAttr, if_true, if_false, true_and, and_true, false_and, and_false, not_false_eq_true, not_true_eq_false, gd_T, kont_i, kont_v]; exact hb
      · simp only [rep_at, upd_at, simprocAttr, if_true, if_false, true_and, and_true, false_and, and_false, not_false_eq_true, not_true_eq_false, gd_T, kont_i, kont_v]
      · simp only [rep_at, upd_at, simprocAttr, if_true, if_false, true_and, and_true, false_and, and_false, not_false_eq_true, not_true_eq_false, gd_T, kont_i, kont_v]
      · simp only [rep_at, simprocAttr, if_true, if_false, true_and, and_true, false_and, and_false, not_false_eq_true, not_true_eq_false, gd_T, kont_i, kont_v]
        unfold zF zM
        rw [if_pos hk, if_pos (by omega)]
    · have e1 : ∀ o, (o = 77 + 2 * q ∨ o = 78 + 2 * q) → rep (rep (rep (rep (rep σ 81 (upd (upd (σ 81) 1 b) 2 (nI n))) 82 (zF (σ 82) 24)) 100 (upd (σ 100) 2 b)) 101 (upd (σ 101) 2 (nI n))) 102 (zM (σ 102) 48 24) o = σ o := fun o ho => by rw [rep_ne (by omega), rep_ne (by omega), rep_ne (by omega), rep_ne (by omega), rep_ne (by omega)]
      have e100 : rep (rep (rep (rep (rep σ 81 (upd (upd (σ 81) 1 b) 2 (nI n))) 82 (zF (σ 82) 24)) 100 (upd (σ 100) 2 b)) 101 (upd (σ 101) 2 (nI n))) 102 (zM (σ 102) 48 24) 100 q = σ 100 q := by
        rw [rep_ne (by omega), rep_ne (by omega), rep_self, upd_at, if_neg c]
      have e101 : rep (rep (rep (rep (rep σ 81 (upd (upd (σ 81) 1 b) 2 (nI n))) 82 (zF (σ 82) 24)) 100 (upd (σ 100) 2 b)) 101 (upd (σ 101) 2 (nI n))) 102 (zM (σ 102) 48 24) 101 q = σ 101 q := by
        rw [rep_ne (by omega), rep_self, upd_at, if_neg c]
      refine ⟨⟨?_, ?_⟩, m, m1, ?_, ?_, fun k hk => ?_⟩
      · rw [e1 _ (Or.inl rfl), e100]; exact a1
      · rw [e100]; exact a2
      · rw [e1 _ (Or.inl rfl)]; exact m2
      · rw [e101]; exact m3
      · rw [e1 _ (Or.inr rfl), rep_self]
        unfold zM
        rw [if_neg (by omega)]
        exact m4 k hk
  · rw [rep_ne (by omega), rep_ne (by omega), rep_ne (by omega), rep_ne (by omega), rep_ne (by omega)]
theorem L_sheet_2 {i : Nat} {σ : Hs} (h : RR i σ) (d : Nat) (b x : Int32) : Step d i 89 204 [.int 2, .int b, .int x] σ := by
  have hs : ((0 : Int32) ≤ 2 ∧ (2 : Int32) ≤ 3) = True := eq_true (by decide)
  have fin : ∀ τ : Hs, τ 100 = σ 100 → τ 101 = σ 101 → τ 102 = σ 102 → ∀ (n : Nat), ru (d + 99) 204 93 [.ref 87, .int 2, .int b, .int x, .int 0] [] (rep (rep τ 100 (upd (σ 100) 2 b)) 101 (upd (σ 101) 2 (nI n))) = some (some (.int 1), rep (rep (rep τ 100 (upd (σ 100) 2 b)) 101 (upd (σ 101) 2 (nI n))) 102 (zM (σ 102) 48 24)) := by
    intro τ t0 t1 t2 n
    have hl := m_sheet_l (d + 99) 2 (by omega) b x (σ 102) (rep (rep τ 100 (upd (σ 100) 2 b)) 101 (upd (σ 101) 2 (nI n))) 24 0 rfl
    have e : rep (rep (rep τ 100 (upd (σ 100) 2 b)) 101 (upd (σ 101) 2 (nI n))) 102 (σ 102) = rep (rep τ 100 (upd (σ 100) 2 b)) 101 (upd (σ 101) 2 (nI n)) := by
      rw [← t2]
      funext q
      rw [rep_at]
      by_cases c : q = 102
      · rw [if_pos c, c, rep_ne (by omega), rep_ne (by omega)]
      · rw [if_neg c]
    rw [zM_0, e] at hl
    exact hl
  by_cases b0 : b = 0
  · subst b0
    refine sheet_ok_2 h d 0 (by omega) 0 x (Or.inl rfl) ?_ (fun τ t0 t1 t2 => ?_)
    · have hb := k_begin_2 (d + 98) 0 (by omega) 0 σ
      rw [n_0] at hb ⊢
      simp only [c89, s89_0, s89_1, s89_4, s89_7, s89_8, s89_11, s89_12, s89_14, s89_17, s89_18, s89_20, s89_23, s89_24, s89_26, s89_29, s89_30, s89_31_o0, s89_34, s89_35, s89_36, s89_39, s89_40, s89_43, s89_44, s89_45_o0, s89_48, s89_49, s89_50, s89_53, s89_54, s89_56, s89_59, s89_60, s89_61_o0, s89_64, s89_65, s89_66_o0, s89_69, s89_70_o76, s89_71, s89_72, s89_73, s89_76, s89_77, s89_80, s89_81_o77, s89_81_o79, s89_81_o81, s89_81_o83, s89_84, s89_85, k_isSheet, hs, b2_t, vp_lit, cr76_2, hb, simprocAttr, if_true, if_false, true_and, and_true, false_and, and_false, not_false_eq_true, not_true_eq_false, gd_T, kont_i, kont_v]
    · have hf := fin τ t0 t1 t2 0
      rw [n_0] at hf ⊢
      rw [← hf]
      simp only [c204, s204_0, s204_1, s204_4, s204_7, s204_8, s204_11, s204_12, s204_14, s204_17, s204_18, s204_20, s204_23, s204_24, s204_26, s204_29, s204_30, s204_32_o87, s204_35, s204_36, s204_37, s204_40, s204_41, s204_44, s204_45, s204_47_o87, s204_50, s204_51, s204_52, s204_55, s204_56, s204_58, s204_61, s204_62, s204_64_o87, s204_67, s204_68, s204_69_o87, s204_72, s204_73, s204_74_o100, s204_75, s204_76_o87, s204_79, s204_80, s204_81, s204_84, s204_85, s204_88, s204_89_o101, s204_90, s204_91, m_isSheet, hs, b2_t, vp_lit, up2_rep, rep_at, t0, t1, simprocAttr, if_true, if_false, true_and, and_true, false_and, and_false, not_false_eq_true, not_true_eq_false, gd_T, kont_i, kont_v]
  by_cases b8 : b = 8
  · subst b8
    by_cases x0 : x < 0
    · refine Step_err h 3 (v := -1000003) ?_ ?_
      · have q := eq_false (Int32.not_le.mpr x0)
        simp only [c89, s89_0, s89_1, s89_4, s89_7, s89_8, s89_11, s89_12, s89_14, s89_17, s89_18, s89_20, s89_23, s89_24, s89_26, s89_29, s89_30, s89_31_o0, s89_34, s89_35, s89_36, s89_39, s89_40, s89_43, s89_44, s89_45_o0, s89_48, s89_49, s89_50, s89_53, s89_54, s89_56, s89_59, s89_60, s89_61_o0, s89_64, s89_65, s89_66_o0, s89_69, s89_70_o76, s89_71, s89_72, s89_73, s89_76, s89_77, s89_80, s89_81_o77, s89_81_o79, s89_81_o81, s89_81_o83, s89_84, s89_85, k_isSheet, hs, b2_t, q, k_failed_3, simprocAttr, if_true, if_false, true_and, and_true, false_and, and_false, not_false_eq_true, not_true_eq_false, gd_T, kont_i, kont_v]
      · have q := eq_false (Int32.not_le.mpr x0)
        simp only [c204, s204_0, s204_1, s204_4, s204_7, s204_8, s204_11, s204_12, s204_14, s204_17, s204_18, s204_20, s204_23, s204_24, s204_26, s204_29, s204_30, s204_32_o87, s204_35, s204_36, s204_37, s204_40, s204_41, s204_44, s204_45, s204_47_o87, s204_50, s204_51, s204_52, s204_55, s204_56, s204_58, s204_61, s204_62, s204_64_o87, s204_67, s204_68, s204_69_o87, s204_72, s204_73, s204_74_o100, s204_75, s204_76_o87, s204_79, s204_80, s204_81, s204_84, s204_85, s204_88, s204_89_o101, s204_90, s204_91, m_isSheet, hs, b2_t, q, m_fin_3, simprocAttr, if_true, if_false, true_and, and_true, false_and, and_false, not_false_eq_true, not_true_eq_false, gd_T, kont_i, kont_v]
    · have q := eq_true (Int32.not_lt.mp x0)
      by_cases x1 : x ≤ 24
      · have q1 := eq_true x1
        obtain ⟨n, hn, rfl⟩ := nI_of x0
        have n24 : n ≤ 24 := by rw [show (24 : Int32) = nI 24 from rfl, le_nn hn (by omega)] at x1; exact x1
        refine sheet_ok_2 h d n n24 8 (nI n) (by unfold bitO; simp) ?_ (fun τ t0 t1 t2 => ?_)
        · have hb := k_begin_2 (d + 98) n n24 8 σ
          simp only [c89, s89_0, s89_1, s89_4, s89_7, s89_8, s89_11, s89_12, s89_14, s89_17, s89_18, s89_20, s89_23, s89_24, s89_26, s89_29, s89_30, s89_31_o0, s89_34, s89_35, s89_36, s89_39, s89_40, s89_43, s89_44, s89_45_o0, s89_48, s89_49, s89_50, s89_53, s89_54, s89_56, s89_59, s89_60, s89_61_o0, s89_64, s89_65, s89_66_o0, s89_69, s89_70_o76, s89_71, s89_72, s89_73, s89_76, s89_77, s89_80, s89_81_o77, s89_81_o79, s89_81_o81, s89_81_o83, s89_84, s89_85, k_isSheet, hs, b2_t, q, q1, vp_lit, cr76_2, hb, simprocAttr, if_true, if_false, true_and, and_true, false_and, and_false, not_false_eq_true, not_true_eq_false, gd_T, kont_i, kont_v]
        · have hf := fin τ t0 t1 t2 n
          rw [← hf]
          simp only [c204, s204_0, s204_1, s204_4, s204_7, s204_8, s204_11, s204_12, s204_14, s204_17, s204_18, s204_20, s204_23, s204_24, s204_26, s204_29, s204_30, s204_32_o87, s204_35, s204_36, s204_37, s204_40, s204_41, s204_44, s204_45, s204_47_o87, s204_50, s204_51, s204_52, s204_55, s204_56, s204_58, s204_61, s204_62, s204_64_o87, s204_67, s204_68, s204_69_o87, s204_72, s204_73, s204_74_o100, s204_75, s204_76_o87, s204_79, s204_80, s204_81, s204_84, s204_85, s204_88, s204_89_o101, s204_90, s204_91, m_isSheet, hs, b2_t, q, q1, vp_lit, up2_rep, rep_at, t0, t1, simprocAttr, if_true, if_false, true_and, and_true, false_and, and_false, not_false_eq_true, not_true_eq_false, gd_T, kont_i, kont_v]
      · have q1 := eq_false x1
        refine Step_err h 1 (v := -1000001) ?_ ?_
        · simp only [c89, s89_0, s89_1, s89_4, s89_7, s89_8, s89_11, s89_12, s89_14, s89_17, s89_18, s89_20, s89_23, s89_24, s89_26, s89_29, s89_30, s89_31_o0, s89_34, s89_35, s89_36, s89_39, s89_40, s89_43, s89_44, s89_45_o0, s89_48, s89_49, s89_50, s89_53, s89_54, s89_56, s89_59, s89_60, s89_61_o0, s89_64, s89_65, s89_66_o0, s89_69, s89_70_o76, s89_71, s89_72, s89_73, s89_76, s89_77, s89_80, s89_81_o77, s89_81_o79, s89_81_o81, s89_81_o83, s89_84, s89_85, k_isSheet, hs, b2_t, q, q1, k_failed_1, simprocAttr, if_true, if_false, true_and, and_true, false_and, and_false, not_false_eq_true, not_true_eq_false, gd_T, kont_i, kont_v]
        · simp only [c204, s204_0, s204_1, s204_4, s204_7, s204_8, s204_11, s204_12, s204_14, s204_17, s204_18, s204_20, s204_23, s204_24, s204_26, s204_29, s204_30, s204_32_o87, s204_35, s204_36, s204_37, s204_40, s204_41, s204_44, s204_45, s204_47_o87, s204_50, s204_51, s204_52, s204_55, s204_56, s204_58, s204_61, s204_62, s204_64_o87, s204_67, s204_68, s204_69_o87, s204_72, s204_73, s204_74_o100, s204_75, s204_76_o87, s204_79, s204_80, s204_81, s204_84, s204_85, s204_88, s204_89_o101, s204_90, s204_91, m_isSheet, hs, b2_t, q, q1, m_fin_1, simprocAttr, if_true, if_false, true_and, and_true, false_and, and_false, not_false_eq_true, not_true_eq_false, gd_T, kont_i, kont_v]
  by_cases b16 : b = 16
  · subst b16
    by_cases x0 : x < 0
    · refine Step_err h 3 (v := -1000003) ?_ ?_
      · have q := eq_false (Int32.not_le.mpr x0)
        simp only [c89, s89_0, s89_1, s89_4, s89_7, s89_8, s89_11, s89_12, s89_14, s89_17, s89_18, s89_20, s89_23, s89_24, s89_26, s89_29, s89_30, s89_31_o0, s89_34, s89_35, s89_36, s89_39, s89_40, s89_43, s89_44, s89_45_o0, s89_48, s89_49, s89_50, s89_53, s89_54, s89_56, s89_59, s89_60, s89_61_o0, s89_64, s89_65, s89_66_o0, s89_69, s89_70_o76, s89_71, s89_72, s89_73, s89_76, s89_77, s89_80, s89_81_o77, s89_81_o79, s89_81_o81, s89_81_o83, s89_84, s89_85, k_isSheet, hs, b2_t, q, k_failed_3, simprocAttr, if_true, if_false, true_and, and_true, false_and, and_false, not_false_eq_true, not_true_eq_false, gd_T, kont_i, kont_v]
      · have q := eq_false (Int32.not_le.mpr x0)
        simp only [c204, s204_0, s204_1, s204_4, s204_7, s204_8, s204_11, s204_12, s204_14, s204_17, s204_18, s204_20, s204_23, s204_24, s204_26, s204_29, s204_30, s204_32_o87, s204_35, s204_36, s204_37, s204_40, s204_41, s204_44, s204_45, s204_47_o87, s204_50, s204_51, s204_52, s204_55, s204_56, s204_58, s204_61, s204_62, s204_64_o87, s204_67, s204_68, s204_69_o87, s204_72, s204_73, s204_74_o100, s204_75, s204_76_o87, s204_79, s204_80, s204_81, s204_84, s204_85, s204_88, s204_89_o101, s204_90, s204_91, m_isSheet, hs, b2_t, q, m_fin_3, simprocAttr, if_true, if_false, true_and, and_true, false_and, and_false, not_false_eq_true, not_true_eq_false, gd_T, kont_i, kont_v]
    · have q := eq_true (Int32.not_lt.mp x0)
      by_cases x1 : x ≤ 24
      · have q1 := eq_true x1
        obtain ⟨n, hn, rfl⟩ := nI_of x0
        have n24 : n ≤ 24 := by rw [show (24 : Int32) = nI 24 from rfl, le_nn hn (by omega)] at x1; exact x1
        refine sheet_ok_2 h d n n24 16 (nI n) (by unfold bitO; simp) ?_ (fun τ t0 t1 t2 => ?_)
        · have hb := k_begin_2 (d + 98) n n24 16 σ
          simp only [c89, s89_0, s89_1, s89_4, s89_7, s89_8, s89_11, s89_12, s89_14, s89_17, s89_18, s89_20, s89_23, s89_24, s89_26, s89_29, s89_30, s89_31_o0, s89_34, s89_35, s89_36, s89_39, s89_40, s89_43, s89_44, s89_45_o0, s89_48, s89_49, s89_50, s89_53, s89_54, s89_56, s89_59, s89_60, s89_61_o0, s89_64, s89_65, s89_66_o0, s89_69, s89_70_o76, s89_71, s89_72, s89_73, s89_76, s89_77, s89_80, s89_81_o77, s89_81_o79, s89_81_o81, s89_81_o83, s89_84, s89_85, k_isSheet, hs, b2_t, q, q1, vp_lit, cr76_2, hb, simprocAttr, if_true, if_false, true_and, and_true, false_and, and_false, not_false_eq_true, not_true_eq_false, gd_T, kont_i, kont_v]
        · have hf := fin τ t0 t1 t2 n
          rw [← hf]
          simp only [c204, s204_0, s204_1, s204_4, s204_7, s204_8, s204_11, s204_12, s204_14, s204_17, s204_18, s204_20, s204_23, s204_24, s204_26, s204_29, s204_30, s204_32_o87, s204_35, s204_36, s204_37, s204_40, s204_41, s204_44, s204_45, s204_47_o87, s204_50, s204_51, s204_52, s204_55, s204_56, s204_58, s204_61, s204_62, s204_64_o87, s204_67, s204_68, s204_69_o87, s204_72, s204_73, s204_74_o100, s204_75, s204_76_o87, s204_79, s204_80, s204_81, s204_84, s204_85, s204_88, s204_89_o101, s204_90, s204_91, m_isSheet, hs, b2_t, q, q1, vp_lit, up2_rep, rep_at, t0, t1, simprocAttr, if_true, if_false, true_and, and_true, false_and, and_false, not_false_eq_true, not_true_eq_false, gd_T, kont_i, kont_v]
      · have q1 := eq_false x1
        refine Step_err h 1 (v := -1000001) ?_ ?_
        · simp only [c89, s89_0, s89_1, s89_4, s89_7, s89_8, s89_11, s89_12, s89_14, s89_17, s89_18, s89_20, s89_23, s89_24, s89_26, s89_29, s89_30, s89_31_o0, s89_34, s89_35, s89_36, s89_39, s89_40, s89_43, s89_44, s89_45_o0, s89_48, s89_49, s89_50, s89_53, s89_54, s89_56, s89_59, s89_60, s89_61_o0, s89_64, s89_65, s89_66_o0, s89_69, s89_70_o76, s89_71, s89_72, s89_73, s89_76, s89_77, s89_80, s89_81_o77, s89_81_o79, s89_81_o81, s89_81_o83, s89_84, s89_85, k_isSheet, hs, b2_t, q, q1, k_failed_1, simprocAttr, if_true, if_false, true_and, and_true, false_and, and_false, not_false_eq_true, not_true_eq_false, gd_T, kont_i, kont_v]
        · simp only [c204, s204_0, s204_1, s204_4, s204_7, s204_8, s204_11, s204_12, s204_14, s204_17, s204_18, s204_20, s204_23, s204_24, s204_26, s204_29, s204_30, s204_32_o87, s204_35, s204_36, s204_37, s204_40, s204_41, s204_44, s204_45, s204_47_o87, s204_50, s204_51, s204_52, s204_55, s204_56, s204_58, s204_61, s204_62, s204_64_o87, s204_67, s204_68, s204_69_o87, s204_72, s204_73, s204_74_o100, s204_75, s204_76_o87, s204_79, s204_80, s204_81, s204_84, s204_85, s204_88, s204_89_o101, s204_90, s204_91, m_isSheet, hs, b2_t, q, q1, m_fin_1, simprocAttr, if_true, if_false, true_and, and_true, false_and, and_false, not_false_eq_true, not_true_eq_false, gd_T, kont_i, kont_v]
  by_cases b32 : b = 32
  · subst b32
    by_cases x0 : x < 0
    · refine Step_err h 3 (v := -1000003) ?_ ?_
      · have q := eq_false (Int32.not_le.mpr x0)
        simp only [c89, s89_0, s89_1, s89_4, s89_7, s89_8, s89_11, s89_12, s89_14, s89_17, s89_18, s89_20, s89_23, s89_24, s89_26, s89_29, s89_30, s89_31_o0, s89_34, s89_35, s89_36, s89_39, s89_40, s89_43, s89_44, s89_45_o0, s89_48, s89_49, s89_50, s89_53, s89_54, s89_56, s89_59, s89_60, s89_61_o0, s89_64, s89_65, s89_66_o0, s89_69, s89_70_o76, s89_71, s89_72, s89_73, s89_76, s89_77, s89_80, s89_81_o77, s89_81_o79, s89_81_o81, s89_81_o83, s89_84, s89_85, k_isSheet, hs, b2_t, q, k_failed_3, simprocAttr, if_true, if_false, true_and, and_true, false_and, and_false, not_false_eq_true, not_true_eq_false, gd_T, kont_i, kont_v]
      · have q := eq_false (Int32.not_le.mpr x0)
        simp only [c204, s204_0, s204_1, s204_4, s204_7, s204_8, s204_11, s204_12, s204_14, s204_17, s204_18, s204_20, s204_23, s204_24, s204_26, s204_29, s204_30, s204_32_o87, s204_35, s204_36, s204_37, s204_40, s204_41, s204_44, s204_45, s204_47_o87, s204_50, s204_51, s204_52, s204_55, s204_56, s204_58, s204_61, s204_62, s204_64_o87, s204_67, s204_68, s204_69_o87, s204_72, s204_73, s204_74_o100, s204_75, s204_76_o87, s204_79, s204_80, s204_81, s204_84, s204_85, s204_88, s204_89_o101, s204_90, s204_91, m_isSheet, hs, b2_t, q, m_fin_3, simprocAttr, if_true, if_false, true_and, and_true, false_and, and_false, not_false_eq_true, not_true_eq_false, gd_T, kont_i, kont_v]
    · have q := eq_true (Int32.not_lt.mp x0)
      by_cases x1 : x ≤ 24
      · have q1 := eq_true x1
        obtain ⟨n, hn, rfl⟩ := nI_of x0
        have n24 : n ≤ 24 := by rw [show (24 : Int32) = nI 24 from rfl, le_nn hn (by omega)] at x1; exact x1
        refine sheet_ok_2 h d n n24 32 (nI n) (by unfold bitO; simp) ?_ (fun τ t0 t1 t2 => ?_)
        · have hb := k_begin_2 (d + 98) n n24 32 σ
          simp only [c89, s89_0, s89_1, s89_4, s89_7, s89_8, s89_11, s89_12, s89_14, s89_17, s89_18, s89_20, s89_23, s89_24, s89_26, s89_29, s89_30, s89_31_o0, s89_34, s89_35, s89_36, s89_39, s89_40, s89_43, s89_44, s89_45_o0, s89_48, s89_49, s89_50, s89_53, s89_54, s89_56, s89_59, s89_60, s89_61_o0, s89_64, s89_65, s89_66_o0, s89_69, s89_70_o76, s89_71, s89_72, s89_73, s89_76, s89_77, s89_80, s89_81_o77, s89_81_o79, s89_81_o81, s89_81_o83, s89_84, s89_85, k_isSheet, hs, b2_t, q, q1, vp_lit, cr76_2, hb, simprocAttr, if_true, if_false, true_and, and_true, false_and, and_false, not_false_eq_true, not_true_eq_false, gd_T, kont_i, kont_v]
        · have hf := fin τ t0 t1 t2 n
          rw [← hf]
          simp only [c204, s204_0, s204_1, s204_4, s204_7, s204_8, s204_11, s204_12, s204_14, s204_17, s204_18, s204_20, s204_23, s204_24, s204_26, s204_29, s204_30, s204_32_o87, s204_35, s204_36, s204_37, s204_40, s204_41, s204_44, s204_45, s204_47_o87, s204_50, s204_51, s204_52, s204_55, s204_56, s204_58, s204_61, s204_62, s204_64_o87, s204_67, s204_68, s204_69_o87, s204_72, s204_73, s204_74_o100, s204_75, s204_76_o87, s204_79, s204_80, s204_81, s204_84, s204_85, s204_88, s204_89_o101, s204_90, s204_91, m_isSheet, hs, b2_t, q, q1, vp_lit, up2_rep, rep_at, t0, t1, simprocAttr, if_true, if_false, true_and, and_true, false_and, and_false, not_false_eq_true, not_true_eq_false, gd_T, kont_i, kont_v]
      · have q1 := eq_false x1
        refine Step_err h 1 (v := -1000001) ?_ ?_
        · simp only [c89, s89_0, s89_1, s89_4, s89_7, s89_8, s89_11, s89_12, s89_14, s89_17, s89_18, s89_20, s89_23, s89_24, s89_26, s89_29, s89_30, s89_31_o0, s89_34, s89_35, s89_36, s89_39, s89_40, s89_43, s89_44, s89_45_o0, s89_48, s89_49, s89_50, s89_53, s89_54, s89_56, s89_59, s89_60, s89_61_o0, s89_64, s89_65, s89_66_o0, s89_69, s89_70_o76, s89_71, s89_72, s89_73, s89_76, s89_77, s89_80, s89_81_o77, s89_81_o79, s89_81_o81, s89_81_o83, s89_84, s89_85, k_isSheet, hs, b2_t, q, q1, k_failed_1, simprocAttr, if_true, if_false, true_and, and_true, false_and, and_false, not_false_eq_true, not_true_eq_false, gd_T, kont_i, kont_v]
        · simp only [c204, s204_0, s204_1, s204_4, s204_7, s204_8, s204_11, s204_12, s204_14, s204_17, s204_18, s204_20, s204_23, s204_24, s204_26, s204_29, s204_30, s204_32_o87, s204_35, s204_36, s204_37, s204_40, s204_41, s204_44, s204_45, s204_47_o87, s204_50, s204_51, s204_52, s204_55, s204_56, s204_58, s204_61, s204_62, s204_64_o87, s204_67, s204_68, s204_69_o87, s204_72, s204_73, s204_74_o100, s204_75, s204_76_o87, s204_79, s204_80, s204_81, s204_84, s204_85, s204_88, s204_89_o101, s204_90, s204_91, m_isSheet, hs, b2_t, q, q1, m_fin_1, simprocAttr, if_true, if_false, true_and, and_true, false_and, and_false, not_false_eq_true, not_true_eq_false, gd_T, kont_i, kont_v]
  refine Step_err h 1 (v := -1000001) ?_ ?_
  · simp only [c89, s89_0, s89_1, s89_4, s89_7, s89_8, s89_11, s89_12, s89_14, s89_17, s89_18, s89_20, s89_23, s89_24, s89_26, s89_29, s89_30, s89_31_o0, s89_34, s89_35, s89_36, s89_39, s89_40, s89_43, s89_44, s89_45_o0, s89_48, s89_49, s89_50, s89_53, s89_54, s89_56, s89_59, s89_60, s89_61_o0, s89_64, s89_65, s89_66_o0, s89_69, s89_70_o76, s89_71, s89_72, s89_73, s89_76, s89_77, s89_80, s89_81_o77, s89_81_o79, s89_81_o81, s89_81_o83, s89_84, s89_85, k_isSheet, hs, b2_t, b0, b8, b16, b32, k_failed_1, simprocAttr, if_true, if_false, true_and, and_true, false_and, and_false, not_false_eq_true, not_true_eq_false, gd_T, kont_i, kont_v]
  · simp only [c204, s204_0, s204_1, s204_4, s204_7, s204_8, s204_11, s204_12, s204_14, s204_17, s204_18, s204_20, s204_23, s204_24, s204_26, s204_29, s204_30, s204_32_o87, s204_35, s204_36, s204_37, s204_40, s204_41, s204_44, s204_45, s204_47_o87, s204_50, s204_51, s204_52, s204_55, s204_56, s204_58, s204_61, s204_62, s204_64_o87, s204_67, s204_68, s204_69_o87, s204_72, s204_73, s204_74_o100, s204_75, s204_76_o87, s204_79, s204_80, s204_81, s204_84, s204_85, s204_88, s204_89_o101, s204_90, s204_91, m_isSheet, hs, b2_t, b0, b8, b16, b32, m_fin_1, simprocAttr, if_true, if_false, true_and, and_true, false_and, and_false, not_false_eq_true, not_true_eq_false, gd_T, kont_i, kont_v]
theorem sheet_ok_3 {i : Nat} {σ : Hs} (h : RR i σ) (d n : Nat) (hn : n ≤ 24) (b x : Int32) (hb : bitO b) (c1 : callD (d + 100) 89 [.ref 0, .int 3, .int b, .int x] σ = some (some (.int 1), rep (rep σ 83 (upd (upd (σ 83) 1 b) 2 (nI n))) 84 (zF (σ 84) 24)))
    (c2 : ∀ τ : Hs, τ 100 = σ 100 → τ 101 = σ 101 → τ 102 = σ 102 → callD (d + 100) 204 [.ref 87, .int 3, .int b, .int x] τ = some (some (.int 1), rep (rep (rep τ 100 (upd (σ 100) 3 b)) 101 (upd (σ 101) 3 (nI n))) 102 (zM (σ 102) 72 24))) : Step d i 89 204 [.int 3, .int b, .int x] σ := by
  have c2 := c2 (rep (rep σ 83 (upd (upd (σ 83) 1 b) 2 (nI n))) 84 (zF (σ 84) 24)) ((rep_ne (by omega)).trans (rep_ne (by omega))) ((rep_ne (by omega)).trans (rep_ne (by omega))) ((rep_ne (by omega)).trans (rep_ne (by omega)))
  refine ⟨_, _, _, c1, c2, h.shx ?_ (h.wb.two c1 c2) (fun o ho => ?_)⟩
  · intro q hq
    obtain ⟨⟨a1, a2⟩, m, m1, m2, m3, m4⟩ := h.2.2.2.2.2.2.1 q hq
    by_cases c : q = 3
    · subst c
      refine ⟨⟨?_, ?_⟩, n, hn, ?_, ?_, fun k hk => ?_⟩
      · simp only [rep_at, upd_at, simprocAttr, if_true, if_false, true_and, and_true, false_and, and_false, not_false_eq_true, not_true_eq_false, gd_T, kont_i, kont_v]
      · simp only [rep_at, upd_at, simprocAttr, if_true, if_false, true_and, and_true, false_and, and_false, not_false_eq_true, not_true_eq_false, gd_T, kont_i, kont_v]; exact hb
      · simp only [rep_at, upd_at, simprocAttr, if_true, if_false, true_and, and_true, false_and, and_false, not_false_eq_true, not_true_eq_false, gd_T, kont_i, kont_v]
      · simp only [rep_at, upd_at, simprocAttr, if_true, if_false, true_and, and_true, false_and, and_false, not_false_eq_true, not_true_eq_false, gd_T, kont_i, kont_v]
      · simp only [rep_at, simprocAttr, if_true, if_false, true_and, and_true, false_and, and_false, not_false_eq_true, not_true_eq_false, gd_T, kont_i, kont_v]
        unfold zF zM
        rw [if_pos hk, if_pos (by omega)]
    · have e1 : ∀ o, (o = 77 + 2 * q ∨ o = 78 + 2 * q) → rep (rep (rep (rep (rep σ 83 (upd (upd (σ 83) 1 b) 2 (nI n))) 84 (zF (σ 84) 24)) 100 (upd (σ 100) 3 b)) 101 (upd (σ 101) 3 (nI n))) 102 (zM (σ 102) 72 24) o = σ o := fun o ho => by rw [rep_ne (by omega), rep_ne (by omega), rep_ne (by omega), rep_ne (by omega), rep_ne (by omega)]
      have e100 : rep (rep (rep (rep (rep σ 83 (upd (upd (σ 83) 1 b) 2 (nI n))) 84 (zF (σ 84) 24)) 100 (upd (σ 100) 3 b)) 101 (upd (σ 101) 3 (nI n))) 102 (zM (σ 102) 72 24) 100 q = σ 100 q := by
        rw [rep_ne (by omega), rep_ne (by omega), rep_self, upd_at, if_neg c]
      have e101 : rep (rep (rep (rep (rep σ 83 (upd (upd (σ 83) 1 b) 2 (nI n))) 84 (zF (σ 84) 24)) 100 (upd (σ 100) 3 b)) 101 (upd (σ 101) 3 (nI n))) 102 (zM (σ 102) 72 24) 101 q = σ 101 q := by
        rw [rep_ne (by omega), rep_self, upd_at, if_neg c]
      refine ⟨⟨?_, ?_⟩, m, m1, ?_, ?_, fun k hk => ?_⟩
      · rw [e1 _ (Or.inl rfl), e100]; exact a1
      · rw [e100]; exact a2
      · rw [e1 _ (Or.inl rfl)]; exact m2
      · rw [e101]; exact m3
      · rw [e1 _ (Or.inr rfl), rep_self]
        unfold zM
        rw [if_neg (by omega)]
        exact m4 k hk
  · rw [rep_ne (by omega), rep_ne (by omega), rep_ne (by omega), rep_ne (by omega), rep_ne (by omega)]
theorem L_sheet_3 {i : Nat} {σ : Hs} (h : RR i σ) (d : Nat) (b x : Int32) : Step d i 89 204 [.int 3, .int b, .int x] σ := by
  have hs : ((0 : Int32) ≤ 3 ∧ (3 : Int32) ≤ 3) = True := eq_true (by decide)
  have fin : ∀ τ : Hs, τ 100 = σ 100 → τ 101 = σ 101 → τ 102 = σ 102 → ∀ (n : Nat), ru (d + 99) 204 93 [.ref 87, .int 3, .int b, .int x, .int 0] [] (rep (rep τ 100 (upd (σ 100) 3 b)) 101 (upd (σ 101) 3 (nI n))) = some (some (.int 1), rep (rep (rep τ 100 (upd (σ 100) 3 b)) 101 (upd (σ 101) 3 (nI n))) 102 (zM (σ 102) 72 24)) := by
    intro τ t0 t1 t2 n
    have hl := m_sheet_l (d + 99) 3 (by omega) b x (σ 102) (rep (rep τ 100 (upd (σ 100) 3 b)) 101 (upd (σ 101) 3 (nI n))) 24 0 rfl
    have e : rep (rep (rep τ 100 (upd (σ 100) 3 b)) 101 (upd (σ 101) 3 (nI n))) 102 (σ 102) = rep (rep τ 100 (upd (σ 100) 3 b)) 101 (upd (σ 101) 3 (nI n)) := by
      rw [← t2]
      funext q
      rw [rep_at]
      by_cases c : q = 102
      · rw [if_pos c, c, rep_ne (by omega), rep_ne (by omega)]
      · rw [if_neg c]
    rw [zM_0, e] at hl
    exact hl
  by_cases b0 : b = 0
  · subst b0
    refine sheet_ok_3 h d 0 (by omega) 0 x (Or.inl rfl) ?_ (fun τ t0 t1 t2 => ?_)
    · have hb := k_begin_3 (d + 98) 0 (by omega) 0 σ
      rw [n_0] at hb ⊢
      simp only [c89, s89_0, s89_1, s89_4, s89_7, s89_8, s89_11, s89_12, s89_14, s89_17, s89_18, s89_20, s89_23, s89_24, s89_26, s89_29, s89_30, s89_31_o0, s89_34, s89_35, s89_36, s89_39, s89_40, s89_43, s89_44, s89_45_o0, s89_48, s89_49, s89_50, s89_53, s89_54, s89_56, s89_59, s89_60, s89_61_o0, s89_64, s89_65, s89_66_o0, s89_69, s89_70_o76, s89_71, s89_72, s89_73, s89_76, s89_77, s89_80, s89_81_o77, s89_81_o79, s89_81_o81, s89_81_o83, s89_84, s89_85, k_isSheet, hs, b2_t, vp_lit, cr76_3, hb, simprocAttr, if_true, if_false, true_and, and_true, false_and, and_false, not_false_eq_true, not_true_eq_false, gd_T, kont_i, kont_v]
    · have hf := fin τ t0 t1 t2 0
      rw [n_0] at hf ⊢
      rw [← hf]
      simp only [c204, s204_0, s204_1, s204_4, s204_7, s204_8, s204_11, s204_12, s204_14, s204_17, s204_18, s204_20, s204_23, s204_24, s204_26, s204_29, s204_30, s204_32_o87, s204_35, s204_36, s204_37, s204_40, s204_41, s204_44, s204_45, s204_47_o87, s204_50, s204_51, s204_52, s204_55, s204_56, s204_58, s204_61, s204_62, s204_64_o87, s204_67, s204_68, s204_69_o87, s204_72, s204_73, s204_74_o100, s204_75, s204_76_o87, s204_79, s204_80, s204_81, s204_84, s204_85, s204_88, s204_89_o101, s204_90, s204_91, m_isSheet, hs, b2_t, vp_lit, up2_rep, rep_at, t0, t1, simprocAttr, if_true, if_false, true_and, and_true, false_and, and_false, not_false_eq_true, not_true_eq_false, gd_T, kont_i, kont_v]
  by_cases b8 : b = 8
  · subst b8
    by_cases x0 : x < 0
    · refine Step_err h 3 (v := -1000003) ?_ ?_
      · have q := eq_false (Int32.not_le.mpr x0)
        simp only [c89, s89_0, s89_1, s89_4, s89_7, s89_8, s89_11, s89_12, s89_14, s89_17, s89_18, s89_20, s89_23, s89_24, s89_26, s89_29, s89_30, s89_31_o0, s89_34, s89_35, s89_36, s89_39, s89_40, s89_43, s89_44, s89_45_o0, s89_48, s89_49, s89_50, s89_53, s89_54, s89_56, s89_59, s89_60, s89_61_o0, s89_64, s89_65, s89_66_o0, s89_69, s89_70_o76, s89_71, s89_72, s89_73, s89_76, s89_77, s89_80, s89_81_o77, s89_81_o79, s89_81_o81, s89_81_o83, s89_84, s89_85, k_isSheet, hs, b2_t, q, k_failed_3, simprocAttr, if_true, if_false, true_and, and_true, false_and, and_false, not_false_eq_true, not_true_eq_false, gd_T, kont_i, kont_v]
      · have q := eq_false (Int32.not_le.mpr x0)
        simp only [c204, s204_0, s204_1, s204_4, s204_7, s204_8, s204_11, s204_12, s204_14, s204_17, s204_18, s204_20, s204_23, s204_24, s204_26, s204_29, s204_30, s204_32_o87, s204_35, s204_36, s204_37, s204_40, s204_41, s204_44, s204_45, s204_47_o87, s204_50, s204_51, s204_52, s204_55, s204_56, s204_58, s204_61, s204_62, s204_64_o87, s204_67, s204_68, s204_69_o87, s204_72, s204_73, s204_74_o100, s204_75, s204_76_o87, s204_79, s204_80, s204_81, s204_84, s204_85, s204_88, s204_89_o101, s204_90, s204_91, m_isSheet, hs, b2_t, q, m_fin_3, simprocAttr, if_true, if_false, true_and, and_true, false_and, and_false, not_false_eq_true, not_true_eq_false, gd_T, kont_i, kont_v]
    · have q := eq_true (Int32.not_lt.mp x0)
      by_cases x1 : x ≤ 24
      · have q1 := eq_true x1
        obtain ⟨n, hn, rfl⟩ := nI_of x0
        have n24 : n ≤ 24 := by rw [show (24 : Int32) = nI 24 from rfl, le_nn hn (by omega)] at x1; exact x1
        refine sheet_ok_3 h d n n24 8 (nI n) (by unfold bitO; simp) ?_ (fun τ t0 t1 t2 => ?_)
        · have hb := k_begin_3 (d + 98) n n24 8 σ
          simp only [c89, s89_0, s89_1, s89_4, s89_7, s89_8, s89_11, s89_12, s89_14, s89_17, s89_18, s89_20, s89_23, s89_24, s89_26, s89_29, s89_30, s89_31_o0, s89_34, s89_35, s89_36, s89_39, s89_40, s89_43, s89_44, s89_45_o0, s89_48, s89_49, s89_50, s89_53, s89_54, s89_56, s89_59, s89_60, s89_61_o0, s89_64, s89_65, s89_66_o0, s89_69, s89_70_o76, s89_71, s89_72, s89_73, s89_76, s89_77, s89_80, s89_81_o77, s89_81_o79, s89_81_o81, s89_81_o83, s89_84, s89_85, k_isSheet, hs, b2_t, q, q1, vp_lit, cr76_3, hb, simprocAttr, if_true, if_false, true_and, and_true, false_and, and_false, not_false_eq_true, not_true_eq_false, gd_T, kont_i, kont_v]
        · have hf := fin τ t0 t1 t2 n
          rw [← hf]
          simp only [c204, s204_0, s204_1, s204_4, s204_7, s204_8, s204_11, s204_12, s204_14, s204_17, s204_18, s204_20, s204_23, s204_24, s204_26, s204_29, s204_30, s204_32_o87, s204_35, s204_36, s204_37, s204_40, s204_41, s204_44, s204_45, s204_47_o87, s204_50, s204_51, s204_52, s204_55, s204_56, s204_58, s204_61, s204_62, s204_64_o87, s204_67, s204_68, s204_69_o87, s204_72, s204_73, s204_74_o100, s204_75, s204_76_o87, s204_79, s204_80, s204_81, s204_84, s204_85, s204_88, s204_89_o101, s204_90, s204_91, m_isSheet, hs, b2_t, q, q1, vp_lit, up2_rep, rep_at, t0, t1, simprocAttr, if_true, if_false, true_and, and_true, false_and, and_false, not_false_eq_true, not_true_eq_false, gd_T, kont_i, kont_v]
      · have q1 := eq_false x1
        refine Step_err h 1 (v := -1000001) ?_ ?_
        · simp only [c89, s89_0, s89_1, s89_4, s89_7, s89_8, s89_11, s89_12, s89_14, s89_17, s89_18, s89_20, s89_23, s89_24, s89_26, s89_29, s89_30, s89_31_o0, s89_34, s89_35, s89_36, s89_39, s89_40, s89_43, s89_44, s89_45_o0, s89_48, s89_49, s89_50, s89_53, s89_54, s89_56, s89_59, s89_60, s89_61_o0, s89_64, s89_65, s89_66_o0, s89_69, s89_70_o76, s89_71, s89_72, s89_73, s89_76, s89_77, s89_80, s89_81_o77, s89_81_o79, s89_81_o81, s89_81_o83, s89_84, s89_85, k_isSheet, hs, b2_t, q, q1, k_failed_1, simprocAttr, if_true, if_false, true_and, and_true, false_and, and_false, not_false_eq_true, not_true_eq_false, gd_T, kont_i, kont_v]
        · simp only [c204, s204_0, s204_1, s204_4, s204_7, s204_8, s204_11, s204_12, s204_14, s204_17, s204_18, s204_20, s204_23, s204_24, s204_26, s204_29, s204_30, s204_32_o87, s204_35, s204_36, s204_37, s204_40, s204_41, s204_44, s204_45, s204_47_o87, s204_50, s204_51, s204_52, s204_55, s204_56, s204_58, s204_61, s204_62, s204_64_o87, s204_67, s204_68, s204_69_o87, s204_72, s204_73, s204_74_o100, s204_75, s204_76_o87, s204_79, s204_80, s204_81, s204_84, s204_85, s204_88, s204_89_o101, s204_90, s204_91, m_isSheet, hs, b2_t, q, q1, m_fin_1, simprocAttr, if_true, if_false, true_and, and_true, false_and, and_false, not_false_eq_true, not_true_eq_false, gd_T, kont_i, kont_v]
  by_cases b16 : b = 16
  · subst b16
    by_cases x0 : x < 0
    · refine Step_err h 3 (v := -1000003) ?_ ?_
      · have q := eq_false (Int32.not_le.mpr x0)
        simp only [c89, s89_0, s89_1, s89_4, s89_7, s89_8, s89_11, s89_12, s89_14, s89_17, s89_18, s89_20, s89_23, s89_24, s89_26, s89_29, s89_30, s89_31_o0, s89_34, s89_35, s89_36, s89_39, s89_40, s89_43, s89_44, s89_45_o0, s89_48, s89_49, s89_50, s89_53, s89_54, s89_56, s89_59, s89_60, s89_61_o0, s89_64, s89_65, s89_66_o0, s89_69, s89_70_o76, s89_71, s89_72, s89_73, s89_76, s89_77, s89_80, s89_81_o77, s89_81_o79, s89_81_o81, s89_81_o83, s89_84, s89_85, k_isSheet, hs, b2_t, q, k_failed_3, simprocAttr, if_true, if_false, true_and, and_true, false_and, and_false, not_false_eq_true, not_true_eq_false, gd_T, kont_i, kont_v]
      · have q := eq_false (Int32.not_le.mpr x0)
        simp only [c204, s204_0, s204_1, s204_4, s204_7, s204_8, s204_11, s204_12, s204_14, s204_17, s204_18, s204_20, s204_23, s204_24, s204_26, s204_29, s204_30, s204_32_o87, s204_35, s204_36, s204_37, s204_40, s204_41, s204_44, s204_45, s204_47_o87, s204_50, s204_51, s204_52, s204_55, s204_56, s204_58, s204_61, s204_62, s204_64_o87, s204_67, s204_68, s204_69_o87, s204_72, s204_73, s204_74_o100, s204_75, s204_76_o87, s204_79, s204_80, s204_81, s204_84, s204_85, s204_88, s204_89_o101, s204_90, s204_91, m_isSheet, hs, b2_t, q, m_fin_3, simprocAttr, if_true, if_false, true_and, and_true, false_and, and_false, not_false_eq_true, not_true_eq_false, gd_T, kont_i, kont_v]
    · have q := eq_true (Int32.not_lt.mp x0)
      by_cases x1 : x ≤ 24
      · have q1 := eq_true x1
        obtain ⟨n, hn, rfl⟩ := nI_of x0
        have n24 : n ≤ 24 := by rw [show (24 : Int32) = nI 24 from rfl, le_nn hn (by omega)] at x1; exact x1
        refine sheet_ok_3 h d n n24 16 (nI n) (by unfold bitO; simp) ?_ (fun τ t0 t1 t2 => ?_)
        · have hb := k_begin_3 (d + 98) n n24 16 σ
          simp only [c89, s89_0, s89_1, s89_4, s89_7, s89_8, s89_11, s89_12, s89_14, s89_17, s89_18, s89_20, s89_23, s89_24, s89_26, s89_29, s89_30, s89_31_o0, s89_34, s89_35, s89_36, s89_39, s89_40, s89_43, s89_44, s89_45_o0, s89_48, s89_49, s89_50, s89_53, s89_54, s89_56, s89_59, s89_60, s89_61_o0, s89_64, s89_65, s89_66_o0, s89_69, s89_70_o76, s89_71, s89_72, s89_73, s89_76, s89_77, s89_80, s89_81_o77, s89_81_o79, s89_81_o81, s89_81_o83, s89_84, s89_85, k_isSheet, hs, b2_t, q, q1, vp_lit, cr76_3, hb, simprocAttr, if_true, if_false, true_and, and_true, false_and, and_false, not_false_eq_true, not_true_eq_false, gd_T, kont_i, kont_v]
        · have hf := fin τ t0 t1 t2 n
          rw [← hf]
          simp only [c204, s204_0, s204_1, s204_4, s204_7, s204_8, s204_11, s204_12, s204_14, s204_17, s204_18, s204_20, s204_23, s204_24, s204_26, s204_29, s204_30, s204_32_o87, s204_35, s204_36, s204_37, s204_40, s204_41, s204_44, s204_45, s204_47_o87, s204_50, s204_51, s204_52, s204_55, s204_56, s204_58, s204_61, s204_62, s204_64_o87, s204_67, s204_68, s204_69_o87, s204_72, s204_73, s204_74_o100, s204_75, s204_76_o87, s204_79, s204_80, s204_81, s204_84, s204_85, s204_88, s204_89_o101, s204_90, s204_91, m_isSheet, hs, b2_t, q, q1, vp_lit, up2_rep, rep_at, t0, t1, simprocAttr, if_true, if_false, true_and, and_true, false_and, and_false, not_false_eq_true, not_true_eq_false, gd_T, kont_i, kont_v]
      · have q1 := eq_false x1
        refine Step_err h 1 (v := -1000001) ?_ ?_
        · simp only [c89, s89_0, s89_1, s89_4, s89_7, s89_8, s89_11, s89_12, s89_14, s89_17, s89_18, s89_20, s89_23, s89_24, s89_26, s89_29, s89_30, s89_31_o0, s89_34, s89_35, s89_36, s89_39, s89_40, s89_43, s89_44, s89_45_o0, s89_48, s89_49, s89_50, s89_53, s89_54, s89_56, s89_59, s89_60, s89_61_o0, s89_64, s89_65, s89_66_o0, s89_69, s89_70_o76, s89_71, s89_72, s89_73, s89_76, s89_77, s89_80, s89_81_o77, s89_81_o79, s89_81_o81, s89_81_o83, s89_84, s89_85, k_isSheet, hs, b2_t, q, q1, k_failed_1, simprocAttr, if_true, if_false, true_and, and_true, false_and, and_false, not_false_eq_true, not_true_eq_false, gd_T, kont_i, kont_v]
        · simp only [c204, s204_0, s204_1, s204_4, s204_7, s204_8, s204_11, s204_12, s204_14, s204_17, s204_18, s204_20, s204_23, s204_24, s204_26, s204_29, s204_30, s204_32_o87, s204_35, s204_36, s204_37, s204_40, s204_41, s204_44, s204_45, s204_47_o87, s204_50, s204_51, s204_52, s204_55, s204_56, s204_58, s204_61, s204_62, s204_64_o87, s204_67, s204_68, s204_69_o87, s204_72, s204_73, s204_74_o100, s204_75, s204_76_o87, s204_79, s204_80, s204_81, s204_84, s204_85, s204_88, s204_89_o101, s204_90, s204_91, m_isSheet, hs, b2_t, q, q1, m_fin_1, simprocAttr, if_true, if_false, true_and, and_true, false_and, and_false, not_false_eq_true, not_true_eq_false, gd_T, kont_i, kont_v]
  by_cases b32 : b = 32
  · subst b32
    by_cases x0 : x < 0
    · refine Step_err h 3 (v := -1000003) ?_ ?_
      · have q := eq_false (Int32.not_le.mpr x0)
        simp only [c89, s89_0, s89_1, s89_4, s89_7, s89_8, s89_11, s89_12, s89_14, s89_17, s89_18, s89_20, s89_23, s89_24, s89_26, s89_29, s89_30, s89_31_o0, s89_34, s89_35, s89_36, s89_39, s89_40, s89_43, s89_44, s89_45_o0, s89_48, s89_49, s89_50, s89_53, s89_54, s89_56, s89_59, s89_60, s89_61_o0, s89_64, s89_65, s89_66_o0, s89_69, s89_70_o76, s89_71, s89_72, s89_73, s89_76, s89_77, s89_80, s89_81_o77, s89_81_o79, s89_81_o81, s89_81_o83, s89_84, s89_85, k_isSheet, hs, b2_t, q, k_failed_3, simprocAttr, if_true, if_false, true_and, and_true, false_and, and_false, not_false_eq_true, not_true_eq_false, gd_T, kont_i, kont_v]
      · have q := eq_false (Int32.not_le.mpr x0)
        simp only [c204, s204_0, s204_1, s204_4, s204_7, s204_8, s204_11, s204_12, s204_14, s204_17, s204_18, s204_20, s204_23, s204_24, s204_26, s204_29, s204_30, s204_32_o87, s204_35, s204_36, s204_37, s204_40, s204_41, s204_44, s204_45, s204_47_o87, s204_50, s204_51, s204_52, s204_55, s204_56, s204_58, s204_61, s204_62, s204_64_o87, s204_67, s204_68, s204_69_o87, s204_72, s204_73, s204_74_o100, s204_75, s204_76_o87, s204_79, s204_80, s204_81, s204_84, s204_85, s204_88, s204_89_o101, s204_90, s204_91, m_isSheet, hs, b2_t, q, m_fin_3, simprocAttr, if_true, if_false, true_and, and_true, false_and, and_false, not_false_eq_true, not_true_eq_false, gd_T, kont_i, kont_v]
    · have q := eq_true (Int32.not_lt.mp x0)
      by_cases x1 : x ≤ 24
      · have q1 := eq_true x1
        obtain ⟨n, hn, rfl⟩ := nI_of x0
        have n24 : n ≤ 24 := by rw [show (24 : Int32) = nI 24 from rfl, le_nn hn (by omega)] at x1; exact x1
        refine sheet_ok_3 h d n n24 32 (nI n) (by unfold bitO; simp) ?_ (fun τ t0 t1 t2 => ?_)
        · have hb := k_begin_3 (d + 98) n n24 32 σ
          simp only [c89, s89_0, s89_1, s89_4, s89_7, s89_8, s89_11, s89_12, s89_14, s89_17, s89_18, s89_20, s89_23, s89_24, s89_26, s89_29, s89_30, s89_31_o0, s89_34, s89_35, s89_36, s89_39, s89_40, s89_43, s89_44, s89_45_o0, s89_48, s89_49, s89_50, s89_53, s89_54, s89_56, s89_59, s89_60, s89_61_o0, s89_64, s89_65, s89_66_o0, s89_69, s89_70_o76, s89_71, s89_72, s89_73, s89_76, s89_77, s89_80, s89_81_o77, s89_81_o79, s89_81_o81, s89_81_o83, s89_84, s89_85, k_isSheet, hs, b2_t, q, q1, vp_lit, cr76_3, hb, simprocAttr, if_true, if_false, true_and, and_true, false_and, and_false, not_false_eq_true, not_true_eq_false, gd_T, kont_i, kont_v]
        · have hf := fin τ t0 t1 t2 n
          rw [← hf]
          simp only [c204, s204_0, s204_1, s204_4, s204_7, s204_8, s204_11, s204_12, s204_14, s204_17, s204_18, s204_20, s204_23, s204_24, s204_26, s204_29, s204_30, s204_32_o87, s204_35, s204_36, s204_37, s204_40, s204_41, s204_44, s204_45, s204_47_o87, s204_50, s204_51, s204_52, s204_55, s204_56, s204_58, s204_61, s204_62, s204_64_o87, s204_67, s204_68, s204_69_o87, s204_72, s204_73, s204_74_o100, s204_75, s204_76_o87, s204_79, s204_80, s204_81, s204_84, s204_85, s204_88, s204_89_o101, s204_90, s204_91, m_isSheet, hs, b2_t, q, q1, vp_lit, up2_rep, rep_at, t0, t1, simprocAttr, if_true, if_false, true_and, and_true, false_and, and_false, not_false_eq_true, not_true_eq_false, gd_T, kont_i, kont_v]
      · have q1 := eq_false x1
        refine Step_err h 1 (v := -1000001) ?_ ?_
        · simp only [c89, s89_0, s89_1, s89_4, s89_7, s89_8, s89_11, s89_12, s89_14, s89_17, s89_18, s89_20, s89_23, s89_24, s89_26, s89_29, s89_30, s89_31_o0, s89_34, s89_35, s89_36, s89_39, s89_40, s89_43, s89_44, s89_45_o0, s89_48, s89_49, s89_50, s89_53, s89_54, s89_56, s89_59, s89_60, s89_61_o0, s89_64, s89_65, s89_66_o0, s89_69, s89_70_o76, s89_71, s89_72, s89_73, s89_76, s89_77, s89_80, s89_81_o77, s89_81_o79, s89_81_o81, s89_81_o83, s89_84, s89_85, k_isSheet, hs, b2_t, q, q1, k_failed_1, simprocAttr, if_true, if_false, true_and, and_true, false_and, and_false, not_false_eq_true, not_true_eq_false, gd_T, kont_i, kont_v]
        · simp only [c204, s204_0, s204_1, s204_4, s204_7, s204_8, s204_11, s204_12, s204_14, s204_17, s204_18, s204_20, s204_23, s204_24, s204_26, s204_29, s204_30, s204_32_o87, s204_35, s204_36, s204_37, s204_40, s204_41, s204_44, s204_45, s204_47_o87, s204_50, s204_51, s204_52, s204_55, s204_56, s204_58, s204_61, s204_62, s204_64_o87, s204_67, s204_68, s204_69_o87, s204_72, s204_73, s204_74_o100, s204_75, s204_76_o87, s204_79, s204_80, s204_81, s204_84, s204_85, s204_88, s204_89_o101, s204_90, s204_91, m_isSheet, hs, b2_t, q, q1, m_fin_1, simprocAttr, if_true, if_false, true_and, and_true, false_and, and_false, not_false_eq_true, not_true_eq_false, gd_T, kont_i, kont_v]
  refine Step_err h 1 (v := -1000001) ?_ ?_
  · simp only [c89, s89_0, s89_1, s89_4, s89_7, s89_8, s89_11, s89_12, s89_14, s89_17, s89_18, s89_20, s89_23, s89_24, s89_26, s89_29, s89_30, s89_31_o0, s89_34, s89_35, s89_36, s89_39, s89_40, s89_43, s89_44, s89_45_o0, s89_48, s89_49, s89_50, s89_53, s89_54, s89_56, s89_59, s89_60, s89_61_o0, s89_64, s89_65, s89_66_o0, s89_69, s89_70_o76, s89_71, s89_72, s89_73, s89_76, s89_77, s89_80, s89_81_o77, s89_81_o79, s89_81_o81, s89_81_o83, s89_84, s89_85, k_isSheet, hs, b2_t, b0, b8, b16, b32, k_failed_1, simprocAttr, if_true, if_false, true_and, and_true, false_and, and_false, not_false_eq_true, not_true_eq_false, gd_T, kont_i, kont_v]
  · simp only [c204, s204_0, s204_1, s204_4, s204_7, s204_8, s204_11, s204_12, s204_14, s204_17, s204_18, s204_20, s204_23, s204_24, s204_26, s204_29, s204_30, s204_32_o87, s204_35, s204_36, s204_37, s204_40, s204_41, s204_44, s204_45, s204_47_o87, s204_50, s204_51, s204_52, s204_55, s204_56, s204_58, s204_61, s204_62, s204_64_o87, s204_67, s204_68, s204_69_o87, s204_72, s204_73, s204_74_o100, s204_75, s204_76_o87, s204_79, s204_80, s204_81, s204_84, s204_85, s204_88, s204_89_o101, s204_90, s204_91, m_isSheet, hs, b2_t, b0, b8, b16, b32, m_fin_1, simprocAttr, if_true, if_false, true_and, and_true, false_and, and_false, not_false_eq_true, not_true_eq_false, gd_T, kont_i, kont_v]
theorem L_sheet {i : Nat} {σ : Hs} (h : RR i σ) (d : Nat) (v b x : Int32) : Step d i 89 204 [.int v, .int b, .int x] σ := by
  by_cases hv : 0 ≤ v ∧ v ≤ 3
  · obtain ⟨u, lu, rfl⟩ := she_n hv
    have hu : u = 0 ∨ u = 1 ∨ u = 2 ∨ u = 3 := by omega
    rcases hu with rfl | rfl | rfl | rfl
    · exact L_sheet_0 h d b x
    · exact L_sheet_1 h d b x
    · exact L_sheet_2 h d b x
    · exact L_sheet_3 h d b x
  · have hvf := eq_false hv
    refine Step_err h 1 (v := -1000001) ?_ ?_
    · simp only [c89, s89_0, s89_1, s89_4, s89_7, s89_8, s89_11, s89_12, s89_14, s89_17, s89_18, s89_20, s89_23, s89_24, s89_26, s89_29, s89_30, s89_31_o0, s89_34, s89_35, s89_36, s89_39, s89_40, s89_43, s89_44, s89_45_o0, s89_48, s89_49, s89_50, s89_53, s89_54, s89_56, s89_59, s89_60, s89_61_o0, s89_64, s89_65, s89_66_o0, s89_69, s89_70_o76, s89_71, s89_72, s89_73, s89_76, s89_77, s89_80, s89_81_o77, s89_81_o79, s89_81_o81, s89_81_o83, s89_84, s89_85, k_isSheet, hvf, b2_f, k_failed_1, simprocAttr, if_true, if_false, true_and, and_true, false_and, and_false, not_false_eq_true, not_true_eq_false, gd_T, kont_i, kont_v]
    · simp only [c204, s204_0, s204_1, s204_4, s204_7, s204_8, s204_11, s204_12, s204_14, s204_17, s204_18, s204_20, s204_23, s204_24, s204_26, s204_29, s204_30, s204_32_o87, s204_35, s204_36, s204_37, s204_40, s204_41, s204_44, s204_45, s204_47_o87, s204_50, s204_51, s204_52, s204_55, s204_56, s204_58, s204_61, s204_62, s204_64_o87, s204_67, s204_68, s204_69_o87, s204_72, s204_73, s204_74_o100, s204_75, s204_76_o87, s204_79, s204_80, s204_81, s204_84, s204_85, s204_88, s204_89_o101, s204_90, s204_91, m_isSheet, hvf, b2_f, m_fin_1, simprocAttr, if_true, if_false, true_and, and_true, false_and, and_false, not_false_eq_true, not_true_eq_false, gd_T, kont_i, kont_v]
def wrI (b v : Int32) : Int32 := if b = 8 then v.toInt8.toInt32 else if b = 16 then v.toInt16.toInt32 else v
theorem k_write_0 (d k : Nat) (hk : k < 24) (v : Int32) (σ : Hs) : callD (d + 1) 49 [.ref 77, .int (nI k), .int v] σ = some (none, rep σ 78 (upd (σ 78) k (wrI (σ 77 1) v))) := by
  have k31 : k < 2147483648 := by omega
  unfold wrI
  by_cases b8 : σ 77 1 = 8
  · simp only [c49, s49_0, s49_1_o77, s49_1_o79, s49_1_o81, s49_1_o83, s49_4, s49_5, s49_6_o77, s49_6_o79, s49_6_o81, s49_6_o83, s49_9, s49_11, s49_14, s49_15, s49_16, s49_19, s49_20_o77, s49_20_o79, s49_20_o81, s49_20_o83, s49_23, s49_25, s49_28, s49_29, s49_30, s49_33, s49_34_o78, s49_34_o80, s49_34_o82, s49_34_o84, s49_35, b8, vp_nI hk, cl_nI k31, up2_rep, simprocAttr, if_true, if_false, true_and, and_true, false_and, and_false, not_false_eq_true, not_true_eq_false, gd_T, kont_i, kont_v]
  · by_cases b16 : σ 77 1 = 16
    · simp only [c49, s49_0, s49_1_o77, s49_1_o79, s49_1_o81, s49_1_o83, s49_4, s49_5, s49_6_o77, s49_6_o79, s49_6_o81, s49_6_o83, s49_9, s49_11, s49_14, s49_15, s49_16, s49_19, s49_20_o77, s49_20_o79, s49_20_o81, s49_20_o83, s49_23, s49_25, s49_28, s49_29, s49_30, s49_33, s49_34_o78, s49_34_o80, s49_34_o82, s49_34_o84, s49_35, b16, vp_nI hk, cl_nI k31, up2_rep, simprocAttr, if_true, if_false, true_and, and_true, false_and, and_false, not_false_eq_true, not_true_eq_false, gd_T, kont_i, kont_v]
    · simp only [c49, s49_0, s49_1_o77, s49_1_o79, s49_1_o81, s49_1_o83, s49_4, s49_5, s49_6_o77, s49_6_o79, s49_6_o81, s49_6_o83, s49_9, s49_11, s49_14, s49_15, s49_16, s49_19, s49_20_o77, s49_20_o79, s49_20_o81, s49_20_o83, s49_23, s49_25, s49_28, s49_29, s49_30, s49_33, s49_34_o78, s49_34_o80, s49_34_o82, s49_34_o84, s49_35, b8, b16, vp_nI hk, cl_nI k31, up2_rep, simprocAttr, if_true, if_false, true_and, and_true, false_and, and_false, not_false_eq_true, not_true_eq_false, gd_T, kont_i, kont_v]
def stP_0 (σ : Hs) (i n : Int32) : Prop := 0 ≤ i ∧ 0 ≤ n ∧ n ≤ σ 77 2 ∧ i ≤ σ 77 2 - n
theorem k_stand_0 (d : Nat) (i n : Int32) (σ : Hs) (z : Int32) (hz : σ 77 2 = z) : callD (d + 1) 48 [.ref 77, .int i, .int n] σ = some (some (.int (b2 (0 ≤ i ∧ 0 ≤ n ∧ n ≤ z ∧ i ≤ z - n))), σ) := by
  simp only [c48, s48_0, s48_1, s48_4, s48_5, s48_8, s48_9, s48_10_o77, s48_10_o79, s48_10_o81, s48_10_o83, s48_13, s48_16, s48_17, s48_18_o77, s48_18_o79, s48_18_o81, s48_18_o83, s48_21, s48_22, s48_23, s48_26, s48_27, s48_30, s48_31, hz, isB_0, isB_1, simprocAttr, if_true, if_false, true_and, and_true, false_and, and_false, not_false_eq_true, not_true_eq_false, gd_T, kont_i, kont_v]
  by_cases h1 : i < 0
  · rw [if_pos h1, b2_F (fun q => Int32.not_le.mpr h1 q.1)]
  · rw [if_neg h1]
    by_cases h2 : n < 0
    · rw [if_pos h2, b2_F (fun q => Int32.not_le.mpr h2 q.2.1)]
    · rw [if_neg h2]
      by_cases h3 : z < n
      · rw [if_pos h3, b2_F (fun q => Int32.not_le.mpr h3 q.2.2.1)]
      · rw [if_neg h3]
        by_cases h4 : z - n < i
        · rw [if_pos h4, b2_F (fun q => Int32.not_le.mpr h4 q.2.2.2)]
        · rw [if_neg h4, b2_T ⟨Int32.not_lt.mp h1, Int32.not_lt.mp h2, Int32.not_lt.mp h3, Int32.not_lt.mp h4⟩]
theorem k_isMissing_0 (d : Nat) (σ : Hs) (z : Int32) (hz : σ 77 1 = z) : callD (d + 1) 46 [.ref 77] σ = some (some (.int (b2 (z = 0))), σ) := by
  simp only [c46, s46_0, s46_1_o77, s46_1_o79, s46_1_o81, s46_1_o83, s46_4, s46_7, s46_8, s46_11, s46_12, hz, isB_0, isB_1, simprocAttr, if_true, if_false, true_and, and_true, false_and, and_false, not_false_eq_true, not_true_eq_false, gd_T, kont_i, kont_v]
  by_cases h1 : z = 0
  · rw [if_pos h1, b2_T h1]
  · rw [if_neg h1, b2_F h1]
theorem L_put_0 {i : Nat} {σ : Hs} (h : RR i σ) (d : Nat) (x v : Int32) : Step d i 90 205 [.int 0, .int x, .int v] σ := by
  have hs : ((0 : Int32) ≤ 0 ∧ (0 : Int32) ≤ 3) = True := eq_true (by decide)
  obtain ⟨⟨a1, a2⟩, n, n1, n2, n3, n4⟩ := h.2.2.2.2.2.2.1 0 (by omega)
  have a1 : σ 77 1 = σ 100 0 := a1
  have n2 : σ 77 2 = nI n := n2
  have hm := k_isMissing_0 (d + 98) σ _ a1
  by_cases b0 : σ 100 0 = 0
  · refine Step_err h 2 (v := -1000002) ?_ ?_
    · simp only [c90, s90_0, s90_1, s90_4, s90_7, s90_8, s90_9_o0, s90_12, s90_13, s90_14_o0, s90_17, s90_18_o76, s90_19_o77, s90_19_o79, s90_19_o81, s90_19_o83, s90_22, s90_25, s90_26, s90_27_o0, s90_30, s90_31, s90_32_o0, s90_35, s90_36_o76, s90_37, s90_38, s90_39_o77, s90_39_o79, s90_39_o81, s90_39_o83, s90_42, s90_45, s90_46, s90_47_o0, s90_50, s90_51, s90_52_o0, s90_55, s90_56_o76, s90_57, s90_58, s90_59_o77, s90_59_o79, s90_59_o81, s90_59_o83, s90_62, s90_63, k_isSheet, hs, b2_t, vp_lit, cr76_0, hm, b2_T b0, k_failed_2, simprocAttr, if_true, if_false, true_and, and_true, false_and, and_false, not_false_eq_true, not_true_eq_false, gd_T, kont_i, kont_v]
    · have e : erC σ 2 100 0 = 0 := by rw [show erC σ 2 100 = σ 100 from rep_ne (by omega)]; exact b0
      simp only [c205, s205_0, s205_1, s205_4, s205_7, s205_8, s205_10_o87, s205_13, s205_14, s205_15_o87, s205_18, s205_19_o100, s205_20, s205_23, s205_24, s205_26_o87, s205_29, s205_30, s205_31, s205_32, s205_33_o87, s205_36, s205_37_o101, s205_38, s205_39, s205_40, s205_43, s205_46, s205_47, s205_49_o87, s205_52, s205_53, s205_54_o87, s205_57, s205_59, s205_60, s205_61, s205_62, s205_63, s205_64_o87, s205_67, s205_68_o100, s205_69, s205_71, s205_74, s205_75, s205_76, s205_79, s205_80_o87, s205_83, s205_84_o100, s205_85, s205_87, s205_90, s205_91, s205_92, s205_95, s205_96_o102, s205_97, s205_98, m_isSheet, hs, b2_t, vp_lit, e, m_fin_2, simprocAttr, if_true, if_false, true_and, and_true, false_and, and_false, not_false_eq_true, not_true_eq_false, gd_T, kont_i, kont_v]
  · have b0' := eq_false b0
    have hst := k_stand_0 (d + 98) x 1 σ _ n2
    by_cases c : 0 ≤ x ∧ x ≤ nI n - 1
    · obtain ⟨k, hk, rfl⟩ := nI_of (Int32.not_lt.mpr c.1)
      have kn : k < n := by
        by_cases n0 : n = 0
        · subst n0
          have := c.2
          rw [show nI 0 - 1 = (-1 : Int32) from by decide +kernel, le_nI_l hk, show (-1 : Int32).toInt = -1 from rfl] at this
          omega
        · have := c.2
          rw [show (1 : Int32) = nI 1 from rfl, pk_sub (by omega), le_nn hk (by omega)] at this
          omega
      have st : 0 ≤ nI k ∧ (0 : Int32) ≤ 1 ∧ 1 ≤ nI n ∧ nI k ≤ nI n - 1 := ⟨c.1, by decide, by rw [show (1 : Int32) = nI 1 from rfl, le_nn (by omega) (by omega)]; omega, c.2⟩
      have ct := eq_true c
      have k24 : k < 24 := by omega
      rw [b2_T st] at hst
      have hw := k_write_0 (d + 98) k k24 v σ
      rw [a1] at hw
      have c1 : callD (d + 100) 90 [.ref 0, .int 0, .int (nI k), .int v] σ = some (some (.int 1), rep σ 78 (upd (σ 78) k (wrI (σ 100 0) v))) := by
        simp only [c90, s90_0, s90_1, s90_4, s90_7, s90_8, s90_9_o0, s90_12, s90_13, s90_14_o0, s90_17, s90_18_o76, s90_19_o77, s90_19_o79, s90_19_o81, s90_19_o83, s90_22, s90_25, s90_26, s90_27_o0, s90_30, s90_31, s90_32_o0, s90_35, s90_36_o76, s90_37, s90_38, s90_39_o77, s90_39_o79, s90_39_o81, s90_39_o83, s90_42, s90_45, s90_46, s90_47_o0, s90_50, s90_51, s90_52_o0, s90_55, s90_56_o76, s90_57, s90_58, s90_59_o77, s90_59_o79, s90_59_o81, s90_59_o83, s90_62, s90_63, k_isSheet, hs, b2_t, vp_lit, cr76_0, hm, b2_F b0, hst, hw, simprocAttr, if_true, if_false, true_and, and_true, false_and, and_false, not_false_eq_true, not_true_eq_false, gd_T, kont_i, kont_v]
      have ix : (0 : Int32) + nI k = nI (0 + k) := nI_add 0 k
      have ix0 : (24 : Int32) * 0 = 0 := by decide +kernel
      obtain ⟨w, hwv⟩ : ∃ w, w = wrI (σ 100 0) v := ⟨_, rfl⟩
      rw [← hwv] at c1
      have g : ∀ o, o ≠ 78 → rep σ 78 (upd (σ 78) k w) o = σ o := fun o ho => rep_ne ho
      have c2 : callD (d + 100) 205 [.ref 87, .int 0, .int (nI k), .int v] (rep σ 78 (upd (σ 78) k w)) = some (some (.int 1), rep (rep σ 78 (upd (σ 78) k w)) 102 (upd (σ 102) (0 + k) w)) := by
        unfold wrI at hwv
        rcases a2 with q | q | q | q
        · exact absurd q b0
        · rw [q] at hwv
          have hv : v.toInt8.toInt32 = w := by rw [hwv]; rfl
          simp only [c205, s205_0, s205_1, s205_4, s205_7, s205_8, s205_10_o87, s205_13, s205_14, s205_15_o87, s205_18, s205_19_o100, s205_20, s205_23, s205_24, s205_26_o87, s205_29, s205_30, s205_31, s205_32, s205_33_o87, s205_36, s205_37_o101, s205_38, s205_39, s205_40, s205_43, s205_46, s205_47, s205_49_o87, s205_52, s205_53, s205_54_o87, s205_57, s205_59, s205_60, s205_61, s205_62, s205_63, s205_64_o87, s205_67, s205_68_o100, s205_69, s205_71, s205_74, s205_75, s205_76, s205_79, s205_80_o87, s205_83, s205_84_o100, s205_85, s205_87, s205_90, s205_91, s205_92, s205_95, s205_96_o102, s205_97, s205_98, m_isSheet, m_within, hs, b2_t, vp_lit, g 100 (by omega), g 101 (by omega), g 102 (by omega), n3, ct, ix0, ix, q, hv, vp_nI (show 0 + k < 96 by omega), cl_nI (show 0 + k < 2147483648 by omega), up2_rep, simprocAttr, if_true, if_false, true_and, and_true, false_and, and_false, not_false_eq_true, not_true_eq_false, gd_T, kont_i, kont_v]
        · rw [q] at hwv
          have hv : v.toInt16.toInt32 = w := by rw [hwv]; rfl
          simp only [c205, s205_0, s205_1, s205_4, s205_7, s205_8, s205_10_o87, s205_13, s205_14, s205_15_o87, s205_18, s205_19_o100, s205_20, s205_23, s205_24, s205_26_o87, s205_29, s205_30, s205_31, s205_32, s205_33_o87, s205_36, s205_37_o101, s205_38, s205_39, s205_40, s205_43, s205_46, s205_47, s205_49_o87, s205_52, s205_53, s205_54_o87, s205_57, s205_59, s205_60, s205_61, s205_62, s205_63, s205_64_o87, s205_67, s205_68_o100, s205_69, s205_71, s205_74, s205_75, s205_76, s205_79, s205_80_o87, s205_83, s205_84_o100, s205_85, s205_87, s205_90, s205_91, s205_92, s205_95, s205_96_o102, s205_97, s205_98, m_isSheet, m_within, hs, b2_t, vp_lit, g 100 (by omega), g 101 (by omega), g 102 (by omega), n3, ct, ix0, ix, q, hv, vp_nI (show 0 + k < 96 by omega), cl_nI (show 0 + k < 2147483648 by omega), up2_rep, simprocAttr, if_true, if_false, true_and, and_true, false_and, and_false, not_false_eq_true, not_true_eq_false, gd_T, kont_i, kont_v]
        · rw [q] at hwv
          have hv : v = w := by rw [hwv]; rfl
          subst hv
          simp only [c205, s205_0, s205_1, s205_4, s205_7, s205_8, s205_10_o87, s205_13, s205_14, s205_15_o87, s205_18, s205_19_o100, s205_20, s205_23, s205_24, s205_26_o87, s205_29, s205_30, s205_31, s205_32, s205_33_o87, s205_36, s205_37_o101, s205_38, s205_39, s205_40, s205_43, s205_46, s205_47, s205_49_o87, s205_52, s205_53, s205_54_o87, s205_57, s205_59, s205_60, s205_61, s205_62, s205_63, s205_64_o87, s205_67, s205_68_o100, s205_69, s205_71, s205_74, s205_75, s205_76, s205_79, s205_80_o87, s205_83, s205_84_o100, s205_85, s205_87, s205_90, s205_91, s205_92, s205_95, s205_96_o102, s205_97, s205_98, m_isSheet, m_within, hs, b2_t, vp_lit, g 100 (by omega), g 101 (by omega), g 102 (by omega), n3, ct, ix0, ix, q, vp_nI (show 0 + k < 96 by omega), cl_nI (show 0 + k < 2147483648 by omega), up2_rep, simprocAttr, if_true, if_false, true_and, and_true, false_and, and_false, not_false_eq_true, not_true_eq_false, gd_T, kont_i, kont_v]
      refine ⟨_, _, _, c1, c2, h.shx ?_ (h.wb.two c1 c2) (fun o ho => ?_)⟩
      · intro q hq
        obtain ⟨⟨e1, e2⟩, m, m1, m2, m3, m4⟩ := h.2.2.2.2.2.2.1 q hq
        have g2 : ∀ o, o ≠ 78 → o ≠ 102 → rep (rep σ 78 (upd (σ 78) k w)) 102 (upd (σ 102) (0 + k) w) o = σ o := fun o o1 o2 => (rep_ne o2).trans (rep_ne o1)
        refine ⟨⟨?_, ?_⟩, m, m1, ?_, ?_, fun y hy => ?_⟩
        · rw [g2 _ (by omega) (by omega), g2 100 (by omega) (by omega)]; exact e1
        · rw [g2 100 (by omega) (by omega)]; exact e2
        · rw [g2 _ (by omega) (by omega)]; exact m2
        · rw [g2 101 (by omega) (by omega)]; exact m3
        · by_cases cq : q = 0
          · subst cq
            rw [rep_ne (by omega), rep_self, rep_self, upd_at, upd_at]
            by_cases cy : y = k
            · rw [if_pos cy, if_pos (by omega)]
            · rw [if_neg cy, if_neg (by omega)]; exact m4 y hy
          · rw [g2 _ (by omega) (by omega), rep_self, upd_at, if_neg (by omega)]
            exact m4 y hy
      · rw [rep_ne (by omega), rep_ne (by omega)]
    · have cf := eq_false c
      have st : ¬ (0 ≤ x ∧ (0 : Int32) ≤ 1 ∧ 1 ≤ nI n ∧ x ≤ nI n - 1) := fun q => c ⟨q.1, q.2.2.2⟩
      rw [b2_F st] at hst
      refine Step_err h 1 (v := -1000001) ?_ ?_
      · simp only [c90, s90_0, s90_1, s90_4, s90_7, s90_8, s90_9_o0, s90_12, s90_13, s90_14_o0, s90_17, s90_18_o76, s90_19_o77, s90_19_o79, s90_19_o81, s90_19_o83, s90_22, s90_25, s90_26, s90_27_o0, s90_30, s90_31, s90_32_o0, s90_35, s90_36_o76, s90_37, s90_38, s90_39_o77, s90_39_o79, s90_39_o81, s90_39_o83, s90_42, s90_45, s90_46, s90_47_o0, s90_50, s90_51, s90_52_o0, s90_55, s90_56_o76, s90_57, s90_58, s90_59_o77, s90_59_o79, s90_59_o81, s90_59_o83, s90_62, s90_63, k_isSheet, hs, b2_t, vp_lit, cr76_0, hm, b2_F b0, hst, k_failed_1, simprocAttr, if_true, if_false, true_and, and_true, false_and, and_false, not_false_eq_true, not_true_eq_false, gd_T, kont_i, kont_v]
      · have e0 : erC σ 1 100 = σ 100 := rep_ne (by omega)
        have e1 : erC σ 1 101 = σ 101 := rep_ne (by omega)
        simp only [c205, s205_0, s205_1, s205_4, s205_7, s205_8, s205_10_o87, s205_13, s205_14, s205_15_o87, s205_18, s205_19_o100, s205_20, s205_23, s205_24, s205_26_o87, s205_29, s205_30, s205_31, s205_32, s205_33_o87, s205_36, s205_37_o101, s205_38, s205_39, s205_40, s205_43, s205_46, s205_47, s205_49_o87, s205_52, s205_53, s205_54_o87, s205_57, s205_59, s205_60, s205_61, s205_62, s205_63, s205_64_o87, s205_67, s205_68_o100, s205_69, s205_71, s205_74, s205_75, s205_76, s205_79, s205_80_o87, s205_83, s205_84_o100, s205_85, s205_87, s205_90, s205_91, s205_92, s205_95, s205_96_o102, s205_97, s205_98, m_isSheet, m_within, hs, b2_t, b2_f, vp_lit, e0, e1, b0', n3, cf, m_fin_1, simprocAttr, if_true, if_false, true_and, and_true, false_and, and_false, not_false_eq_true, not_true_eq_false, gd_T, kont_i, kont_v]
theorem k_write_1 (d k : Nat) (hk : k < 24) (v : Int32) (σ : Hs) : callD (d + 1) 49 [.ref 79, .int (nI k), .int v] σ = some (none, rep σ 80 (upd (σ 80) k (wrI (σ 79 1) v))) := by
  have k31 : k < 2147483648 := by omega
  unfold wrI
  by_cases b8 : σ 79 1 = 8
  · simp only [c49, s49_0, s49_1_o77, s49_1_o79, s49_1_o81, s49_1_o83, s49_4, s49_5, s49_6_o77, s49_6_o79, s49_6_o81, s49_6_o83, s49_9, s49_11, s49_14, s49_15, s49_16, s49_19, s49_20_o77, s49_20_o79, s49_20_o81, s49_20_o83, s49_23, s49_25, s49_28, s49_29, s49_30, s49_33, s49_34_o78, s49_34_o80, s49_34_o82, s49_34_o84, s49_35, b8, vp_nI hk, cl_nI k31, up2_rep, simprocAttr, if_true, if_false, true_and, and_true, false_and, and_false, not_false_eq_true, not_true_eq_false, gd_T, kont_i, kont_v]
  · by_cases b16 : σ 79 1 = 16
    · simp only [c49, s49_0, s49_1_o77, s49_1_o79, s49_1_o81, s49_1_o83, s49_4, s49_5, s49_6_o77, s49_6_o79, s49_6_o81, s49_6_o83, s49_9, s49_11, s49_14, s49_15, s49_16, s49_19, s49_20_o77, s49_20_o79, s49_20_o81, s49_20_o83, s49_23, s49_25, s49_28, s49_29, s49_30, s49_33, s49_34_o78, s49_34_o80, s49_34_o82, s49_34_o84, s49_35, b16, vp_nI hk, cl_nI k31, up2_rep, simprocAttr, if_true, if_false, true_and, and_true, false_and, and_false, not_false_eq_true, not_true_eq_false, gd_T, kont_i, kont_v]
    · simp only [c49, s49_0, s49_1_o77, s49_1_o79, s49_1_o81, s49_1_o83, s49_4, s49_5, s49_6_o77, s49_6_o79, s49_6_o81, s49_6_o83, s49_9, s49_11, s49_14, s49_15, s49_16, s49_19, s49_20_o77, s49_20_o79, s49_20_o81, s49_20_o83, s49_23, s49_25, s49_28, s49_29, s49_30, s49_33, s49_34_o78, s49_34_o80, s49_34_o82, s49_34_o84, s49_35, b8, b16, vp_nI hk, cl_nI k31, up2_rep, simprocAttr, if_true, if_false, true_and, and_true, false_and, and_false, not_false_eq_true, not_true_eq_false, gd_T, kont_i, kont_v]
def stP_1 (σ : Hs) (i n : Int32) : Prop := 0 ≤ i ∧ 0 ≤ n ∧ n ≤ σ 79 2 ∧ i ≤ σ 79 2 - n
theorem k_stand_1 (d : Nat) (i n : Int32) (σ : Hs) (z : Int32) (hz : σ 79 2 = z) : callD (d + 1) 48 [.ref 79, .int i, .int n] σ = some (some (.int (b2 (0 ≤ i ∧ 0 ≤ n ∧ n ≤ z ∧ i ≤ z - n))), σ) := by
  simp only [c48, s48_0, s48_1, s48_4, s48_5, s48_8, s48_9, s48_10_o77, s48_10_o79, s48_10_o81, s48_10_o83, s48_13, s48_16, s48_17, s48_18_o77, s48_18_o79, s48_18_o81, s48_18_o83, s48_21, s48_22, s48_23, s48_26, s48_27, s48_30, s48_31, hz, isB_0, isB_1, simprocAttr, if_true, if_false, true_and, and_true, false_and, and_false, not_false_eq_true, not_true_eq_false, gd_T, kont_i, kont_v]
  by_cases h1 : i < 0
  · rw [if_pos h1, b2_F (fun q => Int32.not_le.mpr h1 q.1)]
  · rw [if_neg h1]
    by_cases h2 : n < 0
    · rw [if_pos h2, b2_F (fun q => Int32.not_le.mpr h2 q.2.1)]
    · rw [if_neg h2]
      by_cases h3 : z < n
      · rw [if_pos h3, b2_F (fun q => Int32.not_le.mpr h3 q.2.2.1)]
      · rw [if_neg h3]
        by_cases h4 : z - n < i
        · rw [if_pos h4, b2_F (fun q => Int32.not_le.mpr h4 q.2.2.2)]
        · rw [if_neg h4, b2_T ⟨Int32.not_lt.mp h1, Int32.not_lt.mp h2, Int32.not_lt.mp h3, Int32.not_lt.mp h4⟩]
theorem k_isMissing_1 (d : Nat) (σ : Hs) (z : Int32) (hz : σ 79 1 = z) : callD (d + 1) 46 [.ref 79] σ = some (some (.int (b2 (z = 0))), σ) := by
  simp only [c46, s46_0, s46_1_o77, s46_1_o79, s46_1_o81, s46_1_o83, s46_4, s46_7, s46_8, s46_11, s46_12, hz, isB_0, isB_1, simprocAttr, if_true, if_false, true_and, and_true, false_and, and_false, not_false_eq_true, not_true_eq_false, gd_T, kont_i, kont_v]
  by_cases h1 : z = 0
  · rw [if_pos h1, b2_T h1]
  · rw [if_neg h1, b2_F h1]
theorem L_put_1 {i : Nat} {σ : Hs} (h : RR i σ) (d : Nat) (x v : Int32) : Step d i 90 205 [.int 1, .int x, .int v] σ := by
  have hs : ((0 : Int32) ≤ 1 ∧ (1 : Int32) ≤ 3) = True := eq_true (by decide)
  obtain ⟨⟨a1, a2⟩, n, n1, n2, n3, n4⟩ := h.2.2.2.2.2.2.1 1 (by omega)
  have a1 : σ 79 1 = σ 100 1 := a1
  have n2 : σ 79 2 = nI n := n2
  have hm := k_isMissing_1 (d + 98) σ _ a1
  by_cases b0 : σ 100 1 = 0
  · refine Step_err h 2 (v := -1000002) ?_ ?_
    · simp only [c90, s90_0, s90_1, s90_4, s90_7, s90_8, s90_9_o0, s90_12, s90_13, s90_14_o0, s90_17, s90_18_o76, s90_19_o77, s90_19_o79, s90_19_o81, s90_19_o83, s90_22, s90_25, s90_26, s90_27_o0, s90_30, s90_31, s90_32_o0, s90_35, s90_36_o76, s90_37, s90_38, s90_39_o77, s90_39_o79, s90_39_o81, s90_39_o83, s90_42, s90_45, s90_46, s90_47_o0, s90_50, s90_51, s90_52_o0, s90_55, s90_56_o76, s90_57, s90_58, s90_59_o77, s90_59_o79, s90_59_o81, s90_59_o83, s90_62, s90_63, k_isSheet, hs, b2_t, vp_lit, cr76_1, hm, b2_T b0, k_failed_2, simprocAttr, if_true, if_false, true_and, and_true, false_and, and_false, not_false_eq_true, not_true_eq_false, gd_T, kont_i, kont_v]
    · have e : erC σ 2 100 1 = 0 := by rw [show erC σ 2 100 = σ 100 from rep_ne (by omega)]; exact b0
      simp only [c205, s205_0, s205_1, s205_4, s205_7, s205_8, s205_10_o87, s205_13, s205_14, s205_15_o87, s205_18, s205_19_o100, s205_20, s205_23, s205_24, s205_26_o87, s205_29, s205_30, s205_31, s205_32, s205_33_o87, s205_36, s205_37_o101, s205_38, s205_39, s205_40, s205_43, s205_46, s205_47, s205_49_o87, s205_52, s205_53, s205_54_o87, s205_57, s205_59, s205_60, s205_61, s205_62, s205_63, s205_64_o87, s205_67, s205_68_o100, s205_69, s205_71, s205_74, s205_75, s205_76, s205_79, s205_80_o87, s205_83, s205_84_o100, s205_85, s205_87, s205_90, s205_91, s205_92, s205_95, s205_96_o102, s205_97, s205_98, m_isSheet, hs, b2_t, vp_lit, e, m_fin_2, simprocAttr, if_true, if_false, true_and, and_true, false_and, and_false, not_false_eq_true, not_true_eq_false, gd_T, kont_i, kont_v]
  · have b0' := eq_false b0
    have hst := k_stand_1 (d + 98) x 1 σ _ n2
    by_cases c : 0 ≤ x ∧ x ≤ nI n - 1
    · obtain ⟨k, hk, rfl⟩ := nI_of (Int32.not_lt.mpr c.1)
      have kn : k < n := by
        by_cases n0 : n = 0
        · subst n0
          have := c.2
          rw [show nI 0 - 1 = (-1 : Int32) from by decide +kernel, le_nI_l hk, show (-1 : Int32).toInt = -1 from rfl] at this
          omega
        · have := c.2
          rw [show (1 : Int32) = nI 1 from rfl, pk_sub (by omega), le_nn hk (by omega)] at this
          omega
      have st : 0 ≤ nI k ∧ (0 : Int32) ≤ 1 ∧ 1 ≤ nI n ∧ nI k ≤ nI n - 1 := ⟨c.1, by decide, by rw [show (1 : Int32) = nI 1 from rfl, le_nn (by omega) (by omega)]; omega, c.2⟩
      have ct := eq_true c
      have k24 : k < 24 := by omega
      rw [b2_T st] at hst
      have hw := k_write_1 (d + 98) k k24 v σ
      rw [a1] at hw
      have c1 : callD (d + 100) 90 [.ref 0, .int 1, .int (nI k), .int v] σ = some (some (.int 1), rep σ 80 (upd (σ 80) k (wrI (σ 100 1) v))) := by
        simp only [c90, s90_0, s90_1, s90_4, s90_7, s90_8, s90_9_o0, s90_12, s90_13, s90_14_o0, s90_17, s90_18_o76, s90_19_o77, s90_19_o79, s90_19_o81, s90_19_o83, s90_22, s90_25, s90_26, s90_27_o0, s90_30, s90_31, s90_32_o0, s90_35, s90_36_o76, s90_37, s90_38, s90_39_o77, s90_39_o79, s90_39_o81, s90_39_o83, s90_42, s90_45, s90_46, s90_47_o0, s90_50, s90_51, s90_52_o0, s90_55, s90_56_o76, s90_57, s90_58, s90_59_o77, s90_59_o79, s90_59_o81, s90_59_o83, s90_62, s90_63, k_isSheet, hs, b2_t, vp_lit, cr76_1, hm, b2_F b0, hst, hw, simprocAttr, if_true, if_false, true_and, and_true, false_and, and_false, not_false_eq_true, not_true_eq_false, gd_T, kont_i, kont_v]
      have ix : (24 : Int32) + nI k = nI (24 + k) := nI_add 24 k
      have ix0 : (24 : Int32) * 1 = 24 := by decide +kernel
      obtain ⟨w, hwv⟩ : ∃ w, w = wrI (σ 100 1) v := ⟨_, rfl⟩
      rw [← hwv] at c1
      have g : ∀ o, o ≠ 80 → rep σ 80 (upd (σ 80) k w) o = σ o := fun o ho => rep_ne ho
      have c2 : callD (d + 100) 205 [.ref 87, .int 1, .int (nI k), .int v] (rep σ 80 (upd (σ 80) k w)) = some (some (.int 1), rep (rep σ 80 (upd (σ 80) k w)) 102 (upd (σ 102) (24 + k) w)) := by
        unfold wrI at hwv
        rcases a2 with q | q | q | q
        · exact absurd q b0
        · rw [q] at hwv
          have hv : v.toInt8.toInt32 = w := by rw [hwv]; rfl
          simp only [c205, s205_0, s205_1, s205_4, s205_7, s205_8, s205_10_o87, s205_13, s205_14, s205_15_o87, s205_18, s205_19_o100, s205_20, s205_23, s205_24, s205_26_o87, s205_29, s205_30, s205_31, s205_32, s205_33_o87, s205_36, s205_37_o101, s205_38, s205_39, s205_40, s205_43, s205_46, s205_47, s205_49_o87, s205_52, s205_53, s205_54_o87, s205_57, s205_59, s205_60, s205_61, s205_62, s205_63, s205_64_o87, s205_67, s205_68_o100, s205_69, s205_71, s205_74, s205_75, s205_76, s205_79, s205_80_o87, s205_83, s205_84_o100, s205_85, s205_87, s205_90, s205_91, s205_92, s205_95, s205_96_o102, s205_97, s205_98, m_isSheet, m_within, hs, b2_t, vp_lit, g 100 (by omega), g 101 (by omega), g 102 (by omega), n3, ct, ix0, ix, q, hv, vp_nI (show 24 + k < 96 by omega), cl_nI (show 24 + k < 2147483648 by omega), up2_rep, simprocAttr, if_true, if_false, true_and, and_true, false_and, and_false, not_false_eq_true, not_true_eq_false, gd_T, kont_i, kont_v]
        · rw [q] at hwv
          have hv : v.toInt16.toInt32 = w := by rw [hwv]; rfl
          simp only [c205, s205_0, s205_1, s205_4, s205_7, s205_8, s205_10_o87, s205_13, s205_14, s205_15_o87, s205_18, s205_19_o100, s205_20, s205_23, s205_24, s205_26_o87, s205_29, s205_30, s205_31, s205_32, s205_33_o87, s205_36, s205_37_o101, s205_38, s205_39, s205_40, s205_43, s205_46, s205_47, s205_49_o87, s205_52, s205_53, s205_54_o87, s205_57, s205_59, s205_60, s205_61, s205_62, s205_63, s205_64_o87, s205_67, s205_68_o100, s205_69, s205_71, s205_74, s205_75, s205_76, s205_79, s205_80_o87, s205_83, s205_84_o100, s205_85, s205_87, s205_90, s205_91, s205_92, s205_95, s205_96_o102, s205_97, s205_98, m_isSheet, m_within, hs, b2_t, vp_lit, g 100 (by omega), g 101 (by omega), g 102 (by omega), n3, ct, ix0, ix, q, hv, vp_nI (show 24 + k < 96 by omega), cl_nI (show 24 + k < 2147483648 by omega), up2_rep, simprocAttr, if_true, if_false, true_and, and_true, false_and, and_false, not_false_eq_true, not_true_eq_false, gd_T, kont_i, kont_v]
        · rw [q] at hwv
          have hv : v = w := by rw [hwv]; rfl
          subst hv
          simp only [c205, s205_0, s205_1, s205_4, s205_7, s205_8, s205_10_o87, s205_13, s205_14, s205_15_o87, s205_18, s205_19_o100, s205_20, s205_23, s205_24, s205_26_o87, s205_29, s205_30, s205_31, s205_32, s205_33_o87, s205_36, s205_37_o101, s205_38, s205_39, s205_40, s205_43, s205_46, s205_47, s205_49_o87, s205_52, s205_53, s205_54_o87, s205_57, s205_59, s205_60, s205_61, s205_62, s205_63, s205_64_o87, s205_67, s205_68_o100, s205_69, s205_71, s205_74, s205_75, s205_76, s205_79, s205_80_o87, s205_83, s205_84_o100, s205_85, s205_87, s205_90, s205_91, s205_92, s205_95, s205_96_o102, s205_97, s205_98, m_isSheet, m_within, hs, b2_t, vp_lit, g 100 (by omega), g 101 (by omega), g 102 (by omega), n3, ct, ix0, ix, q, vp_nI (show 24 + k < 96 by omega), cl_nI (show 24 + k < 2147483648 by omega), up2_rep, simprocAttr, if_true, if_false, true_and, and_true, false_and, and_false, not_false_eq_true, not_true_eq_false, gd_T, kont_i, kont_v]
      refine ⟨_, _, _, c1, c2, h.shx ?_ (h.wb.two c1 c2) (fun o ho => ?_)⟩
      · intro q hq
        obtain ⟨⟨e1, e2⟩, m, m1, m2, m3, m4⟩ := h.2.2.2.2.2.2.1 q hq
        have g2 : ∀ o, o ≠ 80 → o ≠ 102 → rep (rep σ 80 (upd (σ 80) k w)) 102 (upd (σ 102) (24 + k) w) o = σ o := fun o o1 o2 => (rep_ne o2).trans (rep_ne o1)
        refine ⟨⟨?_, ?_⟩, m, m1, ?_, ?_, fun y hy => ?_⟩
        · rw [g2 _ (by omega) (by omega), g2 100 (by omega) (by omega)]; exact e1
        · rw [g2 100 (by omega) (by omega)]; exact e2
        · rw [g2 _ (by omega) (by omega)]; exact m2
        · rw [g2 101 (by omega) (by omega)]; exact m3
        · by_cases cq : q = 1
          · subst cq
            rw [rep_ne (by omega), rep_self, rep_self, upd_at, upd_at]
            by_cases cy : y = k
            · rw [if_pos cy, if_pos (by omega)]
            · rw [if_neg cy, if_neg (by omega)]; exact m4 y hy
          · rw [g2 _ (by omega) (by omega), rep_self, upd_at, if_neg (by omega)]
            exact m4 y hy
      · rw [rep_ne (by omega), rep_ne (by omega)]
    · have cf := eq_false c
      have st : ¬ (0 ≤ x ∧ (0 : Int32) ≤ 1 ∧ 1 ≤ nI n ∧ x ≤ nI n - 1) := fun q => c ⟨q.1, q.2.2.2⟩
      rw [b2_F st] at hst
      refine Step_err h 1 (v := -1000001) ?_ ?_
      · simp only [c90, s90_0, s90_1, s90_4, s90_7, s90_8, s90_9_o0, s90_12, s90_13, s90_14_o0, s90_17, s90_18_o76, s90_19_o77, s90_19_o79, s90_19_o81, s90_19_o83, s90_22, s90_25, s90_26, s90_27_o0, s90_30, s90_31, s90_32_o0, s90_35, s90_36_o76, s90_37, s90_38, s90_39_o77, s90_39_o79, s90_39_o81, s90_39_o83, s90_42, s90_45, s90_46, s90_47_o0, s90_50, s90_51, s90_52_o0, s90_55, s90_56_o76, s90_57, s90_58, s90_59_o77, s90_59_o79, s90_59_o81, s90_59_o83, s90_62, s90_63, k_isSheet, hs, b2_t, vp_lit, cr76_1, hm, b2_F b0, hst, k_failed_1, simprocAttr, if_true, if_false, true_and, and_true, false_and, and_false, not_false_eq_true, not_true_eq_false, gd_T, kont_i, kont_v]
      · have e0 : erC σ 1 100 = σ 100 := rep_ne (by omega)
        have e1 : erC σ 1 101 = σ 101 := rep_ne (by omega)
        simp only [c205, s205_0, s205_1, s205_4, s205_7, s205_8, s205_10_o87, s205_13, s205_14, s205_15_o87, s205_18, s205_19_o100, s205_20, s205_23, s205_24, s205_26_o87, s205_29, s205_30, s205_31, s205_32, s205_33_o87, s205_36, s205_37_o101, s205_38, s205_39, s205_40, s205_43, s205_46, s205_47, s205_49_o87, s205_52, s205_53, s205_54_o87, s205_57, s205_59, s205_60, s205_61, s205_62, s205_63, s205_64_o87, s205_67, s205_68_o100, s205_69, s205_71, s205_74, s205_75, s205_76, s205_79, s205_80_o87, s205_83, s205_84_o100, s205_85, s205_87, s205_90, s205_91, s205_92, s205_95, s205_96_o102, s205_97, s205_98, m_isSheet, m_within, hs, b2_t, b2_f, vp_lit, e0, e1, b0', n3, cf, m_fin_1, simprocAttr, if_true, if_false, true_and, and_true, false_and, and_false, not_false_eq_true, not_true_eq_false, gd_T, kont_i, kont_v]
theorem k_write_2 (d k : Nat) (hk : k < 24) (v : Int32) (σ : Hs) : callD (d + 1) 49 [.ref 81, .int (nI k), .int v] σ = some (none, rep σ 82 (upd (σ 82) k (wrI (σ 81 1) v))) := by
  have k31 : k < 2147483648 := by omega
  unfold wrI
  by_cases b8 : σ 81 1 = 8
  · simp only [c49, s49_0, s49_1_o77, s49_1_o79, s49_1_o81, s49_1_o83, s49_4, s49_5, s49_6_o77, s49_6_o79, s49_6_o81, s49_6_o83, s49_9, s49_11, s49_14, s49_15, s49_16, s49_19, s49_20_o77, s49_20_o79, s49_20_o81, s49_20_o83, s49_23, s49_25, s49_28, s49_29, s49_30, s49_33, s49_34_o78, s49_34_o80, s49_34_o82, s49_34_o84, s49_35, b8, vp_nI hk, cl_nI k31, up2_rep, simprocAttr, if_true, if_false, true_and, and_true, false_and, and_false, not_false_eq_true, not_true_eq_false, gd_T, kont_i, kont_v]
  · by_cases b16 : σ 81 1 = 16
    · simp only [c49, s49_0, s49_1_o77, s49_1_o79, s49_1_o81, s49_1_o83, s49_4, s49_5, s49_6_o77, s49_6_o79, s49_6_o81, s49_6_o83, s49_9, s49_11, s49_14, s49_15, s49_16, s49_19, s49_20_o77, s49_20_o79, s49_20_o81, s49_20_o83, s49_23, s49_25, s49_28, s49_29, s49_30, s49_33, s49_34_o78, s49_34_o80, s49_34_o82, s49_34_o84, s49_35, b16, vp_nI hk, cl_nI k31, up2_rep, simprocAttr, if_true, if_false, true_and, and_true, false_and, and_false, not_false_eq_true, not_true_eq_false, gd_T, kont_i, kont_v]
    · simp only [c49, s49_0, s49_1_o77, s49_1_o79, s49_1_o81, s49_1_o83, s49_4, s49_5, s49_6_o77, s49_6_o79, s49_6_o81, s49_6_o83, s49_9, s49_11, s49_14, s49_15, s49_16, s49_19, s49_20_o77, s49_20_o79, s49_20_o81, s49_20_o83, s49_23, s49_25, s49_28, s49_29, s49_30, s49_33, s49_34_o78, s49_34_o80, s49_34_o82, s49_34_o84, s49_35, b8, b16, vp_nI hk, cl_nI k31, up2_rep, simprocAttr, if_true, if_false, true_and, and_true, false_and, and_false, not_false_eq_true, not_true_eq_false, gd_T, kont_i, kont_v]
def stP_2 (σ : Hs) (i n : Int32) : Prop := 0 ≤ i ∧ 0 ≤ n ∧ n ≤ σ 81 2 ∧ i ≤ σ 81 2 - n
theorem k_stand_2 (d : Nat) (i n : Int32) (σ : Hs) (z : Int32) (hz : σ 81 2 = z) : callD (d + 1) 48 [.ref 81, .int i, .int n] σ = some (some (.int (b2 (0 ≤ i ∧ 0 ≤ n ∧ n ≤ z ∧ i ≤ z - n))), σ) := by
  simp only [c48, s48_0, s48_1, s48_4, s48_5, s48_8, s48_9, s48_10_o77, s48_10_o79, s48_10_o81, s48_10_o83, s48_13, s48_16, s48_17, s48_18_o77, s48_18_o79, s48_18_o81, s48_18_o83, s48_21, s48_22, s48_23, s48_26, s48_27, s48_30, s48_31, hz, isB_0, isB_1, simprocAttr, if_true, if_false, true_and, and_true, false_and, and_false, not_false_eq_true, not_true_eq_false, gd_T, kont_i, kont_v]
  by_cases h1 : i < 0
  · rw [if_pos h1, b2_F (fun q => Int32.not_le.mpr h1 q.1)]
  · rw [if_neg h1]
    by_cases h2 : n < 0
    · rw [if_pos h2, b2_F (fun q => Int32.not_le.mpr h2 q.2.1)]
    · rw [if_neg h2]
      by_cases h3 : z < n
      · rw [if_pos h3, b2_F (fun q => Int32.not_le.mpr h3 q.2.2.1)]
      · rw [if_neg h3]
        by_cases h4 : z - n < i
        · rw [if_pos h4, b2_F (fun q => Int32.not_le.mpr h4 q.2.2.2)]
        · rw [if_neg h4, b2_T ⟨Int32.not_lt.mp h1, Int32.not_lt.mp h2, Int32.not_lt.mp h3, Int32.not_lt.mp h4⟩]
theorem k_isMissing_2 (d : Nat) (σ : Hs) (z : Int32) (hz : σ 81 1 = z) : callD (d + 1) 46 [.ref 81] σ = some (some (.int (b2 (z = 0))), σ) := by
  simp only [c46, s46_0, s46_1_o77, s46_1_o79, s46_1_o81, s46_1_o83, s46_4, s46_7, s46_8, s46_11, s46_12, hz, isB_0, isB_1, simprocAttr, if_true, if_false, true_and, and_true, false_and, and_false, not_false_eq_true, not_true_eq_false, gd_T, kont_i, kont_v]
  by_cases h1 : z = 0
  · rw [if_pos h1, b2_T h1]
  · rw [if_neg h1, b2_F h1]
theorem L_put_2 {i : Nat} {σ : Hs} (h : RR i σ) (d : Nat) (x v : Int32) : Step d i 90 205 [.int 2, .int x, .int v] σ := by
  have hs : ((0 : Int32) ≤ 2 ∧ (2 : Int32) ≤ 3) = True := eq_true (by decide)
  obtain ⟨⟨a1, a2⟩, n, n1, n2, n3, n4⟩ := h.2.2.2.2.2.2.1 2 (by omega)
  have a1 : σ 81 1 = σ 100 2 := a1
  have n2 : σ 81 2 = nI n := n2
  have hm := k_isMissing_2 (d + 98) σ _ a1
  by_cases b0 : σ 100 2 = 0
  · refine Step_err h 2 (v := -1000002) ?_ ?_
    · simp only [c90, s90_0, s90_1, s90_4, s90_7, s90_8, s90_9_o0, s90_12, s90_13, s90_14_o0, s90_17, s90_18_o76, s90_19_o77, s90_19_o79, s90_19_o81, s90_19_o83, s90_22, s90_25, s90_26, s90_27_o0, s90_30, s90_31, s90_32_o0, s90_35, s90_36_o76, s90_37, s90_38, s90_39_o77, s90_39_o79, s90_39_o81, s90_39_o83, s90_42, s90_45, s90_46, s90_47_o0, s90_50, s90_51, s90_52_o0, s90_55, s90_56_o76, s90_57, s90_58, s90_59_o77, s90_59_o79, s90_59_o81, s90_59_o83, s90_62, s90_63, k_isSheet, hs, b2_t, vp_lit, cr76_2, hm, b2_T b0, k_failed_2, simprocAttr, if_true, if_false, true_and, and_true, false_and, and_false, not_false_eq_true, not_true_eq_false, gd_T, kont_i, kont_v]
    · have e : erC σ 2 100 2 = 0 := by rw [show erC σ 2 100 = σ 100 from rep_ne (by omega)]; exact b0
      simp only [c205, s205_0, s205_1, s205_4, s205_7, s205_8, s205_10_o87, s205_13, s205_14, s205_15_o87, s205_18, s205_19_o100, s205_20, s205_23, s205_24, s205_26_o87, s205_29, s205_30, s205_31, s205_32, s205_33_o87, s205_36, s205_37_o101, s205_38, s205_39, s205_40, s205_43, s205_46, s205_47, s205_49_o87, s205_52, s205_53, s205_54_o87, s205_57, s205_59, s205_60, s205_61, s205_62, s205_63, s205_64_o87, s205_67, s205_68_o100, s205_69, s205_71, s205_74, s205_75, s205_76, s205_79, s205_80_o87, s205_83, s205_84_o100, s205_85, s205_87, s205_90, s205_91, s205_92, s205_95, s205_96_o102, s205_97, s205_98, m_isSheet, hs, b2_t, vp_lit, e, m_fin_2, simprocAttr, if_true, if_false, true_and, and_true, false_and, and_false, not_false_eq_true, not_true_eq_false, gd_T, kont_i, kont_v]
  · have b0' := eq_false b0
    have hst := k_stand_2 (d + 98) x 1 σ _ n2
    by_cases c : 0 ≤ x ∧ x ≤ nI n - 1
    · obtain ⟨k, hk, rfl⟩ := nI_of (Int32.not_lt.mpr c.1)
      have kn : k < n := by
        by_cases n0 : n = 0
        · subst n0
          have := c.2
          rw [show nI 0 - 1 = (-1 : Int32) from by decide +kernel, le_nI_l hk, show (-1 : Int32).toInt = -1 from rfl] at this
          omega
        · have := c.2
          rw [show (1 : Int32) = nI 1 from rfl, pk_sub (by omega), le_nn hk (by omega)] at this
          omega
      have st : 0 ≤ nI k ∧ (0 : Int32) ≤ 1 ∧ 1 ≤ nI n ∧ nI k ≤ nI n - 1 := ⟨c.1, by decide, by rw [show (1 : Int32) = nI 1 from rfl, le_nn (by omega) (by omega)]; omega, c.2⟩
      have ct := eq_true c
      have k24 : k < 24 := by omega
      rw [b2_T st] at hst
      have hw := k_write_2 (d + 98) k k24 v σ
      rw [a1] at hw
      have c1 : callD (d + 100) 90 [.ref 0, .int 2, .int (nI k), .int v] σ = some (some (.int 1), rep σ 82 (upd (σ 82) k (wrI (σ 100 2) v))) := by
        simp only [c90, s90_0, s90_1, s90_4, s90_7, s90_8, s90_9_o0, s90_12, s90_13, s90_14_o0, s90_17, s90_18_o76, s90_19_o77, s90_19_o79, s90_19_o81, s90_19_o83, s90_22, s90_25, s90_26, s90_27_o0, s90_30, s90_31, s90_32_o0, s90_35, s90_36_o76, s90_37, s90_38, s90_39_o77, s90_39_o79, s90_39_o81, s90_39_o83, s90_42, s90_45, s90_46, s90_47_o0, s90_50, s90_51, s90_52_o0, s90_55, s90_56_o76, s90_57, s90_58, s90_59_o77, s90_59_o79, s90_59_o81, s90_59_o83, s90_62, s90_63, k_isSheet, hs, b2_t, vp_lit, cr76_2, hm, b2_F b0, hst, hw, simprocAttr, if_true, if_false, true_and, and_true, false_and, and_false, not_false_eq_true, not_true_eq_false, gd_T, kont_i, kont_v]
      have ix : (48 : Int32) + nI k = nI (48 + k) := nI_add 48 k
      have ix0 : (24 : Int32) * 2 = 48 := by decide +kernel
      obtain ⟨w, hwv⟩ : ∃ w, w = wrI (σ 100 2) v := ⟨_, rfl⟩
      rw [← hwv] at c1
      have g : ∀ o, o ≠ 82 → rep σ 82 (upd (σ 82) k w) o = σ o := fun o ho => rep_ne ho
      have c2 : callD (d + 100) 205 [.ref 87, .int 2, .int (nI k), .int v] (rep σ 82 (upd (σ 82) k w)) = some (some (.int 1), rep (rep σ 82 (upd (σ 82) k w)) 102 (upd (σ 102) (48 + k) w)) := by
        unfold wrI at hwv
        rcases a2 with q | q | q | q
        · exact absurd q b0
        · rw [q] at hwv
          have hv : v.toInt8.toInt32 = w := by rw [hwv]; rfl
          simp only [c205, s205_0, s205_1, s205_4, s205_7, s205_8, s205_10_o87, s205_13, s205_14, s205_15_o87, s205_18, s205_19_o100, s205_20, s205_23, s205_24, s205_26_o87, s205_29, s205_30, s205_31, s205_32, s205_33_o87, s205_36, s205_37_o101, s205_38, s205_39, s205_40, s205_43, s205_46, s205_47, s205_49_o87, s205_52, s205_53, s205_54_o87, s205_57, s205_59, s205_60, s205_61, s205_62, s205_63, s205_64_o87, s205_67, s205_68_o100, s205_69, s205_71, s205_74, s205_75, s205_76, s205_79, s205_80_o87, s205_83, s205_84_o100, s205_85, s205_87, s205_90, s205_91, s205_92, s205_95, s205_96_o102, s205_97, s205_98, m_isSheet, m_within, hs, b2_t, vp_lit, g 100 (by omega), g 101 (by omega), g 102 (by omega), n3, ct, ix0, ix, q, hv, vp_nI (show 48 + k < 96 by omega), cl_nI (show 48 + k < 2147483648 by omega), up2_rep, simprocAttr, if_true, if_false, true_and, and_true, false_and, and_false, not_false_eq_true, not_true_eq_false, gd_T, kont_i, kont_v]
        · rw [q] at hwv
          have hv : v.toInt16.toInt32 = w := by rw [hwv]; rfl
          simp only [c205, s205_0, s205_1, s205_4, s205_7, s205_8, s205_10_o87, s205_13, s205_14, s205_15_o87, s205_18, s205_19_o100, s205_20, s205_23, s205_24, s205_26_o87, s205_29, s205_30, s205_31, s205_32, s205_33_o87, s205_36, s205_37_o101, s205_38, s205_39, s205_40, s205_43, s205_46, s205_47, s205_49_o87, s205_52, s205_53, s205_54_o87, s205_57, s205_59, s205_60, s205_61, s205_62, s205_63, s205_64_o87, s205_67, s205_68_o100, s205_69, s205_71, s205_74, s205_75, s205_76, s205_79, s205_80_o87, s205_83, s205_84_o100, s205_85, s205_87, s205_90, s205_91, s205_92, s205_95, s205_96_o102, s205_97, s205_98, m_isSheet, m_within, hs, b2_t, vp_lit, g 100 (by omega), g 101 (by omega), g 102 (by omega), n3, ct, ix0, ix, q, hv, vp_nI (show 48 + k < 96 by omega), cl_nI (show 48 + k < 2147483648 by omega), up2_rep, simprocAttr, if_true, if_false, true_and, and_true, false_and, and_false, not_false_eq_true, not_true_eq_false, gd_T, kont_i, kont_v]
        · rw [q] at hwv
          have hv : v = w := by rw [hwv]; rfl
          subst hv
          simp only [c205, s205_0, s205_1, s205_4, s205_7, s205_8, s205_10_o87, s205_13, s205_14, s205_15_o87, s205_18, s205_19_o100, s205_20, s205_23, s205_24, s205_26_o87, s205_29, s205_30, s205_31, s205_32, s205_33_o87, s205_36, s205_37_o101, s205_38, s205_39, s205_40, s205_43, s205_46, s205_47, s205_49_o87, s205_52, s205_53, s205_54_o87, s205_57, s205_59, s205_60, s205_61, s205_62, s205_63, s205_64_o87, s205_67, s205_68_o100, s205_69, s205_71, s205_74, s205_75, s205_76, s205_79, s205_80_o87, s205_83, s205_84_o100, s205_85, s205_87, s205_90, s205_91, s205_92, s205_95, s205_96_o102, s205_97, s205_98, m_isSheet, m_within, hs, b2_t, vp_lit, g 100 (by omega), g 101 (by omega), g 102 (by omega), n3, ct, ix0, ix, q, vp_nI (show 48 + k < 96 by omega), cl_nI (show 48 + k < 2147483648 by omega), up2_rep, simprocAttr, if_true, if_false, true_and, and_true, false_and, and_false, not_false_eq_true, not_true_eq_false, gd_T, kont_i, kont_v]
      refine ⟨_, _, _, c1, c2, h.shx ?_ (h.wb.two c1 c2) (fun o ho => ?_)⟩
      · intro q hq
        obtain ⟨⟨e1, e2⟩, m, m1, m2, m3, m4⟩ := h.2.2.2.2.2.2.1 q hq
        have g2 : ∀ o, o ≠ 82 → o ≠ 102 → rep (rep σ 82 (upd (σ 82) k w)) 102 (upd (σ 102) (48 + k) w) o = σ o := fun o o1 o2 => (rep_ne o2).trans (rep_ne o1)
        refine ⟨⟨?_, ?_⟩, m, m1, ?_, ?_, fun y hy => ?_⟩
        · rw [g2 _ (by omega) (by omega), g2 100 (by omega) (by omega)]; exact e1
        · rw [g2 100 (by omega) (by omega)]; exact e2
        · rw [g2 _ (by omega) (by omega)]; exact m2
        · rw [g2 101 (by omega) (by omega)]; exact m3
        · by_cases cq : q = 2
          · subst cq
            rw [rep_ne (by omega), rep_self, rep_self, upd_at, upd_at]
            by_cases cy : y = k
            · rw [if_pos cy, if_pos (by omega)]
            · rw [if_neg cy, if_neg (by omega)]; exact m4 y hy
          · rw [g2 _ (by omega) (by omega), rep_self, upd_at, if_neg (by omega)]
            exact m4 y hy
      · rw [rep_ne (by omega), rep_ne (by omega)]
    · have cf := eq_false c
      have st : ¬ (0 ≤ x ∧ (0 : Int32) ≤ 1 ∧ 1 ≤ nI n ∧ x ≤ nI n - 1) := fun q => c ⟨q.1, q.2.2.2⟩
      rw [b2_F st] at hst
      refine Step_err h 1 (v := -1000001) ?_ ?_
      · simp only [c90, s90_0, s90_1, s90_4, s90_7, s90_8, s90_9_o0, s90_12, s90_13, s90_14_o0, s90_17, s90_18_o76, s90_19_o77, s90_19_o79, s90_19_o81, s90_19_o83, s90_22, s90_25, s90_26, s90_27_o0, s90_30, s90_31, s90_32_o0, s90_35, s90_36_o76, s90_37, s90_38, s90_39_o77, s90_39_o79, s90_39_o81, s90_39_o83, s90_42, s90_45, s90_46, s90_47_o0, s90_50, s90_51, s90_52_o0, s90_55, s90_56_o76, s90_57, s90_58, s90_59_o77, s90_59_o79, s90_59_o81, s90_59_o83, s90_62, s90_63, k_isSheet, hs, b2_t, vp_lit, cr76_2, hm, b2_F b0, hst, k_failed_1, simprocAttr, if_true, if_false, true_and, and_true, false_and, and_false, not_false_eq_true, not_true_eq_false, gd_T, kont_i, kont_v]
      · have e0 : erC σ 1 100 = σ 100 := rep_ne (by omega)
        have e1 : erC σ 1 101 = σ 101 := rep_ne (by omega)
        simp only [c205, s205_0, s205_1, s205_4, s205_7, s205_8, s205_10_o87, s205_13, s205_14, s205_15_o87, s205_18, s205_19_o100, s205_20, s205_23, s205_24, s205_26_o87, s205_29, s205_30, s205_31, s205_32, s205_33_o87, s205_36, s205_37_o101, s205_38, s205_39, s205_40, s205_43, s205_46, s205_47, s205_49_o87, s205_52, s205_53, s205_54_o87, s205_57, s205_59, s205_60, s205_61, s205_62, s205_63, s205_64_o87, s205_67, s205_68_o100, s205_69, s205_71, s205_74, s205_75, s205_76, s205_79, s205_80_o87, s205_83, s205_84_o100, s205_85, s205_87, s205_90, s205_91, s205_92, s205_95, s205_96_o102, s205_97, s205_98, m_isSheet, m_within, hs, b2_t, b2_f, vp_lit, e0, e1, b0', n3, cf, m_fin_1, simprocAttr, if_true, if_false, true_and, and_true, false_and, and_false, not_false_eq_true, not_true_eq_false, gd_T, kont_i, kont_v]
theorem k_write_3 (d k : Nat) (hk : k < 24) (v : Int32) (σ : Hs) : callD (d + 1) 49 [.ref 83, .int (nI k), .int v] σ = some (none, rep σ 84 (upd (σ 84) k (wrI (σ 83 1) v))) := by
  have k31 : k < 2147483648 := by omega
  unfold wrI
  by_cases b8 : σ 83 1 = 8
  · simp only [c49, s49_0, s49_1_o77, s49_1_o79, s49_1_o81, s49_1_o83, s49_4, s49_5, s49_6_o77, s49_6_o79, s49_6_o81, s49_6_o83, s49_9, s49_11, s49_14, s49_15, s49_16, s49_19, s49_20_o77, s49_20_o79, s49_20_o81, s49_20_o83, s49_23, s49_25, s49_28, s49_29, s49_30, s49_33, s49_34_o78, s49_34_o80, s49_34_o82, s49_34_o84, s49_35, b8, vp_nI hk, cl_nI k31, up2_rep, simprocAttr, if_true, if_false, true_and, and_true, false_and, and_false, not_false_eq_true, not_true_eq_false, gd_T, kont_i, kont_v]
  · by_cases b16 : σ 83 1 = 16
    · simp only [c49, s49_0, s49_1_o77, s49_1_o79, s49_1_o81, s49_1_o83, s49_4, s49_5, s49_6_o77, s49_6_o79, s49_6_o81, s49_6_o83, s49_9, s49_11, s49_14, s49_15, s49_16, s49_19, s49_20_o77, s49_20_o79, s49_20_o81, s49_20_o83, s49_23, s49_25, s49_28, s49_29, s49_30, s49_33, s49_34_o78, s49_34_o80, s49_34_o82, s49_34_o84, s49_35, b16, vp_nI hk, cl_nI k31, up2_rep, simprocAttr, if_true, if_false, true_and, and_true, false_and, and_false, not_false_eq_true, not_true_eq_false, gd_T, kont_i, kont_v]
    · simp only [c49, s49_0, s49_1_o77, s49_1_o79, s49_1_o81, s49_1_o83, s49_4, s49_5, s49_6_o77, s49_6_o79, s49_6_o81, s49_6_o83, s49_9, s49_11, s49_14, s49_15, s49_16, s49_19, s49_20_o77, s49_20_o79, s49_20_o81, s49_20_o83, s49_23, s49_25, s49_28, s49_29, s49_30, s49_33, s49_34_o78, s49_34_o80, s49_34_o82, s49_34_o84, s49_35, b8, b16, vp_nI hk, cl_nI k31, up2_rep, simprocAttr, if_true, if_false, true_and, and_true, false_and, and_false, not_false_eq_true, not_true_eq_false, gd_T, kont_i, kont_v]
def stP_3 (σ : Hs) (i n : Int32) : Prop := 0 ≤ i ∧ 0 ≤ n ∧ n ≤ σ 83 2 ∧ i ≤ σ 83 2 - n
theorem k_stand_3 (d : Nat) (i n : Int32) (σ : Hs) (z : Int32) (hz : σ 83 2 = z) : callD (d + 1) 48 [.ref 83, .int i, .int n] σ = some (some (.int (b2 (0 ≤ i ∧ 0 ≤ n ∧ n ≤ z ∧ i ≤ z - n))), σ) := by
  simp only [c48, s48_0, s48_1, s48_4, s48_5, s48_8, s48_9, s48_10_o77, s48_10_o79, s48_10_o81, s48_10_o83, s48_13, s48_16, s48_17, s48_18_o77, s48_18_o79, s48_18_o81, s48_18_o83, s48_21, s48_22, s48_23, s48_26, s48_27, s48_30, s48_31, hz, isB_0, isB_1, simprocAttr, if_true, if_false, true_and, and_true, false_and, and_false, not_false_eq_true, not_true_eq_false, gd_T, kont_i, kont_v]
  by_cases h1 : i < 0
  · rw [if_pos h1, b2_F (fun q => Int32.not_le.mpr h1 q.1)]
  · rw [if_neg h1]
    by_cases h2 : n < 0
    · rw [if_pos h2, b2_F (fun q => Int32.not_le.mpr h2 q.2.1)]
    · rw [if_neg h2]
      by_cases h3 : z < n
      · rw [if_pos h3, b2_F (fun q => Int32.not_le.mpr h3 q.2.2.1)]
      · rw [if_neg h3]
        by_cases h4 : z - n < i
        · rw [if_pos h4, b2_F (fun q => Int32.not_le.mpr h4 q.2.2.2)]
        · rw [if_neg h4, b2_T ⟨Int32.not_lt.mp h1, Int32.not_lt.mp h2, Int32.not_lt.mp h3, Int32.not_lt.mp h4⟩]
theorem k_isMissing_3 (d : Nat) (σ : Hs) (z : Int32) (hz : σ 83 1 = z) : callD (d + 1) 46 [.ref 83] σ = some (some (.int (b2 (z = 0))), σ) := by
  simp only [c46, s46_0, s46_1_o77, s46_1_o79, s46_1_o81, s46_1_o83, s46_4, s46_7, s46_8, s46_11, s46_12, hz, isB_0, isB_1, simprocAttr, if_true, if_false, true_and, and_true, false_and, and_false, not_false_eq_true, not_true_eq_false, gd_T, kont_i, kont_v]
  by_cases h1 : z = 0
  · rw [if_pos h1, b2_T h1]
  · rw [if_neg h1, b2_F h1]
theorem L_put_3 {i : Nat} {σ : Hs} (h : RR i σ) (d : Nat) (x v : Int32) : Step d i 90 205 [.int 3, .int x, .int v] σ := by
  have hs : ((0 : Int32) ≤ 3 ∧ (3 : Int32) ≤ 3) = True := eq_true (by decide)
  obtain ⟨⟨a1, a2⟩, n, n1, n2, n3, n4⟩ := h.2.2.2.2.2.2.1 3 (by omega)
  have a1 : σ 83 1 = σ 100 3 := a1
  have n2 : σ 83 2 = nI n := n2
  have hm := k_isMissing_3 (d + 98) σ _ a1
  by_cases b0 : σ 100 3 = 0
  · refine Step_err h 2 (v := -1000002) ?_ ?_
    · simp only [c90, s90_0, s90_1, s90_4, s90_7, s90_8, s90_9_o0, s90_12, s90_13, s90_14_o0, s90_17, s90_18_o76, s90_19_o77, s90_19_o79, s90_19_o81, s90_19_o83, s90_22, s90_25, s90_26, s90_27_o0, s90_30, s90_31, s90_32_o0, s90_35, s90_36_o76, s90_37, s90_38, s90_39_o77, s90_39_o79, s90_39_o81, s90_39_o83, s90_42, s90_45, s90_46, s90_47_o0, s90_50, s90_51, s90_52_o0, s90_55, s90_56_o76, s90_57, s90_58, s90_59_o77, s90_59_o79, s90_59_o81, s90_59_o83, s90_62, s90_63, k_isSheet, hs, b2_t, vp_lit, cr76_3, hm, b2_T b0, k_failed_2, simprocAttr, if_true, if_false, true_and, and_true, false_and, and_false, not_false_eq_true, not_true_eq_false, gd_T, kont_i, kont_v]
    · have e : erC σ 2 100 3 = 0 := by rw [show erC σ 2 100 = σ 100 from rep_ne (by omega)]; exact b0
      simp only [c205, s205_0, s205_1, s205_4, s205_7, s205_8, s205_10_o87, s205_13, s205_14, s205_15_o87, s205_18, s205_19_o100, s205_20, s205_23, s205_24, s205_26_o87, s205_29, s205_30, s205_31, s205_32, s205_33_o87, s205_36, s205_37_o101, s205_38, s205_39, s205_40, s205_43, s205_46, s205_47, s205_49_o87, s205_52, s205_53, s205_54_o87, s205_57, s205_59, s205_60, s205_61, s205_62, s205_63, s205_64_o87, s205_67, s205_68_o100, s205_69, s205_71, s205_74, s205_75, s205_76, s205_79, s205_80_o87, s205_83, s205_84_o100, s205_85, s205_87, s205_90, s205_91, s205_92, s205_95, s205_96_o102, s205_97, s205_98, m_isSheet, hs, b2_t, vp_lit, e, m_fin_2, simprocAttr, if_true, if_false, true_and, and_true, false_and, and_false, not_false_eq_true, not_true_eq_false, gd_T, kont_i, kont_v]
  · have b0' := eq_false b0
    have hst := k_stand_3 (d + 98) x 1 σ _ n2
    by_cases c : 0 ≤ x ∧ x ≤ nI n - 1
    · obtain ⟨k, hk, rfl⟩ := nI_of (Int32.not_lt.mpr c.1)
      have kn : k < n := by
        by_cases n0 : n = 0
        · subst n0
          have := c.2
          rw [show nI 0 - 1 = (-1 : Int32) from by decide +kernel, le_nI_l hk, show (-1 : Int32).toInt = -1 from rfl] at this
          omega
        · have := c.2
          rw [show (1 : Int32) = nI 1 from rfl, pk_sub (by omega), le_nn hk (by omega)] at this
          omega
      have st : 0 ≤ nI k ∧ (0 : Int32) ≤ 1 ∧ 1 ≤ nI n ∧ nI k ≤ nI n - 1 := ⟨c.1, by decide, by rw [show (1 : Int32) = nI 1 from rfl, le_nn (by omega) (by omega)]; omega, c.2⟩
      have ct := eq_true c
      have k24 : k < 24 := by omega
      rw [b2_T st] at hst
      have hw := k_write_3 (d + 98) k k24 v σ
      rw [a1] at hw
      have c1 : callD (d + 100) 90 [.ref 0, .int 3, .int (nI k), .int v] σ = some (some (.int 1), rep σ 84 (upd (σ 84) k (wrI (σ 100 3) v))) := by
        simp only [c90, s90_0, s90_1, s90_4, s90_7, s90_8, s90_9_o0, s90_12, s90_13, s90_14_o0, s90_17, s90_18_o76, s90_19_o77, s90_19_o79, s90_19_o81, s90_19_o83, s90_22, s90_25, s90_26, s90_27_o0, s90_30, s90_31, s90_32_o0, s90_35, s90_36_o76, s90_37, s90_38, s90_39_o77, s90_39_o79, s90_39_o81, s90_39_o83, s90_42, s90_45, s90_46, s90_47_o0, s90_50, s90_51, s90_52_o0, s90_55, s90_56_o76, s90_57, s90_58, s90_59_o77, s90_59_o79, s90_59_o81, s90_59_o83, s90_62, s90_63, k_isSheet, hs, b2_t, vp_lit, cr76_3, hm, b2_F b0, hst, hw, simprocAttr, if_true, if_false, true_and, and_true, false_and, and_false, not_false_eq_true, not_true_eq_false, gd_T, kont_i, kont_v]
      have ix : (72 : Int32) + nI k = nI (72 + k) := nI_add 72 k
      have ix0 : (24 : Int32) * 3 = 72 := by decide +kernel
      obtain ⟨w, hwv⟩ : ∃ w, w = wrI (σ 100 3) v := ⟨_, rfl⟩
      rw [← hwv] at c1
      have g : ∀ o, o ≠ 84 → rep σ 84 (upd (σ 84) k w) o = σ o := fun o ho => rep_ne ho
      have c2 : callD (d + 100) 205 [.ref 87, .int 3, .int (nI k), .int v] (rep σ 84 (upd (σ 84) k w)) = some (some (.int 1), rep (rep σ 84 (upd (σ 84) k w)) 102 (upd (σ 102) (72 + k) w)) := by
        unfold wrI at hwv
        rcases a2 with q | q | q | q
        · exact absurd q b0
        · rw [q] at hwv
          have hv : v.toInt8.toInt32 = w := by rw [hwv]; rfl
          simp only [c205, s205_0, s205_1, s205_4, s205_7, s205_8, s205_10_o87, s205_13, s205_14, s205_15_o87, s205_18, s205_19_o100, s205_20, s205_23, s205_24, s205_26_o87, s205_29, s205_30, s205_31, s205_32, s205_33_o87, s205_36, s205_37_o101, s205_38, s205_39, s205_40, s205_43, s205_46, s205_47, s205_49_o87, s205_52, s205_53, s205_54_o87, s205_57, s205_59, s205_60, s205_61, s205_62, s205_63, s205_64_o87, s205_67, s205_68_o100, s205_69, s205_71, s205_74, s205_75, s205_76, s205_79, s205_80_o87, s205_83, s205_84_o100, s205_85, s205_87, s205_90, s205_91, s205_92, s205_95, s205_96_o102, s205_97, s205_98, m_isSheet, m_within, hs, b2_t, vp_lit, g 100 (by omega), g 101 (by omega), g 102 (by omega), n3, ct, ix0, ix, q, hv, vp_nI (show 72 + k < 96 by omega), cl_nI (show 72 + k < 2147483648 by omega), up2_rep, simprocAttr, if_true, if_false, true_and, and_true, false_and, and_false, not_false_eq_true, not_true_eq_false, gd_T, kont_i, kont_v]
        · rw [q] at hwv
          have hv : v.toInt16.toInt32 = w := by rw [hwv]; rfl
          simp only [c205, s205_0, s205_1, s205_4, s205_7, s205_8, s205_10_o87, s205_13, s205_14, s205_15_o87, s205_18, s205_19_o100, s205_20, s205_23, s205_24, s205_26_o87, s205_29, s205_30, s205_31, s205_32, s205_33_o87, s205_36, s205_37_o101, s205_38, s205_39, s205_40, s205_43, s205_46, s205_47, s205_49_o87, s205_52, s205_53, s205_54_o87, s205_57, s205_59, s205_60, s205_61, s205_62, s205_63, s205_64_o87, s205_67, s205_68_o100, s205_69, s205_71, s205_74, s205_75, s205_76, s205_79, s205_80_o87, s205_83, s205_84_o100, s205_85, s205_87, s205_90, s205_91, s205_92, s205_95, s205_96_o102, s205_97, s205_98, m_isSheet, m_within, hs, b2_t, vp_lit, g 100 (by omega), g 101 (by omega), g 102 (by omega), n3, ct, ix0, ix, q, hv, vp_nI (show 72 + k < 96 by omega), cl_nI (show 72 + k < 2147483648 by omega), up2_rep, simprocAttr, if_true, if_false, true_and, and_true, false_and, and_false, not_false_eq_true, not_true_eq_false, gd_T, kont_i, kont_v]
        · rw [q] at hwv
          have hv : v = w := by rw [hwv]; rfl
          subst hv
          simp only [c205, s205_0, s205_1, s205_4, s205_7, s205_8, s205_10_o87, s205_13, s205_14, s205_15_o87, s205_18, s205_19_o100, s205_20, s205_23, s205_24, s205_26_o87, s205_29, s205_30, s205_31, s205_32, s205_33_o87, s205_36, s205_37_o101, s205_38, s205_39, s205_40, s205_43, s205_46, s205_47, s205_49_o87, s205_52, s205_53, s205_54_o87, s205_57, s205_59, s205_60, s205_61, s205_62, s205_63, s205_64_o87, s205_67, s205_68_o100, s205_69, s205_71, s205_74, s205_75, s205_76, s205_79, s205_80_o87, s205_83, s205_84_o100, s205_85, s205_87, s205_90, s205_91, s205_92, s205_95, s205_96_o102, s205_97, s205_98, m_isSheet, m_within, hs, b2_t, vp_lit, g 100 (by omega), g 101 (by omega), g 102 (by omega), n3, ct, ix0, ix, q, vp_nI (show 72 + k < 96 by omega), cl_nI (show 72 + k < 2147483648 by omega), up2_rep, simprocAttr, if_true, if_false, true_and, and_true, false_and, and_false, not_false_eq_true, not_true_eq_false, gd_T, kont_i, kont_v]
      refine ⟨_, _, _, c1, c2, h.shx ?_ (h.wb.two c1 c2) (fun o ho => ?_)⟩
      · intro q hq
        obtain ⟨⟨e1, e2⟩, m, m1, m2, m3, m4⟩ := h.2.2.2.2.2.2.1 q hq
        have g2 : ∀ o, o ≠ 84 → o ≠ 102 → rep (rep σ 84 (upd (σ 84) k w)) 102 (upd (σ 102) (72 + k) w) o = σ o := fun o o1 o2 => (rep_ne o2).trans (rep_ne o1)
        refine ⟨⟨?_, ?_⟩, m, m1, ?_, ?_, fun y hy => ?_⟩
        · rw [g2 _ (by omega) (by omega), g2 100 (by omega) (by omega)]; exact e1
        · rw [g2 100 (by omega) (by omega)]; exact e2
        · rw [g2 _ (by omega) (by omega)]; exact m2
        · rw [g2 101 (by omega) (by omega)]; exact m3
        · by_cases cq : q = 3
          · subst cq
            rw [rep_ne (by omega), rep_self, rep_self, upd_at, upd_at]
            by_cases cy : y = k
            · rw [if_pos cy, if_pos (by omega)]
            · rw [if_neg cy, if_neg (by omega)]; exact m4 y hy
          · rw [g2 _ (by omega) (by omega), rep_self, upd_at, if_neg (by omega)]
            exact m4 y hy
      · rw [rep_ne (by omega), rep_ne (by omega)]
    · have cf := eq_false c
      have st : ¬ (0 ≤ x ∧ (0 : Int32) ≤ 1 ∧ 1 ≤ nI n ∧ x ≤ nI n - 1) := fun q => c ⟨q.1, q.2.2.2⟩
      rw [b2_F st] at hst
      refine Step_err h 1 (v := -1000001) ?_ ?_
      · simp only [c90, s90_0, s90_1, s90_4, s90_7, s90_8, s90_9_o0, s90_12, s90_13, s90_14_o0, s90_17, s90_18_o76, s90_19_o77, s90_19_o79, s90_19_o81, s90_19_o83, s90_22, s90_25, s90_26, s90_27_o0, s90_30, s90_31, s90_32_o0, s90_35, s90_36_o76, s90_37, s90_38, s90_39_o77, s90_39_o79, s90_39_o81, s90_39_o83, s90_42, s90_45, s90_46, s90_47_o0, s90_50, s90_51, s90_52_o0, s90_55, s90_56_o76, s90_57, s90_58, s90_59_o77, s90_59_o79, s90_59_o81, s90_59_o83, s90_62, s90_63, k_isSheet, hs, b2_t, vp_lit, cr76_3, hm, b2_F b0, hst, k_failed_1, simprocAttr, if_true, if_false, true_and, and_true, false_and, and_false, not_false_eq_true, not_true_eq_false, gd_T, kont_i, kont_v]
      · have e0 : erC σ 1 100 = σ 100 := rep_ne (by omega)
        have e1 : erC σ 1 101 = σ 101 := rep_ne (by omega)
        simp only [c205, s205_0, s205_1, s205_4, s205_7, s205_8, s205_10_o87, s205_13, s205_14, s205_15_o87, s205_18, s205_19_o100, s205_20, s205_23, s205_24, s205_26_o87, s205_29, s205_30, s205_31, s205_32, s205_33_o87, s205_36, s205_37_o101, s205_38, s205_39, s205_40, s205_43, s205_46, s205_47, s205_49_o87, s205_52, s205_53, s205_54_o87, s205_57, s205_59, s205_60, s205_61, s205_62, s205_63, s205_64_o87, s205_67, s205_68_o100, s205_69, s205_71, s205_74, s205_75, s205_76, s205_79, s205_80_o87, s205_83, s205_84_o100, s205_85, s205_87, s205_90, s205_91, s205_92, s205_95, s205_96_o102, s205_97, s205_98, m_isSheet, m_within, hs, b2_t, b2_f, vp_lit, e0, e1, b0', n3, cf, m_fin_1, simprocAttr, if_true, if_false, true_and, and_true, false_and, and_false, not_false_eq_true, not_true_eq_false, gd_T, kont_i, kont_v]
theorem L_put {i : Nat} {σ : Hs} (h : RR i σ) (d : Nat) (v b x : Int32) : Step d i 90 205 [.int v, .int b, .int x] σ := by
  by_cases hv : 0 ≤ v ∧ v ≤ 3
  · obtain ⟨u, lu, rfl⟩ := she_n hv
    have hu : u = 0 ∨ u = 1 ∨ u = 2 ∨ u = 3 := by omega
    rcases hu with rfl | rfl | rfl | rfl
    · exact L_put_0 h d b x
    · exact L_put_1 h d b x
    · exact L_put_2 h d b x
    · exact L_put_3 h d b x
  · have hvf := eq_false hv
    refine Step_err h 1 (v := -1000001) ?_ ?_
    · simp only [c90, s90_0, s90_1, s90_4, s90_7, s90_8, s90_9_o0, s90_12, s90_13, s90_14_o0, s90_17, s90_18_o76, s90_19_o77, s90_19_o79, s90_19_o81, s90_19_o83, s90_22, s90_25, s90_26, s90_27_o0, s90_30, s90_31, s90_32_o0, s90_35, s90_36_o76, s90_37, s90_38, s90_39_o77, s90_39_o79, s90_39_o81, s90_39_o83, s90_42, s90_45, s90_46, s90_47_o0, s90_50, s90_51, s90_52_o0, s90_55, s90_56_o76, s90_57, s90_58, s90_59_o77, s90_59_o79, s90_59_o81, s90_59_o83, s90_62, s90_63, k_isSheet, hvf, b2_f, k_failed_1, simprocAttr, if_true, if_false, true_and, and_true, false_and, and_false, not_false_eq_true, not_true_eq_false, gd_T, kont_i, kont_v]
    · simp only [c205, s205_0, s205_1, s205_4, s205_7, s205_8, s205_10_o87, s205_13, s205_14, s205_15_o87, s205_18, s205_19_o100, s205_20, s205_23, s205_24, s205_26_o87, s205_29, s205_30, s205_31, s205_32, s205_33_o87, s205_36, s205_37_o101, s205_38, s205_39, s205_40, s205_43, s205_46, s205_47, s205_49_o87, s205_52, s205_53, s205_54_o87, s205_57, s205_59, s205_60, s205_61, s205_62, s205_63, s205_64_o87, s205_67, s205_68_o100, s205_69, s205_71, s205_74, s205_75, s205_76, s205_79, s205_80_o87, s205_83, s205_84_o100, s205_85, s205_87, s205_90, s205_91, s205_92, s205_95, s205_96_o102, s205_97, s205_98, m_isSheet, hvf, b2_f, m_fin_1, simprocAttr, if_true, if_false, true_and, and_true, false_and, and_false, not_false_eq_true, not_true_eq_false, gd_T, kont_i, kont_v]
