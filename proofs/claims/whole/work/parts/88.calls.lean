/-! ===== the calls: check, body, sheet, put ===== -/
def msF (T : Nat → Int32) (c : Nat) : Nat → Nat → Nat
  | 0, k => k
  | m + 1, k => if T (335 + k) = ofT T (6 * k + c) 1 then msF T c m (k + 1) else k
theorem msF_le (T : Nat → Int32) (c : Nat) : ∀ m k, k ≤ msF T c m k ∧ msF T c m k ≤ k + m := by
  intro m
  induction m with
  | zero => intro k; exact ⟨Nat.le_refl _, Nat.le_refl _⟩
  | succ m ih =>
    intro k
    rw [msF]
    split
    · have := ih (k + 1); omega
    · omega
def ckA (n hi r : Nat) : Int32 := if r < min n hi then nI (1 + r) else if n = hi then 0 else nI (1 + min n hi)
theorem k_check_l (d c n hi : Nat) (hc : c < 6) (hn : n ≤ 24) (hh : hi ≤ 5) (T : Nat → Int32) (σ : Hs) (hk : ∀ k, k < hi → σ 3 (6 * k + c) = ofT T (6 * k + c) 1) (hw : ∀ k, k < n → σ 29 k = T (335 + k)) : ∀ m k, k + m = min n hi → ru d 96 59 [.ref 0, .int (nI c), .int (nI n), .int (nI hi), .int (nI (min n hi)), .int (nI k)] [] σ = some (some (.int (ckA n hi (msF T c m k))), σ) := by
  intro m
  induction m with
  | zero =>
    intro k hk1
    have e : (nI (min n hi) ≤ nI k) = True := by rw [le_nn (by omega) (by omega)]; exact eq_true (by omega)
    unfold ckA
    rw [msF, if_neg (by omega)]
    simp only [s96_59]
    simp only [s96_61, s96_63, s96_111, s96_112, s96_113, s96_116, s96_117, s96_120, s96_121, s96_123, s96_124, e, simprocAttr, if_true, if_false, true_and, and_true, false_and, and_false, not_false_eq_true, not_true_eq_false, gd_T, kont_i, kont_v]
    have e1 : (1 : Int32) + nI (min n hi) = nI (1 + min n hi) := nI_add 1 _
    by_cases q : n = hi
    · rw [if_pos (by rw [q]), if_pos q]
    · rw [if_neg (fun x => q ((nI_eq (by omega) (by omega)).mp x)), if_neg q, e1]
  | succ m ih =>
    intro k hk1
    have e : (nI (min n hi) ≤ nI k) = False := by rw [le_nn (by omega) (by omega)]; exact eq_false (by omega)
    have k24 : k < 24 := by omega
    have k31 : k < 2147483648 := by omega
    have p30 : 6 * k + c < 30 := by omega
    have p31 : 6 * k + c < 2147483648 := by omega
    have x1 := hw k (by omega)
    have x2 := hk k (by omega)
    have i6 : (6 : Int32) * nI k + nI c = nI (6 * k + c) := idx6 k c
    have hi1 := ih (k + 1) (by omega)
    rw [msF]
    by_cases q : T (335 + k) = ofT T (6 * k + c) 1
    · rw [if_pos q, ← hi1]
      generalize hR : ru d 96 59 [.ref 0, .int (nI c), .int (nI n), .int (nI hi), .int (nI (min n hi)), .int (nI (k + 1))] [] σ = R
      simp only [s96_59]
      simp only [s96_61, s96_63, s96_66, s96_67_o0, s96_70_o1, s96_73_o28, s96_76, s96_78_o29, s96_79, s96_80_o0, s96_83_o1, s96_86_o2, s96_89, s96_91, s96_93, s96_94, s96_95, s96_96_o3, s96_97, s96_100, s96_101, s96_103, s96_104, s96_105, s96_108, e, vp_nI k24, cl_nI k31, x1, i6, vp_nI p30, cl_nI p31, x2, q, nI_1, simprocAttr, if_true, if_false, true_and, and_true, false_and, and_false, not_false_eq_true, not_true_eq_false, gd_T, kont_i, kont_v]
      exact hR
    · rw [if_neg q]
      have q' := eq_false q
      unfold ckA
      rw [if_pos (by omega)]
      have e1 : (1 : Int32) + nI k = nI (1 + k) := nI_add 1 k
      simp only [s96_59]
      simp only [s96_61, s96_63, s96_66, s96_67_o0, s96_70_o1, s96_73_o28, s96_76, s96_78_o29, s96_79, s96_80_o0, s96_83_o1, s96_86_o2, s96_89, s96_91, s96_93, s96_94, s96_95, s96_96_o3, s96_97, s96_100, s96_101, s96_103, s96_104, s96_105, s96_108, e, vp_nI k24, cl_nI k31, x1, i6, vp_nI p30, cl_nI p31, x2, q', e1, simprocAttr, if_true, if_false, true_and, and_true, false_and, and_false, not_false_eq_true, not_true_eq_false, gd_T, kont_i, kont_v]
theorem m_check_l (d c n hi : Nat) (hc : c < 6) (hn : n ≤ 24) (hh : hi ≤ 5) (T : Nat → Int32) (σ : Hs) (h88 : σ 88 = upd T 2 0) : ∀ m k, k + m = min n hi → ru (d + 1) 211 39 [.ref 87, .int (nI c), .int (nI n), .int (nI hi), .int (nI k)] [] σ = some (some (.int (ckA n hi (msF T c m k))), σ) := by
  intro m
  induction m with
  | zero =>
    intro k hk1
    unfold ckA
    rw [msF, if_neg (by omega)]
    have e1 : (1 : Int32) + nI k = nI (1 + k) := nI_add 1 _
    by_cases q : n = hi
    · have en : (nI n ≤ nI k) = True := by rw [le_nn (by omega) (by omega)]; exact eq_true (by omega)
      have q1 : (nI k = nI n) = True := by rw [eq_nn (by omega) (by omega)]; exact eq_true (by omega)
      have q2 : (nI k = nI hi) = True := by rw [eq_nn (by omega) (by omega)]; exact eq_true (by omega)
      rw [if_pos q]
      simp only [s211_39]
      simp only [s211_41, s211_42, s211_45, s211_47, s211_48, s211_51, s211_52_o87, s211_55, s211_58, s211_60, s211_61_o88, s211_62, s211_63, s211_65, s211_67, s211_68, s211_69, s211_70, s211_71_o87, s211_74, s211_77, s211_80, s211_83, s211_85, s211_86, s211_89, s211_91, s211_92, s211_95, s211_96, s211_99, s211_100, s211_102, s211_103, en, q1, q2, simprocAttr, if_true, if_false, true_and, and_true, false_and, and_false, not_false_eq_true, not_true_eq_false, gd_T, kont_i, kont_v]
    · rw [if_neg q]
      by_cases c1 : n ≤ k
      · have en : (nI n ≤ nI k) = True := by rw [le_nn (by omega) (by omega)]; exact eq_true (by omega)
        have q1 : (nI k = nI n) = True := by rw [eq_nn (by omega) (by omega)]; exact eq_true (by omega)
        have q2 : (nI k = nI hi) = False := by rw [eq_nn (by omega) (by omega)]; exact eq_false (by omega)
        rw [show min n hi = k by omega]
        simp only [s211_39]
        simp only [s211_41, s211_42, s211_45, s211_47, s211_48, s211_51, s211_52_o87, s211_55, s211_58, s211_60, s211_61_o88, s211_62, s211_63, s211_65, s211_67, s211_68, s211_69, s211_70, s211_71_o87, s211_74, s211_77, s211_80, s211_83, s211_85, s211_86, s211_89, s211_91, s211_92, s211_95, s211_96, s211_99, s211_100, s211_102, s211_103, en, q1, q2, e1, simprocAttr, if_true, if_false, true_and, and_true, false_and, and_false, not_false_eq_true, not_true_eq_false, gd_T, kont_i, kont_v]
      · have en : (nI n ≤ nI k) = False := by rw [le_nn (by omega) (by omega)]; exact eq_false (by omega)
        have eh : (nI hi ≤ nI k) = True := by rw [le_nn (by omega) (by omega)]; exact eq_true (by omega)
        have q1 : (nI k = nI n) = False := by rw [eq_nn (by omega) (by omega)]; exact eq_false (by omega)
        rw [show min n hi = k by omega]
        simp only [s211_39]
        simp only [s211_41, s211_42, s211_45, s211_47, s211_48, s211_51, s211_52_o87, s211_55, s211_58, s211_60, s211_61_o88, s211_62, s211_63, s211_65, s211_67, s211_68, s211_69, s211_70, s211_71_o87, s211_74, s211_77, s211_80, s211_83, s211_85, s211_86, s211_89, s211_91, s211_92, s211_95, s211_96, s211_99, s211_100, s211_102, s211_103, en, eh, q1, e1, simprocAttr, if_true, if_false, true_and, and_true, false_and, and_false, not_false_eq_true, not_true_eq_false, gd_T, kont_i, kont_v]
  | succ m ih =>
    intro k hk1
    have en : (nI n ≤ nI k) = False := by rw [le_nn (by omega) (by omega)]; exact eq_false (by omega)
    have eh : (nI hi ≤ nI k) = False := by rw [le_nn (by omega) (by omega)]; exact eq_false (by omega)
    have p30 : 6 * k + c < 30 := by omega
    have i6 : (6 : Int32) * nI k + nI c = nI (6 * k + c) := idx6 k c
    have ix : (335 : Int32) + nI k = nI (335 + k) := nI_add 335 k
    have x1 : σ 88 (335 + k) = T (335 + k) := by rw [h88, upd_at, if_neg (by omega)]
    have x2 : ofT (σ 88) (6 * k + c) 1 = ofT T (6 * k + c) 1 := by rw [h88, ofT_up (by omega)]
    have hi1 := ih (k + 1) (by omega)
    rw [msF]
    by_cases q : T (335 + k) = ofT T (6 * k + c) 1
    · rw [if_pos q, ← hi1]
      generalize hR : ru (d + 1) 211 39 [.ref 87, .int (nI c), .int (nI n), .int (nI hi), .int (nI (k + 1))] [] σ = R
      simp only [s211_39]
      simp only [s211_41, s211_42, s211_45, s211_47, s211_48, s211_51, s211_52_o87, s211_55, s211_58, s211_60, s211_61_o88, s211_62, s211_63, s211_65, s211_67, s211_68, s211_69, s211_70, s211_71_o87, s211_74, s211_77, s211_80, en, eh, ix, vp_nI (show 335 + k < 545 by omega), cl_nI (show 335 + k < 2147483648 by omega), x1, i6, m_of_1 _ _ p30, x2, q, nI_1, simprocAttr, if_true, if_false, true_and, and_true, false_and, and_false, not_false_eq_true, not_true_eq_false, gd_T, kont_i, kont_v]
      exact hR
    · rw [if_neg q]
      have q' := eq_false q
      unfold ckA
      rw [if_pos (by omega)]
      have e1 : (1 : Int32) + nI k = nI (1 + k) := nI_add 1 k
      by_cases z1 : k = n
      · omega
      · have q1 : (nI k = nI n) = False := by rw [eq_nn (by omega) (by omega)]; exact eq_false z1
        simp only [s211_39]
        simp only [s211_41, s211_42, s211_45, s211_47, s211_48, s211_51, s211_52_o87, s211_55, s211_58, s211_60, s211_61_o88, s211_62, s211_63, s211_65, s211_67, s211_68, s211_69, s211_70, s211_71_o87, s211_74, s211_77, s211_80, s211_83, s211_85, s211_86, s211_89, s211_91, s211_92, s211_95, s211_96, s211_99, s211_100, s211_102, s211_103, en, eh, ix, vp_nI (show 335 + k < 545 by omega), cl_nI (show 335 + k < 2147483648 by omega), x1, i6, m_of_1 _ _ p30, x2, q', q1, e1, simprocAttr, if_true, if_false, true_and, and_true, false_and, and_false, not_false_eq_true, not_true_eq_false, gd_T, kont_i, kont_v]
theorem RR.row0 {i : Nat} {σ σ2 : Hs} {T' : Nat → Int32} (h : RR i σ) (e88 : σ2 88 = T') (hS : SR 1 σ2 T') (hT : TI T') (ag : ∀ a, (14 ≤ a ∧ a < 251) → T' a = σ 88 a) (hW : WB σ2) (f : ∀ o, (kpO o ∨ o = 85 ∨ o = 91) → σ2 o = σ o) (f3 : σ2 87 3 = σ 87 3) (f19 : σ2 87 19 = σ 87 19) : RR i σ2 := by
  subst e88
  obtain ⟨-, -, hP, hK, hE, hV, hSh, hC, -⟩ := h
  exact ⟨hS, hT, hP.cg ag, hK.fr (Nat.le_refl _) (fun o ho => f o (by unfold kpO; omega)) f3, hE.fr (f 85 (by omega)) (f 91 (by omega)), hV.fr (fun o ho => f o (by unfold kpO; omega)) f19, hSh.fr (fun o ho => f o (by unfold kpO; omega)), hC.fr (fun o ho => f o (by unfold kpO; omega)), hW⟩
theorem RR.up1 {i : Nat} {σ : Hs} (h : RR i σ) : RR (i + 1) σ := h.same
theorem L_check {i : Nat} {σ : Hs} (h : RR i σ) (d : Nat) (v : Int32) : Step d i 96 211 [.int v] σ := by
  obtain ⟨n, n1, n2, n3⟩ := h.sr.2.2.2.2.1
  have n3 : RW 28 n σ (fun k => σ 88 (335 + k)) := n3
  obtain ⟨T, hT⟩ : ∃ T, T = σ 88 := ⟨_, rfl⟩
  have ee : ∀ a, a ≠ 2 → (a < 335 ∨ 359 ≤ a) → upd (σ 88) 2 0 a = σ 88 a := fun a a1 _ => by rw [upd_at, if_neg a1]
  have W1 : WB (rep σ 28 (upd (σ 28) 1 0)) := by rw [← up2_rep]; exact h.wb.obj (by decide +kernel)
  have W2 : WB (rep (rep σ 28 (upd (σ 28) 1 0)) 88 (upd (σ 88) 2 0)) := W1.g88 (fun j hj => by rw [upd_at, if_neg (by omega)]; exact h.wb.at88 (Or.inl rfl) j hj)
  have r0 : RR i (rep (rep σ 28 (upd (σ 28) 1 0)) 88 (upd (σ 88) 2 0)) := by
    refine h.row0 (rep_self _ _ _) (h.sr.wait (n := 0) (by omega) (by rw [upd_at, if_pos rfl]; rfl) ⟨?_, fun k hk => absurd hk (by omega)⟩ (fun o ho => ?_) ee) (h.ti.wait ee) (fun a ha => ee a (by omega) (by omega)) W2 (fun o ho => ?_) ?_ ?_
    · rw [rep_ne (by omega), rep_self, upd_at, if_pos rfl]; rfl
    · rw [rep_ne (by omega), rep_ne (by omega)]
    · unfold kpO at ho
      rw [rep_ne (by omega), rep_ne (by omega)]
    · rw [rep_ne (by omega), rep_ne (by omega)]
    · rw [rep_ne (by omega), rep_ne (by omega)]
  by_cases hv : 0 ≤ v ∧ v ≤ 5
  · have hvt := eq_true hv
    obtain ⟨c, -, lc, rfl⟩ := within_n (a := 0) (b := 5) hv rfl rfl (by omega) (by omega)
    have c6 : c < 6 := by omega
    have hle := hiT_le (σ 88) c
    have rh : HR 2 (rep σ 28 (upd (σ 28) 1 0)) (σ 88) := h.hr.fr (fun o o1 o2 => rep_ne (by omega))
    have eh := h2_heightOf (d + 97) c c6 _ _ rh h.wi.P
    have hk : ∀ k, k < hiT (σ 88) c → rep σ 28 (upd (σ 28) 1 0) 3 (6 * k + c) = ofT (σ 88) (6 * k + c) 1 := fun k hk => rh.f (by omega) (hiF_lt (σ 88) c 5 0 k (by omega) hk) 1 (by omega) (by omega)
    have hw : ∀ k, k < n → rep σ 28 (upd (σ 28) 1 0) 29 k = σ 88 (335 + k) := fun k hk => by rw [rep_ne (by omega)]; exact n3.2 k hk
    have hl := k_check_l (d + 99) c n (hiT (σ 88) c) c6 n1 hle (σ 88) _ hk hw (min n (hiT (σ 88) c)) 0 (by omega)
    have em : jmin (nI n) (nI (hiT (σ 88) c)) = nI (min n (hiT (σ 88) c)) := jmin_n (by omega) (by omega)
    have c1 : callD (d + 100) 96 [.ref 0, .int (nI c)] σ = some (some (.int (ckA n (hiT (σ 88) c) (msF (σ 88) c (min n (hiT (σ 88) c)) 0))), rep σ 28 (upd (σ 28) 1 0)) := by
      rw [n_0] at hl
      simp only [c96, s96_0, s96_1_o0, s96_4_o1, s96_7_o28, s96_10, s96_11, s96_12_o0, s96_15_o1, s96_18, s96_19_o28, s96_22, s96_23, s96_24, s96_25, s96_28, s96_31, s96_32, s96_33_o0, s96_36, s96_37, s96_38_o0, s96_41_o1, s96_44, s96_45_o2, s96_48, s96_49, s96_50, s96_51, s96_54, s96_56, s96_57, n3.1, up2_rep, k_within, hvt, b2_t, eh, em, simprocAttr, if_true, if_false, true_and, and_true, false_and, and_false, not_false_eq_true, not_true_eq_false, gd_T, kont_i, kont_v]
      exact hl
    have g88 : rep σ 28 (upd (σ 28) 1 0) 88 = σ 88 := rep_ne (by omega)
    have mh := m_highOf (d + 96) c c6 (rep (rep σ 28 (upd (σ 28) 1 0)) 88 (upd (σ 88) 2 0))
    have eh2 : hiT (upd (σ 88) 2 0) c = hiT (σ 88) c := by
      have go : ∀ k n, hiF (upd (σ 88) 2 0) c k n = hiF (σ 88) c k n := by
        intro k
        induction k with
        | zero => intro n; rfl
        | succ k ih =>
          intro n
          have q : isT (upd (σ 88) 2 0) (6 * n + c) = isT (σ 88) (6 * n + c) := by unfold isT; rw [ofT_up (by omega)]
          rw [hiF, hiF]
          simp only [q, ih]
      exact go 5 0
    rw [rep_self, eh2] at mh
    have ml := m_check_l (d + 98) c n (hiT (σ 88) c) c6 n1 hle (σ 88) (rep (rep σ 28 (upd (σ 28) 1 0)) 88 (upd (σ 88) 2 0)) (rep_self _ _ _) (min n (hiT (σ 88) c)) 0 (by omega)
    have c2 : callD (d + 100) 211 [.ref 87, .int (nI c)] (rep σ 28 (upd (σ 28) 1 0)) = some (some (.int (ckA n (hiT (σ 88) c) (msF (σ 88) c (min n (hiT (σ 88) c)) 0))), rep (rep σ 28 (upd (σ 28) 1 0)) 88 (upd (σ 88) 2 0)) := by
      rw [n_0] at ml
      simp only [c211, s211_0, s211_1_o87, s211_4, s211_5_o88, s211_6, s211_7, s211_8_o87, s211_11, s211_12, s211_13_o88, s211_14, s211_15, s211_16, s211_17, s211_20, s211_23, s211_24, s211_26_o87, s211_29, s211_30, s211_31, s211_32_o87, s211_35, s211_36, s211_37, vp_lit, g88, n2, up2_rep, m_within, hvt, b2_t, mh, simprocAttr, if_true, if_false, true_and, and_true, false_and, and_false, not_false_eq_true, not_true_eq_false, gd_T, kont_i, kont_v]
      exact ml
    exact ⟨_, _, _, c1, c2, r0.up1⟩
  · have hvf := eq_false hv
    have c1 : callD (d + 100) 96 [.ref 0, .int v] σ = some (some (.int (-1000001)), erC (rep σ 28 (upd (σ 28) 1 0)) 1) := by
      simp only [c96, s96_0, s96_1_o0, s96_4_o1, s96_7_o28, s96_10, s96_11, s96_12_o0, s96_15_o1, s96_18, s96_19_o28, s96_22, s96_23, s96_24, s96_25, s96_28, s96_31, s96_32, s96_33_o0, s96_36, s96_37, s96_38_o0, s96_41_o1, s96_44, s96_45_o2, s96_48, s96_49, s96_50, s96_51, s96_54, s96_56, s96_57, n3.1, up2_rep, k_within, hvf, b2_f, k_failed_1, simprocAttr, if_true, if_false, true_and, and_true, false_and, and_false, not_false_eq_true, not_true_eq_false, gd_T, kont_i, kont_v]
    have g88 : erC (rep σ 28 (upd (σ 28) 1 0)) 1 88 = σ 88 := by unfold erC; rw [rep_ne (by omega), rep_ne (by omega)]
    have eqσ : rep (erC (rep σ 28 (upd (σ 28) 1 0)) 1) 88 (upd (σ 88) 2 0) = erC (rep (rep σ 28 (upd (σ 28) 1 0)) 88 (upd (σ 88) 2 0)) 1 := by
      funext o
      unfold erC
      simp only [rep_at]
      by_cases o1 : o = 88
      · subst o1; simp
      · by_cases o2 : o = 85
        · subst o2; simp
        · simp [o1, o2]
    have c2 : callD (d + 100) 211 [.ref 87, .int v] (erC (rep σ 28 (upd (σ 28) 1 0)) 1) = some (some (.int (-1000001)), erM (erC (rep (rep σ 28 (upd (σ 28) 1 0)) 88 (upd (σ 88) 2 0)) 1) 1) := by
      simp only [c211, s211_0, s211_1_o87, s211_4, s211_5_o88, s211_6, s211_7, s211_8_o87, s211_11, s211_12, s211_13_o88, s211_14, s211_15, s211_16, s211_17, s211_20, s211_23, s211_24, s211_26_o87, s211_29, s211_30, s211_31, s211_32_o87, s211_35, s211_36, s211_37, vp_lit, g88, up2_rep, m_within, hvf, b2_f, eqσ, m_fin_1, simprocAttr, if_true, if_false, true_and, and_true, false_and, and_false, not_false_eq_true, not_true_eq_false, gd_T, kont_i, kont_v]
    exact ⟨_, _, _, c1, c2, r0.err 1 (h.wb.two c1 c2)⟩
theorem L_body {i : Nat} {σ : Hs} (h : RR i σ) (d : Nat) (v : Int32) : Step d i 88 202 [.int v] σ := by
  obtain ⟨n, n1, n2, n3, n4⟩ := h.2.2.2.2.2.1
  by_cases hv : v < 0 ∨ nI n ≤ v
  · have c1 : callD (d + 100) 88 [.ref 0, .int v] σ = some (some (.int (-1000002)), erC σ 2) := by
      have hh : callD (d + 99) 43 [.ref 74, .int v] σ = some (some (.int 0), σ) := by
        by_cases q : v < 0
        · have q' := eq_true q
          simp only [c43, s43_0, s43_1, s43_4, s43_5, s43_6_o22, s43_6_o74, s43_9, s43_12, s43_13, s43_14_o22, s43_14_o74, s43_17_o23, s43_17_o75, s43_18, s43_21, s43_22, s43_25, s43_26, q', isB_0, simprocAttr, if_true, if_false, true_and, and_true, false_and, and_false, not_false_eq_true, not_true_eq_false, gd_T, kont_i, kont_v]
        · have q' := eq_false q
          have q2 := eq_true (hv.resolve_left q)
          simp only [c43, s43_0, s43_1, s43_4, s43_5, s43_6_o22, s43_6_o74, s43_9, s43_12, s43_13, s43_14_o22, s43_14_o74, s43_17_o23, s43_17_o75, s43_18, s43_21, s43_22, s43_25, s43_26, q', n2, q2, isB_0, simprocAttr, if_true, if_false, true_and, and_true, false_and, and_false, not_false_eq_true, not_true_eq_false, gd_T, kont_i, kont_v]
      simp only [c88, s88_0, s88_1_o0, s88_4_o73, s88_7, s88_8_o74, s88_11, s88_14, s88_15_o0, s88_18_o73, s88_21_o74, s88_24, s88_25_o75, s88_26, s88_29, s88_30, s88_31_o0, s88_34, hh, k_failed_2, simprocAttr, if_true, if_false, true_and, and_true, false_and, and_false, not_false_eq_true, not_true_eq_false, gd_T, kont_i, kont_v]
    refine Step_err h 2 (v := -1000002) c1 ?_
    have e19 : erC σ 2 87 19 = nI n := by rw [show erC σ 2 87 = σ 87 from rep_ne (by omega)]; exact n3
    have hw : (0 ≤ v ∧ v ≤ nI n - 1) = False := by
      refine eq_false (fun q => ?_)
      rcases hv with x | x
      · exact Int32.not_le.mpr x q.1
      · obtain ⟨j, hj, rfl⟩ := nI_of (Int32.not_lt.mpr q.1)
        rw [le_nn (by omega) hj] at x
        have q2 := q.2
        by_cases n0 : n = 0
        · subst n0
          rw [show nI 0 - 1 = (-1 : Int32) from by decide +kernel, le_nI_l hj] at q2
          have : (-1 : Int32).toInt = -1 := rfl
          omega
        · rw [show (1 : Int32) = nI 1 from rfl, pk_sub (by omega), le_nn hj (by omega)] at q2
          omega
    simp only [c202, s202_0, s202_1, s202_2, s202_3_o87, s202_6, s202_7, s202_8, s202_11, s202_14, s202_15_o87, s202_18, s202_19_o99, s202_20, s202_23, s202_24, s202_26_o87, s202_29, e19, m_within, hw, b2_f, m_fin_2, simprocAttr, if_true, if_false, true_and, and_true, false_and, and_false, not_false_eq_true, not_true_eq_false, gd_T, kont_i, kont_v]
  · have h0 : ¬ v < 0 := fun q => hv (Or.inl q)
    have h1 : ¬ nI n ≤ v := fun q => hv (Or.inr q)
    obtain ⟨j, hj, rfl⟩ := nI_of h0
    rw [le_nn (by omega) hj] at h1
    have jn : j < n := by omega
    have j30 : j < 30 := by omega
    have q1 : (nI j < 0) = False := eq_false (nI_pos hj)
    have q2 : (nI n ≤ nI j) = False := by rw [le_nn (by omega) hj]; exact eq_false (by omega)
    have q3 : (30 ≤ nI j) = False := by rw [show (30 : Int32) = nI 30 from rfl, le_nn (by omega) hj]; exact eq_false (by omega)
    have hh : callD (d + 99) 43 [.ref 74, .int (nI j)] σ = some (some (.int 1), σ) := by
      simp only [c43, s43_0, s43_1, s43_4, s43_5, s43_6_o22, s43_6_o74, s43_9, s43_12, s43_13, s43_14_o22, s43_14_o74, s43_17_o23, s43_17_o75, s43_18, s43_21, s43_22, s43_25, s43_26, q1, n2, q2, q3, isB_1, simprocAttr, if_true, if_false, true_and, and_true, false_and, and_false, not_false_eq_true, not_true_eq_false, gd_T, kont_i, kont_v]
    have hw : (0 ≤ nI j ∧ nI j ≤ nI n - 1) = True := by
      rw [show (1 : Int32) = nI 1 from rfl, pk_sub (by omega), le_nn hj (by omega)]
      exact eq_true ⟨nI_pos' hj, by omega⟩
    have x := n4 j jn
    refine ⟨σ 99 j, σ, σ, ?_, ?_, h.same⟩
    · simp only [c88, s88_0, s88_1_o0, s88_4_o73, s88_7, s88_8_o74, s88_11, s88_14, s88_15_o0, s88_18_o73, s88_21_o74, s88_24, s88_25_o75, s88_26, s88_29, s88_30, s88_31_o0, s88_34, hh, vp_nI j30, cl_nI hj, x, simprocAttr, if_true, if_false, true_and, and_true, false_and, and_false, not_false_eq_true, not_true_eq_false, gd_T, kont_i, kont_v]
    · simp only [c202, s202_0, s202_1, s202_2, s202_3_o87, s202_6, s202_7, s202_8, s202_11, s202_14, s202_15_o87, s202_18, s202_19_o99, s202_20, s202_23, s202_24, s202_26_o87, s202_29, n3, m_within, hw, b2_t, vp_nI j30, cl_nI hj, simprocAttr, if_true, if_false, true_and, and_true, false_and, and_false, not_false_eq_true, not_true_eq_false, gd_T, kont_i, kont_v]
