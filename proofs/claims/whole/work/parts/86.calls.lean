/-! ===== the calls: suspects, liar, report, untell, check ===== -/
/-- the reports as the row has them -/
def RP (T : Nat → Int32) (n : Nat) (G W : Nat → Nat) : Prop := ∀ k, k < n → G k < 9 ∧ W k < 4 ∧ T (251 + 2 * k) = nI (G k) ∧ T (252 + 2 * k) = nI (W k)
theorem TI.rp {T : Nat → Int32} (h : TI T) {n : Nat} (hn : n ≤ 12) (e : T 13 = nI n) : ∃ G W : Nat → Nat, RP T n G W := by
  refine ⟨fun k => (T (251 + 2 * k)).toNatClampNeg, fun k => (T (252 + 2 * k)).toNatClampNeg, fun k hk => ?_⟩
  obtain ⟨⟨g, g1, g2⟩, w, w1, w2⟩ := h.2.2 n hn e k hk
  have a1 : (T (251 + 2 * k)).toNatClampNeg = g := by rw [g2, cl_nI (by omega)]
  have a2 : (T (252 + 2 * k)).toNatClampNeg = w := by rw [w2, cl_nI (by omega)]
  simp only [a1, a2]
  exact ⟨g1, w1, g2, w2⟩
def suN (G W : Nat → Nat) (lo : Int32) : Nat → Nat
  | 0 => 511
  | k + 1 => if nI k = lo then suN G W lo k else suN G W lo k &&& upN (G k) (W k)
theorem suN_le (G W : Nat → Nat) (lo : Int32) : ∀ k, suN G W lo k ≤ 511
  | 0 => Nat.le_refl _
  | k + 1 => by
    rw [suN]
    split
    · exact suN_le G W lo k
    · exact Nat.le_trans Nat.and_le_left (suN_le G W lo k)
theorem k_su_l (d n : Nat) (hn : n ≤ 12) (G W : Nat → Nat) (lo : Int32) (σ : Hs) (T : Nat → Int32) (hR : RP T n G W) (hg : RW 24 n σ (fun k => T (251 + 2 * k))) (hw : RW 26 n σ (fun k => T (252 + 2 * k))) : ∀ m k, k + m = n → ru (d + 3) 52 6 [.ref 1, .int lo, .int (nI (suN G W lo k)), .int (nI k)] [] σ = some (some (.int (nI (suN G W lo n))), σ) := by
  intro m
  induction m with
  | zero =>
    intro k hk
    obtain rfl : k = n := by omega
    simp only [s52_6]
    simp only [s52_7, s52_8_o1, s52_11_o24, s52_14, s52_52, s52_53, hg.1, Int32.le_refl, simprocAttr, if_true, if_false, true_and, and_true, false_and, and_false, not_false_eq_true, not_true_eq_false, gd_T, kont_i, kont_v]
  | succ m ih =>
    intro k hk
    have k31 : k < 2147483648 := by omega
    have k12 : k < 12 := by omega
    have e : (nI n ≤ nI k) = False := by rw [le_nn (by omega) k31]; exact eq_false (by omega)
    obtain ⟨g9, w4, eg, ew⟩ := hR k (by omega)
    have hi := ih (k + 1) (by omega)
    rw [suN] at hi
    by_cases c : nI k = lo
    · rw [if_pos c] at hi
      have c' := eq_true c
      simp only [s52_6]
      simp only [s52_7, s52_8_o1, s52_11_o24, s52_14, s52_17, s52_18, s52_19, s52_22, s52_23, s52_24_o1, s52_27_o24, s52_30, s52_31_o25, s52_32, s52_33_o1, s52_36_o26, s52_39, s52_40_o27, s52_41, s52_44, s52_45, s52_46, s52_49, hg.1, e, c', nI_1, hi, simprocAttr, if_true, if_false, true_and, and_true, false_and, and_false, not_false_eq_true, not_true_eq_false, gd_T, kont_i, kont_v]
    · rw [if_neg c] at hi
      have c' := eq_false c
      have x1 : σ 25 k = nI (G k) := (hg.2 k (by omega)).trans eg
      have x2 : σ 27 k = nI (W k) := (hw.2 k (by omega)).trans ew
      have hu := k_up d (G k) (W k) g9 w4 σ
      simp only [s52_6]
      simp only [s52_7, s52_8_o1, s52_11_o24, s52_14, s52_17, s52_18, s52_19, s52_22, s52_23, s52_24_o1, s52_27_o24, s52_30, s52_31_o25, s52_32, s52_33_o1, s52_36_o26, s52_39, s52_40_o27, s52_41, s52_44, s52_45, s52_46, s52_49, hg.1, e, c', vp_nI k12, cl_nI k31, x1, x2, hu, nx_land, nI_1, hi, simprocAttr, if_true, if_false, true_and, and_true, false_and, and_false, not_false_eq_true, not_true_eq_false, gd_T, kont_i, kont_v]
theorem k_su (d n : Nat) (hn : n ≤ 12) (G W : Nat → Nat) (lo : Int32) (σ : Hs) (T : Nat → Int32) (hR : RP T n G W) (hg : RW 24 n σ (fun k => T (251 + 2 * k))) (hw : RW 26 n σ (fun k => T (252 + 2 * k))) : callD (d + 4) 52 [.ref 1, .int lo] σ = some (some (.int (nI (suN G W lo n))), σ) := by
  have hl := k_su_l d n hn G W lo σ T hR hg hw n 0 (by omega)
  simp only [c52, s52_0, s52_3, s52_4, s52_5]
  exact hl
theorem and_m1 (x : Int32) : x &&& (-1) = x := by
  apply Int32.toBitVec_inj.mp
  rw [Int32.toBitVec_and, show (-1 : Int32).toBitVec = BitVec.allOnes 32 from rfl, BitVec.and_allOnes]
theorem m_su_l (d n : Nat) (hn : n ≤ 12) (G W : Nat → Nat) (lo : Int32) (σ : Hs) (hR : RP (σ 88) n G W) (h13 : σ 88 13 = nI n) : ∀ m k, k + m = n → ru (d + 3) 193 6 [.ref 87, .int lo, .int (nI (suN G W lo k)), .int (nI k)] [] σ = some (some (.int (nI (suN G W lo n))), σ) := by
  intro m
  induction m with
  | zero =>
    intro k hk
    obtain rfl : k = n := by omega
    simp only [s193_6]
    simp only [s193_7, s193_8_o87, s193_11, s193_13_o88, s193_14, s193_40, s193_41, vp_lit, h13, Int32.le_refl, simprocAttr, if_true, if_false, true_and, and_true, false_and, and_false, not_false_eq_true, not_true_eq_false, gd_T, kont_i, kont_v]
  | succ m ih =>
    intro k hk
    have k31 : k < 2147483648 := by omega
    have e : (nI n ≤ nI k) = False := by rw [le_nn (by omega) k31]; exact eq_false (by omega)
    obtain ⟨g9, w4, eg, ew⟩ := hR k (by omega)
    have hi := ih (k + 1) (by omega)
    rw [suN] at hi
    by_cases c : nI k = lo
    · rw [if_pos c] at hi
      have c' := eq_true c
      simp only [s193_6]
      simp only [s193_7, s193_8_o87, s193_11, s193_13_o88, s193_14, s193_17, s193_18, s193_19, s193_20, s193_23, s193_24, s193_27, s193_28, s193_29_o87, s193_32, s193_33, s193_34, s193_37, vp_lit, h13, e, c', and_m1, nI_1, hi, simprocAttr, if_true, if_false, true_and, and_true, false_and, and_false, not_false_eq_true, not_true_eq_false, gd_T, kont_i, kont_v]
    · rw [if_neg c] at hi
      have c' := eq_false c
      have hu := m_from d (G k) (W k) k g9 w4 (by omega) σ eg ew
      simp only [s193_6]
      simp only [s193_7, s193_8_o87, s193_11, s193_13_o88, s193_14, s193_17, s193_18, s193_19, s193_20, s193_23, s193_24, s193_27, s193_28, s193_29_o87, s193_32, s193_33, s193_34, s193_37, vp_lit, h13, e, c', hu, nx_land, nI_1, hi, simprocAttr, if_true, if_false, true_and, and_true, false_and, and_false, not_false_eq_true, not_true_eq_false, gd_T, kont_i, kont_v]
theorem m_su (d n : Nat) (hn : n ≤ 12) (G W : Nat → Nat) (lo : Int32) (σ : Hs) (hR : RP (σ 88) n G W) (h13 : σ 88 13 = nI n) : callD (d + 4) 193 [.ref 87, .int lo] σ = some (some (.int (nI (suN G W lo n))), σ) := by
  have hl := m_su_l d n hn G W lo σ hR h13 n 0 (by omega)
  simp only [c193, s193_0, s193_3, s193_4, s193_5]
  exact hl
theorem L_suspects {i : Nat} {σ : Hs} (h : RR i σ) (d : Nat) : Step d i 85 194 [] σ := by
  obtain ⟨n, n1, n2, n3, n4⟩ := h.sr.2.2.2.1
  obtain ⟨G, W, hR⟩ := h.ti.rp n1 n2
  have e1 := k_su (d + 95) n n1 G W (-1) σ (σ 88) hR n3 n4
  have e2 := m_su (d + 95) n n1 G W (-1) σ hR n2
  refine ⟨nI (suN G W (-1) n), σ, σ, ?_, ?_, h.same⟩
  · simp only [c85, s85_0, s85_1_o0, s85_4, s85_5_o1, s85_8, e1, simprocAttr, if_true, if_false, true_and, and_true, false_and, and_false, not_false_eq_true, not_true_eq_false, gd_T, kont_i, kont_v]
  · simp only [c194, s194_0, s194_1, s194_2_o87, s194_5, e2, simprocAttr, if_true, if_false, true_and, and_true, false_and, and_false, not_false_eq_true, not_true_eq_false, gd_T, kont_i, kont_v]
def laF (G W : Nat → Nat) (n : Nat) : Nat → Int32 × Int32
  | 0 => (-1, -1)
  | k + 1 => if nI (pcN (suN G W (nI k) n)) ≤ (laF G W n k).2 then laF G W n k else (nI k, nI (pcN (suN G W (nI k) n)))
theorem laF_1 (G W : Nat → Nat) (n : Nat) : ∀ k, k ≤ 12 → (laF G W n k).1 = -1 ∨ ∃ q, q < 12 ∧ (laF G W n k).1 = nI q := by
  intro k
  induction k with
  | zero => intro _; exact Or.inl rfl
  | succ k ih =>
    intro hk
    rw [laF]
    split
    · exact ih (by omega)
    · exact Or.inr ⟨k, by omega, rfl⟩
theorem k_liar_l (d n : Nat) (hn : n ≤ 12) (G W : Nat → Nat) (σ : Hs) (T : Nat → Int32) (hR : RP T n G W) (hg : RW 24 n σ (fun k => T (251 + 2 * k))) (hw : RW 26 n σ (fun k => T (252 + 2 * k))) : ∀ m k (l4 : Value), k + m = n → ∃ l4' : Value, ru (d + 4) 86 6 [.ref 0, .int (laF G W n k).1, .int (laF G W n k).2, .int (nI k), l4] [] σ = ru (d + 4) 86 50 [.ref 0, .int (laF G W n n).1, .int (laF G W n n).2, .int (nI n), l4'] [] σ := by
  intro m
  induction m with
  | zero =>
    intro k l4 hk
    obtain rfl : k = n := by omega
    refine ⟨l4, ?_⟩
    simp only [s86_6]
    simp only [s86_7, s86_8_o0, s86_11_o1, s86_14_o24, s86_17, hg.1, Int32.le_refl, simprocAttr, if_true, if_false, true_and, and_true, false_and, and_false, not_false_eq_true, not_true_eq_false, gd_T, kont_i, kont_v]
  | succ m ih =>
    intro k l4 hk
    have k31 : k < 2147483648 := by omega
    have e : (nI n ≤ nI k) = False := by rw [le_nn (by omega) k31]; exact eq_false (by omega)
    have es := k_su d n hn G W (nI k) σ T hR hg hw
    have hb : bcI (nI (suN G W (nI k) n)) = nI (pcN (suN G W (nI k) n)) := bcI_n (by have := suN_le G W (nI k) n; omega)
    obtain ⟨l4', hi⟩ := ih (k + 1) (.int (nI (pcN (suN G W (nI k) n)))) (by omega)
    rw [laF] at hi
    refine ⟨l4', ?_⟩
    rw [← hi]
    by_cases c : nI (pcN (suN G W (nI k) n)) ≤ (laF G W n k).2
    · rw [if_pos c]
      have c' := eq_true c
      generalize hQ : ru (d + 4) 86 6 [.ref 0, .int (laF G W n k).1, .int (laF G W n k).2, .int (nI (k + 1)), .int (nI (pcN (suN G W (nI k) n)))] [] σ = Q
      simp only [s86_6]
      simp only [s86_7, s86_8_o0, s86_11_o1, s86_14_o24, s86_17, s86_20, s86_21_o0, s86_24, s86_25_o1, s86_28, s86_31, s86_33, s86_35, s86_36, s86_39, s86_40, s86_41, s86_43, s86_44, s86_47, hg.1, e, es, k_bc, hb, c', nI_1, simprocAttr, if_true, if_false, true_and, and_true, false_and, and_false, not_false_eq_true, not_true_eq_false, gd_T, kont_i, kont_v]
      exact hQ
    · rw [if_neg c]
      have c' := eq_false c
      generalize hQ : ru (d + 4) 86 6 [.ref 0, .int (nI k), .int (nI (pcN (suN G W (nI k) n))), .int (nI (k + 1)), .int (nI (pcN (suN G W (nI k) n)))] [] σ = Q
      simp only [s86_6]
      simp only [s86_7, s86_8_o0, s86_11_o1, s86_14_o24, s86_17, s86_20, s86_21_o0, s86_24, s86_25_o1, s86_28, s86_31, s86_33, s86_35, s86_36, s86_39, s86_40, s86_41, s86_43, s86_44, s86_47, hg.1, e, es, k_bc, hb, c', nI_1, simprocAttr, if_true, if_false, true_and, and_true, false_and, and_false, not_false_eq_true, not_true_eq_false, gd_T, kont_i, kont_v]
      exact hQ
theorem m_liar_l (d n : Nat) (hn : n ≤ 12) (G W : Nat → Nat) (σ : Hs) (hR : RP (σ 88) n G W) (h13 : σ 88 13 = nI n) : ∀ m k (l4 : Value), k + m = n → ∃ l4' : Value, ru (d + 4) 195 6 [.ref 87, .int (laF G W n k).1, .int (laF G W n k).2, .int (nI k), l4] [] σ = ru (d + 4) 195 44 [.ref 87, .int (laF G W n n).1, .int (laF G W n n).2, .int (nI n), l4'] [] σ := by
  intro m
  induction m with
  | zero =>
    intro k l4 hk
    obtain rfl : k = n := by omega
    refine ⟨l4, ?_⟩
    simp only [s195_6]
    simp only [s195_7, s195_8_o87, s195_11, s195_13_o88, s195_14, vp_lit, h13, Int32.le_refl, simprocAttr, if_true, if_false, true_and, and_true, false_and, and_false, not_false_eq_true, not_true_eq_false, gd_T, kont_i, kont_v]
  | succ m ih =>
    intro k l4 hk
    have k31 : k < 2147483648 := by omega
    have e : (nI n ≤ nI k) = False := by rw [le_nn (by omega) k31]; exact eq_false (by omega)
    have es := m_su d n hn G W (nI k) σ hR h13
    have hb := m_bits (d + 3) (suN G W (nI k) n) (by have := suN_le G W (nI k) n; omega) σ
    obtain ⟨l4', hi⟩ := ih (k + 1) (.int (nI (pcN (suN G W (nI k) n)))) (by omega)
    rw [laF] at hi
    refine ⟨l4', ?_⟩
    rw [← hi]
    by_cases c : nI (pcN (suN G W (nI k) n)) ≤ (laF G W n k).2
    · rw [if_pos c]
      have c' := eq_true c
      generalize hQ : ru (d + 4) 195 6 [.ref 87, .int (laF G W n k).1, .int (laF G W n k).2, .int (nI (k + 1)), .int (nI (pcN (suN G W (nI k) n)))] [] σ = Q
      simp only [s195_6]
      simp only [s195_7, s195_8_o87, s195_11, s195_13_o88, s195_14, s195_17, s195_18, s195_19_o87, s195_22, s195_25, s195_27, s195_29, s195_30, s195_33, s195_34, s195_35, s195_37, s195_38, s195_41, vp_lit, h13, e, es, hb, c', nI_1, simprocAttr, if_true, if_false, true_and, and_true, false_and, and_false, not_false_eq_true, not_true_eq_false, gd_T, kont_i, kont_v]
      exact hQ
    · rw [if_neg c]
      have c' := eq_false c
      generalize hQ : ru (d + 4) 195 6 [.ref 87, .int (nI k), .int (nI (pcN (suN G W (nI k) n))), .int (nI (k + 1)), .int (nI (pcN (suN G W (nI k) n)))] [] σ = Q
      simp only [s195_6]
      simp only [s195_7, s195_8_o87, s195_11, s195_13_o88, s195_14, s195_17, s195_18, s195_19_o87, s195_22, s195_25, s195_27, s195_29, s195_30, s195_33, s195_34, s195_35, s195_37, s195_38, s195_41, vp_lit, h13, e, es, hb, c', nI_1, simprocAttr, if_true, if_false, true_and, and_true, false_and, and_false, not_false_eq_true, not_true_eq_false, gd_T, kont_i, kont_v]
      exact hQ
theorem L_liar {i : Nat} {σ : Hs} (h : RR i σ) (d : Nat) : Step d i 86 195 [] σ := by
  obtain ⟨n, n1, n2, n3, n4⟩ := h.sr.2.2.2.1
  obtain ⟨G, W, hR⟩ := h.ti.rp n1 n2
  obtain ⟨l4, hl⟩ := k_liar_l (d + 95) n n1 G W σ (σ 88) hR n3 n4 n 0 uu (by omega)
  have s0 : callD (d + 100) 86 [.ref 0] σ = ru (d + 99) 86 50 [.ref 0, .int (laF G W n n).1, .int (laF G W n n).2, .int (nI n), l4] [] σ := by
    rw [← hl]
    simp only [c86, s86_0, s86_1, s86_2, s86_3, s86_4, s86_5]
    rfl
  have mgo : ∀ τ : Hs, τ 88 = σ 88 → ∃ l4' : Value, callD (d + 100) 195 [.ref 87] τ = ru (d + 99) 195 44 [.ref 87, .int (laF G W n n).1, .int (laF G W n n).2, .int (nI n), l4'] [] τ := by
    intro τ ht
    obtain ⟨l4', hm⟩ := m_liar_l (d + 95) n n1 G W τ (by rw [ht]; exact hR) (by rw [ht]; exact n2) n 0 uu (by omega)
    refine ⟨l4', ?_⟩
    rw [← hm]
    simp only [c195, s195_0, s195_1, s195_2, s195_3, s195_4, s195_5]
    rfl
  rcases laF_1 G W n n (by omega) with c | ⟨q, q12, c⟩
  · refine Step_err h 2 (v := -1000002) ?_ ?_
    · rw [s0, c]
      simp only [s86_50, s86_51, s86_52, s86_55, s86_56, s86_57_o0, s86_60, s86_63, s86_64, k_failed_2, simprocAttr, if_true, if_false, true_and, and_true, false_and, and_false, not_false_eq_true, not_true_eq_false, gd_T, kont_i, kont_v]
    · obtain ⟨l4', hm⟩ := mgo (erC σ 2) (rep_ne (by omega))
      rw [hm, c]
      simp only [s195_44, s195_45, s195_48, s195_49, s195_51_o87, s195_54, s195_57, s195_58, m_fin_2, simprocAttr, if_true, if_false, true_and, and_true, false_and, and_false, not_false_eq_true, not_true_eq_false, gd_T, kont_i, kont_v]
  · refine ⟨nI q, σ, σ, ?_, ?_, h.same⟩
    · rw [s0, c]
      have qn : (nI q = -1) = False := nI_inj_m1 (by omega)
      simp only [s86_50, s86_51, s86_52, s86_55, s86_56, s86_57_o0, s86_60, s86_63, s86_64, qn, simprocAttr, if_true, if_false, true_and, and_true, false_and, and_false, not_false_eq_true, not_true_eq_false, gd_T, kont_i, kont_v]
    · obtain ⟨l4', hm⟩ := mgo σ rfl
      rw [hm, c]
      have q0 : (0 ≤ nI q) = True := eq_true (nI_pos' (by omega))
      simp only [s195_44, s195_45, s195_48, s195_49, s195_51_o87, s195_54, s195_57, s195_58, q0, simprocAttr, if_true, if_false, true_and, and_true, false_and, and_false, not_false_eq_true, not_true_eq_false, gd_T, kont_i, kont_v]
