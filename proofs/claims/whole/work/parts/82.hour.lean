/-! ===== hour: the model; the call ===== -/
theorem minT_4 {T : Nat → Int32} (hM : MOK T) : minT T 4 = T 4 + 1 - (T 4 + 1) / 1440 * 1440 := by
  have e : minA T 4 = T 4 := by
    obtain ⟨-, n1⟩ := mnL_inv T hM.2.1 30 (Nat.le_refl _)
    unfold minA
    rw [laT_ne (MOK_mnL hM) (by omega)]
    exact n1 4 (Or.inl (by omega))
  show upd _ 0 _ 4 = _
  rw [upd_at, if_neg (by omega)]
  show upd _ 4 _ 4 = _
  rw [upd_at, if_pos rfl]
  show upd (minA T) 12 _ 4 + 1 - (upd (minA T) 12 _ 4 + 1) / 1440 * 1440 = _
  rw [upd_at, if_neg (by omega), e]
noncomputable def hY (T : Nat → Int32) (p h : Nat) : Nat → Int32 := liT (upd T 4 (nI (60 * h))) p
theorem hY_MI {T : Nat → Int32} (hM : MI T) {p h : Nat} (hp : p < 30) (hi : isT T p) : MI (hY T p h) := by
  have h1 : MI (upd T 4 (nI (60 * h))) := MI.st (k := 0) hM (by omega) (by omega) (by omega)
  exact h1.li hp (by unfold isT; rw [ofT_up (by omega)]; exact hi)
theorem hY_AG {T : Nat → Int32} {p h : Nat} (hp : p < 30) : AG (hY T p h) (liT T p) := by
  have h1 : AG (upd T 4 (nI (60 * h))) T := fun a ha => by rw [upd_at, if_neg (by omega)]
  unfold hY liT
  rw [h1.of hp (show 5 < 7 by omega)]
  exact (h1.te p 6 1).te p 5 _
theorem hY_ne {T : Nat → Int32} {p h a : Nat} (hp : p < 30) (ha : (a < 14 ∧ a ≠ 4) ∨ 224 ≤ a) : hY T p h a = T a := by
  unfold hY
  rw [PlT_li hp a (by omega), upd_at, if_neg (by omega)]
/-- the model's row, k minutes ahead at an hour -/
theorem hY_it {T : Nat → Int32} (hM : MI T) {p h w g : Nat} (hp : p < 30) (hi : isT T p) (hh : h < 24) (hw : w < 4) (hg : g < 9) (h6 : T 6 = nI w) (h8 : T 8 = nI g) {v : Nat → Nat} (hv : ∀ q, q < 9 → T (225 + 3 * q) = nI (v q) ∧ v q ≤ 1000000000) :
    ∀ k, k ≤ 60 → MI (itT k (hY T p h)) ∧ AG (itT k (hY T p h)) (bX T p k) ∧ (k < 60 → itT k (hY T p h) 4 = nI (60 * h + k)) ∧ (∀ j, j < 9 → itT k (hY T p h) (226 + 3 * j) = T (226 + 3 * j)) ∧ ∀ q, q < 9 → itT k (hY T p h) (225 + 3 * q) = nI (v q + totN T p h w g k q) := by
  intro k
  induction k with
  | zero =>
    intro _
    refine ⟨hY_MI hM hp hi, hY_AG hp, fun _ => ?_, fun j hj => hY_ne hp (by omega), fun q hq => ?_⟩
    · show hY T p h 4 = _
      unfold hY
      rw [PlT_li hp 4 (by omega), upd_at, if_pos rfl]
      rfl
    · show hY T p h (225 + 3 * q) = _
      rw [hY_ne hp (by omega)]
      exact (hv q hq).1
  | succ k ih =>
    intro hk
    obtain ⟨m1, a1, c1, w1, q1⟩ := ih (by omega)
    have c1 := c1 (by omega)
    rw [itT_succ]
    generalize itT k (hY T p h) = Z at m1 a1 c1 w1 q1
    have hMZ := m1.2.1
    obtain ⟨k1, n1⟩ := mnL_inv Z hMZ.2.1 30 (Nat.le_refl _)
    obtain ⟨es, ls⟩ := sk_n hM.1 hp hi k
    have esm : (mnL Z 30).2 = nI (skN T p k) := ((a1.mL 30 (Nat.le_refl _)).2).trans es
    have hZT : ∀ a, ((5 ≤ a ∧ a ≤ 8) ∨ 359 ≤ a) → Z a = T a := by
      intro a ha
      rw [a1 a (by omega)]
      have bne : ∀ k, bX T p k a = T a := by
        intro k
        induction k with
        | zero => exact PlT_li hp a (by omega)
        | succ k ihk =>
          have kk : KOK (bX T p k) := (bX_WI hM.1 hp hi k).K
          exact ((mnL_inv (bX T p k) kk 30 (Nat.le_refl _)).2 a (by omega)).trans ihk
      exact bne k
    refine ⟨m1.min, AG.mn hMZ a1, fun hk1 => ?_, fun j hj => ?_, fun q hq => ?_⟩
    · rw [minT_4 hMZ, c1, nI_1]
      have : nI (60 * h + k + 1) - nI (60 * h + k + 1) / 1440 * 1440 = nI ((60 * h + k + 1) % 1440) := pk_rem (d := 1440) (by omega) (by decide) (by decide)
      rw [this, Nat.mod_eq_of_lt (by omega)]
      rfl
    · rw [minT_A (by omega) (by omega) (by omega)]
      unfold minA
      have e1 : laT (mnL Z 30).1 (mnL Z 30).2 (226 + 3 * j) = (mnL Z 30).1 (226 + 3 * j) := by
        obtain ⟨-, -, ⟨g, hg, h8⟩, w, hw, h6⟩ := MOK_mnL hMZ
        unfold laT
        rw [h6, h8, cl_nI (by omega), cl_nI (by omega)]
        exact laL_w _ hw 3 g _ _ hg
      rw [e1, n1 _ (Or.inr (by omega))]
      exact w1 j hj
    · rw [minT_A (by omega) (by omega) (by omega)]
      unfold minA
      rw [esm]
      have x4 : (mnL Z 30).1 4 / 60 = nI h := by
        rw [n1 4 (Or.inl (by omega)), c1]
        have := pk_div (a := 60 * h + k) (d := 60) (by omega) (by decide) (by decide)
        rw [show (60 * h + k) / 60 = h by omega] at this
        exact this
      have tl := tot_le hM.1 hp hi (h := h) hw hg k q hq
      have bv := (hv q hq).2
      have := (laT_inc (T := T) (X := (mnL Z 30).1) (h := h) (m := skN T p k) (q := q) (v := v q + totN T p h w g k q) ls (fun a ha => (n1 a (by omega)).trans (hZT a ha)) x4 h6 hw h8 hg (fun j hj => (n1 _ (Or.inr (by omega))).trans (w1 j hj)) hq ((n1 _ (Or.inr (by omega))).trans (q1 q hq)) (by omega)).1
      rw [this, totN, Nat.add_assoc]
theorem m_bothered_l (d : Nat) (f : Nat → Nat) (σ : Hs) (hf : ∀ q, q < 9 → σ 88 (225 + 3 * q) = nI (f q) ∧ f q < 2147483648) : ∀ n k, k + n = 9 → ru d 184 4 [.ref 87, .long (lN (s9 f k)), uu, .int (nI k)] [] σ = some (some (.long (lN (s9 f 9))), σ) := by
  intro n
  induction n with
  | zero =>
    intro k hk
    obtain rfl : k = 9 := by omega
    simp only [s184_4]
    simp only [s184_5, s184_7, s184_34, s184_35, show (9 : Int32) ≤ nI 9 from Int32.le_refl _, simprocAttr, if_true, if_false, true_and, and_true, false_and, and_false, not_false_eq_true, not_true_eq_false, gd_T, kont_i, kont_v]
  | succ n ih =>
    intro k hk
    have k31 : k < 2147483648 := by omega
    have k9 : k < 9 := by omega
    obtain ⟨e, l⟩ := hf k k9
    have e' : σ 88 (224 + 3 * k + 1) = nI (f k) := by rw [show 224 + 3 * k + 1 = 225 + 3 * k by omega]; exact e
    have hi := ih (k + 1) (by omega)
    rw [s9] at hi
    have ix : (224 : Int32) + 3 * nI k + 1 = nI (224 + 3 * k + 1) := by rw [show (224 : Int32) = nI 224 from rfl, show (3 : Int32) = nI 3 from rfl, pk_mul, nI_add, nI_1]
    simp only [s184_4]
    simp only [s184_5, s184_7, s184_10, s184_11, s184_12_o87, s184_15, s184_18, s184_19, s184_20, s184_21, s184_22, s184_23, s184_24_o88, s184_25, s184_26, s184_27, s184_28, s184_31, le_nI_r k31, ix, vp_nI (show 224 + 3 * k + 1 < 545 by omega), cl_nI (show 224 + 3 * k + 1 < 2147483648 by omega), e', nI_l l, lN_add, nI_1, hi, simprocAttr, if_true, if_false, true_and, and_true, false_and, and_false, not_false_eq_true, not_true_eq_false, gd_T, kont_i, kont_v]
    rw [if_neg (by omega)]
theorem m_bothered (d : Nat) (f : Nat → Nat) (σ : Hs) (hf : ∀ q, q < 9 → σ 88 (225 + 3 * q) = nI (f q) ∧ f q < 2147483648) : callD (d + 1) 184 [.ref 87] σ = some (some (.long (lN (s9 f 9))), σ) := by
  have hl := m_bothered_l d f σ hf 9 0 rfl
  simp only [s184_0, s184_1, s184_2, s184_3, c184]
  exact hl
/-- the hour with the least, among the first -/
def amF (S : Nat → Nat) : Nat → Nat × Nat
  | 0 => (0, S 0)
  | h + 1 => if S (h + 1) < (amF S h).2 then (h + 1, S (h + 1)) else amF S h
theorem amF_lt (S : Nat → Nat) {b : Nat} (hb : ∀ h, h < 24 → S h ≤ b) : ∀ h, h < 24 → (amF S h).1 ≤ h ∧ (amF S h).2 ≤ b := by
  intro h
  induction h with
  | zero => intro h0; exact ⟨Nat.le_refl _, hb 0 (by omega)⟩
  | succ h ih =>
    intro hh
    obtain ⟨a, c⟩ := ih (by omega)
    rw [amF]
    split
    · exact ⟨Nat.le_refl _, hb _ hh⟩
    · exact ⟨by omega, c⟩
noncomputable def hoS (T : Nat → Int32) (p n w g h : Nat) : Nat := s9 (totN T p h w g n) 9
theorem hoS_le {T : Nat → Int32} (hW : WI T) {p n : Nat} (hn : n ≤ 60) (hp : p < 30) (hi : isT T p) {h w g : Nat} (hw : w < 4) (hg : g < 9) : hoS T p n w g h ≤ 1080000000 := by
  have := s9_le (f := totN T p h w g n) (b := 120000000) (fun q hq => Nat.le_trans (tot_le hW hp hi hw hg n q hq) (by omega)) 9 (Nat.le_refl _)
  unfold hoS
  omega
theorem k_hour_1 (d n p : Nat) (hn : n ≤ 60) (T : Nat → Int32) (hp : p < 30) (hi : isT T p) (hW : WI T) : ∀ m k σ, k + m = n → BI 59 σ (bX T p k) → SA T p k σ → ∃ σ', ru (d + 4) 79 64 [.ref 0, .int (nI p), .int (nI n), .int (nI k), uu, uu, uu] [] σ = ru (d + 4) 79 95 [.ref 0, .int (nI p), .int (nI n), .int (nI n), uu, uu, uu] [] σ' ∧ BI 59 σ' (bX T p n) ∧ SA T p n σ' ∧ ∀ o, (o < 59 ∨ 65 < o) → o ≠ 15 → o ≠ 86 → σ' o = σ o := by
  intro m
  induction m with
  | zero =>
    intro k σ hk hB hS
    obtain rfl : k = n := by omega
    refine ⟨σ, ?_, hB, hS, fun _ _ _ _ => rfl⟩
    simp only [s79_64]
    simp only [s79_65, s79_66, Int32.le_refl, simprocAttr, if_true, if_false, true_and, and_true, false_and, and_false, not_false_eq_true, not_true_eq_false, gd_T, kont_i, kont_v]
  | succ m ih =>
    intro k σ hk hB hS
    have k31 : k < 2147483648 := by omega
    have k60 : k < 60 := by omega
    obtain ⟨σ1, e1, r1, f1⟩ := h59_burn d σ (bX T p k) hB
    rw [(sk_n hW hp hi k).1] at e1
    have r1' : BI 59 (rep σ1 86 (upd (σ1 86) k (nI (skN T p k)))) (bX T p (k + 1)) := by
      obtain ⟨q1, q2, q3⟩ := r1
      exact ⟨q1.fr (fun o o1 o2 => rep_ne (by omega)), q2.fr (fun o o1 o2 => rep_ne (by omega)) (fun _ _ => rfl), q3⟩
    have S1 : SA T p (k + 1) (rep σ1 86 (upd (σ1 86) k (nI (skN T p k)))) := by
      intro j hj
      rw [rep_self, upd_at]
      by_cases c : j = k
      · rw [if_pos c, c]
      · rw [if_neg c, f1 86 (by omega) (by omega)]; exact hS j (by omega)
    obtain ⟨σ2, e2, b2', s2, f2⟩ := ih (k + 1) _ (by omega) r1' S1
    refine ⟨σ2, ?_, b2', s2, fun o o1 o2 o3 => (f2 o o1 o2 o3).trans ((rep_ne o3).trans (f1 o o1 o2))⟩
    rw [← e2]
    generalize hR : ru (d + 4) 79 64 [.ref 0, .int (nI p), .int (nI n), .int (nI (k + 1)), uu, uu, uu] [] _ = R
    simp only [s79_64]
    simp only [s79_65, s79_66, s79_69, s79_70_o0, s79_73, s79_74, s79_75_o0, s79_78, s79_79_o0, s79_82_o1, s79_85_o59, s79_88_o86, s79_89, s79_92, le_nn (show n < 2147483648 by omega) k31, e1, vp_nI k60, cl_nI k31, up2_rep, nI_1, simprocAttr, if_true, if_false, true_and, and_true, false_and, and_false, not_false_eq_true, not_true_eq_false, gd_T, kont_i, kont_v]
    rw [if_neg (by omega)]
    exact hR
theorem k_hour_2 (d n p : Nat) (v : Nat → Nat) (hv : ∀ q, q < 9 → v q ≤ 1000000000) (hn : n ≤ 60) (T : Nat → Int32) (hp : p < 30) (hi : isT T p) (hW : WI T) (hM : MOK T) {w g : Nat} (hw : w < 4) (hg : g < 9) (h6 : T 6 = nI w) (h8 : T 8 = nI g) : ∀ m h (l6 : Value) σ (X : Nat → Int32), h + 1 + m = 24 → HR 59 σ X → BX T X → LR σ T → SA T p n σ → (∀ q, q < 9 → σ 12 q = nI (v q)) → ∃ σ', ru (d + 5) 79 108 [.ref 0, .int (nI p), .int (nI n), .int (nI (amF (hoS T p n w g) h).1), .int (nI (amF (hoS T p n w g) h).2), .int (nI (h + 1)), l6] [] σ = some (some (.int (nI (amF (hoS T p n w g) 23).1)), σ') ∧ ∀ o, (o < 59 ∨ 69 < o) → o ≠ 15 → σ' o = σ o := by
  intro m
  induction m with
  | zero =>
    intro h l6 σ X hh hr hX hL hS h12
    obtain rfl : h = 23 := by omega
    refine ⟨σ, ?_, fun _ _ _ => rfl⟩
    simp only [s79_108]
    simp only [s79_110, s79_112, s79_144, s79_145, show (24 : Int32) ≤ nI (23 + 1) from Int32.le_refl _, simprocAttr, if_true, if_false, true_and, and_true, false_and, and_false, not_false_eq_true, not_true_eq_false, gd_T, kont_i, kont_v]
  | succ m ih =>
    intro h l6 σ X hh hr hX hL hS h12
    have h31 : h + 1 < 2147483648 := by omega
    obtain ⟨σ1, X1, e1, r1, b1, f1⟩ := k_bF d (h + 1) n p v hv hn (by omega) T hW hp hi hM hw hg h6 h8 σ X hr hX hL hS h12
    have e1 : callD (d + 5) 101 [.ref 0, .int (nI (h + 1)), .int (nI n)] σ = some (some (.int (nI (hoS T p n w g (h + 1)))), σ1) := e1
    have ff : ∀ o, (o < 59 ∨ 69 < o) → o ≠ 15 → σ1 o = σ o := fun o o1 o2 => f1 o (by omega) (by omega) (by omega) o2
    obtain ⟨σ2, e2, f2⟩ := ih (h + 1) (.int (nI (hoS T p n w g (h + 1)))) σ1 X1 (by omega) r1 b1 (hL.fr (fun o o1 o2 => ff o (by omega) (by omega)) (fun _ _ => rfl)) (fun j hj => by rw [ff 86 (by omega) (by omega)]; exact hS j hj) (fun q hq => by rw [ff 12 (by omega) (by omega)]; exact h12 q hq)
    refine ⟨σ2, ?_, fun o o1 o2 => (f2 o o1 o2).trans (ff o o1 o2)⟩
    rw [← e2]
    have l1 := hoS_le hW hn hp hi (h := h + 1) hw hg
    have l2 := (amF_lt (hoS T p n w g) (b := 1080000000) (fun h _ => hoS_le hW hn hp hi hw hg) h (by omega)).2
    have e24 : (24 ≤ nI (h + 1)) = False := by rw [show (24 : Int32) = nI 24 from rfl, le_nn (by omega) (by omega)]; exact eq_false (by omega)
    rw [amF]
    by_cases c : hoS T p n w g (h + 1) < (amF (hoS T p n w g) h).2
    · rw [if_pos c]
      have cc : (nI (amF (hoS T p n w g) h).2 ≤ nI (hoS T p n w g (h + 1))) = False := by rw [le_nn (by omega) (by omega)]; exact eq_false (by omega)
      generalize hR : ru (d + 5) 79 108 [.ref 0, .int (nI p), .int (nI n), .int (nI (h + 1)), .int (nI (hoS T p n w g (h + 1))), .int (nI (h + 1 + 1)), .int (nI (hoS T p n w g (h + 1)))] [] σ1 = R
      simp only [s79_108]
      simp only [s79_110, s79_112, s79_115, s79_116, s79_118, s79_119_o0, s79_122, s79_124, s79_126, s79_128, s79_131, s79_133, s79_134, s79_136, s79_138, s79_141, e24, e1, cc, nI_1, simprocAttr, if_true, if_false, true_and, and_true, false_and, and_false, not_false_eq_true, not_true_eq_false, gd_T, kont_i, kont_v]
      exact hR
    · rw [if_neg c]
      have cc : (nI (amF (hoS T p n w g) h).2 ≤ nI (hoS T p n w g (h + 1))) = True := by rw [le_nn (by omega) (by omega)]; exact eq_true (by omega)
      generalize hR : ru (d + 5) 79 108 [.ref 0, .int (nI p), .int (nI n), .int (nI (amF (hoS T p n w g) h).1), .int (nI (amF (hoS T p n w g) h).2), .int (nI (h + 1 + 1)), .int (nI (hoS T p n w g (h + 1)))] [] σ1 = R
      simp only [s79_108]
      simp only [s79_110, s79_112, s79_115, s79_116, s79_118, s79_119_o0, s79_122, s79_124, s79_126, s79_128, s79_131, s79_133, s79_134, s79_136, s79_138, s79_141, e24, e1, cc, nI_1, simprocAttr, if_true, if_false, true_and, and_true, false_and, and_false, not_false_eq_true, not_true_eq_false, gd_T, kont_i, kont_v]
      exact hR
def hoB (S : Nat → Nat) : Nat → Int32
  | 0 => -1
  | h + 1 => nI (amF S h).1
def hoL (S : Nat → Nat) (V : Nat) : Nat → Int64
  | 0 => 0
  | h + 1 => lN (V + (amF S h).2)
theorem m_hour_l (d n p : Nat) (hn : n ≤ 60) (T : Nat → Int32) (hp : p < 30) (hi : isT T p) (hM : MI T) {w g : Nat} (hw : w < 4) (hg : g < 9) (h6 : T 6 = nI w) (h8 : T 8 = nI g) {v : Nat → Nat} (hv : ∀ q, q < 9 → T (225 + 3 * q) = nI (v q) ∧ v q ≤ 1000000000) : ∀ m h (l7 l8 : Value) σ, h + m = 24 → σ 88 = T → σ 90 = T → Hot σ → WB σ → ∃ σ', ru (d + 11) 185 55 [.ref 87, .int (nI p), .int (nI n), .int (hoB (hoS T p n w g) h), .long (hoL (hoS T p n w g) (s9 v 9) h), uu, .int (nI h), l7, l8] [] σ = some (some (.int (hoB (hoS T p n w g) 24)), σ') ∧ MF σ σ' ∧ σ' 88 = T := by
  intro m
  induction m with
  | zero =>
    intro h l7 l8 σ hh e88 e90 hH hB
    obtain rfl : h = 24 := by omega
    refine ⟨σ, ?_, MF.rf σ, e88⟩
    simp only [s185_55]
    simp only [s185_57, s185_59, s185_125, s185_126, show (24 : Int32) ≤ nI 24 from Int32.le_refl _, simprocAttr, if_true, if_false, true_and, and_true, false_and, and_false, not_false_eq_true, not_true_eq_false, gd_T, kont_i, kont_v]
  | succ m ih =>
    intro h l7 l8 σ hh e88 e90 hH hB
    have h31 : h < 2147483648 := by omega
    have e24 : (24 ≤ nI h) = False := by rw [show (24 : Int32) = nI 24 from rfl, le_nn (by omega) (by omega)]; exact eq_false (by omega)
    have e60 : (60 : Int32) * nI h = nI (60 * h) := pk_mul 60 h
    have el := m_lights (d + 9) p hp (rep σ 88 (upd T 4 (nI (60 * h))))
    rw [rep_self, rep_rep] at el
    have WY : WB (rep σ 88 (hY T p h)) := hB.g88 (fun j hj => by rw [hY_ne hp (by omega), ← e88]; exact hB.at88 (Or.inl rfl) j hj)
    obtain ⟨σ2, e2, f2⟩ := m_minutesGo (d + 1) n (by omega) (rep σ 88 (hY T p h)) (by rw [rep_self]; exact (hY_MI hM hp hi).2.1) (hH.of (rep_ne (by omega)) (rep_ne (by omega)))
    rw [rep_self] at f2
    have W2 := callD_WB _ _ _ _ _ _ WY e2
    obtain ⟨-, -, -, -, q1⟩ := hY_it hM hp hi (h := h) (by omega) hw hg h6 h8 hv n hn
    have eb := m_bothered (d + 10) (fun q => v q + totN T p h w g n q) σ2 (fun q hq => ⟨by rw [f2.1]; exact q1 q hq, by
      have := tot_le hM.1 hp hi (h := h) hw hg n q hq
      have := (hv q hq).2
      show v q + totN T p h w g n q < 2147483648
      omega⟩)
    rw [s9_add] at eb
    have q90 : σ2 90 = T := by rw [f2.2.2 90 (by omega) (by omega) (by omega) (by omega), rep_ne (by omega)]; exact e90
    have ec := m_unside (d + 10) σ2 T q90 W2
    have mf : MF σ (rep σ2 88 T) := ((MF.g _).tr f2.mf).tr (MF.g _)
    obtain ⟨σ3, e3, f3, g3⟩ := ih (h + 1) (.long (lN (s9 v 9 + hoS T p n w g h))) uu (rep σ2 88 T) (by omega) (rep_self _ _ _) ((rep_ne (by omega)).trans q90) (hH.of (mf.2 92 (by omega) (by omega) (by omega) (by omega) (by omega)) (mf.2 93 (by omega) (by omega) (by omega) (by omega) (by omega))) (callD_WB _ _ _ _ _ _ W2 ec)
    refine ⟨σ3, ?_, mf.tr f3, g3⟩
    rw [← e3]
    have eY : liT (upd T 4 (nI (60 * h))) p = hY T p h := rfl
    rw [eY] at el
    have eS : s9 v 9 + s9 (totN T p h w g n) 9 = s9 v 9 + hoS T p n w g h := rfl
    rw [eS] at eb
    have l1 := hoS_le hM.1 hn hp hi (h := h) hw hg
    have lv := s9_le (f := v) (b := 1000000000) (fun q hq => (hv q hq).2) 9 (Nat.le_refl _)
    cases h with
    | zero =>
      generalize hR : ru (d + 11) 185 55 [.ref 87, .int (nI p), .int (nI n), .int (hoB (hoS T p n w g) (0 + 1)), .long (hoL (hoS T p n w g) (s9 v 9) (0 + 1)), uu, .int (nI (0 + 1)), .long (lN (s9 v 9 + hoS T p n w g 0)), uu] [] _ = R
      simp only [hoB, hoL, amF] at hR ⊢
      simp only [s185_55]
      simp only [s185_57, s185_59, s185_62, s185_63_o87, s185_66, s185_67, s185_69, s185_71, s185_72_o88, s185_73, s185_74, s185_75_o87, s185_78, s185_79, s185_80_o87, s185_83, s185_84_o87, s185_87, s185_89, s185_90_o87, s185_93, s185_94_o87, s185_97, s185_100, s185_101, s185_104, s185_106, s185_108, s185_109, s185_112, s185_114, s185_115, s185_117, s185_119, s185_122, e24, e60, vp_lit, e88, up2_rep, el, e2, eb, ec, nI_1, simprocAttr, if_true, if_false, true_and, and_true, false_and, and_false, not_false_eq_true, not_true_eq_false, gd_T, kont_i, kont_v]
      exact hR
    | succ h =>
      have l2 := amF_lt (hoS T p n w g) (b := 1080000000) (fun h _ => hoS_le hM.1 hn hp hi hw hg) h (by omega)
      have nb : (nI (amF (hoS T p n w g) h).1 < 0) = False := eq_false (nI_pos (by omega))
      generalize hR : ru (d + 11) 185 55 [.ref 87, .int (nI p), .int (nI n), .int (hoB (hoS T p n w g) (h + 1 + 1)), .long (hoL (hoS T p n w g) (s9 v 9) (h + 1 + 1)), uu, .int (nI (h + 1 + 1)), .long (lN (s9 v 9 + hoS T p n w g (h + 1))), uu] [] _ = R
      simp only [hoB, hoL] at hR ⊢
      rw [amF] at hR
      simp only [s185_55]
      simp only [s185_57, s185_59, s185_62, s185_63_o87, s185_66, s185_67, s185_69, s185_71, s185_72_o88, s185_73, s185_74, s185_75_o87, s185_78, s185_79, s185_80_o87, s185_83, s185_84_o87, s185_87, s185_89, s185_90_o87, s185_93, s185_94_o87, s185_97, s185_100, s185_101, s185_104, s185_106, s185_108, s185_109, s185_112, s185_114, s185_115, s185_117, s185_119, s185_122, e24, e60, vp_lit, e88, up2_rep, el, e2, eb, ec, nb, lg_cmp_ge, nI_1, simprocAttr, if_true, if_false, true_and, and_true, false_and, and_false, not_false_eq_true, not_true_eq_false, gd_T, kont_i, kont_v]
      by_cases c : hoS T p n w g (h + 1) < (amF (hoS T p n w g) h).2
      · rw [if_pos c] at hR
        rw [if_neg (fun q => by have := (pk_lLE (by omega) (by omega)).mp q; omega)]
        exact hR
      · rw [if_neg c] at hR
        rw [if_pos ((pk_lLE (by omega) (by omega)).mpr (by omega))]
        exact hR
theorem L_hour {i : Nat} (hii : i ≤ 512) {σ : Hs} (h : RR i σ) (d : Nat) (v w : Int32) : Step d i 79 185 [.int v, .int w] σ := by
  by_cases hv : 0 ≤ v ∧ v ≤ 29
  · have hvt := eq_true hv
    by_cases hw : 0 ≤ w ∧ w ≤ 60
    · have hwt := eq_true hw
      obtain ⟨p, hp, rfl⟩ := plc_n hv
      obtain ⟨n, ln, rfl⟩ := ahd_n hw
      have ei := h2_has (d + 98) p hp σ (σ 88) h.hr h.wi.P
      by_cases hi : isT (σ 88) p
      · obtain ⟨-, -, ⟨g, hg, h8⟩, wy, hwy, h6⟩ := id h.mok
        have hvv : ∃ vv : Nat → Nat, ∀ q, q < 9 → σ 88 (225 + 3 * q) = nI (vv q) ∧ vv q ≤ 1000000000 := by
          refine ⟨fun q => (σ 88 (225 + 3 * q)).toNatClampNeg, fun q hq => ?_⟩
          obtain ⟨x, e, l⟩ := h.ph q hq
          have l2 : x ≤ 1000000000 := by omega
          have e3 : (σ 88 (225 + 3 * q)).toNatClampNeg = x := by rw [e, cl_nI (by omega)]
          exact ⟨by simp only [e3]; exact e, by simp only [e3]; exact l2⟩
        obtain ⟨vv, hvv⟩ := hvv
        have k12 : ∀ q, q < 9 → σ 12 q = nI (vv q) := fun q hq => (h.hr.2.2.2.1 q hq).2.2.trans (hvv q hq).1
        obtain ⟨σ1, e1, p1, f1⟩ := k_ahead (d + 98) σ (σ 88) h.hr h.lr h.mi h.wb
        obtain ⟨σ2, e2, r2, f2⟩ := h59_lightByHand (d + 98) p hp σ1 (σ 88) p1.1 hi
        have B2 : BI 59 σ2 (bX (σ 88) p 0) := ⟨r2, p1.2.1.fr (fun o o1 o2 => f2 o (by omega) (by omega)) (fun q hq => PlT_li hp q (by omega)), h.wi.li hp hi, (h.mi.li hp hi).2.1.1.1, (h.mi.li hp hi).2.2.2.1⟩
        obtain ⟨σ3, e3, B3, S3, f3⟩ := k_hour_1 (d + 95) n p (by omega) (σ 88) hp hi h.wi n 0 σ2 (by omega) B2 (fun j hj => absurd hj (by omega))
        have hBX : BX (σ 88) (bX (σ 88) p n) := by
          have bne : ∀ k a, (a < 10 ∨ 224 ≤ a) → bX (σ 88) p k a = σ 88 a := by
            intro k a ha
            induction k with
            | zero => exact PlT_li hp a (by omega)
            | succ k ihk =>
              have kk : KOK (bX (σ 88) p k) := (bX_WI h.wi hp hi k).K
              exact ((mnL_inv _ kk 30 (Nat.le_refl _)).2 a ha).trans ihk
          refine ⟨fun a ha => bne n a (by omega), fun j hj => bne n _ (by omega), fun q hq => ?_, (bX_WI h.wi hp hi n).K⟩
          rw [bne n _ (by omega), bne n _ (by omega)]
          exact h.mi.2.2.1 q hq
        have ff3 : ∀ o, (o < 59 ∨ 69 < o) → o ≠ 15 → o ≠ 86 → σ3 o = σ o := fun o o1 o2 o3 => (f3 o (by omega) o2 o3).trans ((f2 o (by omega) (by omega)).trans (f1 o o1))
        have L3 : LR σ3 (σ 88) := h.lr.fr (fun o o1 o2 => ff3 o (by omega) (by omega) (by omega)) (fun _ _ => rfl)
        obtain ⟨σ4, X4, e4, r4, b4, f4⟩ := k_bF (d + 94) 0 n p vv (fun q hq => (hvv q hq).2) (by omega) (by omega) (σ 88) h.wi hp hi h.mok hwy hg h6 h8 σ3 (bX (σ 88) p n) B3.1 hBX L3 S3 (fun q hq => by rw [ff3 12 (by omega) (by omega) (by omega)]; exact k12 q hq)
        have e4 : callD (d + 94 + 5) 101 [.ref 0, .int 0, .int (nI n)] σ3 = some (some (.int (nI (hoS (σ 88) p n wy g 0))), σ4) := e4
        have ff4 : ∀ o, (o < 59 ∨ 69 < o) → o ≠ 15 → o ≠ 86 → σ4 o = σ o := fun o o1 o2 o3 => (f4 o (by omega) (by omega) (by omega) o2).trans (ff3 o o1 o2 o3)
        obtain ⟨σ5, e5, f5⟩ := k_hour_2 (d + 94) n p vv (fun q hq => (hvv q hq).2) (by omega) (σ 88) hp hi h.wi h.mok hwy hg h6 h8 23 0 uu σ4 X4 rfl r4 b4 (h.lr.fr (fun o o1 o2 => ff4 o (by omega) (by omega) (by omega)) (fun _ _ => rfl)) (fun j hj => by rw [f4 86 (by omega) (by omega) (by omega) (by omega)]; exact S3 j hj) (fun q hq => by rw [ff4 12 (by omega) (by omega) (by omega)]; exact k12 q hq)
        have c1 : callD (d + 100) 79 [.ref 0, .int (nI p), .int (nI n)] σ = some (some (.int (nI (amF (hoS (σ 88) p n wy g) 23).1)), σ5) := by
          rw [n_0] at e3
          simp only [c79, s79_0, s79_1, s79_4, s79_7, s79_8, s79_11, s79_14, s79_15, s79_16_o0, s79_19, s79_20, s79_21_o0, s79_24_o1, s79_27, s79_28_o2, s79_31, s79_34, s79_35, s79_36_o0, s79_39, s79_40, s79_41_o0, s79_44, s79_45_o0, s79_48_o1, s79_51_o59, s79_54, s79_55_o0, s79_58, s79_59_o59, s79_62, s79_63, k_isPlace, k_isAhead, lt_le30, hvt, hwt, b2_t, ei, b2_T hi, e1, e2, simprocAttr, if_true, if_false, true_and, and_true, false_and, and_false, not_false_eq_true, not_true_eq_false, gd_T, kont_i, kont_v]
          rw [e3]
          simp only [s79_95, s79_96, s79_97, s79_98, s79_99, s79_100_o0, s79_103, s79_105, s79_106, e4, simprocAttr, if_true, if_false, true_and, and_true, false_and, and_false, not_false_eq_true, not_true_eq_false, gd_T, kont_i, kont_v]
          exact e5
        have ff5 : ∀ o, (o < 59 ∨ 69 < o) → o ≠ 15 → o ≠ 86 → σ5 o = σ o := fun o o1 o2 o3 => (f5 o o1 o2).trans (ff4 o o1 o2 o3)
        have W5 := callD_WB _ _ _ _ _ _ h.wb c1
        have g88 : σ5 88 = σ 88 := ff5 88 (by omega) (by omega) (by omega)
        have ea := m_aside (d + 98) σ5 W5
        rw [g88] at ea
        have W6 := callD_WB _ _ _ _ _ _ W5 ea
        obtain ⟨σ7, e7, m7, g7⟩ := m_hour_l (d + 88) n p (by omega) (σ 88) hp hi h.mi hwy hg h6 h8 hvv 24 0 uu uu (rep σ5 90 (σ 88)) rfl ((rep_ne (by omega)).trans g88) (rep_self _ _ _) (h.hot.of ((rep_ne (by omega)).trans (ff5 92 (by omega) (by omega) (by omega))) ((rep_ne (by omega)).trans (ff5 93 (by omega) (by omega) (by omega)))) W6
        have hi5 : isT (σ5 88) p := by rw [g88]; exact hi
        have c2 : callD (d + 100) 185 [.ref 87, .int (nI p), .int (nI n)] σ5 = some (some (.int (nI (amF (hoS (σ 88) p n wy g) 23).1)), σ7) := by
          have e7' : ru (d + 88 + 11) 185 55 [.ref 87, .int (nI p), .int (nI n), .int (-1), .long 0, uu, .int 0, uu, uu] [] (rep σ5 90 (σ 88)) = some (some (.int (nI (amF (hoS (σ 88) p n wy g) 23).1)), σ7) := e7
          simp only [c185, s185_0, s185_1, s185_4, s185_7, s185_8, s185_11, s185_14, s185_15, s185_17_o87, s185_20, s185_21, s185_22, s185_23_o87, s185_26, s185_29, s185_30, s185_32_o87, s185_35, s185_36, s185_37_o87, s185_40, s185_41_o87, s185_44, s185_47, s185_48, s185_49, s185_50, s185_52, s185_53, m_isPlace, m_isAhead, hvt, hwt, b2_t, m_is _ _ hp, b2_T hi5, ea, simprocAttr, if_true, if_false, true_and, and_true, false_and, and_false, not_false_eq_true, not_true_eq_false, gd_T, kont_i, kont_v]
          exact e7'
        have W7 := callD_WB _ _ _ _ _ _ W5 c2
        refine ⟨_, _, _, c1, c2, h.ahead W7 g7 (fun o o1 o2 o3 o4 o5 o6 o7 o8 => ?_) (fun k hk => ?_)⟩
        · rw [((MF.g90 (σ 88)).tr m7).2 o o4 o5 o6 o7 o8]
          exact ff5 o o1 o2 o3
        · rw [((MF.g90 (σ 88)).tr m7).1 k hk, ff5 87 (by omega) (by omega) (by omega)]
      · refine Step_err h 2 (v := -1000002) ?_ ?_
        · simp only [c79, s79_0, s79_1, s79_4, s79_7, s79_8, s79_11, s79_14, s79_15, s79_16_o0, s79_19, s79_20, s79_21_o0, s79_24_o1, s79_27, s79_28_o2, s79_31, s79_34, s79_35, s79_36_o0, s79_39, s79_40, s79_41_o0, s79_44, s79_45_o0, s79_48_o1, s79_51_o59, s79_54, s79_55_o0, s79_58, s79_59_o59, s79_62, s79_63, k_isPlace, k_isAhead, lt_le30, hvt, hwt, b2_t, ei, b2_F hi, k_failed_2, simprocAttr, if_true, if_false, true_and, and_true, false_and, and_false, not_false_eq_true, not_true_eq_false, gd_T, kont_i, kont_v]
        · have hi1 : ¬ isT (erC σ 2 88) p := by rw [show erC σ 2 88 = σ 88 from rep_ne (by omega)]; exact hi
          simp only [c185, s185_0, s185_1, s185_4, s185_7, s185_8, s185_11, s185_14, s185_15, s185_17_o87, s185_20, s185_21, s185_22, s185_23_o87, s185_26, s185_29, s185_30, s185_32_o87, s185_35, s185_36, s185_37_o87, s185_40, s185_41_o87, s185_44, s185_47, s185_48, s185_49, s185_50, s185_52, s185_53, m_isPlace, m_isAhead, hvt, hwt, b2_t, m_is _ _ hp, b2_F hi1, m_fin_2, simprocAttr, if_true, if_false, true_and, and_true, false_and, and_false, not_false_eq_true, not_true_eq_false, gd_T, kont_i, kont_v]
    · have hwf := eq_false hw
      refine Step_err h 1 (v := -1000001) ?_ ?_
      · simp only [c79, s79_0, s79_1, s79_4, s79_7, s79_8, s79_11, s79_14, s79_15, s79_16_o0, s79_19, s79_20, s79_21_o0, s79_24_o1, s79_27, s79_28_o2, s79_31, s79_34, s79_35, s79_36_o0, s79_39, s79_40, s79_41_o0, s79_44, s79_45_o0, s79_48_o1, s79_51_o59, s79_54, s79_55_o0, s79_58, s79_59_o59, s79_62, s79_63, k_isPlace, k_isAhead, lt_le30, hvt, hwf, b2_t, b2_f, k_failed_1, simprocAttr, if_true, if_false, true_and, and_true, false_and, and_false, not_false_eq_true, not_true_eq_false, gd_T, kont_i, kont_v]
      · simp only [c185, s185_0, s185_1, s185_4, s185_7, s185_8, s185_11, s185_14, s185_15, s185_17_o87, s185_20, s185_21, s185_22, s185_23_o87, s185_26, s185_29, s185_30, s185_32_o87, s185_35, s185_36, s185_37_o87, s185_40, s185_41_o87, s185_44, s185_47, s185_48, s185_49, s185_50, s185_52, s185_53, m_isPlace, m_isAhead, hvt, hwf, b2_t, b2_f, m_fin_1, simprocAttr, if_true, if_false, true_and, and_true, false_and, and_false, not_false_eq_true, not_true_eq_false, gd_T, kont_i, kont_v]
  · have hvf := eq_false hv
    refine Step_err h 1 (v := -1000001) ?_ ?_
    · simp only [c79, s79_0, s79_1, s79_4, s79_7, s79_8, s79_11, s79_14, s79_15, s79_16_o0, s79_19, s79_20, s79_21_o0, s79_24_o1, s79_27, s79_28_o2, s79_31, s79_34, s79_35, s79_36_o0, s79_39, s79_40, s79_41_o0, s79_44, s79_45_o0, s79_48_o1, s79_51_o59, s79_54, s79_55_o0, s79_58, s79_59_o59, s79_62, s79_63, k_isPlace, lt_le30, hvf, b2_f, k_failed_1, simprocAttr, if_true, if_false, true_and, and_true, false_and, and_false, not_false_eq_true, not_true_eq_false, gd_T, kont_i, kont_v]
    · simp only [c185, s185_0, s185_1, s185_4, s185_7, s185_8, s185_11, s185_14, s185_15, s185_17_o87, s185_20, s185_21, s185_22, s185_23_o87, s185_26, s185_29, s185_30, s185_32_o87, s185_35, s185_36, s185_37_o87, s185_40, s185_41_o87, s185_44, s185_47, s185_48, s185_49, s185_50, s185_52, s185_53, m_isPlace, hvf, b2_f, m_fin_1, simprocAttr, if_true, if_false, true_and, and_true, false_and, and_false, not_false_eq_true, not_true_eq_false, gd_T, kont_i, kont_v]
