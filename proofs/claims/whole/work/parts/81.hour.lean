/-! ===== hour: the class ===== -/
noncomputable def bX (T : Nat → Int32) (p : Nat) : Nat → Nat → Int32
  | 0 => liT T p
  | k + 1 => (mnL (bX T p k) 30).1
noncomputable def skN (T : Nat → Int32) (p k : Nat) : Nat := (mnL (bX T p k) 30).2.toNatClampNeg
theorem bX_WI {T : Nat → Int32} (hW : WI T) {p : Nat} (hp : p < 30) (hi : isT T p) : ∀ k, WI (bX T p k)
  | 0 => hW.li hp hi
  | k + 1 => (mnL_n (bX_WI hW hp hi k) 30 (Nat.le_refl _)).1
theorem sk_n {T : Nat → Int32} (hW : WI T) {p : Nat} (hp : p < 30) (hi : isT T p) (k : Nat) : (mnL (bX T p k) 30).2 = nI (skN T p k) ∧ skN T p k ≤ 2000000 := by
  obtain ⟨-, m, hm, em⟩ := mnL_n (bX_WI hW hp hi k) 30 (Nat.le_refl _)
  have e : skN T p k = m := by unfold skN; rw [em, cl_nI (by omega)]
  rw [e]
  exact ⟨em, by omega⟩
noncomputable def totN (T : Nat → Int32) (p h w g : Nat) : Nat → Nat → Nat
  | 0, _ => 0
  | k + 1, q => totN T p h w g k q + incN (fun j => T (226 + 3 * j)) (nI h) w 3 (lyN T h (skN T p k)) g q
theorem tot_le {T : Nat → Int32} (hW : WI T) {p : Nat} (hp : p < 30) (hi : isT T p) {h w g : Nat} (hw : w < 4) (hg : g < 9) : ∀ k q, q < 9 → totN T p h w g k q ≤ k * 2000000 := by
  intro k
  induction k with
  | zero => intro q _; exact Nat.zero_le _
  | succ k ih =>
    intro q hq
    have h1 := ih q hq
    have h2 := (sk_n hW hp hi k).2
    have h3 : lyN T h (skN T p k) ≤ skN T p k := lyN_le
    obtain ⟨-, h4⟩ := laL_inc (fun j => T (226 + 3 * j)) (nI h) hw hq 3 g (lyN T h (skN T p k)) 0 (fun a => if a = 225 + 3 * q then nI 0 else T a) hg (fun j hj => if_neg (by omega)) (if_pos rfl) (by omega) (by omega)
    rw [totN]
    omega
def s9 (f : Nat → Nat) : Nat → Nat
  | 0 => 0
  | n + 1 => s9 f n + f n
theorem s9_le {f : Nat → Nat} {b : Nat} (h : ∀ q, q < 9 → f q ≤ b) : ∀ n, n ≤ 9 → s9 f n ≤ n * b := by
  intro n
  induction n with
  | zero => intro _; exact Nat.zero_le _
  | succ n ih =>
    intro hn
    have h1 := ih (by omega)
    have h2 := h n (by omega)
    rw [s9, Nat.succ_mul]
    omega
/-- a row that says what T says of what the smoke's way hangs on -/
def BX (T X : Nat → Int32) : Prop := (∀ a, ((5 ≤ a ∧ a ≤ 8) ∨ 359 ≤ a) → X a = T a) ∧ (∀ j, j < 9 → X (226 + 3 * j) = T (226 + 3 * j)) ∧ GC X ∧ KOK X
theorem BX.mok {T X : Nat → Int32} (h : BX T X) (hM : MOK T) : MOK X := by
  obtain ⟨⟨l0, l1, l2⟩, -, ⟨g, g1, g2⟩, w, w1, w2⟩ := hM
  obtain ⟨a1, a2, a3, a4⟩ := h
  have hh : ∀ j, 359 ≤ j → X j = T j := fun j hj => a1 j (Or.inr hj)
  exact ⟨⟨LWT_congr hh l0, LWT_congr hh l1, LWT_congr hh l2⟩, a4, ⟨g, g1, (a1 8 (by omega)).trans g2⟩, w, w1, (a1 6 (by omega)).trans w2⟩
theorem BX.up {T X : Nat → Int32} (h : BX T X) {a : Nat} {v : Int32} (ha : a < 5 ∨ ((224 ≤ a ∧ a < 251) ∧ a % 3 ≠ 1 ∧ CA v)) : BX T (upd X a v) := by
  obtain ⟨a1, a2, a3, a4⟩ := h
  refine ⟨fun b hb => ?_, fun j hj => ?_, fun g hg => ?_, KOK_up (by omega) a4⟩
  · rw [upd_at, if_neg (by omega)]; exact a1 b hb
  · rw [upd_at, if_neg (by omega)]; exact a2 j hj
  · obtain ⟨c1, c2⟩ := a3 g hg
    refine ⟨?_, ?_⟩
    · rw [upd_at]
      split
      · rcases ha with q | q
        · omega
        · exact q.2.2
      · exact c1
    · rw [upd_at]
      split
      · rcases ha with q | q
        · omega
        · exact q.2.2
      · exact c2
theorem laL_out (hour : Int32) {w : Nat} (hw : w < 4) {a : Nat} (ha : a < 224 ∨ 251 ≤ a) {g : Nat} (hg : g < 9) (left : Int32) (X : Nat → Int32) : laL hour w 3 X left g a = X a := laL_ne hour w hw 3 X left g a hg ha
theorem BX.la {T X : Nat → Int32} (h : BX T X) (hM : MOK T) {m : Nat} (hm : m ≤ 2000000) : BX T (laT X (nI m)) := by
  have hX := h.mok hM
  obtain ⟨a1, a2, a3, a4⟩ := h
  refine ⟨fun b hb => ?_, fun j hj => ?_, laT_GC hm hX a3, KOK_of (fun p f hp hf => ?_) a4⟩
  · rw [laT_ne hX (by omega)]; exact a1 b hb
  · rw [← a2 j hj]
    obtain ⟨-, -, ⟨g, hg, h8⟩, w, hw, h6⟩ := hX
    unfold laT
    rw [h6, h8, cl_nI (by omega), cl_nI (by omega)]
    exact laL_w _ hw 3 g _ X hg
  · unfold ofT
    rw [laT_ne hX (by omega)]
/-- the row with nine BOTHERED laid over its own -/
def fgT (V X : Nat → Int32) : Nat → Nat → Int32
  | 0 => X
  | k + 1 => upd (fgT V X k) (225 + 3 * k) (V k)
theorem fgT_at {V X : Nat → Int32} {a : Nat} : ∀ k, fgT V X k a = if 225 ≤ a ∧ a < 225 + 3 * k ∧ a % 3 = 0 then V ((a - 225) / 3) else X a := by
  intro k
  induction k with
  | zero => rw [fgT, if_neg (by omega)]
  | succ k ih =>
    rw [fgT, upd_at, ih]
    by_cases c : a = 225 + 3 * k
    · rw [if_pos c, if_pos (by omega)]
      congr 1
      omega
    · rw [if_neg c]
      by_cases c2 : 225 ≤ a ∧ a < 225 + 3 * k ∧ a % 3 = 0
      · rw [if_pos c2, if_pos (by omega)]
      · rw [if_neg c2, if_neg (by omega)]
theorem BX.fg {T X V : Nat → Int32} (hV : ∀ q, q < 9 → CA (V q)) (h : BX T X) : ∀ k, k ≤ 9 → BX T (fgT V X k)
  | 0, _ => h
  | k + 1, hk => (BX.fg hV h k (by omega)).up (Or.inr ⟨by omega, by omega, hV k (by omega)⟩)
theorem HR.fg {b : Nat} {σ : Hs} {X : Nat → Int32} (h : HR b σ X) (V : Nat → Int32) : ∀ k, k ≤ 9 → HR b (rep σ (b + 10) (fun j => if j < k then V j else σ (b + 10) j)) (fgT V X k) := by
  intro k
  induction k with
  | zero =>
    intro _
    have e : rep σ (b + 10) (fun j => if j < 0 then V j else σ (b + 10) j) = σ := by
      funext o
      by_cases c : o = b + 10
      · subst c
        rw [rep_self]
        funext j
        rw [if_neg (by omega)]
      · rw [rep_ne c]
    rw [e]
    exact h
  | succ k ih =>
    intro hk
    have r := (ih (by omega)).g10 (show k < 9 by omega) (V k)
    rw [rep_rep, rep_self] at r
    have e : upd (fun j => if j < k then V j else σ (b + 10) j) k (V k) = fun j => if j < k + 1 then V j else σ (b + 10) j := by
      funext j
      rw [upd_at]
      by_cases c : j = k
      · rw [if_pos c, if_pos (by omega), c]
      · by_cases c2 : j < k
        · rw [if_neg c, if_pos c2, if_pos (by omega)]
        · rw [if_neg c, if_neg c2, if_neg (by omega)]
    rw [e] at r
    exact r
theorem bnd_69_12 (σ : Hs) : bndC σ 69 12 0 0 9 = True := bnd_i (n := 9) (by decide +kernel)
theorem h2_inAll_l (d : Nat) (f : Nat → Nat) (σ : Hs) (hf : ∀ q, q < 9 → σ 12 q = nI (f q)) : ∀ n k, k + n = 9 → ru d 22 4 [.ref 2, .int (nI (s9 f k)), .int (nI k)] [] σ = some (some (.int (nI (s9 f 9))), σ) := by
  intro n
  induction n with
  | zero =>
    intro k hk
    obtain rfl : k = 9 := by omega
    simp only [s22_4]
    simp only [s22_5, s22_7, s22_25, s22_26, show (9 : Int32) ≤ nI 9 from Int32.le_refl _, simprocAttr, if_true, if_false, true_and, and_true, false_and, and_false, not_false_eq_true, not_true_eq_false, gd_T, kont_i, kont_v]
  | succ n ih =>
    intro k hk
    have k31 : k < 2147483648 := by omega
    have k9 : k < 9 := by omega
    have e10 : σ 12 k = nI (f k) := hf k k9
    have hi := ih (k + 1) (by omega)
    rw [s9] at hi
    simp only [s22_4]
    simp only [s22_5, s22_7, s22_10, s22_11, s22_12_o2, s22_12_o59, s22_15, s22_16_o12, s22_16_o69, s22_17, s22_18, s22_19, s22_22, le_nI_r k31, vp_nI k9, cl_nI k31, e10, nI_add, nI_1, hi, simprocAttr, if_true, if_false, true_and, and_true, false_and, and_false, not_false_eq_true, not_true_eq_false, gd_T, kont_i, kont_v]
    rw [if_neg (by omega)]
theorem h2_inAll (d : Nat) (f : Nat → Nat) (σ : Hs) (hf : ∀ q, q < 9 → σ 12 q = nI (f q)) : callD (d + 1) 22 [.ref 2] σ = some (some (.int (nI (s9 f 9))), σ) := by
  have hl := h2_inAll_l d f σ hf 9 0 rfl
  simp only [s22_0, s22_1, s22_2, s22_3, c22]
  exact hl
theorem h59_inAll_l (d : Nat) (f : Nat → Nat) (σ : Hs) (hf : ∀ q, q < 9 → σ 69 q = nI (f q)) : ∀ n k, k + n = 9 → ru d 22 4 [.ref 59, .int (nI (s9 f k)), .int (nI k)] [] σ = some (some (.int (nI (s9 f 9))), σ) := by
  intro n
  induction n with
  | zero =>
    intro k hk
    obtain rfl : k = 9 := by omega
    simp only [s22_4]
    simp only [s22_5, s22_7, s22_25, s22_26, show (9 : Int32) ≤ nI 9 from Int32.le_refl _, simprocAttr, if_true, if_false, true_and, and_true, false_and, and_false, not_false_eq_true, not_true_eq_false, gd_T, kont_i, kont_v]
  | succ n ih =>
    intro k hk
    have k31 : k < 2147483648 := by omega
    have k9 : k < 9 := by omega
    have e10 : σ 69 k = nI (f k) := hf k k9
    have hi := ih (k + 1) (by omega)
    rw [s9] at hi
    simp only [s22_4]
    simp only [s22_5, s22_7, s22_10, s22_11, s22_12_o2, s22_12_o59, s22_15, s22_16_o12, s22_16_o69, s22_17, s22_18, s22_19, s22_22, le_nI_r k31, vp_nI k9, cl_nI k31, e10, nI_add, nI_1, hi, simprocAttr, if_true, if_false, true_and, and_true, false_and, and_false, not_false_eq_true, not_true_eq_false, gd_T, kont_i, kont_v]
    rw [if_neg (by omega)]
theorem h59_inAll (d : Nat) (f : Nat → Nat) (σ : Hs) (hf : ∀ q, q < 9 → σ 69 q = nI (f q)) : callD (d + 1) 22 [.ref 59] σ = some (some (.int (nI (s9 f 9))), σ) := by
  have hl := h59_inAll_l d f σ hf 9 0 rfl
  simp only [s22_0, s22_1, s22_2, s22_3, c22]
  exact hl
theorem s9_add (a b : Nat → Nat) : ∀ n, s9 (fun q => a q + b q) n = s9 a n + s9 b n := by
  intro n
  induction n with
  | zero => rfl
  | succ n ih => rw [s9, s9, s9, ih]; omega
/-- the smoke of the minutes ahead, as the class keeps it -/
def SA (T : Nat → Int32) (p n : Nat) (σ : Hs) : Prop := ∀ j, j < n → σ 86 j = nI (skN T p j)
theorem k_bF_l (d h n p : Nat) (v : Nat → Nat) (hv : ∀ q, q < 9 → v q ≤ 1000000000) (hn : n ≤ 60) (hh : h < 24) (T : Nat → Int32) (hW : WI T) (hp : p < 30) (hi : isT T p) (hM : MOK T) {w g : Nat} (hw : w < 4) (hg : g < 9) (h6 : T 6 = nI w) (h8 : T 8 = nI g) : ∀ m k σ (X : Nat → Int32), k + m = n → HR 59 σ X → BX T X → LR σ X → X 4 = nI (60 * h) → (∀ q, q < 9 → X (225 + 3 * q) = nI (v q + totN T p h w g k q)) → SA T p n σ →
    ∃ σ' X', ru (d + 4) 101 39 [.ref 0, .int (nI h), .int (nI n), .int (nI k)] [] σ = ru (d + 4) 101 70 [.ref 0, .int (nI h), .int (nI n), .int (nI n)] [] σ' ∧ HR 59 σ' X' ∧ BX T X' ∧ (∀ q, q < 9 → X' (225 + 3 * q) = nI (v q + totN T p h w g n q)) ∧ ∀ o, o ≠ 68 → o ≠ 69 → o ≠ 15 → σ' o = σ o := by
  intro m
  induction m with
  | zero =>
    intro k σ X hk hr hX hL h4 hq hS
    obtain rfl : k = n := by omega
    refine ⟨σ, X, ?_, hr, hX, hq, fun _ _ _ _ => rfl⟩
    simp only [s101_39]
    simp only [s101_40, s101_41, Int32.le_refl, simprocAttr, if_true, if_false, true_and, and_true, false_and, and_false, not_false_eq_true, not_true_eq_false, gd_T, kont_i, kont_v]
  | succ m ih =>
    intro k σ X hk hr hX hL h4 hq hS
    have k31 : k < 2147483648 := by omega
    have k60 : k < 60 := by omega
    have hs := (sk_n hW hp hi k).2
    obtain ⟨σ1, e1, r1, G1, f1⟩ := h59_drift d (skN T p k) hs σ X hr hL (hX.mok hM) hX.2.2.1
    have hX1 := hX.la hM hs
    have h41 : laT X (nI (skN T p k)) 4 = nI (60 * h) := by rw [laT_ne (hX.mok hM) (by omega)]; exact h4
    have hq1 : ∀ q, q < 9 → laT X (nI (skN T p k)) (225 + 3 * q) = nI (v q + totN T p h w g (k + 1) q) := by
      intro q q9
      have hd60 : X 4 / 60 = nI h := by
        rw [h4]
        have := pk_div (a := 60 * h) (d := 60) (by omega) (by decide) (by decide)
        rw [Nat.mul_div_cancel_left h (by omega)] at this
        exact this
      have tl := tot_le hW hp hi (h := h) hw hg k q q9
      have bv := hv q q9
      have := (laT_inc (T := T) (X := X) (h := h) (m := skN T p k) (q := q) (v := v q + totN T p h w g k q) hs hX.1 hd60 h6 hw h8 hg hX.2.1 q9 (hq q q9) (by omega)).1
      rw [this, totN, Nat.add_assoc]
    have hL1 : LR σ1 (laT X (nI (skN T p k))) := hL.fr (fun o o1 o2 => f1 o (by omega) (by omega) (by omega)) (fun j hj => laT_ne (hX.mok hM) (by omega))
    have hS1 : SA T p n σ1 := fun j hj => by rw [f1 86 (by omega) (by omega) (by omega)]; exact hS j hj
    obtain ⟨σ2, X2, e2, r2, b2', q2, f2⟩ := ih (k + 1) σ1 _ (by omega) r1 hX1 hL1 h41 hq1 hS1
    refine ⟨σ2, X2, ?_, r2, b2', q2, fun o o1 o2 o3 => (f2 o o1 o2 o3).trans (f1 o o1 o2 o3)⟩
    rw [← e2]
    have g86 : σ 86 k = nI (skN T p k) := hS k (by omega)
    generalize hR : ru (d + 4) 101 39 [.ref 0, .int (nI h), .int (nI n), .int (nI (k + 1))] [] σ1 = R
    simp only [s101_39]
    simp only [s101_40, s101_41, s101_44, s101_45_o0, s101_48, s101_49_o0, s101_52, s101_53_o86, s101_54, s101_55_o0, s101_58_o1, s101_61_o59, s101_64, s101_67, le_nn (show n < 2147483648 by omega) k31, vp_nI k60, cl_nI k31, g86, e1, nI_1, simprocAttr, if_true, if_false, true_and, and_true, false_and, and_false, not_false_eq_true, not_true_eq_false, gd_T, kont_i, kont_v]
    rw [if_neg (by omega)]
    exact hR
theorem k_bF (d h n p : Nat) (v : Nat → Nat) (hv : ∀ q, q < 9 → v q ≤ 1000000000) (hn : n ≤ 60) (hh : h < 24) (T : Nat → Int32) (hW : WI T) (hp : p < 30) (hi : isT T p) (hM : MOK T) {w g : Nat} (hw : w < 4) (hg : g < 9) (h6 : T 6 = nI w) (h8 : T 8 = nI g) (σ : Hs) (X : Nat → Int32) (hr : HR 59 σ X) (hX : BX T X) (hL : LR σ T) (hS : SA T p n σ) (h12 : ∀ q, q < 9 → σ 12 q = nI (v q)) :
    ∃ σ' X', callD (d + 5) 101 [.ref 0, .int (nI h), .int (nI n)] σ = some (some (.int (nI (s9 (totN T p h w g n) 9))), σ') ∧ HR 59 σ' X' ∧ BX T X' ∧ ∀ o, o ≠ 66 → o ≠ 68 → o ≠ 69 → o ≠ 15 → σ' o = σ o := by
  have r1 := hr.st (k := 0) (by omega) (nI (60 * h))
  have r2 := r1.fg (σ 12) 9 (Nat.le_refl _)
  have hV : ∀ q, q < 9 → CA (σ 12 q) := fun q hq => ⟨v q, by have := hv q hq; omega, h12 q hq⟩
  have hX1 : BX T (fgT (σ 12) (upd X (4 + 0) (nI (60 * h))) 9) := BX.fg hV (hX.up (Or.inl (by omega))) 9 (Nat.le_refl _)
  have eF : (fun j => if j < 9 then σ 12 j else (rep σ (59 + 7) (upd (σ (59 + 7)) 0 (nI (60 * h)))) (59 + 10) j) = va_cpy (σ 12) (σ 69) 0 0 9 := by
    funext j
    rw [vcpy0, rep_ne (by omega)]
  rw [eF] at r2
  obtain ⟨σ1, eσ⟩ : ∃ σ1, σ1 = rep (rep σ 66 (upd (σ 66) 0 (nI (60 * h)))) 69 (va_cpy (σ 12) (σ 69) 0 0 9) := ⟨_, rfl⟩
  have r2 : HR 59 σ1 (fgT (σ 12) (upd X (4 + 0) (nI (60 * h))) 9) := by rw [eσ]; exact r2
  have f1' : ∀ o, o ≠ 66 → o ≠ 69 → σ1 o = σ o := fun o o1 o2 => by rw [eσ, rep_ne o2, rep_ne o1]
  have hL1 : LR σ1 (fgT (σ 12) (upd X (4 + 0) (nI (60 * h))) 9) := hL.fr (fun o o1 o2 => f1' o (by omega) (by omega)) (fun j hj => hX1.1 j (Or.inr hj))
  have h4 : fgT (σ 12) (upd X (4 + 0) (nI (60 * h))) 9 4 = nI (60 * h) := by rw [fgT_at, if_neg (by omega), upd_at, if_pos rfl]
  have hq : ∀ q, q < 9 → fgT (σ 12) (upd X (4 + 0) (nI (60 * h))) 9 (225 + 3 * q) = nI (v q + totN T p h w g 0 q) := by
    intro q q9
    rw [fgT_at, if_pos (by omega), show (225 + 3 * q - 225) / 3 = q by omega]
    exact h12 q q9
  obtain ⟨σ2, X2, e2, r3, b3, q3, f2⟩ := k_bF_l d h n p v hv hn hh T hW hp hi hM hw hg h6 h8 n 0 σ1 _ (by omega) r2 hX1 hL1 h4 hq (fun j hj => by rw [f1' 86 (by omega) (by omega)]; exact hS j hj)
  have e3 := h59_inAll (d + 3) (fun q => v q + totN T p h w g n q) σ2 (fun q q9 => (r3.2.2.2.1 q q9).2.2.trans (q3 q q9))
  have e5 := h2_inAll (d + 3) v σ2 (fun q q9 => by rw [f2 12 (by omega) (by omega) (by omega), f1' 12 (by omega) (by omega)]; exact h12 q q9)
  rw [s9_add] at e3
  have hs : nI (s9 v 9 + s9 (totN T p h w g n) 9) - nI (s9 v 9) = nI (s9 (totN T p h w g n) 9) := by
    rw [pk_sub (by omega)]
    congr 1
    omega
  refine ⟨σ2, X2, ?_, r3, b3, fun o o1 o2 o3 o4 => (f2 o o2 o3 o4).trans (f1' o o1 o3)⟩
  have e60 : (60 : Int32) * nI h = nI (60 * h) := pk_mul 60 h
  rw [n_0, eσ] at e2
  simp only [c101, s101_0, s101_1_o0, s101_4_o59, s101_7, s101_8, s101_10, s101_11, s101_12_o66, s101_13, s101_14_o0, s101_17_o1, s101_20_o2, s101_23, s101_24, s101_25_o0, s101_28_o59, s101_31, s101_32, s101_34, s101_37, s101_38, e60, vp_lit, up2_rep, bnd_69_12, cp2_rep, rep_at, simprocAttr, if_true, if_false, true_and, and_true, false_and, and_false, not_false_eq_true, not_true_eq_false, gd_T, kont_i, kont_v]
  rw [e2]
  simp only [s101_70, s101_71_o0, s101_74_o59, s101_77, s101_78_o0, s101_81_o1, s101_84_o2, s101_87, s101_88, e3, e5, hs, simprocAttr, if_true, if_false, true_and, and_true, false_and, and_false, not_false_eq_true, not_true_eq_false, gd_T, kont_i, kont_v]
