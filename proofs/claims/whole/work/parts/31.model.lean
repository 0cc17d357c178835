/-! ===== the model's small methods ===== -/
theorem le_nI_r {a : Int32} {k : Nat} (h : k < 2147483648) : (a ≤ nI k) = (a.toInt ≤ (k : Int)) := by rw [Int32.le_iff_toInt_le, nI_toInt h]
theorem le_nI_l {a : Int32} {k : Nat} (h : k < 2147483648) : (nI k ≤ a) = ((k : Int) ≤ a.toInt) := by rw [Int32.le_iff_toInt_le, nI_toInt h]
theorem lt_nI_r {a : Int32} {k : Nat} (h : k < 2147483648) : (a < nI k) = (a.toInt < (k : Int)) := by rw [Int32.lt_iff_toInt_lt, nI_toInt h]
theorem lt_nI_l {a : Int32} {k : Nat} (h : k < 2147483648) : (nI k < a) = ((k : Int) < a.toInt) := by rw [Int32.lt_iff_toInt_lt, nI_toInt h]
theorem eq_nI_r {a : Int32} {k : Nat} (h : k < 2147483648) : (a = nI k) = (a.toInt = (k : Int)) := by rw [← Int32.toInt_inj, nI_toInt h]
theorem eq_nI_l {a : Int32} {k : Nat} (h : k < 2147483648) : (nI k = a) = ((k : Int) = a.toInt) := by rw [← Int32.toInt_inj, nI_toInt h]
def ofT (T : Nat → Int32) (p f : Nat) : Int32 := T (14 + 7 * p + f)
abbrev isT (T : Nat → Int32) (p : Nat) : Prop := ofT T p 0 = 1
abbrev litT (T : Nat → Int32) (p : Nat) : Prop := ofT T p 6 = 1
def teT (T : Nat → Int32) (p f : Nat) (v : Int32) : Nat → Int32 := upd T (14 + 7 * p + f) v
theorem idxT (p f : Nat) : (14 : Int32) + 7 * nI p + nI f = nI (14 + 7 * p + f) := by
  rw [show (14 : Int32) = nI 14 from rfl, show (7 : Int32) = nI 7 from rfl, pk_mul, nI_add, nI_add]
theorem m_of_n (d p f : Nat) (hp : p < 30) (hf : f < 7) (σ : Hs) : callD (d + 1) 118 [.ref 87, .int (nI p), .int (nI f)] σ = some (some (.int (ofT (σ 88) p f)), σ) := by
  have h1 : 14 + 7 * p + f < 545 := by omega
  have h2 : 14 + 7 * p + f < 2147483648 := by omega
  simp only [c118, s118_0, s118_1_o87, s118_4, s118_6, s118_8, s118_9, s118_10, s118_11, s118_12, s118_13_o88, s118_14, idxT, vp_nI h1, cl_nI h2, simprocAttr, if_true, if_false, true_and, and_true, false_and, and_false, not_false_eq_true, not_true_eq_false, gd_T, kont_i, kont_v]
  rfl
theorem m_tells_n (d p f : Nat) (hp : p < 30) (hf : f < 7) (v : Int32) (σ : Hs) : callD (d + 1) 119 [.ref 87, .int (nI p), .int (nI f), .int v] σ = some (none, rep σ 88 (teT (σ 88) p f v)) := by
  have h1 : 14 + 7 * p + f < 545 := by omega
  have h2 : 14 + 7 * p + f < 2147483648 := by omega
  simp only [c119, s119_0, s119_1_o87, s119_4, s119_6, s119_8, s119_9, s119_10, s119_11, s119_12, s119_13, s119_14_o88, s119_15, idxT, vp_nI h1, cl_nI h2, up2_rep, simprocAttr, if_true, if_false, true_and, and_true, false_and, and_false, not_false_eq_true, not_true_eq_false, gd_T, kont_i, kont_v]
  rfl
theorem m_of_0 (d p : Nat) (hp : p < 30) (σ : Hs) : callD (d + 1) 118 [.ref 87, .int (nI p), .int 0] σ = some (some (.int (ofT (σ 88) p 0)), σ) := m_of_n d p 0 hp (by omega) σ
theorem m_tells_0 (d p : Nat) (hp : p < 30) (v : Int32) (σ : Hs) : callD (d + 1) 119 [.ref 87, .int (nI p), .int 0, .int v] σ = some (none, rep σ 88 (teT (σ 88) p 0 v)) := m_tells_n d p 0 hp (by omega) v σ
theorem m_of_1 (d p : Nat) (hp : p < 30) (σ : Hs) : callD (d + 1) 118 [.ref 87, .int (nI p), .int 1] σ = some (some (.int (ofT (σ 88) p 1)), σ) := m_of_n d p 1 hp (by omega) σ
theorem m_tells_1 (d p : Nat) (hp : p < 30) (v : Int32) (σ : Hs) : callD (d + 1) 119 [.ref 87, .int (nI p), .int 1, .int v] σ = some (none, rep σ 88 (teT (σ 88) p 1 v)) := m_tells_n d p 1 hp (by omega) v σ
theorem m_of_2 (d p : Nat) (hp : p < 30) (σ : Hs) : callD (d + 1) 118 [.ref 87, .int (nI p), .int 2] σ = some (some (.int (ofT (σ 88) p 2)), σ) := m_of_n d p 2 hp (by omega) σ
theorem m_tells_2 (d p : Nat) (hp : p < 30) (v : Int32) (σ : Hs) : callD (d + 1) 119 [.ref 87, .int (nI p), .int 2, .int v] σ = some (none, rep σ 88 (teT (σ 88) p 2 v)) := m_tells_n d p 2 hp (by omega) v σ
theorem m_of_3 (d p : Nat) (hp : p < 30) (σ : Hs) : callD (d + 1) 118 [.ref 87, .int (nI p), .int 3] σ = some (some (.int (ofT (σ 88) p 3)), σ) := m_of_n d p 3 hp (by omega) σ
theorem m_tells_3 (d p : Nat) (hp : p < 30) (v : Int32) (σ : Hs) : callD (d + 1) 119 [.ref 87, .int (nI p), .int 3, .int v] σ = some (none, rep σ 88 (teT (σ 88) p 3 v)) := m_tells_n d p 3 hp (by omega) v σ
theorem m_of_4 (d p : Nat) (hp : p < 30) (σ : Hs) : callD (d + 1) 118 [.ref 87, .int (nI p), .int 4] σ = some (some (.int (ofT (σ 88) p 4)), σ) := m_of_n d p 4 hp (by omega) σ
theorem m_tells_4 (d p : Nat) (hp : p < 30) (v : Int32) (σ : Hs) : callD (d + 1) 119 [.ref 87, .int (nI p), .int 4, .int v] σ = some (none, rep σ 88 (teT (σ 88) p 4 v)) := m_tells_n d p 4 hp (by omega) v σ
theorem m_of_5 (d p : Nat) (hp : p < 30) (σ : Hs) : callD (d + 1) 118 [.ref 87, .int (nI p), .int 5] σ = some (some (.int (ofT (σ 88) p 5)), σ) := m_of_n d p 5 hp (by omega) σ
theorem m_tells_5 (d p : Nat) (hp : p < 30) (v : Int32) (σ : Hs) : callD (d + 1) 119 [.ref 87, .int (nI p), .int 5, .int v] σ = some (none, rep σ 88 (teT (σ 88) p 5 v)) := m_tells_n d p 5 hp (by omega) v σ
theorem m_of_6 (d p : Nat) (hp : p < 30) (σ : Hs) : callD (d + 1) 118 [.ref 87, .int (nI p), .int 6] σ = some (some (.int (ofT (σ 88) p 6)), σ) := m_of_n d p 6 hp (by omega) σ
theorem m_tells_6 (d p : Nat) (hp : p < 30) (v : Int32) (σ : Hs) : callD (d + 1) 119 [.ref 87, .int (nI p), .int 6, .int v] σ = some (none, rep σ 88 (teT (σ 88) p 6 v)) := m_tells_n d p 6 hp (by omega) v σ
theorem ite_is {α : Type} {c : Prop} [Decidable c] {a b : α} : (if c then some a else some b : Option α) = some (if c then a else b) := by by_cases h : c <;> simp [h]
theorem m_is (d p : Nat) (hp : p < 30) (σ : Hs) : callD (d + 2) 121 [.ref 87, .int (nI p)] σ = some (some (.int (b2 (isT (σ 88) p))), σ) := by
  simp only [c121, s121_0, s121_1, s121_2, s121_3_o87, s121_6, s121_7, s121_10, s121_11, s121_14, s121_15, m_of_0 _ _ hp, isB_0, isB_1, simprocAttr, if_true, if_false, true_and, and_true, false_and, and_false, not_false_eq_true, not_true_eq_false, gd_T, kont_i, kont_v]
  by_cases h : isT (σ 88) p
  · rw [if_pos h, b2_T h]
  · rw [if_neg h, b2_F h]
theorem m_isLit (d p : Nat) (hp : p < 30) (σ : Hs) : callD (d + 2) 122 [.ref 87, .int (nI p)] σ = some (some (.int (b2 (litT (σ 88) p))), σ) := by
  simp only [c122, s122_0, s122_1, s122_2, s122_4_o87, s122_7, s122_8, s122_11, s122_12, s122_15, s122_16, m_of_6 _ _ hp, isB_0, isB_1, simprocAttr, if_true, if_false, true_and, and_true, false_and, and_false, not_false_eq_true, not_true_eq_false, gd_T, kont_i, kont_v]
  by_cases h : litT (σ 88) p
  · rw [if_pos h, b2_T h]
  · rw [if_neg h, b2_F h]
theorem m_within (d : Nat) (v lo hi : Int32) (σ : Hs) : callD (d + 1) 112 [.int v, .int lo, .int hi] σ = some (some (.int (b2 (lo ≤ v ∧ v ≤ hi))), σ) := by
  simp only [c112, s112_0, s112_1, s112_2, s112_5, s112_6, s112_7, s112_10, s112_11, s112_14, s112_15, isB_0, isB_1]
  by_cases h1 : v < lo
  · rw [if_pos h1, b2_F (fun h => Int32.not_le.mpr h1 h.1)]
  · rw [if_neg h1]
    by_cases h2 : hi < v
    · rw [if_pos h2, b2_F (fun h => Int32.not_le.mpr h2 h.2)]
    · rw [if_neg h2, b2_T ⟨Int32.not_lt.mp h1, Int32.not_lt.mp h2⟩]
theorem m_isPlace (d : Nat) (v : Int32) (σ : Hs) : callD (d + 2) 120 [.int v] σ = some (some (.int (b2 (0 ≤ v ∧ v ≤ 29))), σ) := by
  simp only [c120, s120_0, s120_1, s120_2, s120_4, s120_7, m_within, b2_B, simprocAttr, if_true, if_false, true_and, and_true, false_and, and_false, not_false_eq_true, not_true_eq_false, gd_T, kont_i, kont_v]
def hiF (T : Nat → Int32) (c : Nat) : Nat → Nat → Nat
  | 0, n => n
  | k + 1, n => if isT T (6 * n + c) then hiF T c k (n + 1) else n
def hiT (T : Nat → Int32) (c : Nat) : Nat := hiF T c 5 0
theorem idx6 (n c : Nat) : (6 : Int32) * nI n + nI c = nI (6 * n + c) := by
  rw [show (6 : Int32) = nI 6 from rfl, pk_mul, nI_add]
theorem m_highOf_l (d c : Nat) (hc : c < 6) (σ : Hs) : ∀ k n, n + k = 5 → ru (d + 2) 123 2 [.ref 87, .int (nI c), .int (nI n)] [] σ = some (some (.int (nI (hiF (σ 88) c k n))), σ) := by
  intro k
  induction k with
  | zero =>
    intro n hn
    have h31 : n < 2147483648 := by omega
    simp only [s123_0, s123_1, s123_2, s123_3, s123_4, s123_7, s123_8, s123_10, s123_11, s123_12, s123_13, s123_14_o87, s123_17, s123_20, s123_23, s123_26, s123_27, le_nI_r h31, simprocAttr, if_true, if_false, true_and, and_true, false_and, and_false, not_false_eq_true, not_true_eq_false, gd_T, kont_i, kont_v]
    rw [if_pos (by omega)]
    rfl
  | succ k ih =>
    intro n hn
    have h31 : n < 2147483648 := by omega
    have h6 : 6 * n + c < 30 := by omega
    have hi := ih (n + 1) (by omega)
    rw [hiF]
    simp only [s123_2]
    simp only [c123, s123_0, s123_1, s123_3, s123_4, s123_7, s123_8, s123_10, s123_11, s123_12, s123_13, s123_14_o87, s123_17, s123_20, s123_23, s123_26, s123_27, le_nI_r h31, idx6, m_is _ _ h6, b2_0, nI_1, hi, simprocAttr, if_true, if_false, true_and, and_true, false_and, and_false, not_false_eq_true, not_true_eq_false, gd_T, kont_i, kont_v]
    rw [if_neg (by omega)]
    by_cases h : isT (σ 88) (6 * n + c)
    · rw [if_neg (fun q => q h), if_pos h]
    · rw [if_pos h, if_neg h]
theorem m_highOf (d c : Nat) (hc : c < 6) (σ : Hs) : callD (d + 3) 123 [.ref 87, .int (nI c)] σ = some (some (.int (nI (hiT (σ 88) c))), σ) := by
  simp only [s123_0, s123_1, c123]
  exact m_highOf_l d c hc σ 5 0 rfl
