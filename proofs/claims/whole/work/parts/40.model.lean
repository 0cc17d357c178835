/-! ===== the model: minutes go ===== -/
theorem lgT_ne {T : Nat → Int32} {g a : Nat} {hour half : Int32} (h : a ≠ 224 + 3 * g) (h1 : a ≠ 224 + 3 * g + 1) : lgT T g hour half a = T a := by
  unfold lgT
  simp only [upd]
  rw [if_neg h1, if_neg h]
theorem laL_ne (hour : Int32) (w : Nat) (hw : w < 4) : ∀ n (T : Nat → Int32) left g a, g < 9 → (a < 224 ∨ 251 ≤ a) → laL hour w n T left g a = T a := by
  intro n
  induction n with
  | zero => intro T left g a _ _; rfl
  | succ n ih =>
    intro T left g a hg ha
    have e : ∀ half, lgT T g hour half a = T a := fun half => lgT_ne (by omega) (by omega)
    rw [laL]
    cases h : nxN g w with
    | none => exact e _
    | some x =>
      have hx := (nxN_lt hg hw h).1
      simp only []
      rw [ih _ _ x a hx ha]
      exact e _
theorem laT_ne {T : Nat → Int32} {s : Int32} (hM : MOK T) {a : Nat} (ha : a < 224 ∨ 251 ≤ a) : laT T s a = T a := by
  obtain ⟨-, -, ⟨g, hg, h8⟩, w, hw, h6⟩ := hM
  unfold laT
  rw [h6, h8, cl_nI (by omega), cl_nI (by omega)]
  exact laL_ne _ w hw 3 T _ g a hg ha
theorem MOK_mnL {T : Nat → Int32} (hM : MOK T) : MOK (mnL T 30).1 := by
  obtain ⟨k1, n1⟩ := mnL_inv T hM.2.1 30 (Nat.le_refl _)
  exact MOK_congr (fun j h1 h2 => n1 j (Or.inr h1)) (n1 6 (Or.inl (by omega))) (n1 8 (Or.inl (by omega))) k1 hM
theorem minT_A {T : Nat → Int32} {a : Nat} (h0 : a ≠ 0) (h4 : a ≠ 4) (h12 : a ≠ 12) : minT T a = minA T a := by
  show upd _ 0 _ a = _
  rw [upd_at, if_neg h0]
  show upd _ 4 _ a = _
  rw [upd_at, if_neg h4]
  show upd _ 12 _ a = _
  rw [upd_at, if_neg h12]
/-- what a minute leaves as it was -/
theorem minT_ne {T : Nat → Int32} (hM : MOK T) {a : Nat} (h : (a < 10 ∧ a ≠ 0 ∧ a ≠ 4) ∨ 251 ≤ a) : minT T a = T a := by
  obtain ⟨k1, n1⟩ := mnL_inv T hM.2.1 30 (Nat.le_refl _)
  rw [minT_A (by omega) (by omega) (by omega)]
  unfold minA
  rw [laT_ne (MOK_mnL hM) (by omega)]
  exact n1 a (by omega)
theorem ofT_out {T T' : Nat → Int32} (h : ∀ a, 14 ≤ a → a < 224 → T' a = T a) {p f : Nat} (hp : p < 30) (hf : f < 7) : ofT T' p f = ofT T p f := h _ (by omega) (by omega)
theorem minT_of {T : Nat → Int32} (hM : MOK T) {p f : Nat} (hp : p < 30) (hf : f < 7) : ofT (minT T) p f = ofT (mnL T 30).1 p f := by
  refine ofT_out (fun a h1 h2 => ?_) hp hf
  rw [minT_A (by omega) (by omega) (by omega)]
  unfold minA
  rw [laT_ne (MOK_mnL hM) (by omega)]
theorem KOK_of {T T' : Nat → Int32} (h : ∀ p f, p < 30 → f < 7 → ofT T' p f = ofT T p f) (hk : KOK T) : KOK T' := by
  intro p hp hi
  unfold isT at hi
  rw [h p 0 hp (by omega)] at hi
  rw [h p 1 hp (by omega)]
  exact hk p hp hi
theorem MOK_min {T : Nat → Int32} (hM : MOK T) : MOK (minT T) := by
  refine MOK_congr (fun j h1 h2 => minT_ne hM (Or.inr h2)) (minT_ne hM (Or.inl (by omega))) (minT_ne hM (Or.inl (by omega))) ?_ hM
  exact KOK_of (fun p f hp hf => minT_of hM hp hf) (MOK_mnL hM).2.1
/-- n minutes -/
noncomputable def itT : Nat → (Nat → Int32) → Nat → Int32
  | 0, T => T
  | n + 1, T => itT n (minT T)
theorem MOK_it : ∀ n (T : Nat → Int32), MOK T → MOK (itT n T)
  | 0, _, h => h
  | n + 1, T, h => MOK_it n (minT T) (MOK_min h)
theorem itT_succ : ∀ n (T : Nat → Int32), itT (n + 1) T = minT (itT n T)
  | 0, _ => rfl
  | n + 1, T => itT_succ n (minT T)
theorem itT_ne : ∀ n (T : Nat → Int32), MOK T → ∀ a, ((a < 10 ∧ a ≠ 0 ∧ a ≠ 4) ∨ 251 ≤ a) → itT n T a = T a
  | 0, _, _, _, _ => rfl
  | n + 1, T, h, a, ha => (itT_ne n (minT T) (MOK_min h) a ha).trans (minT_ne h ha)
def FN (σ σ' : Hs) (T' : Nat → Int32) : Prop := σ' 88 = T' ∧ (∀ k, k ≠ 17 → σ' 87 k = σ 87 k) ∧ ∀ o, o ≠ 87 → o ≠ 88 → o ≠ 97 → o ≠ 98 → σ' o = σ o
theorem FM.fn {σ σ' : Hs} {T' : Nat → Int32} {s : Int32} (h : FM σ σ' T' s) : FN σ σ' T' := ⟨h.1, h.2.2.1, h.2.2.2⟩
theorem FN.rf (σ : Hs) : FN σ σ (σ 88) := ⟨rfl, fun _ _ => rfl, fun _ _ _ _ _ => rfl⟩
theorem FN.tr {a b c : Hs} {T1 T2 : Nat → Int32} (h1 : FN a b T1) (h2 : FN b c T2) : FN a c T2 := ⟨h2.1, fun k hk => (h2.2.1 k hk).trans (h1.2.1 k hk), fun o a1 a2 a3 a4 => (h2.2.2 o a1 a2 a3 a4).trans (h1.2.2 o a1 a2 a3 a4)⟩
theorem FN.rg {σ σ' : Hs} {T : Nat → Int32} (h : FN σ σ' T) (G : Nat → Int32) : FN σ (rep σ' 88 G) G := by
  refine ⟨rep_self _ _ _, ?_, ?_⟩
  · intro k hk; rw [rep_ne (by decide)]; exact h.2.1 k hk
  · intro o o1 o2 o3 o4; rw [rep_ne o2]; exact h.2.2 o o1 o2 o3 o4
theorem Hot.fn {a b : Hs} {T1 : Nat → Int32} (h : Hot a) (h1 : FN a b T1) : Hot b := by
  refine ⟨fun k hk => ?_, fun k hk => ?_⟩
  · rw [h1.2.2 92 (by omega) (by omega) (by omega) (by omega)]; exact h.1 k hk
  · rw [h1.2.2 93 (by omega) (by omega) (by omega) (by omega)]; exact h.2 k hk
theorem le_nn {a b : Nat} (ha : a < 2147483648) (hb : b < 2147483648) : (nI a ≤ nI b) = (a ≤ b) := by
  rw [le_nI_r hb, nI_toInt ha]
  exact propext Int.ofNat_le
theorem lt_nn {a b : Nat} (ha : a < 2147483648) (hb : b < 2147483648) : (nI a < nI b) = (a < b) := by
  rw [lt_nI_r hb, nI_toInt ha]
  exact propext Int.ofNat_lt
theorem mgo_loop (d n : Nat) (hn : n < 2147483648) : ∀ m k σ, k + m = n → MOK (σ 88) → Hot σ → ∃ σ', ru (d + 9) 170 2 [.ref 87, .int (nI n), .int (nI k)] [] σ = some (none, σ') ∧ FN σ σ' (itT m (σ 88)) := by
  intro m
  induction m with
  | zero =>
    intro k σ hk _ _
    obtain rfl : k = n := by omega
    refine ⟨σ, ?_, FN.rf σ⟩
    simp only [s170_2]
    simp only [s170_3, s170_4, s170_7, s170_8_o87, s170_11, s170_14, s170_17, le_nn hn hn, simprocAttr, if_true, if_false, true_and, and_true, false_and, and_false, not_false_eq_true, not_true_eq_false, gd_T, kont_i, kont_v]
    rw [if_pos (Nat.le_refl _)]
  | succ m ih =>
    intro k σ hk hM hH
    have hk31 : k < 2147483648 := by omega
    obtain ⟨σ1, e1, f1⟩ : ∃ σ', callD (d + 9) 169 [.ref 87] σ = some (none, σ') ∧ FM σ σ' (minT (σ 88)) (mnL (σ 88) 30).2 := m_minute (d + 1) σ hM hH
    obtain ⟨σ2, e2, f2⟩ := ih (k + 1) σ1 (by omega) (by rw [f1.1]; exact MOK_min hM) (hH.fm f1)
    rw [f1.1] at f2
    refine ⟨σ2, ?_, f1.fn.tr f2⟩
    rw [← e2]
    generalize hR : ru (d + 9) 170 2 [.ref 87, .int (nI n), .int (nI (k + 1))] [] σ1 = R
    simp only [s170_2]
    simp only [s170_3, s170_4, s170_7, s170_8_o87, s170_11, s170_14, s170_17, le_nn hn hk31, e1, nI_1, simprocAttr, if_true, if_false, true_and, and_true, false_and, and_false, not_false_eq_true, not_true_eq_false, gd_T, kont_i, kont_v]
    rw [if_neg (by omega)]
    exact hR
theorem m_minutesGo (d n : Nat) (hn : n < 2147483648) (σ : Hs) (hM : MOK (σ 88)) (hH : Hot σ) : ∃ σ', callD (d + 10) 170 [.ref 87, .int (nI n)] σ = some (none, σ') ∧ FN σ σ' (itT n (σ 88)) := by
  obtain ⟨σ', e, f⟩ := mgo_loop d n hn n 0 σ (by omega) hM hH
  refine ⟨σ', ?_, f⟩
  rw [← e]
  simp only [s170_0, s170_1, c170, simprocAttr, if_true, if_false, true_and, and_true, false_and, and_false, not_false_eq_true, not_true_eq_false, gd_T, kont_i, kont_v]
  rfl
