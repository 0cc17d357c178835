/-! ===== what stays true of the row; warmth goes over; drying ===== -/
def loF (f : Nat) : Nat := if f = 2 then 1 else 0
def hiG (f : Nat) : Nat := ([0, 7, 1000, 1000, 10, 10000, 2] : List Nat).getD f 0
def FR (f : Nat) (v : Int32) : Prop := ∃ n, v = nI n ∧ loF f ≤ n ∧ n < hiG f
def AW (T : Nat → Int32) (p : Nat) : Prop := ∀ f, 1 ≤ f → f ≤ 6 → FR f (ofT T p f)
def WI (T : Nat → Int32) : Prop := HS T ∧ ∀ p, p < 30 → isT T p → AW T p
theorem hiG_le {f : Nat} : hiG f ≤ 10000 := by
  unfold hiG
  match f with
  | 0 => decide
  | 1 => decide
  | 2 => decide
  | 3 => decide
  | 4 => decide
  | 5 => decide
  | 6 => decide
  | n + 7 => exact Nat.zero_le _
theorem WI.P {T : Nat → Int32} (h : WI T) : HP T := by
  intro p hp hi
  obtain ⟨n, e, l, u⟩ := h.2 p hp hi 2 (by omega) (by omega)
  have l1 : 1 ≤ n := l
  have u1 : n < 1000 := u
  rw [e, show (0 : Int32) = nI 0 from rfl, lt_nn (by omega) (by omega)]
  omega
theorem WI.B {T : Nat → Int32} (h : WI T) : HB T := by
  intro p hp hi
  obtain ⟨n, e, l, u⟩ := h.2 p hp hi 6 (by omega) (by omega)
  have u1 : n < 2 := u
  have : n = 0 ∨ n = 1 := by omega
  rcases this with rfl | rfl
  · exact Or.inl e
  · exact Or.inr e
theorem WI.K {T : Nat → Int32} (h : WI T) : KOK T := by
  intro p hp hi
  obtain ⟨n, e, l, u⟩ := h.2 p hp hi 1 (by omega) (by omega)
  exact ⟨n, u, e⟩
theorem WI.n {T : Nat → Int32} (h : WI T) {p : Nat} (hp : p < 30) (hi : isT T p) (f : Nat) (h1 : 1 ≤ f) (h6 : f ≤ 6) : ∃ n, ofT T p f = nI n ∧ n < hiG f := by
  obtain ⟨n, e, l, u⟩ := h.2 p hp hi f h1 h6
  exact ⟨n, e, u⟩
theorem WI.te {T : Nat → Int32} (h : WI T) {p f : Nat} {v : Int32} (h1 : 1 ≤ f) (h6 : f ≤ 6) (hv : FR f v) : WI (teT T p f v) := by
  refine ⟨fun q hq hi => ?_, fun q hq hi => ?_⟩
  · rw [isT_te h1 h6] at hi ⊢
    exact h.1 q hq hi
  · rw [isT_te h1 h6] at hi
    intro g g1 g6
    rw [ofT_te (by omega) (by omega)]
    by_cases c : q = p ∧ g = f
    · rw [if_pos c, c.2]; exact hv
    · rw [if_neg c]; exact h.2 q hq hi g g1 g6
theorem WI.of {T T' : Nat → Int32} (h : WI T) (e : ∀ p f, p < 30 → f < 7 → ofT T' p f = ofT T p f) : WI T' := by
  refine ⟨fun q hq hi => ?_, fun q hq hi => ?_⟩
  · unfold isT at hi ⊢
    rw [e _ _ (by omega) (by omega)] at hi ⊢
    exact h.1 q hq hi
  · unfold isT at hi
    rw [e _ _ (by omega) (by omega)] at hi
    intro g g1 g6
    rw [e _ _ hq (by omega)]
    exact h.2 q hq hi g g1 g6
theorem WI.up {T : Nat → Int32} (h : WI T) {a : Nat} {v : Int32} (ha : a < 14 ∨ 224 ≤ a) : WI (upd T a v) := h.of (fun p f hp hf => by simp only [ofT, upd]; rw [if_neg (by omega)])
theorem WI.go {T : Nat → Int32} (h : WI T) {p : Nat} (hp : p < 30) : WI (goT T p) := by
  refine ⟨fun q hq hi => ?_, fun q hq hi => ?_⟩
  · unfold isT at hi ⊢
    rw [goT_of (by omega) hp (by omega)] at hi ⊢
    by_cases c : q % 6 = p % 6 ∧ p ≤ q
    · rw [if_pos c, if_pos (by omega)]
      rw [if_pos (by omega)] at hi
      by_cases c2 : q + 6 + 6 < 30
      · rw [if_pos c2] at hi
        exact h.1 (q + 6) (by omega) hi
      · rw [if_neg c2] at hi
        exact absurd hi (by decide)
    · rw [if_neg c]
      by_cases c2 : (q + 6) % 6 = p % 6 ∧ p ≤ q + 6
      · rw [if_pos c2] at hi
        have hqp : q + 6 = p := by omega
        by_cases c3 : q + 6 + 6 < 30
        · rw [if_pos c3] at hi
          exact h.1 q hq (h.1 (q + 6) (by omega) hi)
        · rw [if_neg c3] at hi
          exact absurd hi (by decide)
      · rw [if_neg c2] at hi
        exact h.1 q hq hi
  · intro g g1 g6
    unfold isT at hi
    rw [goT_of (by omega) hp hq] at hi ⊢
    by_cases c : q % 6 = p % 6 ∧ p ≤ q
    · rw [if_pos c] at hi ⊢
      by_cases c2 : q + 6 < 30
      · rw [if_pos c2] at hi ⊢
        exact h.2 (q + 6) c2 hi g g1 g6
      · rw [if_neg c2] at hi
        exact absurd hi (by decide)
    · rw [if_neg c] at hi ⊢
      exact h.2 q hq hi g g1 g6
theorem teT_same {T : Nat → Int32} {p f : Nat} {v : Int32} (h : ofT T p f = v) : teT T p f v = T := by
  funext a
  simp only [teT, upd]
  by_cases c : a = 14 + 7 * p + f
  · rw [if_pos c, c]; exact h.symm
  · rw [if_neg c]
theorem teT_c {T : Nat → Int32} {p f q g : Nat} {v w : Int32} (hf : f < 7) (hg : g < 7) (h : ¬ (p = q ∧ f = g)) : teT (teT T p f v) q g w = teT (teT T q g w) p f v := by
  funext a
  simp only [teT, upd]
  by_cases c : a = 14 + 7 * q + g
  · by_cases c2 : a = 14 + 7 * p + f
    · exact absurd (show p = q ∧ f = g by omega) h
    · rw [if_pos c, if_neg c2, if_pos c]
  · rw [if_neg c, if_neg c]
theorem jmin_n {a b : Nat} (ha : a < 2147483648) (hb : b < 2147483648) : jmin (nI a) (nI b) = nI (min a b) := by
  unfold jmin
  by_cases h : b < a
  · rw [if_pos (by rw [lt_nn hb ha]; exact h), Nat.min_eq_right (by omega)]
  · rw [if_neg (by rw [lt_nn hb ha]; exact h), Nat.min_eq_left (by omega)]
theorem jmax_n {a b : Nat} (ha : a < 2147483648) (hb : b < 2147483648) : jmax (nI a) (nI b) = nI (max a b) := by
  unfold jmax
  by_cases h : a < b
  · rw [if_pos (by rw [lt_nn ha hb]; exact h), Nat.max_eq_right (by omega)]
  · rw [if_neg (by rw [lt_nn ha hb]; exact h), Nat.max_eq_left (by omega)]
/-- what is below nought, held -/
theorem jmax_0 {a b : Nat} (ha : a < 1073741824) (hb : b < 1073741824) : jmax (nI a - nI b) 0 = nI (a - b) := by
  by_cases h : b ≤ a
  · rw [pk_sub h, show (0 : Int32) = nI 0 from rfl, jmax_n (by omega) (by omega), Nat.max_eq_left (by omega)]
  · unfold jmax
    rw [if_pos (pk_sneg (by omega) (by omega)), show a - b = 0 by omega]
    rfl
theorem hel_n {a : Nat} (ha : a < 2147483648) : heldI (nI a) 0 9999 = nI (min a 9999) := by
  unfold heldI
  rw [show (9999 : Int32) = nI 9999 from rfl, jmin_n (by omega) ha, show (0 : Int32) = nI 0 from rfl, jmax_n (by omega) (by omega), Nat.max_eq_right (by omega), Nat.min_comm]
theorem hel_s {a b : Nat} (ha : a < 10000) (hb : b < 1073741824) : heldI (nI a - nI b) 0 9999 = nI (a - b) := by
  unfold heldI
  by_cases h : b ≤ a
  · rw [pk_sub h]
    exact (hel_n (by omega)).trans (by rw [Nat.min_eq_left (by omega)])
  · have e := jmax_0 (a := a) (b := b) (by omega) hb
    have e2 : jmin 9999 (nI a - nI b) = nI a - nI b := by
      unfold jmin
      rw [if_pos]
      rw [Int32.lt_iff_toInt_lt, pk_sub_toInt (by omega) (by omega), show (9999 : Int32).toInt = 9999 from rfl]
      omega
    rw [e2, jmax_c]
    exact e
