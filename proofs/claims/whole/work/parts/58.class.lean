/-! ===== the class: a place burns; all places ===== -/
theorem HR.fr {b : Nat} {σ σ' : Hs} {T : Nat → Int32} (h : HR b σ T) (e : ∀ o, b ≤ o → o ≤ b + 10 → σ' o = σ o) : HR b σ' T := by
  obtain ⟨a1, a2, a3, a4, a5, a6, a7, a8⟩ := h
  refine ⟨fun p hp hi f f1 f6 => ?_, fun p hp hi => ?_, fun k hk => ?_, fun g hg => ?_, ?_, ?_, ?_, ?_⟩
  · rw [e _ (by omega) (by omega)]; exact a1 p hp hi f f1 f6
  · rw [e _ (by omega) (by omega)]; exact a2 p hp hi
  · rw [e _ (by omega) (by omega)]; exact a3 k hk
  · rw [e _ (by omega) (by omega), e _ (by omega) (by omega), e _ (by omega) (by omega)]; exact a4 g hg
  · rw [e _ (by omega) (by omega)]; exact a5
  · rw [e _ (by omega) (by omega)]; exact a6
  · rw [e _ (by omega) (by omega)]; exact a7
  · rw [e _ (by omega) (by omega)]; exact a8
theorem LRu.fr {u : Nat} {σ σ' : Hs} {T T' : Nat → Int32} (h : LRu u σ T) (hu : u < 3) (e : ∀ o, 16 ≤ o → o ≤ 21 → σ' o = σ o) (eT : ∀ j, 359 ≤ j → T' j = T j) : LRu u σ' T' := by
  obtain ⟨h1, h2⟩ := h
  refine ⟨?_, fun cnt hc hq k hk => ?_⟩
  · rw [e _ (by omega) (by omega), eT _ (by omega)]; exact h1
  · rw [eT _ (by omega)] at hq
    rw [e _ (by omega) (by omega), eT _ (by omega)]; exact h2 cnt hc hq k hk
theorem LR.fr {σ σ' : Hs} {T T' : Nat → Int32} (h : LR σ T) (e : ∀ o, 16 ≤ o → o ≤ 21 → σ' o = σ o) (eT : ∀ j, 359 ≤ j → T' j = T j) : LR σ' T' := ⟨h.1.fr (by omega) e eT, h.2.1.fr (by omega) e eT, h.2.2.fr (by omega) e eT⟩
theorem heat_n {k : Nat} (h : k < 7) : ∃ e, e ≤ 8 ∧ heatF k = nI e := by
  have hk : k = 0 ∨ k = 1 ∨ k = 2 ∨ k = 3 ∨ k = 4 ∨ k = 5 ∨ k = 6 := by omega
  rcases hk with rfl | rfl | rfl | rfl | rfl | rfl | rfl
  · exact ⟨4, by omega, rfl⟩
  · exact ⟨5, by omega, rfl⟩
  · exact ⟨8, by omega, rfl⟩
  · exact ⟨3, by omega, rfl⟩
  · exact ⟨5, by omega, rfl⟩
  · exact ⟨3, by omega, rfl⟩
  · exact ⟨3, by omega, rfl⟩
theorem heat_l {k : Nat} (h : k < 7) : (([4, 5, 8, 3, 5, 3, 3] : List Int32).getD k 0) = heatF k := rfl
theorem bu_n {T : Nat → Int32} (hW : WI T) {p : Nat} (hp : p < 30) (hi : isT T p) : ∃ s b w e, ofT T p 2 = nI s ∧ bOfT T p = nI b ∧ ofT T p 5 = nI w ∧ heatF (ofT T p 1).toNatClampNeg = nI e ∧ 1 ≤ s ∧ s < 1000 ∧ b ≤ s ∧ w < 10000 ∧ e ≤ 8 ∧ bu1 T p = teT (teT T p 2 (nI (s - b))) p 5 (nI (min (w + b * e) 9999)) := by
  obtain ⟨s, es, l1, ls⟩ := hW.2 p hp hi 2 (by omega) (by omega)
  have l1 : 1 ≤ s := l1
  have ls : s < 1000 := ls
  obtain ⟨w, ew, lw⟩ := hW.n hp hi 5 (by omega) (by omega)
  have lw : w < 10000 := lw
  obtain ⟨k, ek, lk⟩ := hW.n hp hi 1 (by omega) (by omega)
  have lk : k < 7 := lk
  obtain ⟨h, h1, h2, h3, h4⟩ := bOf_n ek es lk l1 ls
  obtain ⟨e, le, ee⟩ := heat_n lk
  have lb := bN_le (k := k) h2
  have m1 : bN k h s * e ≤ s * 8 := Nat.mul_le_mul lb le
  have eh : heatF (ofT T p 1).toNatClampNeg = nI e := by rw [ek, cl_nI (by omega)]; exact ee
  refine ⟨s, bN k h s, w, e, es, h4, ew, eh, l1, ls, lb, lw, le, ?_⟩
  unfold bu1
  rw [es, h4, eh, pk_sub lb, pk_mul]
  refine wa_n ?_
  rw [ofT_tn (by omega) (by omega) (by omega), ew, nI_add]
  exact hel_n (by omega)
theorem goF_te {T : Nat → Int32} {p f : Nat} {v : Int32} (hf : f < 7) : goF (teT T p f v) p 7 = goF T p 7 := by
  funext a
  simp only [goF, teT, upd]
  by_cases c : 14 + 7 * p ≤ a ∧ a < 14 + 7 * p + 7
  · rw [if_pos c, if_pos c, if_neg (show ¬ a + 42 = 14 + 7 * p + f by omega)]
  · rw [if_neg c, if_neg c, if_neg (show ¬ a = 14 + 7 * p + f by omega)]
theorem goF_up {T : Nat → Int32} {p a : Nat} {v : Int32} (ha : a < 14) : goF (upd T a v) p 7 = upd (goF T p 7) a v := by
  funext q
  simp only [goF, upd]
  by_cases c : 14 + 7 * p ≤ q ∧ q < 14 + 7 * p + 7
  · rw [if_pos c, if_pos c, if_neg (show ¬ q + 42 = a by omega), if_neg (show ¬ q = a by omega)]
  · rw [if_neg c, if_neg c]
theorem goL_up {a : Nat} {v : Int32} (ha : a < 14) : ∀ n p (T : Nat → Int32), goL (upd T a v) n p = upd (goL T n p) a v := by
  intro n
  induction n with
  | zero => intro p T; rfl
  | succ n ih =>
    intro p T
    rw [goL, goL]
    by_cases h : p < 30
    · rw [if_pos h, if_pos h, goF_up ha, ih]
    · rw [if_neg h, if_neg h]
theorem goT_up {T : Nat → Int32} {p a : Nat} {v : Int32} (ha : a < 14) : goT (upd T a v) p = upd (goT T p) a v := goL_up ha 5 p T
theorem goT_te {T : Nat → Int32} {p f : Nat} {v : Int32} (hp : p < 30) (hf : f < 7) : goT (teT T p f v) p = goT T p := by
  show goL (teT T p f v) 5 p = goL T 5 p
  have e : ∀ X, goL X 5 p = goL (goF X p 7) 4 (p + 6) := fun X => if_pos hp
  rw [e, e, goF_te hf]
/-- the class's heap, laws and what is held, of a row -/
def BI (b : Nat) (σ : Hs) (T : Nat → Int32) : Prop := HR b σ T ∧ LR σ T ∧ WI T ∧ LWT T 0 ∧ CA (T 11)
theorem CA_bu {T : Nat → Int32} (hW : WI T) (hC : CA (T 11)) {p : Nat} (hp : p < 30) (hi : isT T p) : CA (buT T p 11) := by
  obtain ⟨s, b, w, e, es, eb, ew, ee, l1, ls, lb, lw, le, e1⟩ := bu_n hW hp hi
  unfold buT
  rw [upd_at, if_pos rfl, eb]
  exact more_c hC (by omega)
theorem buT_is {T : Nat → Int32} {p q : Nat} : isT (buT T p) q = isT T q := by
  unfold buT bu1 waT isT
  rw [ofT_up (by omega), ofT_te (by omega) (by omega), if_neg (by omega), ofT_te (by omega) (by omega), if_neg (by omega)]
theorem buT_ne {T : Nat → Int32} {p q f : Nat} (h : q ≠ p) (hf : f < 7) : ofT (buT T p) q f = ofT T q f := by
  unfold buT bu1 waT
  rw [ofT_up (by omega), ofT_te (by omega) (by omega), if_neg (fun c => h c.1), ofT_te (by omega) (by omega), if_neg (fun c => h c.1)]
theorem WI.bu {T : Nat → Int32} (hW : WI T) {p : Nat} (hp : p < 30) (hi : isT T p) (h0 : 0 < ofT (buT T p) p 2) : WI (buT T p) := by
  obtain ⟨s, b, w, e, es, eb, ew, ee, l1, ls, lb, lw, le, e1⟩ := bu_n hW hp hi
  have h2 : ofT (buT T p) p 2 = nI (s - b) := by
    unfold buT
    rw [ofT_up (by omega), e1, ofT_tn (by omega) (by omega) (by omega), ofT_ts (by omega)]
  rw [h2, show (0 : Int32) = nI 0 from rfl, lt_nn (by omega) (by omega)] at h0
  unfold buT
  rw [e1]
  exact ((hW.te (by omega) (by omega) (FR_n (f := 2) (show 1 ≤ s - b by omega) (show s - b < 1000 by omega))).te (by omega) (by omega) (FR_n (f := 5) (Nat.zero_le _) (show _ < 10000 by omega))).up (Or.inl (by omega))
theorem goT_bu {T : Nat → Int32} {p : Nat} (hp : p < 30) : goT (buT T p) p = upd (goT T p) 11 (moreI (T 11) (bOfT T p)) := by
  unfold buT bu1 waT
  rw [goT_up (by omega), goT_te hp (by omega), goT_te hp (by omega)]
theorem WI_buR {T : Nat → Int32} (hW : WI T) {p : Nat} (hp : p < 30) (hi : isT T p) : WI (buR T p) := by
  unfold buR
  by_cases c : 0 < ofT (buT T p) p 2
  · rw [if_pos c]; exact hW.bu hp hi c
  · rw [if_neg c, goT_up (by omega), goT_bu hp]
    exact ((hW.go hp).up (Or.inl (by omega))).up (Or.inl (by omega))
theorem WI.gw {T : Nat → Int32} (hW : WI T) {p : Nat} (hp : p < 30) (hi : isT T p) : WI (gwT T p) := (hW.gf hp hi 4).co hp (by rw [glF_is]; exact hi)
/-- what is neither lit nor warm stays -/
theorem gwT_cold {T : Nat → Int32} (hW : WI T) {p : Nat} (hp : p < 30) (hi : isT T p) (hl : ¬ litT T p) (h0 : ofT T p 5 ≤ 0) : gwT T p = T := by
  obtain ⟨w, ew, lw⟩ := hW.n hp hi 5 (by omega) (by omega)
  obtain ⟨t, et, lt⟩ := hW.n hp hi 3 (by omega) (by omega)
  obtain ⟨k, ek, lk⟩ := hW.n hp hi 1 (by omega) (by omega)
  have lw : w < 10000 := lw
  have lt : t < 1000 := lt
  have lk : k < 7 := lk
  have w0 : w = 0 := by
    rw [ew, show (0 : Int32) = nI 0 from rfl, le_nn (by omega) (by omega)] at h0
    omega
  subst w0
  have e0 : (nI 0 / 8 : Int32) = 0 := by decide +kernel
  have stay : ∀ {X : Nat → Int32} {x : Nat}, WI X → x < 30 → isT X x → waT X x 0 = X := by
    intro X x hX hx hxi
    obtain ⟨v, ev, lv⟩ := hX.n hx hxi 5 (by omega) (by omega)
    have lv : v < 10000 := lv
    have : waT X x 0 = teT X x 5 (nI v) := wa_n (by rw [ev, Int32.add_zero]; exact (hel_n (by omega)).trans (by rw [Nat.min_eq_left (by omega)]))
    rw [this]
    exact teT_same ev
  have gs : ∀ s, glS T p s = T := by
    intro s
    unfold glS
    cases hb : besN p s with
    | none => rfl
    | some x =>
      simp only []
      have hx := besN_lt hp hb
      by_cases hj : isT T x
      · rw [if_pos hj, ew, e0, show (-(0 : Int32)) = 0 from rfl, stay hW hp hi, stay hW hx hj]
      · rw [if_neg hj]
  have gf : ∀ s, glF T p s = T := by
    intro s
    induction s with
    | zero => rfl
    | succ s ih => rw [glF, ih]; exact gs s
  unfold gwT
  rw [gf, coT_y hW hp hi ew et ek (by omega) lt lk rfl rfl]
  have l6 : ofT T p 6 = 0 := (hW.B p hp hi).resolve_right hl
  have ee : (t - 0 / 20 : Nat) = t := by omega
  have e5 : (0 - (0 / 10 + 1) : Nat) = 0 := by omega
  have hc : nI 0 < catF k := by
    have hk : k = 0 ∨ k = 1 ∨ k = 2 ∨ k = 3 ∨ k = 4 ∨ k = 5 ∨ k = 6 := by omega
    rcases hk with rfl | rfl | rfl | rfl | rfl | rfl | rfl <;> decide +kernel
  rw [ee, e5, teT_same et]
  have e2 : (if T 7 < nI t then T else if nI 0 < catF k then T else teT T p 6 1) = T := by
    split
    · rfl
    · first
        | rfl
        | rw [if_pos hc]
  rw [e2, teT_same ew, teT_same l6]
  split
  · rfl
  · split <;> rfl
