/-! ===== the model: what stays through a minute; minutes ===== -/
theorem cdL_congr {T T' : Nat → Int32} : ∀ m a, (∀ j, a ≤ j → T' j = T j) → cdL T' a m = cdL T a m := by
  intro m
  induction m with
  | zero => intro a _; rfl
  | succ m ih =>
    intro a h
    rw [cdL, cdL, h a (Nat.le_refl _), ih (a + 1) (fun j hj => h j (by omega))]
theorem LWT_congr {T T' : Nat → Int32} {u : Nat} (h : ∀ j, 359 ≤ j → T' j = T j) (hL : LWT T u) : LWT T' u := by
  obtain ⟨c, h1, h2, h3⟩ := hL
  refine ⟨c, h1, by rw [h _ (by omega)]; exact h2, ?_⟩
  rcases h3 with h3 | h3
  · exact Or.inl h3
  · refine Or.inr ?_
    rw [cdL_congr c _ (fun j hj => h j (by omega))]
    exact h3
theorem MOK_congr {T T' : Nat → Int32} (h : ∀ j, 224 ≤ j → 251 ≤ j → T' j = T j) (h6 : T' 6 = T 6) (h8 : T' 8 = T 8) (hk : KOK T') (hM : MOK T) : MOK T' := by
  obtain ⟨⟨l0, l1, l2⟩, -, ⟨g, g1, g2⟩, w, w1, w2⟩ := hM
  have hh : ∀ j, 359 ≤ j → T' j = T j := fun j hj => h j (by omega) (by omega)
  exact ⟨⟨LWT_congr hh l0, LWT_congr hh l1, LWT_congr hh l2⟩, hk, ⟨g, g1, h8.trans g2⟩, w, w1, h6.trans w2⟩
theorem goF_of {T : Nat → Int32} {p q f : Nat} (hf : f < 7) : ofT (goF T p 7) q f = if q = p then (if p + 6 < 30 then ofT T (p + 6) f else 0) else ofT T q f := by
  simp only [ofT, goF]
  by_cases h : q = p
  · subst h
    rw [if_pos rfl, if_pos (show 14 + 7 * q ≤ 14 + 7 * q + f ∧ 14 + 7 * q + f < 14 + 7 * q + 7 by omega)]
    by_cases h6 : q + 6 < 30
    · rw [if_pos h6, if_pos h6]
      congr 1
      omega
    · rw [if_neg h6, if_neg h6]
  · rw [if_neg h, if_neg (show ¬ (14 + 7 * p ≤ 14 + 7 * q + f ∧ 14 + 7 * q + f < 14 + 7 * p + 7) by omega)]
theorem goL_of {f : Nat} (hf : f < 7) : ∀ n p (T : Nat → Int32) q, q < 30 → p < 36 → 30 ≤ p + 6 * n → ofT (goL T n p) q f = if q % 6 = p % 6 ∧ p ≤ q then (if q + 6 < 30 then ofT T (q + 6) f else 0) else ofT T q f := by
  intro n
  induction n with
  | zero =>
    intro p T q hq hp hn
    rw [goL, if_neg (by omega)]
  | succ n ih =>
    intro p T q hq hp hn
    rw [goL]
    by_cases h30 : p < 30
    · rw [if_pos h30, ih (p + 6) _ q hq (by omega) (by omega), goF_of hf, goF_of hf]
      by_cases hqp : q = p
      · subst hqp
        rw [if_neg (show ¬ (q % 6 = (q + 6) % 6 ∧ q + 6 ≤ q) by omega), if_pos rfl, if_pos (show q % 6 = q % 6 ∧ q ≤ q by omega)]
      · by_cases c : q % 6 = p % 6 ∧ p ≤ q
        · have c' : q % 6 = (p + 6) % 6 ∧ p + 6 ≤ q := by omega
          rw [if_pos c', if_pos c]
          by_cases h6 : q + 6 < 30
          · rw [if_pos h6, if_pos h6, if_neg (show ¬ q + 6 = p by omega)]
          · rw [if_neg h6, if_neg h6]
        · have c' : ¬ (q % 6 = (p + 6) % 6 ∧ p + 6 ≤ q) := by omega
          rw [if_neg c', if_neg hqp, if_neg c]
    · rw [if_neg h30, if_neg (by omega)]
theorem goL_ne : ∀ n p (T : Nat → Int32) a, (a < 14 ∨ 224 ≤ a) → goL T n p a = T a := by
  intro n
  induction n with
  | zero => intro p T a _; rfl
  | succ n ih =>
    intro p T a ha
    rw [goL]
    by_cases h30 : p < 30
    · rw [if_pos h30, ih _ _ _ ha]
      simp only [goF]
      rw [if_neg (by omega)]
    · rw [if_neg h30]
theorem goT_of {T : Nat → Int32} {p q f : Nat} (hf : f < 7) (hp : p < 30) (hq : q < 30) : ofT (goT T p) q f = if q % 6 = p % 6 ∧ p ≤ q then (if q + 6 < 30 then ofT T (q + 6) f else 0) else ofT T q f := goL_of hf 5 p T q hq (by omega) (by omega)
theorem goT_ne {T : Nat → Int32} {p a : Nat} (h : a < 14 ∨ 224 ≤ a) : goT T p a = T a := goL_ne 5 p T a h
theorem KOK_te {T : Nat → Int32} {p f : Nat} {v : Int32} (hf : 2 ≤ f) (hf7 : f < 7) (h : KOK T) : KOK (teT T p f v) := by
  intro q hq hi
  unfold isT at hi
  rw [ofT_te hf7 (by omega), if_neg (fun c => absurd c.2 (by omega))] at hi
  rw [ofT_te hf7 (by omega), if_neg (fun c => absurd c.2 (by omega))]
  exact h q hq hi
theorem KOK_up {T : Nat → Int32} {a : Nat} {v : Int32} (ha : a < 14 ∨ 224 ≤ a) (h : KOK T) : KOK (upd T a v) := by
  intro q hq hi
  have e : ∀ f, f < 7 → ofT (upd T a v) q f = ofT T q f := by
    intro f hf
    simp only [ofT, upd]
    rw [if_neg (by omega)]
  unfold isT at hi
  rw [e 0 (by omega)] at hi
  rw [e 1 (by omega)]
  exact h q hq hi
theorem KOK_go {T : Nat → Int32} {p : Nat} (hp : p < 30) (h : KOK T) : KOK (goT T p) := by
  intro q hq hi
  unfold isT at hi
  rw [goT_of (by omega) hp hq] at hi ⊢
  by_cases c : q % 6 = p % 6 ∧ p ≤ q
  · rw [if_pos c] at hi ⊢
    by_cases c6 : q + 6 < 30
    · rw [if_pos c6] at hi ⊢
      exact h (q + 6) c6 hi
    · rw [if_neg c6] at hi
      exact absurd hi (by decide)
  · rw [if_neg c] at hi ⊢
    exact h q hq hi
def Ne10 (T T' : Nat → Int32) : Prop := ∀ a, (a < 10 ∨ 224 ≤ a) → T' a = T a
theorem Ne10.rf (T : Nat → Int32) : Ne10 T T := fun _ _ => rfl
theorem Ne10.tr {A B C : Nat → Int32} (h1 : Ne10 A B) (h2 : Ne10 B C) : Ne10 A C := fun a ha => (h2 a ha).trans (h1 a ha)
theorem Ne10.te {T : Nat → Int32} {p f : Nat} {v : Int32} (hp : p < 30) (hf : f < 7) : Ne10 T (teT T p f v) := by
  intro a ha
  simp only [teT, upd]
  rw [if_neg (by omega)]
theorem Ne10.up {T : Nat → Int32} {a : Nat} {v : Int32} (ha : a = 10 ∨ a = 11) : Ne10 T (upd T a v) := by
  intro b hb
  simp only [upd]
  rw [if_neg (by omega)]
theorem Ne10.go {T : Nat → Int32} {p : Nat} : Ne10 T (goT T p) := fun a ha => goT_ne (by omega)
theorem KOK_wa {T : Nat → Int32} {p : Nat} {v : Int32} (h : KOK T) : KOK (waT T p v) := KOK_te (by omega) (by omega) h
theorem Ne10.wa {T : Nat → Int32} {p : Nat} {v : Int32} (hp : p < 30) : Ne10 T (waT T p v) := Ne10.te hp (by omega)
theorem KOK_buT {T : Nat → Int32} {p : Nat} (h : KOK T) : KOK (buT T p) := KOK_up (Or.inl (by omega)) (KOK_wa (KOK_te (by omega) (by omega) h))
theorem Ne10_buT {T : Nat → Int32} {p : Nat} (hp : p < 30) : Ne10 T (buT T p) := (Ne10.te hp (by omega)).tr ((Ne10.wa hp).tr (Ne10.up (Or.inr rfl)))
theorem KOK_buR {T : Nat → Int32} {p : Nat} (hp : p < 30) (h : KOK T) : KOK (buR T p) := by
  unfold buR
  by_cases c : 0 < ofT (buT T p) p 2
  · rw [if_pos c]; exact KOK_buT h
  · rw [if_neg c]; exact KOK_go hp (KOK_up (Or.inl (by omega)) (KOK_buT h))
theorem Ne10_buR {T : Nat → Int32} {p : Nat} (hp : p < 30) : Ne10 T (buR T p) := by
  unfold buR
  by_cases c : 0 < ofT (buT T p) p 2
  · rw [if_pos c]; exact Ne10_buT hp
  · rw [if_neg c]; exact (Ne10_buT hp).tr ((Ne10.up (Or.inl rfl)).tr Ne10.go)
theorem KOK_glS {T : Nat → Int32} {p s : Nat} (h : KOK T) : KOK (glS T p s) := by
  unfold glS
  split
  · split
    · exact KOK_wa (KOK_wa h)
    · exact h
  · exact h
theorem Ne10_glS {T : Nat → Int32} {p s : Nat} (hp : p < 30) : Ne10 T (glS T p s) := by
  unfold glS
  split
  · rename_i x hx
    split
    · exact (Ne10.wa hp).tr (Ne10.wa (besN_lt hp hx))
    · exact Ne10.rf _
  · exact Ne10.rf _
theorem KOK_glF {T : Nat → Int32} {p : Nat} (h : KOK T) : ∀ s, KOK (glF T p s)
  | 0 => h
  | s + 1 => KOK_glS (KOK_glF h s)
theorem Ne10_glF {T : Nat → Int32} {p : Nat} (hp : p < 30) : ∀ s, Ne10 T (glF T p s)
  | 0 => Ne10.rf _
  | s + 1 => (Ne10_glF hp s).tr (Ne10_glS hp)
theorem glS_01 {T : Nat → Int32} {p s q f : Nat} (hf : f < 7) (h5 : f ≠ 5) : ofT (glS T p s) q f = ofT T q f := by
  unfold glS
  split
  · split
    · unfold waT
      rw [ofT_te (by omega) hf, if_neg (fun c => h5 c.2), ofT_te (by omega) hf, if_neg (fun c => h5 c.2)]
    · rfl
  · rfl
theorem glF_01 {T : Nat → Int32} {p q f : Nat} (hf : f < 7) (h5 : f ≠ 5) : ∀ s, ofT (glF T p s) q f = ofT T q f
  | 0 => rfl
  | s + 1 => (glS_01 hf h5).trans (glF_01 hf h5 s)
theorem coT_cases (T : Nat → Int32) (p : Nat) (P : (Nat → Int32) → Prop) (hte : ∀ T f v, 2 ≤ f → f < 7 → P T → P (teT T p f v)) (h : P T) : P (coT T p) := by
  unfold coT
  simp only []
  have h1 := hte T 3 (jmax 0 (ofT T p 3 - ofT T p 5 / 20)) (by omega) (by omega) h
  generalize teT T p 3 (jmax 0 (ofT T p 3 - ofT T p 5 / 20)) = T1 at h1
  have h2 : P (if litT T1 p then T1 else if T1 7 < ofT T1 p 3 then T1 else if ofT T p 5 < catF (ofT T1 p 1).toNatClampNeg then T1 else teT T1 p 6 1) := by
    split
    · exact h1
    · split
      · exact h1
      · split
        · exact h1
        · exact hte T1 6 1 (by omega) (by omega) h1
  generalize (if litT T1 p then T1 else if T1 7 < ofT T1 p 3 then T1 else if ofT T p 5 < catF (ofT T1 p 1).toNatClampNeg then T1 else teT T1 p 6 1) = T2 at h2
  have h3 : P (waT T2 p (-(ofT T p 5 / 10 + 1))) := hte T2 5 _ (by omega) (by omega) h2
  generalize waT T2 p (-(ofT T p 5 / 10 + 1)) = T3 at h3
  split
  · split
    · exact hte T3 6 0 (by omega) (by omega) h3
    · split
      · exact h3
      · exact hte T3 6 0 (by omega) (by omega) h3
  · exact h3
theorem KOK_gw {T : Nat → Int32} {p : Nat} (h : KOK T) : KOK (gwT T p) := coT_cases _ p KOK (fun _ _ _ h2 h7 hk => KOK_te h2 h7 hk) (KOK_glF h 4)
theorem Ne10_gw {T : Nat → Int32} {p : Nat} (hp : p < 30) : Ne10 T (gwT T p) := (Ne10_glF hp 4).tr (coT_cases _ p (Ne10 (glF T p 4)) (fun _ _ _ _ h7 hk => hk.tr (Ne10.te hp h7)) (Ne10.rf _))
/-- a place's turn in a minute -/
noncomputable def mnS (q : (Nat → Int32) × Int32) (p : Nat) : (Nat → Int32) × Int32 :=
  if isT q.1 p then (if litT q.1 p then (if 0 < ofT (buT q.1 p) p 2 then (gwT (buR q.1 p) p, buS q.1 p q.2) else (buR q.1 p, buS q.1 p q.2)) else (gwT q.1 p, q.2)) else q
noncomputable def mnL (T : Nat → Int32) : Nat → (Nat → Int32) × Int32
  | 0 => (T, 0)
  | n + 1 => mnS (mnL T n) n
theorem mnS_inv (P : (Nat → Int32) → Prop) (q : (Nat → Int32) × Int32) (p : Nat) (hb : ∀ T, P T → P (buR T p)) (hg : ∀ T, P T → P (gwT T p)) (h : P q.1) : P (mnS q p).1 := by
  unfold mnS
  split
  · split
    · split
      · exact hg _ (hb _ h)
      · exact hb _ h
    · exact hg _ h
  · exact h
theorem mnL_inv (T : Nat → Int32) (hk : KOK T) : ∀ n, n ≤ 30 → KOK (mnL T n).1 ∧ Ne10 T (mnL T n).1 := by
  intro n
  induction n with
  | zero => intro _; exact ⟨hk, Ne10.rf _⟩
  | succ n ih =>
    intro hn
    obtain ⟨h1, h2⟩ := ih (by omega)
    have hp : n < 30 := by omega
    exact ⟨mnS_inv KOK (mnL T n) n (fun _ h => KOK_buR hp h) (fun _ h => KOK_gw h) h1, mnS_inv (Ne10 T) (mnL T n) n (fun _ h => h.tr (Ne10_buR hp)) (fun _ h => h.tr (Ne10_gw hp)) h2⟩
noncomputable def minA (T : Nat → Int32) : Nat → Int32 := laT (mnL T 30).1 (mnL T 30).2
noncomputable def minT (T : Nat → Int32) : Nat → Int32 :=
  let A := minA T
  let B := upd A 12 (moreI (A 12) (mnL T 30).2)
  let C := upd B 4 (B 4 + 1 - (B 4 + 1) / 1440 * 1440)
  upd C 0 (C 0 + 1)
theorem FM.tr {a b c : Hs} {T1 T2 : Nat → Int32} {s1 s2 : Int32} (h1 : FM a b T1 s1) (h2 : FM b c T2 s2) : FM a c T2 s2 := ⟨h2.1, h2.2.1, fun k hk => (h2.2.2.1 k hk).trans (h1.2.2.1 k hk), fun o a1 a2 a3 a4 => (h2.2.2.2 o a1 a2 a3 a4).trans (h1.2.2.2 o a1 a2 a3 a4)⟩
def Hot (σ : Hs) : Prop := (∀ k, k < 7 → σ 92 k = heatF k) ∧ ∀ k, k < 7 → σ 93 k = catF k
theorem Hot.fm {a b : Hs} {T1 : Nat → Int32} {s1 : Int32} (h : Hot a) (h1 : FM a b T1 s1) : Hot b := by
  refine ⟨fun k hk => ?_, fun k hk => ?_⟩
  · rw [h1.2.2.2 92 (by omega) (by omega) (by omega) (by omega)]; exact h.1 k hk
  · rw [h1.2.2.2 93 (by omega) (by omega) (by omega) (by omega)]; exact h.2 k hk
theorem buR_1 {T : Nat → Int32} {p f : Nat} (h : 0 < ofT (buT T p) p 2) (hf : f < 7) (h2 : f ≠ 2) (h5 : f ≠ 5) (q : Nat) : ofT (buR T p) q f = ofT T q f := by
  unfold buR
  rw [if_pos h]
  unfold buT bu1 waT
  rw [ofT_up (by omega), ofT_te (by omega) hf, if_neg (fun c => h5 c.2), ofT_te (by omega) hf, if_neg (fun c => h2 c.2)]
