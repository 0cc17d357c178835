/-! ===== what burns is not made: stuff against what bothers ===== -/
def stN (T : Nat → Int32) (p : Nat) : Nat := if isT T p then (ofT T p 2).toNatClampNeg else 0
def sN (T : Nat → Int32) : Nat → Nat
  | 0 => 0
  | n + 1 => sN T n + stN T n
theorem sN_up {T T' : Nat → Int32} {p : Nat} (h : ∀ q, q < 30 → q ≠ p → stN T' q = stN T q) : ∀ n, n ≤ 30 → (p < n → sN T' n + stN T p = sN T n + stN T' p) ∧ (n ≤ p → sN T' n = sN T n) := by
  intro n
  induction n with
  | zero => intro _; exact ⟨fun q => absurd q (Nat.not_lt_zero _), fun _ => rfl⟩
  | succ n ih =>
    intro hn
    obtain ⟨i1, i2⟩ := ih (by omega)
    refine ⟨fun q => ?_, fun q => ?_⟩
    · rw [sN, sN]
      by_cases c : p = n
      · subst c
        have := i2 (Nat.le_refl _)
        omega
      · have e1 := i1 (by omega)
        have e2 := h n (by omega) (fun x => c x.symm)
        omega
    · rw [sN, sN, i2 (by omega), h n (by omega) (by omega)]
theorem sN_1 {T T' : Nat → Int32} {p : Nat} (hp : p < 30) (h : ∀ q, q < 30 → q ≠ p → stN T' q = stN T q) : sN T' 30 + stN T p = sN T 30 + stN T' p := (sN_up h 30 (Nat.le_refl _)).1 hp
theorem sN_eq {T T' : Nat → Int32} (h : ∀ q, q < 30 → stN T' q = stN T q) : sN T' 30 = sN T 30 := by
  have := sN_1 (T := T) (T' := T') (p := 0) (by omega) (fun q hq _ => h q hq)
  rw [h 0 (by omega)] at this
  omega
theorem stN_of {T T' : Nat → Int32} {q : Nat} (h0 : ofT T' q 0 = ofT T q 0) (h2 : ofT T' q 2 = ofT T q 2) : stN T' q = stN T q := by
  unfold stN isT
  rw [h0, h2]
theorem coT_f {T : Nat → Int32} {p q f : Nat} (hf : f < 7) (h3 : f ≠ 3) (h5 : f ≠ 5) (h6 : f ≠ 6) : ofT (coT T p) q f = ofT T q f := by
  have e3 : ∀ X v, ofT (teT X p 3 v) q f = ofT X q f := fun X v => by rw [ofT_te (by omega) hf, if_neg (fun c => h3 c.2)]
  have e5 : ∀ X v, ofT (teT X p 5 v) q f = ofT X q f := fun X v => by rw [ofT_te (by omega) hf, if_neg (fun c => h5 c.2)]
  have e6 : ∀ X v, ofT (teT X p 6 v) q f = ofT X q f := fun X v => by rw [ofT_te (by omega) hf, if_neg (fun c => h6 c.2)]
  have ew : ∀ X v, ofT (waT X p v) q f = ofT X q f := fun X v => e5 X _
  unfold coT
  simp only []
  generalize ofT T p 5 = w
  have a1 := e3 T (jmax 0 (ofT T p 3 - w / 20))
  generalize teT T p 3 (jmax 0 (ofT T p 3 - w / 20)) = T1 at a1
  have a2 : ofT (if litT T1 p then T1 else if T1 7 < ofT T1 p 3 then T1 else if w < catF (ofT T1 p 1).toNatClampNeg then T1 else teT T1 p 6 1) q f = ofT T q f := by
    split
    · exact a1
    · split
      · exact a1
      · split
        · exact a1
        · exact (e6 _ _).trans a1
  generalize (if litT T1 p then T1 else if T1 7 < ofT T1 p 3 then T1 else if w < catF (ofT T1 p 1).toNatClampNeg then T1 else teT T1 p 6 1) = T2 at a2
  have a3 := (ew T2 (-(w / 10 + 1))).trans a2
  generalize waT T2 p (-(w / 10 + 1)) = T3 at a3
  split
  · split
    · exact (e6 _ _).trans a3
    · split
      · exact a3
      · exact (e6 _ _).trans a3
  · exact a3
theorem gwT_f {T : Nat → Int32} {p q f : Nat} (hf : f < 7) (h3 : f ≠ 3) (h5 : f ≠ 5) (h6 : f ≠ 6) : ofT (gwT T p) q f = ofT T q f := (coT_f hf h3 h5 h6).trans (glF_01 hf h5 4)
theorem sN_gw {T : Nat → Int32} {p : Nat} : sN (gwT T p) 30 = sN T 30 := sN_eq (fun q _ => stN_of (gwT_f (by omega) (by omega) (by omega) (by omega)) (gwT_f (by omega) (by omega) (by omega) (by omega)))
theorem sN_goF {T : Nat → Int32} {p : Nat} (hp : p < 30) : sN (goF T p 7) 30 + stN T p = sN T 30 + (if p + 6 < 30 then stN T (p + 6) else 0) := by
  have h := sN_1 (T := T) (T' := goF T p 7) hp (fun q hq hne => stN_of (by rw [goF_of (by omega), if_neg hne]) (by rw [goF_of (by omega), if_neg hne]))
  have e : stN (goF T p 7) p = if p + 6 < 30 then stN T (p + 6) else 0 := by
    unfold stN isT
    rw [goF_of (by omega), goF_of (by omega), if_pos rfl, if_pos rfl]
    by_cases c : p + 6 < 30
    · rw [if_pos c, if_pos c, if_pos c]
    · rw [if_neg c, if_neg c, if_neg c, if_neg (by decide)]
  rw [e] at h
  exact h
theorem sN_goL : ∀ n p (T : Nat → Int32), p < 36 → 30 ≤ p + 6 * n → sN (goL T n p) 30 + (if p < 30 then stN T p else 0) = sN T 30 := by
  intro n
  induction n with
  | zero => intro p T hp hn; rw [goL, if_neg (by omega)]; rfl
  | succ n ih =>
    intro p T hp hn
    rw [goL]
    by_cases h30 : p < 30
    · rw [if_pos h30, if_pos h30]
      have h1 := ih (p + 6) (goF T p 7) (by omega) (by omega)
      have h2 := sN_goF (T := T) h30
      have e : (if p + 6 < 30 then stN (goF T p 7) (p + 6) else 0) = if p + 6 < 30 then stN T (p + 6) else 0 := by
        by_cases c : p + 6 < 30
        · rw [if_pos c, if_pos c]
          exact stN_of (by rw [goF_of (by omega), if_neg (by omega)]) (by rw [goF_of (by omega), if_neg (by omega)])
        · rw [if_neg c, if_neg c]
      rw [e] at h1
      omega
    · rw [if_neg h30, if_neg h30]; rfl
theorem sN_go {T : Nat → Int32} {p : Nat} (hp : p < 30) : sN (goT T p) 30 + stN T p = sN T 30 := by
  have := sN_goL 5 p T (by omega) (by omega)
  rw [if_pos hp] at this
  exact this
theorem stN_n {T : Nat → Int32} {p s : Nat} (hi : isT T p) (e : ofT T p 2 = nI s) (hs : s < 1000) : stN T p = s := by
  unfold stN
  rw [if_pos hi, e, cl_nI (by omega)]
theorem sN_bu {T : Nat → Int32} (hW : WI T) {p : Nat} (hp : p < 30) (hi : isT T p) {s b : Nat} (es : ofT T p 2 = nI s) (eb : bOfT T p = nI b) (ls : s < 1000) (lb : b ≤ s) : sN (buT T p) 30 + b = sN T 30 ∧ stN (buT T p) p = s - b := by
  have h2 : ofT (buT T p) p 2 = nI (s - b) := by
    unfold buT bu1 waT
    rw [ofT_up (by omega), ofT_tn (by omega) (by omega) (by omega), ofT_ts (by omega), es, eb, pk_sub lb]
  have h := sN_1 (T := T) (T' := buT T p) hp (fun q hq hne => stN_of (buT_ne hne (by omega)) (buT_ne hne (by omega)))
  have e1 := stN_n hi es ls
  have e2 := stN_n (T := buT T p) (by rw [buT_is]; exact hi) h2 (by omega)
  exact ⟨by omega, e2⟩
theorem sm_51 {b t : Nat} (ht : t < 1000) : b * (t + 10) / 20 ≤ 51 * b := by
  have h : b * (t + 10) ≤ b * 1009 := Nat.mul_le_mul_left _ (by omega)
  omega
/-- what is burnt pays for what smokes -/
theorem mnL_phi {T : Nat → Int32} (hW : WI T) : ∀ n, n ≤ 30 → WI (mnL T n).1 ∧ ∃ m, (mnL T n).2 = nI m ∧ 51 * sN (mnL T n).1 30 + m ≤ 51 * sN T 30 := by
  intro n
  induction n with
  | zero => intro _; exact ⟨hW, 0, rfl, by show 51 * sN T 30 + 0 ≤ _; omega⟩
  | succ n ih =>
    intro hn
    obtain ⟨w1, m, em, hm⟩ := ih (by omega)
    have hp : n < 30 := by omega
    refine ⟨(mnL_n hW (n + 1) hn).1, ?_⟩
    show ∃ m, (mnS (mnL T n) n).2 = nI m ∧ 51 * sN (mnS (mnL T n) n).1 30 + m ≤ 51 * sN T 30
    unfold mnS
    by_cases hi : isT (mnL T n).1 n
    · rw [if_pos hi]
      by_cases hl : litT (mnL T n).1 n
      · rw [if_pos hl]
        obtain ⟨s, b, w, e, es, eb, ew, ee, l1, ls, lb, lw, le, e1⟩ := bu_n w1 hp hi
        obtain ⟨t, et, lt⟩ := w1.n hp hi 3 (by omega) (by omega)
        have lt : t < 1000 := lt
        have hbt : b * (t + 10) ≤ 999 * 1009 := Nat.mul_le_mul (by omega) (by omega)
        have h51 := sm_51 (b := b) lt
        have eS : buS (mnL T n).1 n (mnL T n).2 = nI (m + b * (t + 10) / 20) := by
          unfold buS
          have e10 : nI t + 10 = nI (t + 10) := nI_add t 10
          have e20 : nI (b * (t + 10)) / 20 = nI (b * (t + 10) / 20) := pk_div (d := 20) (by omega) (by decide) (by decide)
          rw [eb, et, em, e10, pk_mul, e20, nI_add]
        obtain ⟨hb, hsb⟩ := sN_bu w1 hp hi es eb ls lb
        by_cases c : 0 < ofT (buT (mnL T n).1 n) n 2
        · rw [if_pos c]
          have ebR : buR (mnL T n).1 n = buT (mnL T n).1 n := by unfold buR; rw [if_pos c]
          refine ⟨m + b * (t + 10) / 20, eS, ?_⟩
          show 51 * sN (gwT (buR (mnL T n).1 n) n) 30 + _ ≤ _
          rw [sN_gw, ebR]
          omega
        · rw [if_neg c]
          refine ⟨m + b * (t + 10) / 20, eS, ?_⟩
          show 51 * sN (buR (mnL T n).1 n) 30 + _ ≤ _
          have e3 : sN (buR (mnL T n).1 n) 30 ≤ sN (buT (mnL T n).1 n) 30 := by
            unfold buR
            rw [if_neg c]
            have g := sN_go (T := upd (buT (mnL T n).1 n) 10 ((mnL T n).1 10 + 1)) hp
            have g2 : sN (upd (buT (mnL T n).1 n) 10 ((mnL T n).1 10 + 1)) 30 = sN (buT (mnL T n).1 n) 30 := sN_eq (fun q _ => stN_of (ofT_up (by omega)) (ofT_up (by omega)))
            omega
          omega
      · rw [if_neg hl]
        refine ⟨m, em, ?_⟩
        show 51 * sN (gwT (mnL T n).1 n) 30 + _ ≤ _
        rw [sN_gw]
        exact hm
    · rw [if_neg hi]
      exact ⟨m, em, hm⟩
/-- what bothers a garden, and what may yet -/
def PH (B : Nat) (T : Nat → Int32) : Prop := ∀ g, g < 9 → ∃ n, T (225 + 3 * g) = nI n ∧ n + 51 * sN T 30 ≤ B
theorem PH.mono {A B : Nat} {T : Nat → Int32} (h : PH A T) (hAB : A ≤ B) : PH B T := fun g hg => by
  obtain ⟨n, e, l⟩ := h g hg
  exact ⟨n, e, by omega⟩
theorem laL_b (hour : Int32) {w : Nat} (hw : w < 4) {q : Nat} (hq : q < 9) : ∀ n g l v (T : Nat → Int32), g < 9 → T (225 + 3 * q) = nI v → v + l ≤ 1999999999 → l ≤ 100000000 → ∃ v', laL hour w n T (nI l) g (225 + 3 * q) = nI v' ∧ v' ≤ v + l := by
  intro n
  induction n with
  | zero => intro g l v T hg hv hl l2; exact ⟨v, hv, by omega⟩
  | succ n ih =>
    intro g l v T hg hv hl l2
    have e2 : nI l / 2 = nI (l / 2) := pk_div (d := 2) (by omega) (by decide) (by decide)
    have hv1 : ∃ v1, lgT T g hour (nI (l / 2)) (225 + 3 * q) = nI v1 ∧ v1 ≤ v + l / 2 := by
      unfold lgT
      rw [upd_at]
      by_cases c : q = g
      · subst c
        rw [if_pos (by omega), show 224 + 3 * q + 1 = 225 + 3 * q by omega, hv]
        split
        · rw [more_n (by omega) (by omega)]
          exact ⟨_, rfl, Nat.min_le_left _ _⟩
        · have := more_0 (v := nI v) ⟨v, by omega, rfl⟩
          rw [this]
          exact ⟨v, rfl, by omega⟩
      · rw [if_neg (by omega), upd_at, if_neg (by omega)]
        exact ⟨v, hv, by omega⟩
    obtain ⟨v1, e1, l1⟩ := hv1
    rw [laL, e2]
    cases hx : nxN g w with
    | none => exact ⟨v1, e1, by omega⟩
    | some x =>
      simp only []
      rw [pk_sub (by omega)]
      obtain ⟨v2, e3, l3⟩ := ih x (l - l / 2) v1 _ (nxN_lt hg hw hx).1 e1 (by omega) (by omega)
      exact ⟨v2, e3, by omega⟩
theorem laT_b {T : Nat → Int32} {m : Nat} (hm : m ≤ 2000000) (hM : MOK T) {q v : Nat} (hq : q < 9) (hv : T (225 + 3 * q) = nI v) (hl : v + m ≤ 1999999999) : ∃ v', laT T (nI m) (225 + 3 * q) = nI v' ∧ v' ≤ v + m := by
  obtain ⟨-, -, ⟨g, hg, h8⟩, w, hw, h6⟩ := hM
  obtain ⟨r, hr, er⟩ := hel_100 (givT T 2 (T 4 / 60) (T 5) (nI m) 0)
  have el := leI_n hm hr er
  have hb : m * r / 100 ≤ m := by
    have : m * r ≤ m * 100 := Nat.mul_le_mul_left _ hr
    omega
  unfold laT
  rw [el, h6, h8, cl_nI (by omega), cl_nI (by omega)]
  obtain ⟨v', e, l⟩ := laL_b (T 4 / 60) hw hq 3 g (m * r / 100) v T hg hv (by omega) (by omega)
  exact ⟨v', e, by omega⟩
theorem PH.min {T : Nat → Int32} {B : Nat} (hI : MI T) (hB : B ≤ 1999999999) (h : PH B T) : PH B (minT T) := by
  obtain ⟨hW, hM, hG, h11, h12⟩ := hI
  obtain ⟨w30, m, em, hm⟩ := mnL_phi hW 30 (Nat.le_refl _)
  obtain ⟨-, m2, hm2, em2⟩ := mnL_n hW 30 (Nat.le_refl _)
  have n1 := (mnL_inv T hM.2.1 30 (Nat.le_refl _)).2
  intro g hg
  obtain ⟨v, ev, lv⟩ := h g hg
  have hmm : m = m2 := by
    have hb := (h g hg)
    have q := em.symm.trans em2
    rw [nI_eq (by omega) (by omega)] at q
    exact q
  have ev1 : (mnL T 30).1 (225 + 3 * g) = nI v := (n1 _ (Or.inr (by omega))).trans ev
  obtain ⟨v', e', l'⟩ := laT_b (m := m) (by omega) (MOK_mnL hM) hg ev1 (by omega)
  refine ⟨v', ?_, ?_⟩
  · rw [minT_A (by omega) (by omega) (by omega)]
    unfold minA
    rw [em]
    exact e'
  · have : sN (minT T) 30 = sN (mnL T 30).1 30 := sN_eq (fun q hq => stN_of (minT_of hM hq (by omega)) (minT_of hM hq (by omega)))
    rw [this]
    omega
theorem PH.it {B : Nat} (hB : B ≤ 1999999999) : ∀ n (T : Nat → Int32), MI T → PH B T → PH B (itT n T)
  | 0, _, _, h => h
  | n + 1, T, hI, h => PH.it hB n (minT T) hI.min (h.min hI hB)
