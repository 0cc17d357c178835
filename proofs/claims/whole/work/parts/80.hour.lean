/-! ===== what burns doesn't hang on the clock, nor on what lies over the gardens ===== -/
def AG (X Y : Nat → Int32) : Prop := ∀ a, ((5 ≤ a ∧ a ≤ 8) ∨ (14 ≤ a ∧ a < 224) ∨ 359 ≤ a) → X a = Y a
theorem AG.rf (X : Nat → Int32) : AG X X := fun _ _ => rfl
theorem AG.tr {X Y Z : Nat → Int32} (h1 : AG X Y) (h2 : AG Y Z) : AG X Z := fun a ha => (h1 a ha).trans (h2 a ha)
theorem AG.of {X Y : Nat → Int32} (h : AG X Y) {p f : Nat} (hp : p < 30) (hf : f < 7) : ofT X p f = ofT Y p f := h _ (by omega)
theorem AG.is {X Y : Nat → Int32} (h : AG X Y) {p : Nat} (hp : p < 30) : isT X p = isT Y p := by unfold isT; rw [h.of hp (by omega)]
theorem AG.lit {X Y : Nat → Int32} (h : AG X Y) {p : Nat} (hp : p < 30) : litT X p = litT Y p := by unfold litT; rw [h.of hp (by omega)]
theorem AG.u {X Y : Nat → Int32} (h : AG X Y) (a : Nat) (v : Int32) : AG (upd X a v) (upd Y a v) := by
  intro b hb
  rw [upd_at, upd_at]
  by_cases c : b = a
  · rw [if_pos c, if_pos c]
  · rw [if_neg c, if_neg c]; exact h b hb
theorem AG.te {X Y : Nat → Int32} (h : AG X Y) (p f : Nat) (v : Int32) : AG (teT X p f v) (teT Y p f v) := h.u _ v
theorem AG.u2 {X Y : Nat → Int32} (h : AG X Y) {a : Nat} {v w : Int32} (ha : ¬ ((5 ≤ a ∧ a ≤ 8) ∨ (14 ≤ a ∧ a < 224) ∨ 359 ≤ a)) : AG (upd X a v) (upd Y a w) := by
  intro b hb
  rw [upd_at, upd_at, if_neg (by omega), if_neg (by omega)]; exact h b hb
theorem AG.wa {X Y : Nat → Int32} (h : AG X Y) {p : Nat} (hp : p < 30) (v : Int32) : AG (waT X p v) (waT Y p v) := by
  unfold waT
  rw [h.of hp (by omega)]
  exact h.te p 5 _
theorem AG.gs {X Y : Nat → Int32} (h : AG X Y) {p : Nat} (hp : p < 30) (s : Nat) : AG (glS X p s) (glS Y p s) := by
  cases hb : besN p s with
  | none => rw [glS_none hb, glS_none hb]; exact h
  | some x =>
    have hx := besN_lt hp hb
    rw [glS_some hb, glS_some hb]
    unfold gvT
    simp only [h.is hx, h.of hp (show 5 < 7 by omega)]
    split
    · exact (h.wa hp _).wa hx _
    · exact h
theorem AG.gf {X Y : Nat → Int32} (h : AG X Y) {p : Nat} (hp : p < 30) : ∀ s, AG (glF X p s) (glF Y p s)
  | 0 => h
  | s + 1 => (AG.gf h hp s).gs hp s
theorem AG.op {X Y : Nat → Int32} (h : AG X Y) {p : Nat} (hp : p < 30) (s : Nat) : opI2 X p s = opI2 Y p s := by
  cases hb : besN p s with
  | some x => rw [op_some hb, op_some hb]; simp only [h.is (besN_lt hp hb)]
  | none =>
    by_cases h3 : s = 3
    · have e1 : opT X p s = (s ≠ 3) := by unfold opT; rw [hb]
      have e2 : opT Y p s = (s ≠ 3) := by unfold opT; rw [hb]
      unfold opI2
      rw [if_neg (by rw [e1]; exact fun q => q h3), if_neg (by rw [e2]; exact fun q => q h3)]
    · rw [op_none hb h3, op_none hb h3]
theorem AG.cn {X Y : Nat → Int32} (h : AG X Y) {p : Nat} (hp : p < 30) : ∀ s, cntT X p s = cntT Y p s
  | 0 => rfl
  | s + 1 => by rw [cntT, cntT, AG.cn h hp s, h.op hp s]
theorem AG.dr {X Y : Nat → Int32} (h : AG X Y) {p : Nat} (hp : p < 30) : drT X p = drT Y p := by
  unfold drT
  rw [h.cn hp, h.of hp (by omega), h 6 (by omega), h.op hp, h 5 (by omega)]
theorem AG.law {X Y : Nat → Int32} (h : AG X Y) (u : Nat) (a b c e : Int32) : lawT X u a b c e = lawT Y u a b c e := by
  unfold lawT
  rw [h _ (by omega), cdL_congr _ _ (fun j hj => h j (by omega))]
theorem AG.giv {X Y : Nat → Int32} (h : AG X Y) (u : Nat) (a b c e : Int32) : givT X u a b c e = givT Y u a b c e := by
  unfold givT
  rw [h (359 + 62 * u) (by omega), h.law]
theorem AG.bO {X Y : Nat → Int32} (h : AG X Y) {p : Nat} (hp : p < 30) : bOfT X p = bOfT Y p := by
  unfold bOfT
  simp only []
  rw [h.of hp (show 2 < 7 by omega), h.of hp (show 1 < 7 by omega), h.of hp (show 3 < 7 by omega), h.of hp (show 5 < 7 by omega), h.dr hp, h.giv]
theorem AG.b1 {X Y : Nat → Int32} (h : AG X Y) {p : Nat} (hp : p < 30) : AG (bu1 X p) (bu1 Y p) := by
  unfold bu1
  rw [h.bO hp, h.of hp (show 2 < 7 by omega), h.of hp (show 1 < 7 by omega)]
  exact (h.te p 2 _).wa hp _
theorem AG.bu {X Y : Nat → Int32} (h : AG X Y) {p : Nat} (hp : p < 30) : AG (buT X p) (buT Y p) := by
  unfold buT
  exact (h.b1 hp).u2 (by omega)
theorem AG_goF {X Y : Nat → Int32} (h : AG X Y) {p : Nat} (hp : p < 30) : AG (goF X p 7) (goF Y p 7) := by
  intro a ha
  simp only [goF]
  split
  · split
    · exact h _ (by omega)
    · rfl
  · exact h a ha
theorem AG_goL : ∀ n p (X Y : Nat → Int32), AG X Y → AG (goL X n p) (goL Y n p) := by
  intro n
  induction n with
  | zero => intro p X Y h; exact h
  | succ n ih =>
    intro p X Y h
    rw [goL, goL]
    split
    · rename_i hp
      exact ih (p + 6) _ _ (AG_goF h hp)
    · exact h
theorem AG.go {X Y : Nat → Int32} (h : AG X Y) (p : Nat) : AG (goT X p) (goT Y p) := AG_goL 5 p X Y h
theorem AG.co {X Y : Nat → Int32} (h : AG X Y) {p : Nat} (hp : p < 30) : AG (coT X p) (coT Y p) := by
  unfold coT
  simp only []
  rw [h.of hp (show 3 < 7 by omega), h.of hp (show 5 < 7 by omega)]
  generalize ofT Y p 5 = w
  have a1 := h.te p 3 (jmax 0 (ofT Y p 3 - w / 20))
  generalize teT X p 3 (jmax 0 (ofT Y p 3 - w / 20)) = X1 at a1
  generalize teT Y p 3 (jmax 0 (ofT Y p 3 - w / 20)) = Y1 at a1
  have a2 : AG (if litT X1 p then X1 else if X1 7 < ofT X1 p 3 then X1 else if w < catF (ofT X1 p 1).toNatClampNeg then X1 else teT X1 p 6 1) (if litT Y1 p then Y1 else if Y1 7 < ofT Y1 p 3 then Y1 else if w < catF (ofT Y1 p 1).toNatClampNeg then Y1 else teT Y1 p 6 1) := by
    simp only [a1.lit hp, a1 7 (by omega), a1.of hp (show 3 < 7 by omega), a1.of hp (show 1 < 7 by omega)]
    split
    · exact a1
    · split
      · exact a1
      · split
        · exact a1
        · exact a1.te p 6 1
  generalize (if litT X1 p then X1 else if X1 7 < ofT X1 p 3 then X1 else if w < catF (ofT X1 p 1).toNatClampNeg then X1 else teT X1 p 6 1) = X2 at a2
  generalize (if litT Y1 p then Y1 else if Y1 7 < ofT Y1 p 3 then Y1 else if w < catF (ofT Y1 p 1).toNatClampNeg then Y1 else teT Y1 p 6 1) = Y2 at a2
  have a3 := a2.wa hp (-(w / 10 + 1))
  generalize waT X2 p (-(w / 10 + 1)) = X3 at a3
  generalize waT Y2 p (-(w / 10 + 1)) = Y3 at a3
  simp only [a3.lit hp, a3.of hp (show 5 < 7 by omega), a3.of hp (show 3 < 7 by omega)]
  split
  · split
    · exact a3.te p 6 0
    · split
      · exact a3
      · exact a3.te p 6 0
  · exact a3
theorem AG.gw {X Y : Nat → Int32} (h : AG X Y) {p : Nat} (hp : p < 30) : AG (gwT X p) (gwT Y p) := (h.gf hp 4).co hp
theorem AG.bR {X Y : Nat → Int32} (h : AG X Y) {p : Nat} (hp : p < 30) : AG (buR X p) (buR Y p) := by
  unfold buR
  simp only [(h.bu hp).of hp (show 2 < 7 by omega)]
  split
  · exact h.bu hp
  · exact AG.go ((h.bu hp).u2 (by omega)) p
theorem AG.bS {X Y : Nat → Int32} (h : AG X Y) {p : Nat} (hp : p < 30) (s : Int32) : buS X p s = buS Y p s := by
  unfold buS
  rw [h.bO hp, h.of hp (by omega)]
theorem AG.mS {q r : (Nat → Int32) × Int32} (h : AG q.1 r.1) (e : q.2 = r.2) {p : Nat} (hp : p < 30) : AG (mnS q p).1 (mnS r p).1 ∧ (mnS q p).2 = (mnS r p).2 := by
  unfold mnS
  simp only [h.is hp, h.lit hp, (h.bu hp).of hp (show 2 < 7 by omega), e, h.bS hp]
  split
  · split
    · split
      · exact ⟨(h.bR hp).gw hp, rfl⟩
      · exact ⟨h.bR hp, rfl⟩
    · exact ⟨h.gw hp, rfl⟩
  · exact ⟨h, e⟩
theorem AG.mL {X Y : Nat → Int32} (h : AG X Y) : ∀ n, n ≤ 30 → AG (mnL X n).1 (mnL Y n).1 ∧ (mnL X n).2 = (mnL Y n).2 := by
  intro n
  induction n with
  | zero => intro _; exact ⟨h, rfl⟩
  | succ n ih =>
    intro hn
    obtain ⟨a, b⟩ := ih (by omega)
    exact AG.mS a b (by omega)
theorem AG.mn {X Y : Nat → Int32} (hM : MOK X) (h : AG X Y) : AG (minT X) (mnL Y 30).1 := by
  refine AG.tr ?_ (h.mL 30 (Nat.le_refl _)).1
  intro a ha
  rw [minT_A (by omega) (by omega) (by omega)]
  unfold minA
  exact laT_ne (MOK_mnL hM) (by omega)
/-! what a minute's smoke bothers -/
def incN (W : Nat → Int32) (hour : Int32) (w : Nat) : Nat → Nat → Nat → Nat → Nat
  | 0, _, _, _ => 0
  | n + 1, l, g, q => (if q = g ∧ bitI (W g) hour then l / 2 else 0) + (match nxN g w with | some x => incN W hour w n (l - l / 2) x q | none => 0)
theorem laL_inc (W : Nat → Int32) (hour : Int32) {w : Nat} (hw : w < 4) {q : Nat} (hq : q < 9) : ∀ n g l v (X : Nat → Int32), g < 9 → (∀ j, j < 9 → X (226 + 3 * j) = W j) → X (225 + 3 * q) = nI v → v + l ≤ 1999999999 → l ≤ 100000000 → laL hour w n X (nI l) g (225 + 3 * q) = nI (v + incN W hour w n l g q) ∧ incN W hour w n l g q ≤ l := by
  intro n
  induction n with
  | zero => intro g l v X hg hW hv hl l2; exact ⟨by rw [laL, incN]; exact hv, Nat.zero_le _⟩
  | succ n ih =>
    intro g l v X hg hW hv hl l2
    have e2 : nI l / 2 = nI (l / 2) := pk_div (d := 2) (by omega) (by decide) (by decide)
    have hv1 : lgT X g hour (nI (l / 2)) (225 + 3 * q) = nI (v + (if q = g ∧ bitI (W g) hour then l / 2 else 0)) := by
      unfold lgT
      rw [upd_at]
      by_cases c : q = g
      · subst c
        rw [if_pos (by omega), show 224 + 3 * q + 1 = 225 + 3 * q by omega, hv, show 224 + 3 * q + 2 = 226 + 3 * q by omega, hW q hq]
        by_cases b : bitI (W q) hour
        · rw [if_pos b, if_pos ⟨rfl, b⟩, more_n (by omega) (by omega), Nat.min_eq_left (by omega)]
        · rw [if_neg b, if_neg (fun x => b x.2)]
          exact more_0 ⟨v, by omega, rfl⟩
      · rw [if_neg (by omega), upd_at, if_neg (by omega), if_neg (fun x => c x.1)]
        exact hv
    have hW1 : ∀ j, j < 9 → lgT X g hour (nI (l / 2)) (226 + 3 * j) = W j := by
      intro j hj
      rw [lgT_ne (by omega) (by omega)]; exact hW j hj
    have le1 : (if q = g ∧ bitI (W g) hour then l / 2 else 0) ≤ l / 2 := by split <;> omega
    rw [laL, e2, incN]
    cases hx : nxN g w with
    | none => exact ⟨by simp only [Nat.add_zero]; exact hv1, by simp only [Nat.add_zero]; omega⟩
    | some x =>
      simp only []
      rw [pk_sub (by omega)]
      obtain ⟨e3, l3⟩ := ih x (l - l / 2) _ _ (nxN_lt hg hw hx).1 hW1 hv1 (by omega) (by omega)
      exact ⟨by rw [e3, Nat.add_assoc], by omega⟩
theorem laL_w (hour : Int32) {w : Nat} (hw : w < 4) {j : Nat} : ∀ n g (left : Int32) (X : Nat → Int32), g < 9 → laL hour w n X left g (226 + 3 * j) = X (226 + 3 * j) := by
  intro n
  induction n with
  | zero => intro g left X _; rfl
  | succ n ih =>
    intro g left X hg
    rw [laL]
    cases hx : nxN g w with
    | none => exact lgT_ne (by omega) (by omega)
    | some x =>
      simp only []
      rw [ih x _ _ (nxN_lt hg hw hx).1]
      exact lgT_ne (by omega) (by omega)
/-- how much lies, of so much smoke, at an hour -/
def lyN (T : Nat → Int32) (h m : Nat) : Nat := m * (heldI (givT T 2 (nI h) (T 5) (nI m) 0) 0 100).toNatClampNeg / 100
theorem lyN_le {T : Nat → Int32} {h m : Nat} : lyN T h m ≤ m := by
  obtain ⟨r, hr, er⟩ := hel_100 (givT T 2 (nI h) (T 5) (nI m) 0)
  unfold lyN
  rw [er, cl_nI (by omega)]
  have : m * r ≤ m * 100 := Nat.mul_le_mul_left _ hr
  omega
/-- the smoke's way, where the row says what T says of law, wind, way, home and washing -/
theorem laT_inc {T X : Nat → Int32} {h m g w q v : Nat} (hm : m ≤ 2000000) (hA : ∀ a, ((5 ≤ a ∧ a ≤ 8) ∨ 359 ≤ a) → X a = T a) (h4 : X 4 / 60 = nI h) (h6 : T 6 = nI w) (hw : w < 4) (h8 : T 8 = nI g) (hg : g < 9) (hW : ∀ j, j < 9 → X (226 + 3 * j) = T (226 + 3 * j)) (hq : q < 9) (hv : X (225 + 3 * q) = nI v) (hl : v + m ≤ 1999999999) :
    laT X (nI m) (225 + 3 * q) = nI (v + incN (fun j => T (226 + 3 * j)) (nI h) w 3 (lyN T h m) g q) ∧ incN (fun j => T (226 + 3 * j)) (nI h) w 3 (lyN T h m) g q ≤ m := by
  obtain ⟨r, hr, er⟩ := hel_100 (givT T 2 (nI h) (T 5) (nI m) 0)
  have eg : ∀ a b c e, givT X 2 a b c e = givT T 2 a b c e := by
    intro a b c e
    unfold givT lawT
    rw [hA (359 + 62 * 2) (by omega), cdL_congr _ _ (fun j hj => hA j (by omega))]
  have er' : heldI (givT X 2 (X 4 / 60) (X 5) (nI m) 0) 0 100 = nI r := by rw [eg, h4, hA 5 (by omega)]; exact er
  have el := leI_n hm hr er'
  have ely : m * r / 100 = lyN T h m := by unfold lyN; rw [er, cl_nI (by omega)]
  have hb : m * r / 100 ≤ m := by rw [ely]; exact lyN_le
  unfold laT
  rw [el, hA 6 (by omega), hA 8 (by omega), h6, h8, h4, cl_nI (by omega), cl_nI (by omega), ely]
  obtain ⟨e1, e2⟩ := laL_inc (fun j => T (226 + 3 * j)) (nI h) hw hq 3 g (lyN T h m) v X hg hW hv (by rw [ely] at hb; omega) (by rw [ely] at hb; omega)
  exact ⟨e1, by rw [ely] at hb; omega⟩
