/-! ===== the call: reach ===== -/
theorem nx_lor (a b : Nat) : nI a ||| nI b = nI (a ||| b) := by
  apply Int32.toBitVec_inj.mp
  rw [Int32.toBitVec_or]
  show BitVec.ofNat 32 a ||| BitVec.ofNat 32 b = BitVec.ofNat 32 (a ||| b)
  apply BitVec.eq_of_toNat_eq
  simp [BitVec.toNat_or, Nat.or_mod_two_pow]
theorem or_0 (x : Int32) : x ||| 0 = x := by
  apply Int32.toBitVec_inj.mp
  rw [Int32.toBitVec_or]
  show x.toBitVec ||| 0#32 = x.toBitVec
  simp
theorem shl_1 : ∀ p, p < 31 → (1 : Int32) <<< (nI p &&& 31) = nI (2 ^ p) := by decide +kernel
theorem shl_s : ∀ p, p < 31 → ((nI p &&& 31).toBitVec.smod 32).toNat = p := by decide +kernel
theorem shr_b {n p : Nat} (hn : n < 2147483648) (hp : p < 31) : (nI n >>> (nI p &&& 31)) &&& 1 = if n.testBit p then 1 else 0 := by
  rw [pk_shrN (by omega) (nI p &&& 31) p (shl_s p hp), show (1 : Int32) = nI 1 from rfl, nx_land, Nat.testBit_eq_decide_div_mod_eq, show (1 : Nat) = 2 ^ 1 - 1 from rfl, Nat.and_two_pow_sub_one_eq_mod]
  by_cases c : n / 2 ^ p % 2 = 1
  · rw [show n / 2 ^ p % 2 ^ 1 = 1 from c]
    simp [c]
  · have c0 : n / 2 ^ p % 2 ^ 1 = 0 := by have : (2:Nat) ^ 1 = 2 := rfl; omega
    rw [c0]
    simp [c]
    rfl
theorem bit_b {n p : Nat} (hn : n < 2147483648) (hp : p < 31) : bitI (nI n) (nI p) = (n.testBit p = true) := by
  unfold bitI
  rw [shr_b hn hp]
  by_cases c : n.testBit p = true
  · simp [c]
  · simp [c]
theorem or_lt {n p : Nat} (hn : n < 1073741824) (hp : p < 30) : n ||| 2 ^ p < 1073741824 := by
  have : 2 ^ p < 2 ^ 30 := Nat.pow_lt_pow_right (by omega) hp
  exact Nat.or_lt_two_pow (n := 30) hn this
theorem or_tb {n p y : Nat} : (n ||| 2 ^ p).testBit y = (n.testBit y || decide (p = y)) := by
  rw [Nat.testBit_or, Nat.testBit_two_pow]
/-- one side, one place, all places -/
def sdN (A : Nat → Bool) (p s n : Nat) : Nat := match besN p s with
  | some x => if A x = true then n ||| 2 ^ x else n
  | none => n
def plN (A : Nat → Bool) (w p n : Nat) : Nat := if w.testBit p = true then sdN A p 3 (sdN A p 2 (sdN A p 1 (sdN A p 0 n))) else n
def paN (A : Nat → Bool) (w : Nat) : Nat → Nat → Nat
  | 0, n => n
  | k + 1, n => plN A w k (paN A w k n)
def stN2 (A : Nat → Bool) (n : Nat) : Nat := paN A n 30 n
theorem sd_lt {A : Nat → Bool} {p s n : Nat} (hp : p < 30) (hn : n < 1073741824) : sdN A p s n < 1073741824 := by
  unfold sdN
  cases e : besN p s with
  | none => exact hn
  | some x =>
    show (if A x = true then n ||| 2 ^ x else n) < _
    split
    · exact or_lt hn (besN_lt hp e)
    · exact hn
theorem sd_tb (A : Nat → Bool) (p s n y : Nat) : (sdN A p s n).testBit y = true ↔ n.testBit y = true ∨ (besN p s = some y ∧ A y = true) := by
  unfold sdN
  cases e : besN p s with
  | none =>
    show n.testBit y = true ↔ _
    constructor
    · exact fun h => Or.inl h
    · rintro (h | ⟨h, -⟩)
      · exact h
      · cases h
  | some x =>
    show (if A x = true then n ||| 2 ^ x else n).testBit y = true ↔ _
    by_cases c : A x = true
    · rw [if_pos c, or_tb, Bool.or_eq_true, decide_eq_true_eq]
      constructor
      · rintro (h | rfl)
        · exact Or.inl h
        · exact Or.inr ⟨rfl, c⟩
      · rintro (h | ⟨h, -⟩)
        · exact Or.inl h
        · cases h; exact Or.inr rfl
    · rw [if_neg c]
      constructor
      · exact fun h => Or.inl h
      · rintro (h | ⟨h, h2⟩)
        · exact h
        · cases h; exact absurd h2 c
def besP (p y : Nat) : Prop := besN p 0 = some y ∨ besN p 1 = some y ∨ besN p 2 = some y ∨ besN p 3 = some y
theorem pl_tb (A : Nat → Bool) (w p n y : Nat) : (plN A w p n).testBit y = true ↔ n.testBit y = true ∨ (w.testBit p = true ∧ besP p y ∧ A y = true) := by
  unfold plN besP
  by_cases c : w.testBit p = true
  · rw [if_pos c, sd_tb, sd_tb, sd_tb, sd_tb]
    constructor
    · rintro ((((h | ⟨h, h2⟩) | ⟨h, h2⟩) | ⟨h, h2⟩) | ⟨h, h2⟩)
      · exact Or.inl h
      · exact Or.inr ⟨c, Or.inl h, h2⟩
      · exact Or.inr ⟨c, Or.inr (Or.inl h), h2⟩
      · exact Or.inr ⟨c, Or.inr (Or.inr (Or.inl h)), h2⟩
      · exact Or.inr ⟨c, Or.inr (Or.inr (Or.inr h)), h2⟩
    · rintro (h | ⟨-, h | h | h | h, h2⟩)
      · exact Or.inl (Or.inl (Or.inl (Or.inl h)))
      · exact Or.inl (Or.inl (Or.inl (Or.inr ⟨h, h2⟩)))
      · exact Or.inl (Or.inl (Or.inr ⟨h, h2⟩))
      · exact Or.inl (Or.inr ⟨h, h2⟩)
      · exact Or.inr ⟨h, h2⟩
  · rw [if_neg c]
    constructor
    · exact fun h => Or.inl h
    · rintro (h | ⟨h, -⟩)
      · exact h
      · exact absurd h c
theorem pl_lt {A : Nat → Bool} {w p n : Nat} (hp : p < 30) (hn : n < 1073741824) : plN A w p n < 1073741824 := by
  unfold plN
  split
  · exact sd_lt hp (sd_lt hp (sd_lt hp (sd_lt hp hn)))
  · exact hn
theorem pa_tb (A : Nat → Bool) (w n y : Nat) : ∀ k, (paN A w k n).testBit y = true ↔ n.testBit y = true ∨ ∃ p, p < k ∧ w.testBit p = true ∧ besP p y ∧ A y = true
  | 0 => by
    rw [paN]
    constructor
    · exact fun h => Or.inl h
    · rintro (h | ⟨p, h, -⟩)
      · exact h
      · omega
  | k + 1 => by
    rw [paN, pl_tb, pa_tb A w n y k]
    constructor
    · rintro ((h | ⟨p, h, h2⟩) | h)
      · exact Or.inl h
      · exact Or.inr ⟨p, by omega, h2⟩
      · exact Or.inr ⟨k, by omega, h⟩
    · rintro (h | ⟨p, h, h2⟩)
      · exact Or.inl (Or.inl h)
      · by_cases c : p = k
        · subst c; exact Or.inr h2
        · exact Or.inl (Or.inr ⟨p, by omega, h2⟩)
theorem pa_lt {A : Nat → Bool} {w n : Nat} (hn : n < 1073741824) : ∀ k, k ≤ 30 → paN A w k n < 1073741824
  | 0, _ => hn
  | k + 1, h => pl_lt (by omega) (pa_lt hn k (by omega))
theorem st_lt {A : Nat → Bool} {n : Nat} (hn : n < 1073741824) : stN2 A n < 1073741824 := pa_lt hn 30 (by omega)
theorem st_sub {A : Nat → Bool} {n y : Nat} (h : n.testBit y = true) : (stN2 A n).testBit y = true := (pa_tb A n n y 30).mpr (Or.inl h)
theorem st_in {A : Nat → Bool} {n : Nat} (h : ∀ y, n.testBit y = true → A y = true) : ∀ y, (stN2 A n).testBit y = true → A y = true := by
  intro y hy
  rcases (pa_tb A n n y 30).mp hy with c | ⟨p, -, -, -, c⟩
  · exact h y c
  · exact c
theorem tb_hi {n y : Nat} (hn : n < 1073741824) (hy : 30 ≤ y) : n.testBit y = false := Nat.testBit_lt_two_pow (Nat.lt_of_lt_of_le hn (Nat.pow_le_pow_right (n := 2) (by omega) hy))
/-- those that lie, as bits -/
def alN (A : Nat → Bool) : Nat → Nat
  | 0 => 0
  | k + 1 => if A k = true then alN A k ||| 2 ^ k else alN A k
theorem al_lt (A : Nat → Bool) : ∀ k, k ≤ 30 → alN A k < 1073741824
  | 0, _ => by rw [alN]; omega
  | k + 1, h => by
    rw [alN]
    split
    · exact or_lt (al_lt A k (by omega)) (by omega)
    · exact al_lt A k (by omega)
theorem al_tb (A : Nat → Bool) (y : Nat) : ∀ k, (alN A k).testBit y = true ↔ y < k ∧ A y = true
  | 0 => by
    rw [alN, Nat.zero_testBit]
    constructor
    · intro h; cases h
    · intro h; exact absurd h.1 (by omega)
  | k + 1 => by
    rw [alN]
    by_cases c : A k = true
    · rw [if_pos c, or_tb, Bool.or_eq_true, decide_eq_true_eq, al_tb A y k]
      constructor
      · rintro (⟨h, h2⟩ | rfl)
        · exact ⟨by omega, h2⟩
        · exact ⟨by omega, c⟩
      · rintro ⟨h, h2⟩
        by_cases c2 : k = y
        · exact Or.inr c2
        · exact Or.inl ⟨by omega, h2⟩
    · rw [if_neg c, al_tb A y k]
      constructor
      · rintro ⟨h, h2⟩
        exact ⟨by omega, h2⟩
      · rintro ⟨h, h2⟩
        by_cases c2 : k = y
        · rw [c2] at c; exact absurd h2 c
        · exact ⟨by omega, h2⟩
def Aal : Nat → Bool := fun _ => true
theorem st_and {A : Nat → Bool} {n : Nat} (hn : n < 1073741824) (h : ∀ y, n.testBit y = true → A y = true) : stN2 Aal n &&& alN A 30 = stN2 A n := by
  apply Nat.eq_of_testBit_eq
  intro y
  rw [Nat.testBit_and]
  apply Bool.eq_iff_iff.mpr
  rw [Bool.and_eq_true, al_tb]
  unfold stN2
  rw [pa_tb, pa_tb]
  constructor
  · rintro ⟨c | ⟨p, h1, h2, h3, -⟩, c2, c3⟩
    · exact Or.inl c
    · exact Or.inr ⟨p, h1, h2, h3, c3⟩
  · rintro (c | ⟨p, h1, h2, h3, h4⟩)
    · refine ⟨Or.inl c, ?_, h y c⟩
      refine Nat.lt_of_not_le (fun q => ?_)
      rw [tb_hi hn q] at c
      cases c
    · refine ⟨Or.inr ⟨p, h1, h2, h3, rfl⟩, ?_, h4⟩
      rcases h3 with e | e | e | e <;> exact besN_lt h1 e
/-- how many -/
def cdN (n : Nat) : Nat → Nat
  | 0 => 0
  | k + 1 => cdN n k + (n.testBit k).toNat
theorem cd_le (n : Nat) : ∀ k, cdN n k ≤ k
  | 0 => Nat.le_refl _
  | k + 1 => by
    have := cd_le n k
    rw [cdN]
    cases n.testBit k <;> simp <;> omega
theorem cd_mono {a b : Nat} (h : ∀ y, a.testBit y = true → b.testBit y = true) : ∀ k, cdN a k ≤ cdN b k
  | 0 => Nat.le_refl _
  | k + 1 => by
    have i := cd_mono h k
    rw [cdN, cdN]
    cases e : a.testBit k with
    | false => simp; omega
    | true => rw [h k e]; simp; omega
theorem cd_lt {a b z : Nat} (h : ∀ y, a.testBit y = true → b.testBit y = true) (z1 : a.testBit z = false) (z2 : b.testBit z = true) : ∀ k, z < k → cdN a k < cdN b k
  | 0, q => by omega
  | k + 1, q => by
    rw [cdN, cdN]
    by_cases c : z = k
    · have i := cd_mono h k
      rw [← c, z1, z2]
      simp
      rw [c]
      omega
    · have i := cd_lt h z1 z2 k (by omega)
      cases e : a.testBit k with
      | false => simp; omega
      | true => rw [h k e]; simp; omega
theorem st_more {A : Nat → Bool} {n : Nat} (hn : n < 1073741824) (h : stN2 A n ≠ n) : cdN n 30 < cdN (stN2 A n) 30 := by
  have : ∃ z, (stN2 A n).testBit z ≠ n.testBit z := by
    refine Classical.byContradiction (fun q => h (Nat.eq_of_testBit_eq (fun z => ?_)))
    exact Classical.byContradiction (fun q2 => q ⟨z, q2⟩)
  obtain ⟨z, hz⟩ := this
  have z1 : n.testBit z = false := by
    cases e : n.testBit z with
    | false => rfl
    | true => rw [e, st_sub e] at hz; exact absurd rfl hz
  have z2 : (stN2 A n).testBit z = true := by
    cases e : (stN2 A n).testBit z with
    | false => rw [e, z1] at hz; exact absurd rfl hz
    | true => rfl
  have z3 : z < 30 := by
    refine Nat.lt_of_not_le (fun q => ?_)
    rw [tb_hi (st_lt hn) q] at z2
    cases z2
  exact cd_lt (fun y => st_sub) z1 z2 30 z3
def itN (A : Nat → Bool) : Nat → Nat → Nat
  | 0, n => n
  | k + 1, n => itN A k (stN2 A n)
theorem it_fix {A : Nat → Bool} {n : Nat} (h : stN2 A n = n) : ∀ k, itN A k n = n
  | 0 => rfl
  | k + 1 => by rw [itN, h]; exact it_fix h k
theorem it_lt {A : Nat → Bool} : ∀ k n, n < 1073741824 → itN A k n < 1073741824
  | 0, _, h => h
  | k + 1, _, h => it_lt k _ (st_lt h)
