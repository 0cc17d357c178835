/-! ===== numbers and worlds: small facts ===== -/
def b2 (P : Prop) [Decidable P] : Int32 := if P then 1 else 0
theorem b2_T {P : Prop} [Decidable P] (h : P) : b2 P = 1 := if_pos h
theorem b2_F {P : Prop} [Decidable P] (h : ¬ P) : b2 P = 0 := if_neg h
theorem b2_0 {P : Prop} [Decidable P] : (b2 P = 0) = ¬ P := by
  by_cases h : P
  · rw [b2_T h]; simp [h]
  · rw [b2_F h]; simp [h]
theorem b2_1 {P : Prop} [Decidable P] : (b2 P = 1) = P := by
  by_cases h : P
  · rw [b2_T h]; simp [h]
  · rw [b2_F h]; simp [h]
theorem b2_B {P : Prop} [Decidable P] : isB (b2 P) = True := by
  refine eq_true ?_
  by_cases h : P
  · rw [b2_T h]; exact Or.inr rfl
  · rw [b2_F h]; exact Or.inl rfl
def rep (σ : Hs) (o : Nat) (F : Nat → Int32) : Hs := fun q => if q = o then F else σ q
theorem rep_at (σ : Hs) (o : Nat) (F : Nat → Int32) (q : Nat) : rep σ o F q = if q = o then F else σ q := rfl
theorem rep_self (σ : Hs) (o : Nat) (F : Nat → Int32) : rep σ o F o = F := if_pos rfl
theorem rep_ne {σ : Hs} {o : Nat} {F : Nat → Int32} {q : Nat} (h : q ≠ o) : rep σ o F q = σ q := if_neg h
theorem rep_rep (σ : Hs) (o : Nat) (F G : Nat → Int32) : rep (rep σ o F) o G = rep σ o G := by
  funext q
  simp only [rep]
  by_cases h : q = o <;> simp [h]
theorem rep_same (σ : Hs) (o : Nat) : rep σ o (σ o) = σ := by
  funext q
  simp only [rep]
  by_cases h : q = o <;> simp [h]
theorem up2_rep (σ : Hs) (o k : Nat) (v : Int32) : up2 σ o k v = rep σ o (upd (σ o) k v) := by
  funext q
  by_cases h : q = o
  · subst h; rw [up2_self, rep_self]
  · rw [up2_ne h, rep_ne h]
theorem cp2_rep (σ : Hs) (b a sp dp n : Nat) : cp2 σ b a sp dp n = rep σ a (va_cpy (σ b) (σ a) sp dp n) := by
  funext q
  by_cases h : q = a
  · subst h; rw [cp2_self, rep_self]
  · rw [cp2_ne h, rep_ne h]
theorem vp_lit {i : Int32} {n : Nat} (h1 : (i < 0) = False) (h2 : (n ≤ i.toNatClampNeg) = False) : vp_in i n = True := eq_true (fun h => h.elim (fun q => by rw [h1] at q; exact q) (fun q => by rw [h2] at q; exact q))
theorem vp_nI {k n : Nat} (h : k < n) (hn : n < 2147483648) : vp_in (nI k) n = True := eq_true (vp_in_nI h hn)
theorem cl_nI {k : Nat} (h : k < 2147483648) : (nI k).toNatClampNeg = k := nI_clamp h
theorem upd_at (f : Nat → Int32) (k : Nat) (v : Int32) (j : Nat) : upd f k v j = if j = k then v else f j := rfl
theorem nle {a b : Int32} : (¬ a ≤ b) = (b < a) := by simp
theorem nlt {a b : Int32} : (¬ a < b) = (b ≤ a) := by simp
theorem within_n {v lo hi : Int32} {a b : Nat} (h : lo ≤ v ∧ v ≤ hi) (h1 : lo = nI a) (h2 : hi = nI b) (ha : a < 2147483648) (hb : b < 2147483648) : ∃ k, a ≤ k ∧ k ≤ b ∧ v = nI k := by
  subst h1; subst h2
  have e1 := Int32.le_iff_toInt_le.mp h.1
  have e2 := Int32.le_iff_toInt_le.mp h.2
  rw [nI_toInt ha] at e1
  rw [nI_toInt hb] at e2
  refine ⟨v.toInt.toNat, by omega, by omega, ?_⟩
  apply Int32.toInt_inj.mp
  rw [nI_toInt (by omega)]
  omega
theorem k_within (d : Nat) (v lo hi : Int32) (σ : Hs) : callD (d + 1) 102 [.int v, .int lo, .int hi] σ = some (some (.int (b2 (lo ≤ v ∧ v ≤ hi))), σ) := by
  simp only [c102, s102_0, s102_1, s102_2, s102_5, s102_6, s102_7, s102_10, s102_11, s102_14, s102_15, isB_0, isB_1]
  by_cases h1 : v < lo
  · rw [if_pos h1, b2_F (fun h => Int32.not_le.mpr h1 h.1)]
  · rw [if_neg h1]
    by_cases h2 : hi < v
    · rw [if_pos h2, b2_F (fun h => Int32.not_le.mpr h2 h.2)]
    · rw [if_neg h2, b2_T ⟨Int32.not_lt.mp h1, Int32.not_lt.mp h2⟩]
theorem z2 : ((2 : Int32) = 0) = False := by decide +kernel
theorem z3 : ((3 : Int32) = 0) = False := by decide +kernel
theorem z4 : ((4 : Int32) = 0) = False := by decide +kernel
theorem z5 : ((5 : Int32) = 0) = False := by decide +kernel
theorem z6 : ((6 : Int32) = 0) = False := by decide +kernel
theorem z7 : ((7 : Int32) = 0) = False := by decide +kernel
theorem z8 : ((8 : Int32) = 0) = False := by decide +kernel
theorem z10 : ((10 : Int32) = 0) = False := by decide +kernel
theorem z20 : ((20 : Int32) = 0) = False := by decide +kernel
theorem z25 : ((25 : Int32) = 0) = False := by decide +kernel
theorem z50 : ((50 : Int32) = 0) = False := by decide +kernel
theorem z60 : ((60 : Int32) = 0) = False := by decide +kernel
theorem z100 : ((100 : Int32) = 0) = False := by decide +kernel
theorem z200 : ((200 : Int32) = 0) = False := by decide +kernel
theorem z255 : ((255 : Int32) = 0) = False := by decide +kernel
theorem z700 : ((700 : Int32) = 0) = False := by decide +kernel
theorem z950 : ((950 : Int32) = 0) = False := by decide +kernel
theorem z999 : ((999 : Int32) = 0) = False := by decide +kernel
theorem z1 : ((1 : Int32) = 0) = False := by decide +kernel
theorem z0 : ((0 : Int32) = 0) = True := by decide +kernel
theorem test1 (σ : Hs) : gd (vp_in 3 5) (some (σ 9 (3 : Int32).toNatClampNeg)) = some (σ 9 3) := by
  simp only [vp_lit, simprocAttr, if_true, if_false, true_and, and_true, false_and, and_false, not_false_eq_true, not_true_eq_false, gd_T, kont_i, kont_v]
theorem test2 (σ : Hs) (F : Nat → Int32) : rep (rep σ 88 F) 91 F 88 = F := by
  simp only [rep_at, simprocAttr, if_true, if_false, true_and, and_true, false_and, and_false, not_false_eq_true, not_true_eq_false, gd_T, kont_i, kont_v]
theorem test3 : (¬ (60 : Int32) = 0) = True := by
  simp only [z60, not_false_eq_true]
