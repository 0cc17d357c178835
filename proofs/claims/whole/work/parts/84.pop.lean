/-! ===== how many bits a number has ===== -/
theorem land2 {x y u v : Nat} (hx : x < 256) (hu : u < 256) : (x + 256 * y) &&& (u + 256 * v) = (x &&& u) + 256 * (y &&& v) := by
  have e1 : ((x + 256 * y) &&& (u + 256 * v)) % 2 ^ 8 = (x &&& u) := by
    rw [Nat.and_mod_two_pow, show (2 : Nat) ^ 8 = 256 from rfl, Nat.add_mul_mod_self_left, Nat.add_mul_mod_self_left, Nat.mod_eq_of_lt hx, Nat.mod_eq_of_lt hu]
  have e2 : ((x + 256 * y) &&& (u + 256 * v)) / 2 ^ 8 = (y &&& v) := by
    rw [Nat.and_div_two_pow, show (2 : Nat) ^ 8 = 256 from rfl, Nat.add_mul_div_left _ _ (by omega), Nat.add_mul_div_left _ _ (by omega), Nat.div_eq_of_lt hx, Nat.div_eq_of_lt hu, Nat.zero_add, Nat.zero_add]
  have := Nat.mod_add_div ((x + 256 * y) &&& (u + 256 * v)) (2 ^ 8)
  rw [e1, e2] at this
  exact this.symm
/-- four bytes -/
def by4 (a b c e : Nat) : Nat := a + 256 * (b + 256 * (c + 256 * e))
theorem by4_of {n : Nat} (h : n < 4294967296) : ∃ a b c e, a < 256 ∧ b < 256 ∧ c < 256 ∧ e < 256 ∧ n = by4 a b c e := by
  refine ⟨n % 256, n / 256 % 256, n / 65536 % 256, n / 16777216, by omega, by omega, by omega, by omega, ?_⟩
  unfold by4
  omega
theorem by4_land {a b c e m : Nat} (ha : a < 256) (hb : b < 256) (hc : c < 256) (hm : m < 256) : by4 a b c e &&& by4 m m m m = by4 (a &&& m) (b &&& m) (c &&& m) (e &&& m) := by
  unfold by4
  rw [land2 ha hm, land2 hb hm, land2 hc hm]
def p8 (a : Nat) : Nat := a % 2 + a / 2 % 2 + a / 4 % 2 + a / 8 % 2 + a / 16 % 2 + a / 32 % 2 + a / 64 % 2 + a / 128 % 2
def pcN (n : Nat) : Nat := p8 (n % 256) + p8 (n / 256 % 256) + p8 (n / 65536 % 256) + p8 (n / 16777216 % 256)
theorem pc_by4 {a b c e : Nat} (ha : a < 256) (hb : b < 256) (hc : c < 256) (he : e < 256) : pcN (by4 a b c e) = p8 a + p8 b + p8 c + p8 e := by
  have e1 : by4 a b c e % 256 = a := by unfold by4; omega
  have e2 : by4 a b c e / 256 % 256 = b := by unfold by4; omega
  have e3 : by4 a b c e / 65536 % 256 = c := by unfold by4; omega
  have e4 : by4 a b c e / 16777216 % 256 = e := by unfold by4; omega
  unfold pcN
  rw [e1, e2, e3, e4]
def g1N (a : Nat) : Nat := a - ((a / 2) &&& 85)
def g2N (a : Nat) : Nat := (a &&& 51) + ((a / 4) &&& 51)
def g3N (a : Nat) : Nat := (a + a / 16) % 16
theorem g1_le : ∀ a, a < 256 → g1N a < 256 ∧ ((a / 2) &&& 85) ≤ a := by decide +kernel
theorem g1_b : ∀ a, a < 256 → ∀ t, t < 2 → ((a / 2 + 128 * t) &&& 85) = ((a / 2) &&& 85) := by decide +kernel
theorem g2_b : ∀ a, a < 256 → ∀ t, t < 4 → ((a / 4 + 64 * t) &&& 51) = ((a / 4) &&& 51) := by decide +kernel
theorem g2_le : ∀ a, a < 256 → g2N a < 256 := by decide +kernel
theorem g12_le : ∀ a, a < 256 → g2N (g1N a) ≤ 68 := by decide +kernel
theorem g12_4 : ∀ a, a < 256 → g2N (g1N a) % 16 ≤ 4 := by decide +kernel
theorem g3_p : ∀ a, a < 256 → g3N (g2N (g1N a)) = p8 a := by decide +kernel
theorem and15 : ∀ x, x < 256 → x &&& 15 = x % 16 := by decide +kernel
theorem p8_le : ∀ a, a < 256 → p8 a ≤ 8 := by decide +kernel
theorem pop_1 {a b c e : Nat} (ha : a < 256) (hb : b < 256) (hc : c < 256) (he : e < 256) : by4 a b c e - ((by4 a b c e / 2) &&& 1431655765) = by4 (g1N a) (g1N b) (g1N c) (g1N e) ∧ ((by4 a b c e / 2) &&& 1431655765) ≤ by4 a b c e := by
  have e1 : by4 a b c e / 2 = by4 (a / 2 + 128 * (b % 2)) (b / 2 + 128 * (c % 2)) (c / 2 + 128 * (e % 2)) (e / 2 + 128 * 0) := by unfold by4; omega
  have em : (1431655765 : Nat) = by4 85 85 85 85 := rfl
  rw [e1, em, by4_land (by omega) (by omega) (by omega) (by omega), g1_b a ha _ (by omega), g1_b b hb _ (by omega), g1_b c hc _ (by omega), g1_b e he 0 (by omega)]
  have l1 := (g1_le a ha).2
  have l2 := (g1_le b hb).2
  have l3 := (g1_le c hc).2
  have l4 := (g1_le e he).2
  unfold by4 g1N
  constructor <;> omega
theorem pop_2 {a b c e : Nat} (ha : a < 256) (hb : b < 256) (hc : c < 256) (he : e < 256) : (by4 a b c e &&& 858993459) + ((by4 a b c e / 4) &&& 858993459) = by4 (g2N a) (g2N b) (g2N c) (g2N e) := by
  have e1 : by4 a b c e / 4 = by4 (a / 4 + 64 * (b % 4)) (b / 4 + 64 * (c % 4)) (c / 4 + 64 * (e % 4)) (e / 4 + 64 * 0) := by unfold by4; omega
  have em : (858993459 : Nat) = by4 51 51 51 51 := rfl
  rw [e1, em, by4_land ha hb hc (by omega), by4_land (by omega) (by omega) (by omega) (by omega), g2_b a ha _ (by omega), g2_b b hb _ (by omega), g2_b c hc _ (by omega), g2_b e he 0 (by omega)]
  unfold by4 g2N
  omega
theorem pop_3 {a b c e : Nat} (ha : a ≤ 68) (hb : b ≤ 68) (hc : c ≤ 68) (he : e ≤ 68) (hb4 : b % 16 ≤ 4) (hc4 : c % 16 ≤ 4) (he4 : e % 16 ≤ 4) : (by4 a b c e + by4 a b c e / 16) &&& 252645135 = by4 (g3N a) (g3N b) (g3N c) (g3N e) := by
  have e1 : by4 a b c e + by4 a b c e / 16 = by4 (a + a / 16 + 16 * (b % 16)) (b + b / 16 + 16 * (c % 16)) (c + c / 16 + 16 * (e % 16)) (e + e / 16) := by unfold by4; omega
  have em : (252645135 : Nat) = by4 15 15 15 15 := rfl
  rw [e1, em, by4_land (by omega) (by omega) (by omega) (by omega), and15 _ (by omega), and15 _ (by omega), and15 _ (by omega), and15 _ (by omega)]
  unfold g3N
  congr 1 <;> omega
theorem nx_land (a b : Nat) : nI a &&& nI b = nI (a &&& b) := by
  apply Int32.toBitVec_inj.mp
  rw [Int32.toBitVec_and]
  show BitVec.ofNat 32 a &&& BitVec.ofNat 32 b = BitVec.ofNat 32 (a &&& b)
  apply BitVec.eq_of_toNat_eq
  simp [BitVec.toNat_and, Nat.and_mod_two_pow]
def usI (x : Int32) (s : Int32) : Int32 := (x.toUInt32 >>> (s.toUInt32 &&& Int32.toUInt32 31)).toInt32
theorem us_n {n : Nat} (hn : n < 4294967296) (s : Int32) (k : Nat) (hs : ((s.toUInt32 &&& Int32.toUInt32 31).toBitVec % 32).toNat = k) : usI (nI n) s = nI (n / 2 ^ k) := pk_ushrN (by omega) s k hs
def bc1 (x : Int32) : Int32 := x - (usI x 1 &&& 1431655765)
def bc2 (x : Int32) : Int32 := (x &&& 858993459) + (usI x 2 &&& 858993459)
def bc3 (x : Int32) : Int32 := (x + usI x 4) &&& 252645135
def bc4 (x : Int32) : Int32 := (x + usI x 8) + usI (x + usI x 8) 16 &&& 63
def bcI (x : Int32) : Int32 := bc4 (bc3 (bc2 (bc1 x)))
theorem k_bc (d : Nat) (x : Int32) (σ : Hs) : callD (d + 1) 222 [.int x] σ = some (some (.int (bcI x)), σ) := by
  simp only [c222, s222_0, s222_1, s222_2, s222_3, s222_4, s222_7, s222_8, s222_9, s222_10, s222_11, s222_14, s222_15, s222_16, s222_17, s222_18, s222_21, s222_22, s222_23, s222_24, s222_25, s222_26, s222_27, s222_28, s222_29, s222_32, s222_33, s222_34, s222_35, s222_36, s222_38, s222_39, s222_40, s222_41, s222_42, s222_43, s222_45, s222_46, s222_47, s222_48, s222_49, s222_51, s222_52]
  rfl
theorem by4_lt {a b c e : Nat} (ha : a < 256) (hb : b < 256) (hc : c < 256) (he : e < 256) : by4 a b c e < 4294967296 := by unfold by4; omega
theorem and63 (n : Nat) : n &&& 63 = n % 64 := Nat.and_two_pow_sub_one_eq_mod n 6
theorem bcI_n {n : Nat} (hn : n < 4294967296) : bcI (nI n) = nI (pcN n) := by
  obtain ⟨a, b, c, e, ha, hb, hc, he, rfl⟩ := by4_of hn
  rw [pc_by4 ha hb hc he]
  have s1 : bc1 (nI (by4 a b c e)) = nI (by4 (g1N a) (g1N b) (g1N c) (g1N e)) := by
    obtain ⟨q1, q2⟩ := pop_1 ha hb hc he
    unfold bc1
    rw [us_n hn 1 1 (by decide +kernel), show (1431655765 : Int32) = nI 1431655765 from rfl, nx_land, show (2 : Nat) ^ 1 = 2 from rfl, pk_sub q2, q1]
  have a1 := (g1_le a ha).1
  have b1 := (g1_le b hb).1
  have c1 := (g1_le c hc).1
  have e1 := (g1_le e he).1
  have s2 : bc2 (nI (by4 (g1N a) (g1N b) (g1N c) (g1N e))) = nI (by4 (g2N (g1N a)) (g2N (g1N b)) (g2N (g1N c)) (g2N (g1N e))) := by
    unfold bc2
    rw [us_n (by4_lt a1 b1 c1 e1) 2 2 (by decide +kernel), show (858993459 : Int32) = nI 858993459 from rfl, nx_land, nx_land, show (2 : Nat) ^ 2 = 4 from rfl, nI_add, pop_2 a1 b1 c1 e1]
  have a2 := g12_le a ha
  have b2_ := g12_le b hb
  have c2_ := g12_le c hc
  have e2 := g12_le e he
  have s3 : bc3 (nI (by4 (g2N (g1N a)) (g2N (g1N b)) (g2N (g1N c)) (g2N (g1N e)))) = nI (by4 (p8 a) (p8 b) (p8 c) (p8 e)) := by
    unfold bc3
    rw [us_n (by4_lt (by omega) (by omega) (by omega) (by omega)) 4 4 (by decide +kernel), show (252645135 : Int32) = nI 252645135 from rfl, nI_add, nx_land, show (2 : Nat) ^ 4 = 16 from rfl, pop_3 a2 b2_ c2_ e2 (g12_4 b hb) (g12_4 c hc) (g12_4 e he), g3_p a ha, g3_p b hb, g3_p c hc, g3_p e he]
  have a3 := p8_le a ha
  have b3 := p8_le b hb
  have c3 := p8_le c hc
  have e3 := p8_le e he
  have s4 : bc4 (nI (by4 (p8 a) (p8 b) (p8 c) (p8 e))) = nI (p8 a + p8 b + p8 c + p8 e) := by
    generalize p8 a = x at *
    generalize p8 b = y at *
    generalize p8 c = z at *
    generalize p8 e = t at *
    have q : by4 x y z t < 4294967296 := by4_lt (by omega) (by omega) (by omega) (by omega)
    unfold bc4
    have q1 : by4 x y z t + by4 x y z t / 256 = by4 (x + y) (y + z) (z + t) t := by unfold by4; omega
    rw [us_n q 8 8 (by decide +kernel), show (2 : Nat) ^ 8 = 256 from rfl, nI_add, q1, us_n (by4_lt (by omega) (by omega) (by omega) (by omega)) 16 16 (by decide +kernel), show (63 : Int32) = nI 63 from rfl, nI_add, nx_land, show (2 : Nat) ^ 16 = 65536 from rfl, and63]
    congr 1
    have q2 : by4 (x + y) (y + z) (z + t) t / 65536 = z + t + 256 * t := by unfold by4; omega
    have q3 : by4 (x + y) (y + z) (z + t) t = x + y + 64 * (4 * (y + z + 256 * (z + t + 256 * t))) := by unfold by4; omega
    rw [q2, q3]
    omega
  unfold bcI
  rw [s1, s2, s3, s4]
/-! one bit after the other -/
theorem p8_k : ∀ a, a < 256 → a ≠ 0 → p8 (a &&& (a - 1)) + 1 = p8 a ∧ (a &&& (a - 1)) < 256 := by decide +kernel
theorem p8_0 : ∀ a, a < 256 → (p8 a = 0 ↔ a = 0) := by decide +kernel
theorem a255 : ∀ a, a < 256 → a &&& 255 = a := by decide +kernel
theorem pc_k {n : Nat} (hn : n < 4294967296) (h0 : n ≠ 0) : pcN (n &&& (n - 1)) + 1 = pcN n ∧ n &&& (n - 1) < 4294967296 := by
  refine ⟨?_, Nat.lt_of_le_of_lt Nat.and_le_left hn⟩
  obtain ⟨a, b, c, e, ha, hb, hc, he, rfl⟩ := by4_of hn
  have self : ∀ x : Nat, x &&& x = x := Nat.and_self
  by_cases ha0 : a ≠ 0
  · have e1 : by4 a b c e - 1 = by4 (a - 1) b c e := by unfold by4; omega
    have e2 : by4 a b c e &&& by4 (a - 1) b c e = by4 (a &&& (a - 1)) b c e := by
      unfold by4
      rw [land2 ha (by omega), self]
    obtain ⟨k1, k2⟩ := p8_k a ha ha0
    rw [e1, e2, pc_by4 k2 hb hc he, pc_by4 ha hb hc he]
    omega
  · have ha0 : a = 0 := Classical.not_not.mp ha0
    subst ha0
    by_cases hb0 : b ≠ 0
    · have e1 : by4 0 b c e - 1 = by4 255 (b - 1) c e := by unfold by4; omega
      have e2 : by4 0 b c e &&& by4 255 (b - 1) c e = by4 0 (b &&& (b - 1)) c e := by
        unfold by4
        rw [land2 ha (by omega), land2 hb (by omega), self]
        rfl
      obtain ⟨k1, k2⟩ := p8_k b hb hb0
      rw [e1, e2, pc_by4 ha k2 hc he, pc_by4 ha hb hc he]
      omega
    · have hb0 : b = 0 := Classical.not_not.mp hb0
      subst hb0
      by_cases hc0 : c ≠ 0
      · have e1 : by4 0 0 c e - 1 = by4 255 255 (c - 1) e := by unfold by4; omega
        have e2 : by4 0 0 c e &&& by4 255 255 (c - 1) e = by4 0 0 (c &&& (c - 1)) e := by
          unfold by4
          rw [land2 ha (by omega), land2 hb (by omega), land2 hc (by omega), self]
          rfl
        obtain ⟨k1, k2⟩ := p8_k c hc hc0
        rw [e1, e2, pc_by4 ha hb k2 he, pc_by4 ha hb hc he]
        omega
      · have hc0 : c = 0 := Classical.not_not.mp hc0
        subst hc0
        have he0 : e ≠ 0 := by
          intro q
          subst q
          exact h0 rfl
        have e1 : by4 0 0 0 e - 1 = by4 255 255 255 (e - 1) := by unfold by4; omega
        have e2 : by4 0 0 0 e &&& by4 255 255 255 (e - 1) = by4 0 0 0 (e &&& (e - 1)) := by
          unfold by4
          rw [land2 ha (by omega), land2 hb (by omega), land2 hc (by omega)]
          rfl
        obtain ⟨k1, k2⟩ := p8_k e he he0
        rw [e1, e2, pc_by4 ha hb hc k2, pc_by4 ha hb hc he]
        omega
theorem pc_0 {n : Nat} (hn : n < 4294967296) (h : pcN n = 0) : n = 0 := by
  obtain ⟨a, b, c, e, ha, hb, hc, he, rfl⟩ := by4_of hn
  rw [pc_by4 ha hb hc he] at h
  have h1 := (p8_0 a ha).mp (by omega)
  have h2 := (p8_0 b hb).mp (by omega)
  have h3 := (p8_0 c hc).mp (by omega)
  have h4 := (p8_0 e he).mp (by omega)
  subst h1; subst h2; subst h3; subst h4
  rfl
theorem m_bits_l (d : Nat) (i0 : Int32) (σ : Hs) : ∀ m n cnt, n < 2147483648 → pcN n = m → ru d 190 4 [.int i0, .int (nI cnt), .int (nI n)] [] σ = some (some (.int (nI (cnt + m))), σ) := by
  intro m
  induction m with
  | zero =>
    intro n cnt hn hp
    have := pc_0 (by omega) hp
    subst this
    simp only [s190_4]
    simp only [s190_5, s190_20, s190_21, show (nI 0 = 0) = True from eq_true rfl, Nat.add_zero, simprocAttr, if_true, if_false, true_and, and_true, false_and, and_false, not_false_eq_true, not_true_eq_false, gd_T, kont_i, kont_v]
  | succ m ih =>
    intro n cnt hn hp
    have n0 : n ≠ 0 := by
      intro q
      subst q
      have : pcN 0 = 0 := by decide +kernel
      omega
    obtain ⟨k1, k2⟩ := pc_k (by omega) n0
    have hlt : n &&& (n - 1) < 2147483648 := Nat.lt_of_le_of_lt Nat.and_le_left hn
    have hi := ih (n &&& (n - 1)) (cnt + 1) hlt (by omega)
    have nz : (nI n = 0) = False := eq_false (nI_ne0 (by omega) (by omega))
    have es : nI n - 1 = nI (n - 1) := by rw [show (1 : Int32) = nI 1 from rfl, pk_sub (by omega)]
    rw [show cnt + (m + 1) = cnt + 1 + m by omega]
    simp only [s190_4]
    simp only [s190_5, s190_8, s190_11, s190_12, s190_13, s190_14, s190_15, s190_16, s190_17, nz, es, nx_land, nI_1, hi, simprocAttr, if_true, if_false, true_and, and_true, false_and, and_false, not_false_eq_true, not_true_eq_false, gd_T, kont_i, kont_v]
theorem m_bits (d n : Nat) (hn : n < 2147483648) (σ : Hs) : callD (d + 1) 190 [.int (nI n)] σ = some (some (.int (nI (pcN n))), σ) := by
  have hl := m_bits_l d (nI n) σ (pcN n) n 0 hn rfl
  rw [Nat.zero_add, n_0] at hl
  simp only [s190_0, s190_1, s190_2, s190_3, c190]
  exact hl
