/-! ===== the evaluator, by equations ===== -/
noncomputable def ru (d m pc : Nat) (L st : List Value) (σ : Hs) : Rs := runE (callD d) m pc L st σ
noncomputable def kont (r : Rs) (d m pc : Nat) (L st : List Value) : Rs := r.bind fun a => ru d m pc L (a.1.toList ++ st) a.2
theorem kont_i (v : Value) (σ : Hs) (d m pc : Nat) (L st : List Value) : kont (some (some v, σ)) d m pc L st = ru d m pc L (v :: st) σ := rfl
theorem kont_v (σ : Hs) (d m pc : Nat) (L st : List Value) : kont (some (none, σ)) d m pc L st = ru d m pc L st σ := rfl
theorem gd_T {α : Type} (x : Option α) : gd True x = x := gd_pos trivial
def jmax (x y : Int32) : Int32 := if x < y then y else x
def jmin (x y : Int32) : Int32 := if y < x then y else x
def jminL (x y : Int64) : Int64 := if y < x then y else x
def isB (x : Int32) : Prop := x = 0 ∨ x = 1
theorem isB_nar {x : Int32} (h : isB x) : narrow .boolean (.int x) = .int x := by rcases h with rfl | rfl <;> rfl
theorem isB_fit {x : Int32} (h : isB x) : fits .boolean (.int x) = true := by rcases h with rfl | rfl <;> rfl
theorem isB_vp {x : Int32} (h : isB x) : vp_nar .boolean x = x := by rcases h with rfl | rfl <;> rfl
theorem isB_0 : isB 0 = True := eq_true (Or.inl rfl)
theorem isB_1 : isB 1 = True := eq_true (Or.inr rfl)
theorem isB_ite (c : Prop) [Decidable c] : isB (if c then 1 else 0) = True := eq_true (by by_cases h : c <;> simp [h, isB])
theorem nb_0 : vp_nar .boolean 0 = 0 := by decide +kernel
theorem nb_1 : vp_nar .boolean 1 = 1 := by decide +kernel
theorem ru_step {d m pc : Nat} {L st : List Value} {σ : Hs} {pc2 : Nat} {L2 st2 : List Value} {σ2 : Hs} {ins : Instr} {len : Nat} (hd : decode (mb m) pc = .ok (ins, len)) (h : opI (callD d) m pc L st σ ins len = some (.inl (pc2, L2, st2, σ2))) : ru d m pc L st σ = ru d m pc2 L2 st2 σ2 := by
  refine runE_step ?_
  unfold stepI
  rw [hd]
  exact h
theorem ru_end {d m pc : Nat} {L st : List Value} {σ : Hs} {q : Option Value × Hs} {ins : Instr} {len : Nat} (hd : decode (mb m) pc = .ok (ins, len)) (h : opI (callD d) m pc L st σ ins len = some (.inr q)) : ru d m pc L st σ = some q := by
  refine runE_end ?_
  unfold stepI
  rw [hd]
  exact h
theorem ru_stuck {d m pc : Nat} {L st : List Value} {σ : Hs} {ins : Instr} {len : Nat} (hd : decode (mb m) pc = .ok (ins, len)) (h : opI (callD d) m pc L st σ ins len = none) : ru d m pc L st σ = none := by
  refine runE_stuck ?_
  unfold stepI
  rw [hd]
  exact h
/-- a step that stands under a test -/
theorem ru_gd {d m pc : Nat} {L st : List Value} {σ : Hs} {pc2 : Nat} {L2 st2 : List Value} {σ2 : Hs} {ins : Instr} {len : Nat} {P : Prop} (hd : decode (mb m) pc = .ok (ins, len)) (h : opI (callD d) m pc L st σ ins len = gd P (some (.inl (pc2, L2, st2, σ2)))) : ru d m pc L st σ = gd P (ru d m pc2 L2 st2 σ2) := by
  by_cases hP : P
  · rw [gd_pos hP]; rw [gd_pos hP] at h; exact ru_step hd h
  · rw [gd_neg hP]; rw [gd_neg hP] at h; exact ru_stuck hd h
theorem ru_kont {d m pc : Nat} {L st : List Value} {σ : Hs} {pc2 : Nat} {st2 : List Value} {ins : Instr} {len : Nat} {r : Rs} (hd : decode (mb m) pc = .ok (ins, len)) (h : opI (callD d) m pc L st σ ins len = r.bind fun a => some (.inl (pc2, L, a.1.toList ++ st2, a.2))) : ru d m pc L st σ = kont r d m pc2 L st2 := by
  cases r with
  | none => exact ru_stuck hd h
  | some a => exact ru_step hd h
section QR
variable {d m pc : Nat} {L st : List Value} {σ : Hs}
theorem q_iconst {n : Int} {v : Int32} (hd : decode (mb m) pc = .ok (.iconst n, 1)) (hv : Int32.ofInt n = v) : ru d m pc L st σ = ru d m (pc + 1) L (.int v :: st) σ := by subst hv; exact ru_step hd (gd_pos rfl)
theorem q_bipush {n : Int} {v : Int32} (hd : decode (mb m) pc = .ok (.bipush n, 2)) (hv : (Int8.ofInt n).toInt32 = v) : ru d m pc L st σ = ru d m (pc + 2) L (.int v :: st) σ := by subst hv; exact ru_step hd (gd_pos rfl)
theorem q_sipush {n : Int} {v : Int32} (hd : decode (mb m) pc = .ok (.sipush n, 3)) (hv : (Int16.ofInt n).toInt32 = v) : ru d m pc L st σ = ru d m (pc + 3) L (.int v :: st) σ := by subst hv; exact ru_step hd (gd_pos rfl)
theorem q_lconst {n : Fin 2} {v : Int64} (hd : decode (mb m) pc = .ok (.lconst n, 1)) (hv : Int64.ofNat (n : Nat) = v) : ru d m pc L st σ = ru d m (pc + 1) L (.long v :: st) σ := by subst hv; exact ru_step hd (gd_pos rfl)
theorem q_iload_n {k : Fin 4} {x : Int32} (hd : decode (mb m) pc = .ok (.iload_n k, 1)) (hL : L[(k : Nat)]? = some (.int x)) : ru d m pc L st σ = ru d m (pc + 1) L (.int x :: st) σ := ru_step hd ((gd_pos rfl).trans (by rw [hL]; rfl))
theorem q_lload_n {k : Fin 4} {x : Int64} (hd : decode (mb m) pc = .ok (.lload_n k, 1)) (hL : L[(k : Nat)]? = some (.long x)) : ru d m pc L st σ = ru d m (pc + 1) L (.long x :: st) σ := ru_step hd ((gd_pos rfl).trans (by rw [hL]; rfl))
theorem q_aload_n {k : Fin 4} {x : Nat} (hd : decode (mb m) pc = .ok (.aload_n k, 1)) (hL : L[(k : Nat)]? = some (.ref x)) : ru d m pc L st σ = ru d m (pc + 1) L (.ref x :: st) σ := ru_step hd ((gd_pos rfl).trans (by rw [hL]; rfl))
theorem q_iload {k : Nat} {x : Int32} (hd : decode (mb m) pc = .ok (.iload k, 2)) (hL : L[k]? = some (.int x)) : ru d m pc L st σ = ru d m (pc + 2) L (.int x :: st) σ := ru_step hd ((gd_pos rfl).trans (by rw [hL]; rfl))
theorem q_lload {k : Nat} {x : Int64} (hd : decode (mb m) pc = .ok (.lload k, 2)) (hL : L[k]? = some (.long x)) : ru d m pc L st σ = ru d m (pc + 2) L (.long x :: st) σ := ru_step hd ((gd_pos rfl).trans (by rw [hL]; rfl))
theorem q_aload {k : Nat} {x : Nat} (hd : decode (mb m) pc = .ok (.aload k, 2)) (hL : L[k]? = some (.ref x)) : ru d m pc L st σ = ru d m (pc + 2) L (.ref x :: st) σ := ru_step hd ((gd_pos rfl).trans (by rw [hL]; rfl))
theorem q_istore_n {k : Fin 4} {x : Int32} {L2 : List Value} (hd : decode (mb m) pc = .ok (.istore_n k, 1)) (ho : okS L (k : Nat)) (hL : L.set (k : Nat) (.int x) = L2) : ru d m pc L (.int x :: st) σ = ru d m (pc + 1) L2 st σ := by subst hL; exact ru_step hd (gd_pos ⟨rfl, ho⟩)
theorem q_istore {k : Nat} {x : Int32} {L2 : List Value} (hd : decode (mb m) pc = .ok (.istore k, 2)) (ho : okS L k) (hL : L.set k (.int x) = L2) : ru d m pc L (.int x :: st) σ = ru d m (pc + 2) L2 st σ := by subst hL; exact ru_step hd (gd_pos ⟨rfl, ho⟩)
theorem q_astore_n {k : Fin 4} {x : Nat} {L2 : List Value} (hd : decode (mb m) pc = .ok (.astore_n k, 1)) (ho : okS L (k : Nat)) (hL : L.set (k : Nat) (.ref x) = L2) : ru d m pc L (.ref x :: st) σ = ru d m (pc + 1) L2 st σ := by subst hL; exact ru_step hd (gd_pos ⟨rfl, ho⟩)
theorem q_astore {k : Nat} {x : Nat} {L2 : List Value} (hd : decode (mb m) pc = .ok (.astore k, 2)) (ho : okS L k) (hL : L.set k (.ref x) = L2) : ru d m pc L (.ref x :: st) σ = ru d m (pc + 2) L2 st σ := by subst hL; exact ru_step hd (gd_pos ⟨rfl, ho⟩)
theorem q_lstore_n {k : Fin 4} {x : Int64} {L2 : List Value} (hd : decode (mb m) pc = .ok (.lstore_n k, 1)) (ho : okS2 L (k : Nat)) (hL : (L.set (k : Nat) (.long x)).set ((k : Nat) + 1) uu = L2) : ru d m pc L (.long x :: st) σ = ru d m (pc + 1) L2 st σ := by subst hL; exact ru_step hd (gd_pos ⟨rfl, ho⟩)
theorem q_lstore {k : Nat} {x : Int64} {L2 : List Value} (hd : decode (mb m) pc = .ok (.lstore k, 2)) (ho : okS2 L k) (hL : (L.set k (.long x)).set (k + 1) uu = L2) : ru d m pc L (.long x :: st) σ = ru d m (pc + 2) L2 st σ := by subst hL; exact ru_step hd (gd_pos ⟨rfl, ho⟩)
theorem q_iinc {i : Nat} {n : Int} {v x : Int32} {L2 : List Value} (hd : decode (mb m) pc = .ok (.iinc i n, 3)) (ho : okS L i) (hL : L[i]? = some (.int x)) (hv : Int32.ofInt n = v) (h2 : L.set i (.int (x + v)) = L2) : ru d m pc L st σ = ru d m (pc + 3) L2 st σ := by subst hv; subst h2; exact ru_step hd ((gd_pos ⟨rfl, ho⟩).trans (by rw [hL]; rfl))
theorem q_iadd {x y : Int32} (hd : decode (mb m) pc = .ok (.iadd, 1)) : ru d m pc L (.int y :: .int x :: st) σ = ru d m (pc + 1) L (.int (x + y) :: st) σ := ru_step hd (gd_pos rfl)
theorem q_isub {x y : Int32} (hd : decode (mb m) pc = .ok (.isub, 1)) : ru d m pc L (.int y :: .int x :: st) σ = ru d m (pc + 1) L (.int (x - y) :: st) σ := ru_step hd (gd_pos rfl)
theorem q_imul {x y : Int32} (hd : decode (mb m) pc = .ok (.imul, 1)) : ru d m pc L (.int y :: .int x :: st) σ = ru d m (pc + 1) L (.int (x * y) :: st) σ := ru_step hd (gd_pos rfl)
theorem q_iand {x y : Int32} (hd : decode (mb m) pc = .ok (.iand, 1)) : ru d m pc L (.int y :: .int x :: st) σ = ru d m (pc + 1) L (.int (x &&& y) :: st) σ := ru_step hd (gd_pos rfl)
theorem q_ior {x y : Int32} (hd : decode (mb m) pc = .ok (.ior, 1)) : ru d m pc L (.int y :: .int x :: st) σ = ru d m (pc + 1) L (.int (x ||| y) :: st) σ := ru_step hd (gd_pos rfl)
theorem q_ixor {x y : Int32} (hd : decode (mb m) pc = .ok (.ixor, 1)) : ru d m pc L (.int y :: .int x :: st) σ = ru d m (pc + 1) L (.int (x ^^^ y) :: st) σ := ru_step hd (gd_pos rfl)
theorem q_ishl {x y : Int32} (hd : decode (mb m) pc = .ok (.ishl, 1)) : ru d m pc L (.int y :: .int x :: st) σ = ru d m (pc + 1) L (.int (x <<< (y &&& 31)) :: st) σ := ru_step hd (gd_pos rfl)
theorem q_ishr {x y : Int32} (hd : decode (mb m) pc = .ok (.ishr, 1)) : ru d m pc L (.int y :: .int x :: st) σ = ru d m (pc + 1) L (.int (x >>> (y &&& 31)) :: st) σ := ru_step hd (gd_pos rfl)
theorem q_iushr {x y : Int32} (hd : decode (mb m) pc = .ok (.iushr, 1)) : ru d m pc L (.int y :: .int x :: st) σ = ru d m (pc + 1) L (.int (x.toUInt32 >>> (y.toUInt32 &&& Int32.toUInt32 31)).toInt32 :: st) σ := ru_step hd (gd_pos rfl)
theorem q_idiv {x y : Int32} (hd : decode (mb m) pc = .ok (.idiv, 1)) : ru d m pc L (.int y :: .int x :: st) σ = gd (¬ y = 0) (ru d m (pc + 1) L (.int (x / y) :: st) σ) := ru_gd hd (gd_pos rfl)
theorem q_irem {x y : Int32} (hd : decode (mb m) pc = .ok (.irem, 1)) : ru d m pc L (.int y :: .int x :: st) σ = gd (¬ y = 0) (ru d m (pc + 1) L (.int (x - x / y * y) :: st) σ) := ru_gd hd (gd_pos rfl)
theorem q_ineg {x : Int32} (hd : decode (mb m) pc = .ok (.ineg, 1)) : ru d m pc L (.int x :: st) σ = ru d m (pc + 1) L (.int (-x) :: st) σ := ru_step hd (gd_pos rfl)
theorem q_ladd {x y : Int64} (hd : decode (mb m) pc = .ok (.ladd, 1)) : ru d m pc L (.long y :: .long x :: st) σ = ru d m (pc + 1) L (.long (x + y) :: st) σ := ru_step hd (gd_pos rfl)
theorem q_lmul {x y : Int64} (hd : decode (mb m) pc = .ok (.lmul, 1)) : ru d m pc L (.long y :: .long x :: st) σ = ru d m (pc + 1) L (.long (x * y) :: st) σ := ru_step hd (gd_pos rfl)
theorem q_ldiv {x y : Int64} (hd : decode (mb m) pc = .ok (.ldiv, 1)) : ru d m pc L (.long y :: .long x :: st) σ = gd (¬ y = 0) (ru d m (pc + 1) L (.long (x / y) :: st) σ) := ru_gd hd (gd_pos rfl)
theorem q_land {x y : Int64} (hd : decode (mb m) pc = .ok (.land, 1)) : ru d m pc L (.long y :: .long x :: st) σ = ru d m (pc + 1) L (.long (x &&& y) :: st) σ := ru_step hd (gd_pos rfl)
theorem q_lcmp {x y : Int64} (hd : decode (mb m) pc = .ok (.lcmp, 1)) : ru d m pc L (.long y :: .long x :: st) σ = ru d m (pc + 1) L (.int (lg_cmp x y) :: st) σ := ru_step hd (gd_pos rfl)
theorem q_lushr {x : Int64} {y : Int32} (hd : decode (mb m) pc = .ok (.lushr, 1)) : ru d m pc L (.int y :: .long x :: st) σ = ru d m (pc + 1) L (.long (x.toUInt64 >>> (y.toInt64.toUInt64 &&& Int64.toUInt64 63)).toInt64 :: st) σ := ru_step hd (gd_pos rfl)
theorem q_lshr {x : Int64} {y : Int32} (hd : decode (mb m) pc = .ok (.lshr, 1)) : ru d m pc L (.int y :: .long x :: st) σ = ru d m (pc + 1) L (.long (x >>> (y.toInt64 &&& 63)) :: st) σ := ru_step hd (gd_pos rfl)
theorem q_i2l {x : Int32} (hd : decode (mb m) pc = .ok (.i2l, 1)) : ru d m pc L (.int x :: st) σ = ru d m (pc + 1) L (.long x.toInt64 :: st) σ := ru_step hd (gd_pos rfl)
theorem q_l2i {x : Int64} (hd : decode (mb m) pc = .ok (.l2i, 1)) : ru d m pc L (.long x :: st) σ = ru d m (pc + 1) L (.int x.toInt32 :: st) σ := ru_step hd (gd_pos rfl)
theorem q_i2b {x : Int32} (hd : decode (mb m) pc = .ok (.i2b, 1)) : ru d m pc L (.int x :: st) σ = ru d m (pc + 1) L (.int x.toInt8.toInt32 :: st) σ := ru_step hd (gd_pos rfl)
theorem q_i2s {x : Int32} (hd : decode (mb m) pc = .ok (.i2s, 1)) : ru d m pc L (.int x :: st) σ = ru d m (pc + 1) L (.int x.toInt16.toInt32 :: st) σ := ru_step hd (gd_pos rfl)
theorem q_i2c {x : Int32} (hd : decode (mb m) pc = .ok (.i2c, 1)) : ru d m pc L (.int x :: st) σ = ru d m (pc + 1) L (.int (x.toUInt32 % 65536).toInt32 :: st) σ := ru_step hd (gd_pos rfl)
theorem q_dup {v : Value} (hd : decode (mb m) pc = .ok (.dup, 1)) (hv : v.category = 1) : ru d m pc L (v :: st) σ = ru d m (pc + 1) L (v :: v :: st) σ := ru_step hd ((gd_pos rfl).trans (gd_pos hv))
theorem q_pop {v : Value} (hd : decode (mb m) pc = .ok (.pop, 1)) (hv : v.category = 1) : ru d m pc L (v :: st) σ = ru d m (pc + 1) L st σ := ru_step hd ((gd_pos rfl).trans (gd_pos hv))
theorem q_dup2 {v w : Value} (hd : decode (mb m) pc = .ok (.dup2, 1)) (hv : v.category = 1) (hw : w.category = 1) : ru d m pc L (v :: w :: st) σ = ru d m (pc + 1) L (v :: w :: v :: w :: st) σ := ru_step hd ((gd_pos rfl).trans (gd_pos ⟨hv, hw⟩))
theorem q_goto {off : Int} {t : Nat} (hd : decode (mb m) pc = .ok (.goto off, 3)) (ht : tgt pc off = some t) : ru d m pc L st σ = ru d m t L st σ := ru_step hd ((gd_pos rfl).trans (by rw [ht]; rfl))
theorem q_if {c : ClassFile.Cond} {off : Int} {t : Nat} {x : Int32} (hd : decode (mb m) pc = .ok (.ifCond c off, 3)) (ht : tgt pc off = some t) : ru d m pc L (.int x :: st) σ = ru d m (if cnd c x 0 = true then t else pc + 3) L st σ := ru_step hd ((gd_pos rfl).trans (by rw [ht]; rfl))
theorem q_ic {c : ClassFile.Cond} {off : Int} {t : Nat} {x y : Int32} (hd : decode (mb m) pc = .ok (.if_icmp c off, 3)) (ht : tgt pc off = some t) : ru d m pc L (.int y :: .int x :: st) σ = ru d m (if cnd c x y = true then t else pc + 3) L st σ := ru_step hd ((gd_pos rfl).trans (by rw [ht]; rfl))
theorem q_br {P : Prop} [Decidable P] {b : Bool} {t u : Nat} (h : (b = true) = P) : ru d m (if b = true then t else u) L st σ = if P then ru d m t L st σ else ru d m u L st σ := by
  by_cases hP : P
  · rw [if_pos hP, if_pos (h.mpr hP)]
  · rw [if_neg hP, if_neg (fun q => hP (h.mp q))]
theorem q_brn {P : Prop} [Decidable P] {b : Bool} {t u : Nat} (h : (b = true) = ¬ P) : ru d m (if b = true then t else u) L st σ = if P then ru d m u L st σ else ru d m t L st σ := by
  by_cases hP : P
  · rw [if_pos hP, if_neg (fun q => (h.mp q) hP)]
  · rw [if_neg hP, if_pos (h.mpr hP)]
theorem cnd_eq {x y : Int32} : (cnd .eq x y = true) = (x = y) := by simp [cnd]
theorem cnd_ne {x y : Int32} : (cnd .ne x y = true) = ¬ (x = y) := by simp [cnd]
theorem cnd_lt {x y : Int32} : (cnd .lt x y = true) = (x < y) := by simp [cnd]
theorem cnd_ge {x y : Int32} : (cnd .ge x y = true) = (y ≤ x) := by simp [cnd]
theorem cnd_gt {x y : Int32} : (cnd .gt x y = true) = (y < x) := by simp [cnd]
theorem cnd_le {x y : Int32} : (cnd .le x y = true) = (x ≤ y) := by simp [cnd]
theorem q_if_eq {off : Int} {t : Nat} {x : Int32} (hd : decode (mb m) pc = .ok (.ifCond .eq off, 3)) (ht : tgt pc off = some t) : ru d m pc L (.int x :: st) σ = if x = 0 then ru d m t L st σ else ru d m (pc + 3) L st σ := (q_if hd ht).trans (q_br cnd_eq)
theorem q_if_ne {off : Int} {t : Nat} {x : Int32} (hd : decode (mb m) pc = .ok (.ifCond .ne off, 3)) (ht : tgt pc off = some t) : ru d m pc L (.int x :: st) σ = if x = 0 then ru d m (pc + 3) L st σ else ru d m t L st σ := (q_if hd ht).trans (q_brn cnd_ne)
theorem q_if_lt {off : Int} {t : Nat} {x : Int32} (hd : decode (mb m) pc = .ok (.ifCond .lt off, 3)) (ht : tgt pc off = some t) : ru d m pc L (.int x :: st) σ = if x < 0 then ru d m t L st σ else ru d m (pc + 3) L st σ := (q_if hd ht).trans (q_br cnd_lt)
theorem q_if_ge {off : Int} {t : Nat} {x : Int32} (hd : decode (mb m) pc = .ok (.ifCond .ge off, 3)) (ht : tgt pc off = some t) : ru d m pc L (.int x :: st) σ = if 0 ≤ x then ru d m t L st σ else ru d m (pc + 3) L st σ := (q_if hd ht).trans (q_br cnd_ge)
theorem q_if_gt {off : Int} {t : Nat} {x : Int32} (hd : decode (mb m) pc = .ok (.ifCond .gt off, 3)) (ht : tgt pc off = some t) : ru d m pc L (.int x :: st) σ = if 0 < x then ru d m t L st σ else ru d m (pc + 3) L st σ := (q_if hd ht).trans (q_br cnd_gt)
theorem q_if_le {off : Int} {t : Nat} {x : Int32} (hd : decode (mb m) pc = .ok (.ifCond .le off, 3)) (ht : tgt pc off = some t) : ru d m pc L (.int x :: st) σ = if x ≤ 0 then ru d m t L st σ else ru d m (pc + 3) L st σ := (q_if hd ht).trans (q_br cnd_le)
theorem q_ic_eq {off : Int} {t : Nat} {x y : Int32} (hd : decode (mb m) pc = .ok (.if_icmp .eq off, 3)) (ht : tgt pc off = some t) : ru d m pc L (.int y :: .int x :: st) σ = if x = y then ru d m t L st σ else ru d m (pc + 3) L st σ := (q_ic hd ht).trans (q_br cnd_eq)
theorem q_ic_ne {off : Int} {t : Nat} {x y : Int32} (hd : decode (mb m) pc = .ok (.if_icmp .ne off, 3)) (ht : tgt pc off = some t) : ru d m pc L (.int y :: .int x :: st) σ = if x = y then ru d m (pc + 3) L st σ else ru d m t L st σ := (q_ic hd ht).trans (q_brn cnd_ne)
theorem q_ic_lt {off : Int} {t : Nat} {x y : Int32} (hd : decode (mb m) pc = .ok (.if_icmp .lt off, 3)) (ht : tgt pc off = some t) : ru d m pc L (.int y :: .int x :: st) σ = if x < y then ru d m t L st σ else ru d m (pc + 3) L st σ := (q_ic hd ht).trans (q_br cnd_lt)
theorem q_ic_ge {off : Int} {t : Nat} {x y : Int32} (hd : decode (mb m) pc = .ok (.if_icmp .ge off, 3)) (ht : tgt pc off = some t) : ru d m pc L (.int y :: .int x :: st) σ = if y ≤ x then ru d m t L st σ else ru d m (pc + 3) L st σ := (q_ic hd ht).trans (q_br cnd_ge)
theorem q_ic_gt {off : Int} {t : Nat} {x y : Int32} (hd : decode (mb m) pc = .ok (.if_icmp .gt off, 3)) (ht : tgt pc off = some t) : ru d m pc L (.int y :: .int x :: st) σ = if y < x then ru d m t L st σ else ru d m (pc + 3) L st σ := (q_ic hd ht).trans (q_br cnd_gt)
theorem q_ic_le {off : Int} {t : Nat} {x y : Int32} (hd : decode (mb m) pc = .ok (.if_icmp .le off, 3)) (ht : tgt pc off = some t) : ru d m pc L (.int y :: .int x :: st) σ = if x ≤ y then ru d m t L st σ else ru d m (pc + 3) L st σ := (q_ic hd ht).trans (q_br cnd_le)
theorem q_tsw {df lo hi : Int} {offs : Array Int} {len : Nat} {x : Int32} (hd : decode (mb m) pc = .ok (.tableswitch df lo hi offs, len)) (f : Int32 → Nat) (h : (tsw lo hi offs df x.toInt).bind (tgt pc) = some (f x)) : ru d m pc L (.int x :: st) σ = ru d m (f x) L st σ := by
  refine ru_step hd ?_
  obtain ⟨off, h1, h2⟩ := Option.bind_eq_some_iff.mp h
  show (tsw lo hi offs df x.toInt).bind (fun off => (tgt pc off).bind fun t => (some (.inl (t, L, st, σ)) : Option Sr)) = _
  rw [h1, Option.bind_some, h2]
  rfl
theorem q_lsw {df : Int} {ps : Array (Int × Int)} {len : Nat} {x : Int32} (hd : decode (mb m) pc = .ok (.lookupswitch df ps, len)) (hs : srt ps = true) (f : Int32 → Nat) (h : tgt pc (Op.lookupswitch.offset ps.toList df x.toInt) = some (f x)) : ru d m pc L (.int x :: st) σ = ru d m (f x) L st σ := by
  refine ru_step hd ?_
  show gd (srt ps = true) ((tgt pc (Op.lookupswitch.offset ps.toList df x.toInt)).bind fun t => (some (.inl (t, L, st, σ)) : Option Sr)) = _
  rw [gd_pos hs, h]
  rfl
theorem q_getf {i o c k pl : Nat} {v : Value} (hd : decode (mb m) pc = .ok (.getfield i, 3)) {ow0 : Nat} (hm : mo m = ow0) (hq : lkF ow0 i = some (c, k, pl)) (ho : obk o c = true) (hv : (if o < 104 then fv σ o c k else if k = 0 then .ref (o + 12) else .int 0) = v) : ru d m pc L (.ref o :: st) σ = ru d m (pc + 3) L (v :: st) σ := by
  subst hv
  refine ru_step hd ((gd_pos rfl).trans ?_)
  show (lkF (mo m) i).bind _ = _
  rw [hm, hq]
  exact gd_pos ho
theorem q_puti {i o c k pl : Nat} {x : Int32} (hd : decode (mb m) pc = .ok (.putfield i, 3)) {ow0 : Nat} (hm : mo m = ow0) (hq : lkF ow0 i = some (c, k, pl)) (ho : o < 104 ∧ (shp o).1 = c) (hk : fk c k = 0) (ht : fty c k = .int) : ru d m pc L (.int x :: .ref o :: st) σ = ru d m (pc + 3) L st (up2 σ o k x) := by
  refine ru_step hd ((gd_pos rfl).trans ?_)
  show (lkF (mo m) i).bind _ = _
  rw [hm, hq]
  refine (gd_pos ho).trans (gd_pos ⟨Or.inl hk, ?_, ?_⟩) <;> rw [ht] <;> rfl
theorem q_putz {i o c k pl : Nat} {x : Int32} (hd : decode (mb m) pc = .ok (.putfield i, 3)) {ow0 : Nat} (hm : mo m = ow0) (hq : lkF ow0 i = some (c, k, pl)) (ho : o < 104 ∧ (shp o).1 = c) (hk : fk c k = 1) (ht : fty c k = .boolean) (hx : isB x) : ru d m pc L (.int x :: .ref o :: st) σ = ru d m (pc + 3) L st (up2 σ o k x) := by
  refine ru_step hd ((gd_pos rfl).trans ?_)
  show (lkF (mo m) i).bind _ = _
  rw [hm, hq]
  refine (gd_pos ho).trans (gd_pos ⟨Or.inr hk, ?_, ?_⟩) <;> rw [ht]
  · exact isB_nar hx
  · exact isB_fit hx
theorem q_putr {i o c k pl b : Nat} {w : Int32} (hd : decode (mb m) pc = .ok (.putfield i, 3)) {ow0 : Nat} (hm : mo m = ow0) (hq : lkF ow0 i = some (c, k, pl)) (ho : o < 104 ∧ (shp o).1 = c) (hk : fk c k = 3) (hb : b < 2 ^ 31) (hw : Int32.ofNat b = w) : ru d m pc L (.ref b :: .ref o :: st) σ = ru d m (pc + 3) L st (up2 σ o k w) := by
  subst hw
  refine ru_step hd ((gd_pos rfl).trans ?_)
  show (lkF (mo m) i).bind _ = _
  rw [hm, hq]
  exact (gd_pos ho).trans (gd_pos ⟨hk, hb⟩)
theorem q_gets {i k pl : Nat} {v : Value} (hd : decode (mb m) pc = .ok (.getstatic i, 3)) {ow0 : Nat} (hm : mo m = ow0) (hq : lkS ow0 i = some (k, pl)) (hv : stv k = v) : ru d m pc L st σ = ru d m (pc + 3) L (v :: st) σ := by
  subst hv
  refine ru_step hd ((gd_pos rfl).trans ?_)
  show (lkS (mo m) i).bind _ = _
  rw [hm, hq]
  rfl
theorem q_ldc {i pl : Nat} {v : Value} (hd : decode (mb m) pc = .ok (.ldc i, 2)) {ow0 : Nat} (hm : mo m = ow0) (hq : lkC ow0 i = some (v, pl)) : ru d m pc L st σ = ru d m (pc + 2) L (v :: st) σ := by
  refine ru_step hd ((gd_pos rfl).trans ?_)
  show (lkC (mo m) i).bind _ = _
  rw [hm, hq]
  rfl
theorem q_ldcw {i pl : Nat} {v : Int32} (hd : decode (mb m) pc = .ok (.ldc_w i, 3)) {ow0 : Nat} (hm : mo m = ow0) (hq : lkC ow0 i = some (.int v, pl)) : ru d m pc L st σ = ru d m (pc + 3) L (.int v :: st) σ := by
  refine ru_step hd ((gd_pos rfl).trans ?_)
  show (lkC (mo m) i).bind _ = _
  rw [hm, hq]
  rfl
theorem q_ldc2 {i pl : Nat} {v : Int64} (hd : decode (mb m) pc = .ok (.ldc2_w i, 3)) {ow0 : Nat} (hm : mo m = ow0) (hq : lkL ow0 i = some (v, pl)) : ru d m pc L st σ = ru d m (pc + 3) L (.long v :: st) σ := by
  refine ru_step hd ((gd_pos rfl).trans ?_)
  show (lkL (mo m) i).bind _ = _
  rw [hm, hq]
  rfl
theorem q_alen {o : Nat} {v : Int32} (hd : decode (mb m) pc = .ok (.arraylength, 1)) (ho4 : ¬ o < 104) (ho : 122 ≤ o ∧ o < 134) (hv : Int32.ofNat (lenT.getD (o - 122) 0) = v) : ru d m pc L (.ref o :: st) σ = ru d m (pc + 1) L (.int v :: st) σ := by
  subst hv
  exact ru_step hd ((gd_pos rfl).trans ((if_neg ho4).trans (gd_pos ho)))
theorem q_alei {o : Nat} {v : Int32} (hd : decode (mb m) pc = .ok (.arraylength, 1)) (ho4 : o < 104) (ho : (shp o).1 = 10) (hv : Int32.ofNat (shp o).2 = v) : ru d m pc L (.ref o :: st) σ = ru d m (pc + 1) L (.int v :: st) σ := by
  subst hv
  exact ru_step hd ((gd_pos rfl).trans ((if_pos ho4).trans (gd_pos ho)))
theorem q_iald {o n : Nat} {i : Int32} (hd : decode (mb m) pc = .ok (.iaload, 1)) (ho : isIA o = true) (ho2 : o < 104) (hn : (shp o).2 = n) : ru d m pc L (.int i :: .ref o :: st) σ = gd (vp_in i n) (ru d m (pc + 1) L (.int (σ o i.toNatClampNeg) :: st) σ) := by
  have e1 : aln o = n := by unfold aln; rw [if_pos ho2, hn]
  have e2 : rdA σ o i.toNatClampNeg = σ o i.toNatClampNeg := by unfold rdA; rw [if_pos ho2]
  refine ru_gd hd ((gd_pos rfl).trans ?_)
  rw [← e1, ← e2]
  show gd (isIA o = true ∧ vp_in i (aln o)) _ = gd (vp_in i (aln o)) _
  by_cases h : vp_in i (aln o)
  · rw [gd_pos h, gd_pos ⟨ho, h⟩]
  · rw [gd_neg h, gd_neg (fun q => h q.2)]
theorem q_ials {o n : Nat} {i : Int32} {f : List Int32} (hd : decode (mb m) pc = .ok (.iaload, 1)) (ho : isIA o = true) (ho2 : ¬ o < 104) (hf : stbT.getD (o - 104) [] = f) (hn : f.length = n) : ru d m pc L (.int i :: .ref o :: st) σ = gd (vp_in i n) (ru d m (pc + 1) L (.int (f.getD i.toNatClampNeg 0) :: st) σ) := by
  have e1 : aln o = n := by unfold aln; rw [if_neg ho2, hf, hn]
  have e2 : rdA σ o i.toNatClampNeg = f.getD i.toNatClampNeg 0 := by unfold rdA; rw [if_neg ho2, hf]
  refine ru_gd hd ((gd_pos rfl).trans ?_)
  rw [← e1, ← e2]
  show gd (isIA o = true ∧ vp_in i (aln o)) _ = gd (vp_in i (aln o)) _
  by_cases h : vp_in i (aln o)
  · rw [gd_pos h, gd_pos ⟨ho, h⟩]
  · rw [gd_neg h, gd_neg (fun q => h q.2)]
theorem gd_and {α : Type} {P Q : Prop} {x : Option α} (h : P) : gd (P ∧ Q) x = gd Q x := by
  by_cases hq : Q
  · rw [gd_pos hq, gd_pos ⟨h, hq⟩]
  · rw [gd_neg hq, gd_neg (fun q => hq q.2)]
theorem q_bald {o n : Nat} {i : Int32} (hd : decode (mb m) pc = .ok (.baload, 1)) (ho : o < 104) (h11 : (shp o).1 = 11) (hn : (shp o).2 = n) : ru d m pc L (.int i :: .ref o :: st) σ = gd (vp_in i n) (ru d m (pc + 1) L (.int (σ o i.toNatClampNeg) :: st) σ) := by
  subst hn
  exact ru_gd hd ((gd_pos rfl).trans ((if_pos ho).trans (gd_and h11)))
theorem q_bals {o n : Nat} {i : Int32} {f : List Int32} (hd : decode (mb m) pc = .ok (.baload, 1)) (ho : ¬ o < 104) (h : 122 ≤ o ∧ o < 134) (hn : lenT.getD (o - 122) 0 = n) (hf : bytT.getD (o - 122) [] = f) : ru d m pc L (.int i :: .ref o :: st) σ = gd (vp_in i n) (ru d m (pc + 1) L (.int (f.getD i.toNatClampNeg 0) :: st) σ) := by
  subst hn; subst hf
  exact ru_gd hd ((gd_pos rfl).trans ((if_neg ho).trans (gd_and h)))
theorem q_aald {o n : Nat} {i : Int32} (hd : decode (mb m) pc = .ok (.aaload, 1)) (ho : o < 104) (h : 12 ≤ (shp o).1 ∧ (shp o).1 < 15) (hn : (shp o).2 = n) : ru d m pc L (.int i :: .ref o :: st) σ = gd (vp_in i n) (ru d m (pc + 1) L (.ref (cr o i.toNatClampNeg) :: st) σ) := by
  subst hn
  refine ru_gd hd ((gd_pos rfl).trans ?_)
  show gd (o < 104 ∧ (12 ≤ (shp o).1 ∧ (shp o).1 < 15) ∧ vp_in i (shp o).2) _ = _
  rw [gd_and ho, gd_and h]
theorem q_iast {o n : Nat} {i x : Int32} (hd : decode (mb m) pc = .ok (.iastore, 1)) (ho : o < 104) (h : (shp o).1 = 10) (hn : (shp o).2 = n) : ru d m pc L (.int x :: .int i :: .ref o :: st) σ = gd (vp_in i n) (ru d m (pc + 1) L st (up2 σ o i.toNatClampNeg x)) := by
  subst hn
  refine ru_gd hd ((gd_pos rfl).trans ?_)
  show gd (o < 104 ∧ (shp o).1 = 10 ∧ vp_in i (shp o).2) _ = _
  rw [gd_and ho, gd_and h]
theorem q_bast {o n : Nat} {i x : Int32} (hd : decode (mb m) pc = .ok (.bastore, 1)) (ho : o < 104) (h : (shp o).1 = 11) (hn : (shp o).2 = n) : ru d m pc L (.int x :: .int i :: .ref o :: st) σ = gd (vp_in i n) (ru d m (pc + 1) L st (up2 σ o i.toNatClampNeg (vp_nar .boolean x))) := by
  subst hn
  refine ru_gd hd ((gd_pos rfl).trans ?_)
  show gd (o < 104 ∧ (shp o).1 = 11 ∧ vp_in i (shp o).2) _ = _
  rw [gd_and ho, gd_and h]
theorem q_invv {i mj pl o n c ow0 : Nat} {as rest st0 : List Value} (hd : decode (mb m) pc = .ok (.invokevirtual i, 3)) (hm : mo m = ow0) (hq : lkM ow0 i = some (mj, pl)) (hj : mj < 227 ∧ ms_ mj = false ∧ mn mj = n ∧ mo mj = c) (hst : st0[n]? = some (.ref o)) (hob : obk o c = true) (ht : (st0.take (n + 1)).reverse = as) (hr : st0.drop (n + 1) = rest) (hc : cats rest ≤ 8) : ru d m pc L st0 σ = kont (callD d mj as σ) d m (pc + 3) L rest := by
  obtain ⟨j1, j2, j3, j4⟩ := hj
  subst j3; subst j4
  subst ht; subst hr
  refine ru_kont hd ((gd_pos rfl).trans ?_)
  show (lkM (mo m) i).bind _ = _
  rw [hm, hq]
  refine (gd_pos ⟨j1, j2, hc⟩).trans ?_
  show o1r st0[mn mj]? _ = _
  rw [hst]
  exact gd_pos hob
theorem q_invs {i mj pl n ow0 : Nat} {as rest st0 : List Value} (hd : decode (mb m) pc = .ok (.invokestatic i, 3)) (hm : mo m = ow0) (hna : ((ow0, i) ∈ acpT → False) ∧ ((ow0, i) ∈ mxT → False) ∧ ((ow0, i) ∈ miT → False) ∧ ((ow0, i) ∈ mjT → False)) (hq : lkM ow0 i = some (mj, pl)) (hj : mj < 227 ∧ ms_ mj = true ∧ mn mj = n) (hle : n ≤ st0.length) (ht : (st0.take n).reverse = as) (hr : st0.drop n = rest) (hc : cats rest ≤ 8) : ru d m pc L st0 σ = kont (callD d mj as σ) d m (pc + 3) L rest := by
  obtain ⟨j1, j2, j3⟩ := hj
  subst j3
  subst ht; subst hr; subst hm
  refine ru_kont hd ((gd_pos rfl).trans ?_)
  refine (if_neg hna.1).trans ((if_neg hna.2.1).trans ((if_neg hna.2.2.1).trans ((if_neg hna.2.2.2).trans ?_)))
  rw [hq]
  exact gd_pos ⟨j1, j2, hle, hc⟩
theorem q_mx {i : Nat} {x y : Int32} {ow0 : Nat} (hd : decode (mb m) pc = .ok (.invokestatic i, 3)) (hm : mo m = ow0) (hna : (ow0, i) ∈ acpT → False) (h : (ow0, i) ∈ mxT) (hc : cats st ≤ 8) : ru d m pc L (.int y :: .int x :: st) σ = ru d m (pc + 3) L (.int (jmax x y) :: st) σ := by subst hm; exact ru_step hd ((gd_pos rfl).trans ((if_neg hna).trans ((if_pos h).trans (gd_pos hc))))
theorem q_mi {i : Nat} {x y : Int32} {ow0 : Nat} (hd : decode (mb m) pc = .ok (.invokestatic i, 3)) (hm : mo m = ow0) (hna : (ow0, i) ∈ acpT → False) (h0 : (ow0, i) ∈ mxT → False) (h : (ow0, i) ∈ miT) (hc : cats st ≤ 8) : ru d m pc L (.int y :: .int x :: st) σ = ru d m (pc + 3) L (.int (jmin x y) :: st) σ := by subst hm; exact ru_step hd ((gd_pos rfl).trans ((if_neg hna).trans ((if_neg h0).trans ((if_pos h).trans (gd_pos hc)))))
theorem q_mj {i : Nat} {x y : Int64} {ow0 : Nat} (hd : decode (mb m) pc = .ok (.invokestatic i, 3)) (hm : mo m = ow0) (hna : (ow0, i) ∈ acpT → False) (h0 : (ow0, i) ∈ mxT → False) (h1 : (ow0, i) ∈ miT → False) (h : (ow0, i) ∈ mjT) (hc : cats st ≤ 8) : ru d m pc L (.long y :: .long x :: st) σ = ru d m (pc + 3) L (.long (jminL x y) :: st) σ := by subst hm; exact ru_step hd ((gd_pos rfl).trans ((if_neg hna).trans ((if_neg h0).trans ((if_neg h1).trans ((if_pos h).trans (gd_pos hc))))))
theorem q_acp {i a b : Nat} {n dp sp : Int32} {ow0 : Nat} (hd : decode (mb m) pc = .ok (.invokestatic i, 3)) (hm : mo m = ow0) (h : (ow0, i) ∈ acpT) : ru d m pc L [.int n, .int dp, .ref a, .int sp, .ref b] σ = gd (bndC σ a b sp dp n) (ru d m (pc + 3) L [] (cp2 σ b a sp.toNatClampNeg dp.toNatClampNeg n.toNatClampNeg)) := by subst hm; exact ru_gd hd ((gd_pos rfl).trans (if_pos h))
theorem q_ireti {x : Int32} (hd : decode (mb m) pc = .ok (.ireturn, 1)) (hr : mr m = some .int) : ru d m pc L [.int x] σ = some (some (.int x), σ) := by
  refine ru_end hd ((gd_pos rfl).trans ?_)
  show retI [.int x] (mr m) σ = _
  rw [hr]
  exact gd_pos rfl
theorem q_iretn {x : Int32} {ty : FieldType} (hd : decode (mb m) pc = .ok (.ireturn, 1)) (hr : mr m = some ty) (hn : narrow ty (.int x) = .int x) : ru d m pc L [.int x] σ = some (some (.int x), σ) := by
  refine ru_end hd ((gd_pos rfl).trans ?_)
  show retI [.int x] (mr m) σ = _
  rw [hr]
  exact gd_pos hn
theorem q_iretz {x : Int32} (hd : decode (mb m) pc = .ok (.ireturn, 1)) (hr : mr m = some .boolean) (hx : isB x) : ru d m pc L [.int x] σ = some (some (.int x), σ) := q_iretn hd hr (isB_nar hx)
theorem q_aret {x : Nat} {n : String} (hd : decode (mb m) pc = .ok (.areturn, 1)) (hr : mr m = some (.object n)) : ru d m pc L [.ref x] σ = some (some (.ref x), σ) := by
  refine ru_end hd ((gd_pos rfl).trans ?_)
  show retA [.ref x] (mr m) σ = _
  rw [hr]
  rfl
theorem q_lret {x : Int64} (hd : decode (mb m) pc = .ok (.lreturn, 1)) (hr : mr m = some .long) : ru d m pc L [.long x] σ = some (some (.long x), σ) := by
  refine ru_end hd ((gd_pos rfl).trans ?_)
  show retL [.long x] (mr m) σ = _
  rw [hr]
  rfl
theorem q_vret (hd : decode (mb m) pc = .ok (.return_, 1)) (hr : mr m = none) : ru d m pc L [] σ = some (none, σ) := by
  refine ru_end hd ((gd_pos rfl).trans ?_)
  show retV [] (mr m) σ = _
  rw [hr]
  rfl
end QR
theorem callD_ru {d m n : Nat} {vs L : List Value} {σ : Hs} (hm : ml m = n) (h : n = L.length) (hl : arL vs ++ List.replicate (n - (arL vs).length) uu = L) (hle : (arL vs).length ≤ n) : callD (d + 1) m vs σ = ru d m 0 L [] σ := by
  subst hm
  rw [callD, if_pos hle]
  unfold ru
  rw [← hl]
  rfl
