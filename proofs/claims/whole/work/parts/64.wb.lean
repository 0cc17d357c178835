/-! ===== what every run keeps: truth cells hold 0 or 1, nothing lies behind an array's end ===== -/
def WB (σ : Hs) : Prop := (∀ o, (shp o).1 = 11 → ∀ i, isB (σ o i)) ∧ (∀ o j, (shp o).1 = 10 → (shp o).2 ≤ j → σ o j = 0)
def stOf : Sr → Hs
  | .inl q => q.2.2.2
  | .inr q => q.2
def Okw (x : Option Sr) : Prop := ∀ q, x = some q → WB (stOf q)
theorem Okw_n : Okw none := fun q h => by cases h
theorem Okw_l {pc : Nat} {L st : List Value} {σ : Hs} (h : WB σ) : Okw (some (.inl (pc, L, st, σ))) := fun q e => by cases e; exact h
theorem Okw_r {v : Option Value} {σ : Hs} (h : WB σ) : Okw (some (.inr (v, σ))) := fun q e => by cases e; exact h
theorem Okw_gd {P : Prop} {x : Option Sr} (h : P → Okw x) : Okw (gd P x) := fun q e => h (gd_some e).1 q (gd_some e).2
theorem Okw_s1i {st : List Value} {f : Int32 → List Value → Option Sr} (h : ∀ x r, Okw (f x r)) : Okw (s1i st f) := fun q e => by obtain ⟨x, r, -, e2⟩ := s1i_some e; exact h x r q e2
theorem Okw_s2i {st : List Value} {f : Int32 → Int32 → List Value → Option Sr} (h : ∀ x y r, Okw (f x y r)) : Okw (s2i st f) := fun q e => by obtain ⟨x, y, r, -, e2⟩ := s2i_some e; exact h x y r q e2
theorem Okw_s1l {st : List Value} {f : Int64 → List Value → Option Sr} (h : ∀ x r, Okw (f x r)) : Okw (s1l st f) := fun q e => by obtain ⟨x, r, -, e2⟩ := s1l_some e; exact h x r q e2
theorem Okw_s2l {st : List Value} {f : Int64 → Int64 → List Value → Option Sr} (h : ∀ x y r, Okw (f x y r)) : Okw (s2l st f) := fun q e => by obtain ⟨x, y, r, -, e2⟩ := s2l_some e; exact h x y r q e2
theorem Okw_sil {st : List Value} {f : Int64 → Int32 → List Value → Option Sr} (h : ∀ x y r, Okw (f x y r)) : Okw (sil st f) := fun q e => by obtain ⟨x, y, r, -, e2⟩ := sil_some e; exact h x y r q e2
theorem Okw_s1r {st : List Value} {f : Nat → List Value → Option Sr} (h : ∀ x r, Okw (f x r)) : Okw (s1r st f) := fun q e => by obtain ⟨x, r, -, e2⟩ := s1r_some e; exact h x r q e2
theorem Okw_sir {st : List Value} {f : Nat → Int32 → List Value → Option Sr} (h : ∀ x y r, Okw (f x y r)) : Okw (sir st f) := fun q e => by obtain ⟨x, y, r, -, e2⟩ := sir_some e; exact h x y r q e2
theorem Okw_siir {st : List Value} {f : Nat → Int32 → Int32 → List Value → Option Sr} (h : ∀ x y z r, Okw (f x y z r)) : Okw (siir st f) := fun q e => by obtain ⟨x, y, z, r, -, e2⟩ := siir_some e; exact h x y z r q e2
theorem Okw_sany {st : List Value} {f : Value → List Value → Option Sr} (h : ∀ x r, Okw (f x r)) : Okw (sany st f) := fun q e => by obtain ⟨x, r, -, e2⟩ := sany_some e; exact h x r q e2
theorem Okw_o1i {v : Option Value} {f : Int32 → Option Sr} (h : ∀ x, Okw (f x)) : Okw (o1i v f) := fun q e => by obtain ⟨x, -, e2⟩ := o1i_some e; exact h x q e2
theorem Okw_o1l {v : Option Value} {f : Int64 → Option Sr} (h : ∀ x, Okw (f x)) : Okw (o1l v f) := fun q e => by obtain ⟨x, -, e2⟩ := o1l_some e; exact h x q e2
theorem Okw_o1r {v : Option Value} {f : Nat → Option Sr} (h : ∀ x, Okw (f x)) : Okw (o1r v f) := fun q e => by obtain ⟨x, -, e2⟩ := o1r_some e; exact h x q e2
theorem Okw_b {α : Type} {x : Option α} {f : α → Option Sr} (h : ∀ a, x = some a → Okw (f a)) : Okw (x.bind f) := fun q e => by obtain ⟨a, e1, e2⟩ := Option.bind_eq_some_iff.mp e; exact h a e1 q e2
theorem Okw_i {c : Prop} [Decidable c] {x y : Option Sr} (h : c → Okw x) (h2 : ¬ c → Okw y) : Okw (if c then x else y) := by
  by_cases k : c
  · rw [if_pos k]; exact h k
  · rw [if_neg k]; exact h2 k
theorem vp_nar_B (x : Int32) : isB (vp_nar .boolean x) := by
  unfold vp_nar
  rw [show narrow .boolean (.int x) = .int (x &&& 1) from rfl]
  exact and_1 x
theorem fk_lt {c k : Nat} (h : fk c k ≠ 9) : c < 9 := by
  by_cases hc : c < 9
  · exact hc
  · exfalso
    apply h
    unfold fk
    have hl : fkT.length = 9 := by decide +kernel
    simp only [List.getD_eq_getElem?_getD]
    have h0 : fkT[c]? = none := List.getElem?_eq_none (by omega)
    rw [h0]
    rfl
theorem WB.obj {σ : Hs} (h : WB σ) {o k : Nat} {x : Int32} (ho : (shp o).1 < 9) : WB (up2 σ o k x) := by
  refine ⟨fun a ha i => ?_, fun a j ha hj => ?_⟩
  · rw [up2_ne (fun q => by rw [q] at ha; omega)]; exact h.1 a ha i
  · rw [up2_ne (fun q => by rw [q] at ha; omega)]; exact h.2 a j ha hj
theorem WB.ia {σ : Hs} (h : WB σ) {o k : Nat} {x : Int32} (ho : (shp o).1 = 10) (hk : k < (shp o).2) : WB (up2 σ o k x) := by
  refine ⟨fun a ha i => ?_, fun a j ha hj => ?_⟩
  · rw [up2_ne (fun q => by rw [q] at ha; omega)]; exact h.1 a ha i
  · unfold up2
    rw [if_neg (fun q => by obtain ⟨rfl, rfl⟩ := q; omega)]
    exact h.2 a j ha hj
theorem WB.ba {σ : Hs} (h : WB σ) {o k : Nat} {x : Int32} (ho : (shp o).1 = 11) (hx : isB x) : WB (up2 σ o k x) := by
  refine ⟨fun a ha i => ?_, fun a j ha hj => ?_⟩
  · unfold up2
    split
    · exact hx
    · exact h.1 a ha i
  · rw [up2_ne (fun q => by rw [q] at ha; omega)]; exact h.2 a j ha hj
theorem WB.cp {σ : Hs} (h : WB σ) {a b : Nat} {sp dp n : Int32} (hb : bndC σ a b sp dp n) : WB (cp2 σ b a sp.toNatClampNeg dp.toNatClampNeg n.toNatClampNeg) := by
  obtain ⟨h1, h2, h3, h4, h5, h6, h7, h8, h9, h10⟩ := hb
  refine ⟨fun o ho i => ?_, fun o j ho hj => ?_⟩
  · by_cases c : o = a
    · rw [c, cp2_self]
      rw [c] at ho
      by_cases c2 : dp.toNatClampNeg ≤ i ∧ i < dp.toNatClampNeg + n.toNatClampNeg
      · rw [pk_cpy_in c2.1 c2.2]; exact h.1 b (h4.trans ho) _
      · rw [pk_cpy_out (by omega)]; exact h.1 a ho i
    · rw [cp2_ne c]; exact h.1 o ho i
  · by_cases c : o = a
    · rw [c, cp2_self]
      rw [c] at ho hj
      rw [pk_cpy_out (by omega)]; exact h.2 a j ho hj
    · rw [cp2_ne c]; exact h.2 o j ho hj
theorem vp_in_lt {i : Int32} {n : Nat} (h : vp_in i n) : i.toNatClampNeg < n := by
  unfold vp_in at h
  exact Nat.lt_of_not_le (fun q => h (Or.inr q))
theorem Okw_reti {st : List Value} {r : Option FieldType} {σ : Hs} (h : WB σ) : Okw (retI st r σ) := by
  unfold retI
  split
  · exact Okw_gd (fun _ => Okw_r h)
  · exact Okw_n
theorem Okw_reta {st : List Value} {r : Option FieldType} {σ : Hs} (h : WB σ) : Okw (retA st r σ) := by
  unfold retA
  split
  · exact Okw_r h
  · exact Okw_n
theorem Okw_retl {st : List Value} {r : Option FieldType} {σ : Hs} (h : WB σ) : Okw (retL st r σ) := by
  unfold retL
  split
  · exact Okw_r h
  · exact Okw_n
theorem Okw_retv {st : List Value} {r : Option FieldType} {σ : Hs} (h : WB σ) : Okw (retV st r σ) := by
  unfold retV
  split
  · exact Okw_r h
  · exact Okw_n
theorem Okw_put {o c k pc : Nat} {L r : List Value} {σ : Hs} {x : Int32} (hW : WB σ) (h1 : o < 104 ∧ (shp o).1 = c) (h2 : fk c k ≠ 9) : Okw (some (.inl (pc, L, r, up2 σ o k x))) := Okw_l (hW.obj (by rw [h1.2]; exact fk_lt h2))
set_option maxHeartbeats 4000000 in
theorem opI_WB {call : Nat → List Value → Hs → Rs} {mi pc : Nat} {L st : List Value} {σ : Hs} (hc : ∀ m vs σ v σ', WB σ → call m vs σ = some (v, σ') → WB σ') (hW : WB σ) (ins : Instr) (len : Nat) : Okw (opI call mi pc L st σ ins len) := by
  unfold opI
  split
  all_goals repeat' first
    | exact Okw_n
    | exact Okw_l hW
    | exact Okw_r hW
    | exact Okw_reti hW
    | exact Okw_reta hW
    | exact Okw_retl hW
    | exact Okw_retv hW
    | exact Okw_gd (fun h => Okw_l (hW.ia h.2.1 (vp_in_lt h.2.2)))
    | exact Okw_gd (fun h => Okw_l (hW.ba h.2.1 (vp_nar_B _)))
    | exact Okw_gd (fun h => Okw_l (hW.cp h))
    | exact Okw_b (fun a h => Okw_l (hc _ _ _ _ _ hW h))
    | (refine Okw_gd (fun h => ?_); split)
    | exact Okw_gd (fun h => Okw_put hW (by assumption) (by rcases h.1 with q | q <;> rw [q] <;> decide))
    | exact Okw_gd (fun h => Okw_put hW (by assumption) (by rw [h.1]; decide))
    | refine Okw_gd (fun _ => ?_)
    | refine Okw_s1i (fun _ _ => ?_)
    | refine Okw_s2i (fun _ _ _ => ?_)
    | refine Okw_s1l (fun _ _ => ?_)
    | refine Okw_s2l (fun _ _ _ => ?_)
    | refine Okw_sil (fun _ _ _ => ?_)
    | refine Okw_s1r (fun _ _ => ?_)
    | refine Okw_sir (fun _ _ _ => ?_)
    | refine Okw_siir (fun _ _ _ _ => ?_)
    | refine Okw_sany (fun _ _ => ?_)
    | refine Okw_o1i (fun _ => ?_)
    | refine Okw_o1l (fun _ => ?_)
    | refine Okw_o1r (fun _ => ?_)
    | refine Okw_b (fun _ _ => ?_)
    | split
theorem stepI_WB {call : Nat → List Value → Hs → Rs} {mi pc : Nat} {L st : List Value} {σ : Hs} (hc : ∀ m vs σ v σ', WB σ → call m vs σ = some (v, σ') → WB σ') (hW : WB σ) : Okw (stepI call mi pc L st σ) := by
  unfold stepI
  split
  · exact opI_WB hc hW _ _
  · exact Okw_n
theorem runN_WB {call : Nat → List Value → Hs → Rs} {mi : Nat} (hc : ∀ m vs σ v σ', WB σ → call m vs σ = some (v, σ') → WB σ') : ∀ (n pc : Nat) (L st : List Value) (σ : Hs) (v : Option Value) (σ' : Hs), WB σ → runN call mi n pc L st σ = some (v, σ') → WB σ' := by
  intro n
  induction n with
  | zero => intro pc L st σ v σ' _ h; cases h
  | succ n ih =>
    intro pc L st σ v σ' hW h
    rw [runN] at h
    cases hs : stepI call mi pc L st σ with
    | none => rw [hs] at h; cases h
    | some r =>
      have ho := stepI_WB hc hW r hs
      rw [hs] at h
      cases r with
      | inl q => exact ih _ _ _ _ _ _ ho h
      | inr q =>
        have e := Option.some.inj h
        subst e
        exact ho
theorem callD_WB : ∀ (d m : Nat) (vs : List Value) (σ : Hs) (v : Option Value) (σ' : Hs), WB σ → callD d m vs σ = some (v, σ') → WB σ' := by
  intro d
  induction d with
  | zero => intro m vs σ v σ' _ h; cases h
  | succ d ih =>
    intro m vs σ v σ' hW h
    unfold callD at h
    by_cases hle : (arL vs).length ≤ ml m
    · rw [if_pos hle] at h
      obtain ⟨n, hn⟩ := runE_some.mp h
      exact runN_WB ih n 0 _ _ σ v σ' hW hn
    · rw [if_neg hle] at h; cases h
