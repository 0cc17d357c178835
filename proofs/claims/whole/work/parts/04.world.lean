/-! ===== the world of numbers in the machine's heap ===== -/
/-- where the objects stand; what the tables say of the layouts; the arrays' own numbers; a reference of the JDK's that is only carried -/
abbrev Gw : Type := (Nat → Nat) × va_G × (Nat → ClassId) × Value
def mv (g : Gw) : Value → Value
  | .ref a => .ref (g.1 a)
  | .retAddr _ => g.2.2.2
  | v => v
def FMok (g : Gw) : Prop := g.2.2.2 = .null ∨ ∃ t, g.2.2.2 = .ref t
theorem mv_cat {g : Gw} (h : FMok g) (v : Value) : (mv g v).category = v.category := by
  cases v with
  | retAddr p => rcases h with h | ⟨t, h⟩ <;> (show (g.2.2.2).category = _; rw [h]; rfl)
  | _ => rfl
def celR (g : Gw) (o : Nat) (f : Nat → Int32) : va_E :=
  if (shp o).1 < 9 then .inr ((shp o).1, (List.range (shp o).2).map fun k => mv g (fv (fun _ => f) o (shp o).1 k))
  else if (shp o).1 < 12 then .inl (g.2.2.1 (shp o).1, (shp o).2, .inl f)
  else .inl (g.2.2.1 (shp o).1, (shp o).2, .inr (.inr (.inr (.inr fun j => some (g.1 (cr o j))))))
def wsW (g : Gw) (σ : Hs) : va_W := (List.range 104).map fun o => (g.1 o, celR g o (σ o))
def tW (g : Gw) : List (ClassId × FieldType) := [(g.2.2.1 10, .int), (g.2.2.1 11, .boolean), (g.2.2.1 12, .object "SmokyHeap$Row"), (g.2.2.1 13, .object "SmokyHeap$Sheet"), (g.2.2.1 14, .object "java/lang/String")]
def AA (g : Gw) (sz : Nat) : Nat → Prop := fun q => (∃ o, o < 104 ∧ q = g.1 o) ∨ sz ≤ q
def Inj (g : Gw) : Prop := ∀ i j, i < 104 → j < 104 → g.1 i = g.1 j → i = j
def strV (i : Nat) : List Int32 := bytT.getD i []
def STA (g : Gw) (A : Nat → Prop) (U : State) (H : Heap) : Prop :=
  (∀ i, i < 6 → va_Z "SmokyHeap" (sn i) "[I" (.ref (g.1 (104 + i))) A U H ∧ va_T .int (g.1 (104 + i)) (stbT.getD i []).length (fun j => .int ((stbT.getD i []).getD j 0)) A U H) ∧
  (∀ i, i < 12 → va_O "java/lang/String" (g.1 (110 + i)) A U H ∧ va_OF "java/lang/String" "coder" "B" (.int 0) (g.1 (110 + i)) A U H ∧ va_OF "java/lang/String" "value" "[B" (.ref (g.1 (122 + i))) (g.1 (110 + i)) A U H ∧ va_T .byte (g.1 (122 + i)) (lenT.getD i 0) (fun j => .int ((bytT.getD i []).getD j 0)) A U H ∧ vk_R (kow i) (kix i) (ktx i) (g.1 (110 + i)) U) ∧
  va_Z "java/lang/String" "COMPACT_STRINGS" "Z" (.int 1) A U H ∧
  va_Z "jdk/internal/util/Preconditions" "SIOOBE_FORMATTER" "Ljava/util/function/BiFunction;" g.2.2.2 A U H ∧ FMok g ∧
  ∀ w ∈ nestW, va_Nw w U
theorem nest_kind : ∀ w ∈ nestW, (∃ a i x h, w = .methodLinkNest a i x h) ∨ ∃ a i b n d h, w = .fieldLinkNest a i b n d h := by
  intro w hw
  simp only [nestW, List.mem_cons, List.not_mem_nil, or_false] at hw
  rcases hw with rfl | rfl | rfl | rfl | rfl | rfl | rfl | rfl | rfl | rfl | rfl | rfl <;> first | exact Or.inl ⟨_, _, _, _, rfl⟩ | exact Or.inr ⟨_, _, _, _, _, _, rfl⟩
theorem STA_same {g : Gw} {A : Nat → Prop} {u U : State} {H : Heap} (hv : U.vm = u.vm) (h : STA g A u H) : STA g A U H := by
  have hvm : u.vm.Alike U.vm := by rw [hv]; exact Vm.Alike.refl _
  obtain ⟨h1, h2, h3, h4, h5, h6⟩ := h
  refine ⟨fun i hi => ⟨(h1 i hi).1.moved hvm, (h1 i hi).2.moved hvm⟩, fun i hi => ?_, h3.moved hvm, h4.moved hvm, h5, fun w hw => ?_⟩
  · obtain ⟨a1, a2, a3, a4, a5⟩ := h2 i hi
    exact ⟨a1.moved hvm, a2.moved hvm, a3.moved hvm, a4.moved hvm, a5.same hv⟩
  · rcases nest_kind w hw with ⟨a, i, x, hh, rfl⟩ | ⟨a, i, b, n, d, hh, rfl⟩ <;> exact va_Nw.same rfl hv.symm (h6 _ hw)
theorem STA_to {g : Gw} {A B : Nat → Prop} {s U : State} {H : Heap} {locs : List Loc} (h : STA g A s s.heap) (hS : va_S A s.heap H locs) (hAB : ∀ q, B q → A q) (hW : s.WarmedH U.vm) : STA g B U H := by
  have hvm : s.vm.Alike U.vm := hW.alike
  obtain ⟨h1, h2, h3, h4, h5, h6⟩ := h
  refine ⟨fun i hi => ⟨(((h1 i hi).1.kept hS.2.1).narrow hAB).moved hvm, (((h1 i hi).2.kept hS.2.1).narrow hAB).moved hvm⟩, fun i hi => ?_, ((h3.kept hS.2.1).narrow hAB).moved hvm, ((h4.kept hS.2.1).narrow hAB).moved hvm, h5, fun w hw => ?_⟩
  · obtain ⟨a1, a2, a3, a4, a5⟩ := h2 i hi
    exact ⟨((a1.kept hS.2.1).narrow hAB).moved hvm, ((a2.kept hS.2.1).narrow hAB).moved hvm, ((a3.kept hS.2.1).narrow hAB).moved hvm, ((a4.kept hS.2.1).narrow hAB).moved hvm, a5.warm hW⟩
  · rcases nest_kind w hw with ⟨a, i, x, hh, rfl⟩ | ⟨a, i, b, n, d, hh, rfl⟩
    · exact va_Nw.warmM hW (h6 _ hw)
    · exact va_Nw.warmF hW (h6 _ hw)
theorem wsW_at {g : Gw} {σ : Hs} {o : Nat} (h : o < 104) : (wsW g σ)[o]? = some (g.1 o, celR g o (σ o)) := by
  unfold wsW
  rw [List.getElem?_map, List.getElem?_range h]
  rfl
theorem wsW_in {g : Gw} {σ : Hs} {k : Nat} {q : Nat × va_E} (h : (wsW g σ)[k]? = some q) : k < 104 ∧ q = (g.1 k, celR g k (σ k)) := by
  have hk : k < 104 := by
    have := (List.getElem?_eq_some_iff.mp h).1
    simpa [wsW] using this
  rw [wsW_at hk] at h
  exact ⟨hk, (Option.some.inj h).symm⟩
theorem wsW_D {g : Gw} (hI : Inj g) (sz : Nat) (σ : Hs) : va_D (AA g sz) (wsW g σ) := by
  refine ⟨fun i j p q hp hq h => ?_, fun k q hk => ?_⟩
  · obtain ⟨h1, rfl⟩ := wsW_in hp
    obtain ⟨h2, rfl⟩ := wsW_in hq
    exact hI i j h1 h2 h
  · obtain ⟨h1, rfl⟩ := wsW_in hk
    exact Or.inl ⟨k, h1, rfl⟩
theorem wsW_set {g : Gw} {σ σ' : Hs} {o : Nat} (h : ∀ a, a ≠ o → σ' a = σ a) : (wsW g σ).set o (g.1 o, celR g o (σ' o)) = wsW g σ' := by
  apply List.ext_getElem?
  intro k
  by_cases hk : k < 104
  · by_cases hko : k = o
    · subst hko
      rw [List.getElem?_set_self (by simpa [wsW] using hk), wsW_at hk]
    · rw [List.getElem?_set_ne (Ne.symm hko), wsW_at hk, wsW_at hk, h k hko]
  · rw [List.getElem?_eq_none (by simp [wsW]; omega), List.getElem?_eq_none (by simp [wsW]; omega)]
theorem up2_ne {σ : Hs} {o k a : Nat} {x : Int32} (h : a ≠ o) : up2 σ o k x a = σ a := by
  funext b
  unfold up2
  rw [if_neg (fun q => h q.1)]
theorem cp2_ne {σ : Hs} {b a sp dp n q : Nat} (h : q ≠ a) : cp2 σ b a sp dp n q = σ q := by
  unfold cp2
  rw [if_neg h]
theorem cp2_self {σ : Hs} {b a sp dp n : Nat} : cp2 σ b a sp dp n a = va_cpy (σ b) (σ a) sp dp n := by
  unfold cp2
  rw [if_pos rfl]
theorem up2_self {σ : Hs} {o k : Nat} {x : Int32} : up2 σ o k x o = upd (σ o) k x := by
  funext b
  unfold up2 upd
  by_cases h : b = k
  · rw [if_pos ⟨rfl, h⟩]; simp [h]
  · rw [if_neg (fun q => h q.2)]; simp [h]
theorem celR_arr {g : Gw} {o : Nat} {f : Nat → Int32} (h : (shp o).1 = 10 ∨ (shp o).1 = 11) : celR g o f = .inl (g.2.2.1 (shp o).1, (shp o).2, .inl f) := by
  unfold celR
  rw [if_neg (by omega), if_pos (by omega)]
theorem celR_obj {g : Gw} {o : Nat} {f : Nat → Int32} (h : (shp o).1 < 9) : celR g o f = .inr ((shp o).1, (List.range (shp o).2).map fun k => mv g (fv (fun _ => f) o (shp o).1 k)) := by
  unfold celR
  rw [if_pos h]
theorem celR_ref {g : Gw} {o : Nat} {f : Nat → Int32} (h : 12 ≤ (shp o).1) : celR g o f = .inl (g.2.2.1 (shp o).1, (shp o).2, .inr (.inr (.inr (.inr fun j => some (g.1 (cr o j)))))) := by
  unfold celR
  rw [if_neg (by omega), if_neg (by omega)]
theorem tW_10 (g : Gw) : (tW g)[0]? = some (g.2.2.1 10, .int) := rfl
theorem tW_11 (g : Gw) : (tW g)[1]? = some (g.2.2.1 11, .boolean) := rfl
theorem obk_lt {o c : Nat} (h : obk o c = true) (ho : o < 104) : (shp o).1 = c ∧ c < 9 := by
  simp only [obk, Bool.or_eq_true, Bool.and_eq_true, decide_eq_true_eq, beq_iff_eq] at h
  rcases h with ⟨-, h1, h⟩ | ⟨-, h, -⟩
  · exact ⟨h, h1⟩
  · omega
theorem obk_ge {o c : Nat} (h : obk o c = true) (ho : ¬ o < 104) : c = 9 ∧ 110 ≤ o ∧ o < 122 := by
  simp only [obk, Bool.or_eq_true, Bool.and_eq_true, decide_eq_true_eq, beq_iff_eq] at h
  rcases h with ⟨h, -, -⟩ | ⟨h, h1, h2⟩
  · exact absurd h ho
  · exact ⟨h, h1, h2⟩
/-! the locals -/
def LH (g : Gw) (ls : Array Slot) (nL : Nat) (L : List Value) : Prop := ls.size = nL ∧ lv_wf ls ∧ L.length = nL ∧ ∀ (i : Nat) (v : Value), L[i]? = some v → v ≠ uu → ls[i]? = some (.val (mv g v))
def lvL (g : Gw) (L : List Value) : List (Nat × Value) := (List.range L.length).filterMap fun j => (L[j]?).bind fun v => if v = uu then none else some (j, mv g v)
theorem lvL_in {g : Gw} {L : List Value} {q : Nat × Value} : q ∈ lvL g L ↔ ∃ v, L[q.1]? = some v ∧ v ≠ uu ∧ q.2 = mv g v := by
  unfold lvL
  rw [List.mem_filterMap]
  constructor
  · rintro ⟨j, -, hj⟩
    cases hv : L[j]? with
    | none => rw [hv] at hj; cases hj
    | some v =>
      rw [hv] at hj
      simp only [Option.bind_some] at hj
      by_cases hu : v = uu
      · rw [if_pos hu] at hj; cases hj
      · rw [if_neg hu] at hj
        cases hj
        exact ⟨v, hv, hu, rfl⟩
  · rintro ⟨v, h1, h2, h3⟩
    refine ⟨q.1, List.mem_range.mpr (List.getElem?_eq_some_iff.mp h1).1, ?_⟩
    rw [h1]
    simp only [Option.bind_some]
    rw [if_neg h2, ← h3]
theorem LH.has {g : Gw} {ls : Array Slot} {nL : Nat} {L : List Value} (h : LH g ls nL L) : lv_has ls nL (lvL g L) := by
  refine ⟨h.1, h.2.1, fun q hq => ?_⟩
  obtain ⟨v, h1, h2, h3⟩ := lvL_in.mp hq
  rw [h3]
  exact h.2.2.2 q.1 v h1 h2
theorem LH.at {g : Gw} {ls : Array Slot} {nL : Nat} {L : List Value} (h : LH g ls nL L) {i : Nat} {v : Value} (hi : L[i]? = some v) (hv : v ≠ uu) : ls[i]? = some (.val (mv g v)) := h.2.2.2 i v hi hv
theorem LH_set {g : Gw} (hF : FMok g) {ls' : Array Slot} {nL i : Nat} {L : List Value} {x : Value} (h : lv_has ls' nL ((i, mv g x) :: (lvL g L).filter (fun q => !(q.1 == i) && !(q.1 + 1 == i && q.2.category == 2)))) (hn : L.length = nL) (ho : okS L i) : LH g ls' nL (L.set i x) := by
  refine ⟨h.1, h.2.1, by simpa using hn, fun j v hj hv => ?_⟩
  by_cases hji : j = i
  · subst hji
    rw [List.getElem?_set_self ho.1] at hj
    cases hj
    exact h.2.2 (j, mv g x) List.mem_cons_self
  · rw [List.getElem?_set_ne (Ne.symm hji)] at hj
    refine h.2.2 (j, mv g v) (List.mem_cons_of_mem _ (List.mem_filter.mpr ⟨lvL_in.mpr ⟨v, hj, hv, rfl⟩, ?_⟩))
    have h1 : (j == i) = false := by simp [hji]
    have h2 : (j + 1 == i && (mv g v).category == 2) = false := by
      by_cases h3 : j + 1 = i
      · have h4 := ho.2
        rw [show i - 1 = j by omega, List.getD_eq_getElem?_getD, hj] at h4
        rw [mv_cat hF]
        simp [show v.category = 1 from h4]
      · simp [h3]
    simp [h1, h2]
theorem LH_set2 {g : Gw} (hF : FMok g) {ls' : Array Slot} {nL i : Nat} {L : List Value} {x : Value} (h : lv_has ls' nL ((i, mv g x) :: (lvL g L).filter (fun q => !(q.1 == i) && (!(q.1 == i + 1) && !(q.1 + 1 == i && q.2.category == 2))))) (hn : L.length = nL) (ho : okS2 L i) : LH g ls' nL ((L.set i x).set (i + 1) uu) := by
  refine ⟨h.1, h.2.1, by simpa using hn, fun j v hj hv => ?_⟩
  by_cases hj1 : j = i + 1
  · subst hj1
    rw [List.getElem?_set_self (by simpa using ho.1)] at hj
    cases hj
    exact absurd rfl hv
  · rw [List.getElem?_set_ne (Ne.symm hj1)] at hj
    by_cases hji : j = i
    · subst hji
      rw [List.getElem?_set_self (by have := ho.1; omega)] at hj
      cases hj
      exact h.2.2 (j, mv g x) List.mem_cons_self
    · rw [List.getElem?_set_ne (Ne.symm hji)] at hj
      refine h.2.2 (j, mv g v) (List.mem_cons_of_mem _ (List.mem_filter.mpr ⟨lvL_in.mpr ⟨v, hj, hv, rfl⟩, ?_⟩))
      have h1 : (j == i) = false := by simp [hji]
      have h0 : (j == i + 1) = false := by simp [hj1]
      have h2 : (j + 1 == i && (mv g v).category == 2) = false := by
        by_cases h3 : j + 1 = i
        · have h4 := ho.2
          rw [show i - 1 = j by omega, List.getD_eq_getElem?_getD, hj] at h4
          rw [mv_cat hF]
          simp [show v.category = 1 from h4]
        · simp [h3]
      simp [h1, h0, h2]
/-! contracts -/
def rmD (d : Nat) : Room := { frames := d, cells := 0, slots := 0, locals := 60 * d }
def mw (m : Nat) : List Cond := Cond.code (my m) (mb m) (ml m) (mr m) :: lw_good
def QR (g : Gw) (v : Option Value) (σ : Hs) (sz : Nat) : Array Value → State → Outcome → State → Prop := fun _ st oc t => oc = .returned (v.map (mv g)) ∧ va_P g.2.1 vwCl (wsW g σ) t.heap ∧ va_F (AA g sz) st t
def PR (g : Gw) (σ : Hs) (sz : Nat) (U : State) : Prop := U.heap.size = sz ∧ va_P g.2.1 vwCl (wsW g σ) U.heap ∧ va_K g.2.1 vwCl (tW g) U ∧ Inj g ∧ STA g (AA g sz) U U.heap
def SndC (l : Launch) (d : Nat) (call : Nat → List Value → Hs → Rs) : Prop := ∀ (mj : Nat) (vals : List Value) (σ : Hs) (v : Option Value) (σ' : Hs), call mj vals σ = some (v, σ') → mj < 227 → ∀ (g : Gw) (sz : Nat),
  Met l (my mj) (mw mj) (rmD d) (va_Pc (vals.map (mv g)) (PR g σ sz)) (QR g v σ' sz) 0 0 (AA g sz)
theorem PR_blind {g : Gw} {σ : Hs} {sz : Nat} {av : List Value} : FrameBlind (va_Pc av (PR g σ sz)) := by
  intro a U fr mk h
  obtain ⟨h1, h2, h3, h4, h5, h6⟩ := h
  exact ⟨h1, h2, h3, va_K.moved (u := U) (U := U.calling fr mk a) (Vm.Alike.refl U.vm) h4, h5, STA_same (u := U) rfl h6⟩
theorem AA_sub {g : Gw} {a b : Nat} (h : a ≤ b) (q : Nat) (hq : AA g b q) : AA g a q := by
  rcases hq with hq | hq
  · exact Or.inl hq
  · exact Or.inr (Nat.le_trans h hq)
theorem mw_good {m : Nat} (h : m < 227) : GoodIn lw_good (mw m) := by
  intro w hw
  rcases List.mem_cons.mp hw with rfl | hw
  · exact ⟨code_in h, Or.inl rfl⟩
  · exact ⟨hw, good_of_word (List.mem_filter.mp hw).2⟩
section EVC
variable {p : Program} {l : Launch} {e : Env} {R : Room} {s : State} {m : MethodId} {args : Array Value} {below : List Frame} {meth : Method} {c : Code} {H : Heap} {locs : List Loc} {cells slots : Nat} {Q : State → Prop}
theorem run_call {g : Gw} {v : Option Value} {σ' : Hs} {a : Array Value} {pc : Nat} {ls : Array Slot} {st0 rest : List Value} (hr : va_Run p l e R s m args below meth c H locs cells slots 0 0 (F0 m pc ls st0) rest (QR g v σ' H.size a) (AA g H.size)) (hS : va_S (AA g s.heap.size) s.heap H locs)
    (kk : ∀ (H1 : Heap) (locs1 : List Loc), va_P g.2.1 vwCl (wsW g σ') H1 → va_S (AA g s.heap.size) s.heap H1 locs1 → W p l e R s m args below meth c H1 locs1 cells slots Q (F0 m (pc + 3) ls ((v.map (mv g)).toList ++ rest))) : W p l e R s m args below meth c H locs cells slots Q (F0 m pc ls st0) := by
  intro T hT X
  obtain ⟨v1, st₀, t, T', L, h0, X', hL, e1, e2, ⟨hv, hP, hz, hk⟩, st⟩ := hr T hT X
  cases hv
  rw [h0] at hz hk
  have hA : ∀ q, q < H.size → AA g H.size q → AA g s.heap.size q := fun q _ h => AA_sub hS.1 q h
  obtain ⟨t2, a1, b1⟩ := kk T'.heap (locs ++ L) (by rw [e1]; exact hP)
    ⟨Nat.le_trans hS.1 (by rw [e1]; exact hz), fun q h1 h2 => by rw [e1, hk q (Nat.lt_of_lt_of_le h1 hS.1) (fun z => h2 (hA q (Nat.lt_of_lt_of_le h1 hS.1) z))]; exact hS.2.1 q h1 h2, fun q hq => by
      rcases List.mem_append.mp hq with h | h
      · exact hS.2.2 q h
      · exact AA_sub hS.1 _ (hL q h)⟩ T' rfl X'
  exact ⟨t2, st t2 a1, b1⟩
end EVC
