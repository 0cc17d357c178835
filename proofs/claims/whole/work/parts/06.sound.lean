/-! ===== what the evaluator answers, the machine answers ===== -/
section EVM
variable {p : Program} {l : Launch} {e : Env} {s : State} {m : MethodId} {args : Array Value} {below : List Frame} {meth : Method} {c : Code}
theorem snd_run {d mi : Nat} {g : Gw} {call : Nat → List Value → Hs → Rs} (hmi : mi < 227) (hx : p.tables.exec = Jvm.exec) (hb : c.code = mb mi) (hml : c.maxLocals = ml mi) (hown : s.vm.findClass (ow (mo mi)) = some m.cls) (hts : ∀ w ∈ lw_good, w.before args s = true)
    (hK : va_K g.2.1 vwCl (tW g) s) (hI : Inj g) (hST : STA g (AA g s.heap.size) s s.heap) (hr : meth.sig.returnType = mr mi) (hlocks : meth.locks = false) (hcall : SndC l d call) {v0 : Option Value} {σ0 : Hs} :
    ∀ (n pc : Nat) (L st : List Value) (σ : Hs) (ls : Array Slot) (H : Heap) (locs : List Loc), va_P g.2.1 vwCl (wsW g σ) H → va_S (AA g s.heap.size) s.heap H locs → LH g ls (ml mi) L → runN call mi n pc L st σ = some (v0, σ0) →
      W p l e (rmD (d + 1)) s m args below meth c H locs 0 0 (MQ below (QR g v0 σ0 s.heap.size) args s 0 0 (AA g s.heap.size)) (F0 m pc ls (st.map (mv g))) := by
  intro n
  induction n with
  | zero => intro pc L st σ ls H locs _ _ _ h; cases h
  | succ n ih =>
    intro pc L st σ ls H locs hP hS hl h
    rw [runN] at h
    cases hs : stepI call mi pc L st σ with
    | none => rw [hs] at h; cases h
    | some r =>
      rw [hs] at h
      refine snd_step hmi hx hb hml hown hts hK hI hST hr hlocks hcall hP hS hl hs ?_ ?_
      · intro pc' L' st' σ' hr' ls' H' locs' hP' hS' hl'
        subst hr'
        exact ih pc' L' st' σ' ls' H' locs' hP' hS' hl' h
      · intro q hr'
        subst hr'
        exact Option.some.inj h
end EVM
theorem arL_sl {g : Gw} (hF : FMok g) (vs : List Value) : (lg_sl (vs.map (mv g))).length = (arL vs).length := by
  induction vs with
  | nil => rfl
  | cons v vs ih =>
    have h1 : lg_sl ((v :: vs).map (mv g)) = (if (mv g v).category = 2 then [.val (mv g v), .second] else [.val (mv g v)]) ++ lg_sl (vs.map (mv g)) := rfl
    rw [h1, List.length_append, ih]
    have hc := mv_cat hF v
    cases v with
    | long x => simp [arL, mv, Value.category]; try omega
    | double x => simp [arL, mv, Value.category]; try omega
    | int x => simp [arL, mv, Value.category]; try omega
    | float x => simp [arL, mv, Value.category]; try omega
    | null => simp [arL, mv, Value.category]; try omega
    | ref x => simp [arL, mv, Value.category]; try omega
    | retAddr x =>
      have h2 : ¬ (mv g (.retAddr x)).category = 2 := by rw [hc]; simp [Value.category]
      rw [if_neg h2]
      simp [arL]
      try omega
theorem arL_at {g : Gw} (hF : FMok g) (vs : List Value) : ∀ (k i : Nat) (v : Value), (arL vs)[i]? = some v → v ≠ uu → (k + i, mv g v) ∈ lv_args k (vs.map (mv g)) := by
  induction vs with
  | nil => intro k i v h; simp [arL] at h
  | cons a vs ih =>
    intro k i v h hv
    have hc := mv_cat hF a
    have gen : a.category = 1 → arL (a :: vs) = a :: arL vs → (k + i, mv g v) ∈ lv_args k ((a :: vs).map (mv g)) := by
      intro h1 h2
      rw [h2] at h
      have h3 : lv_args k ((a :: vs).map (mv g)) = (k, mv g a) :: lv_args (if (mv g a).category = 2 then k + 2 else k + 1) (vs.map (mv g)) := rfl
      rw [h3, if_neg (by rw [hc, h1]; omega)]
      cases i with
      | zero => cases h; exact List.mem_cons_self
      | succ i =>
        have := ih (k + 1) i v h hv
        rw [show k + 1 + i = k + (i + 1) by omega] at this
        exact List.mem_cons_of_mem _ this
    cases a with
    | long x =>
      have h3 : lv_args k ((Value.long x :: vs).map (mv g)) = (k, .long x) :: lv_args (k + 2) (vs.map (mv g)) := rfl
      rw [h3]
      have h2 : arL (Value.long x :: vs) = .long x :: uu :: arL vs := rfl
      rw [h2] at h
      cases i with
      | zero => cases h; exact List.mem_cons_self
      | succ i =>
        cases i with
        | zero => cases h; exact absurd rfl hv
        | succ i =>
          have := ih (k + 2) i v h hv
          rw [show k + 2 + i = k + (i + 1 + 1) by omega] at this
          exact List.mem_cons_of_mem _ this
    | double x =>
      have h3 : lv_args k ((Value.double x :: vs).map (mv g)) = (k, .double x) :: lv_args (k + 2) (vs.map (mv g)) := rfl
      rw [h3]
      have h2 : arL (Value.double x :: vs) = .double x :: uu :: arL vs := rfl
      rw [h2] at h
      cases i with
      | zero => cases h; exact List.mem_cons_self
      | succ i =>
        cases i with
        | zero => cases h; exact absurd rfl hv
        | succ i =>
          have := ih (k + 2) i v h hv
          rw [show k + 2 + i = k + (i + 1 + 1) by omega] at this
          exact List.mem_cons_of_mem _ this
    | int x => exact gen rfl rfl
    | float x => exact gen rfl rfl
    | null => exact gen rfl rfl
    | ref x => exact gen rfl rfl
    | retAddr x => exact gen rfl rfl
theorem ent_LH {g : Gw} (hF : FMok g) {mi : Nat} {vs : List Value} (hle : (arL vs).length ≤ ml mi) : LH g ((lg_sl (vs.map (mv g)) ++ List.replicate (ml mi - (lg_sl (vs.map (mv g))).length) Slot.unset).toArray) (ml mi) (ent mi vs) := by
  have h := lv_entry (vs.map (mv g)) (n := ml mi) (by rw [arL_sl hF]; exact hle)
  refine ⟨h.1, h.2.1, ?_, fun i v hi hv => ?_⟩
  · unfold ent
    rw [List.length_append, List.length_replicate]
    omega
  · unfold ent at hi
    by_cases hlt : i < (arL vs).length
    · rw [List.getElem?_append_left hlt] at hi
      have := arL_at hF vs 0 i v hi hv
      rw [Nat.zero_add] at this
      exact h.2.2 _ this
    · rw [List.getElem?_append_right (by omega)] at hi
      have := List.eq_of_mem_replicate (List.mem_of_getElem? hi)
      exact absurd this hv
theorem snd_call (l : Launch) : ∀ d, SndC l d (callD d) := by
  intro d
  induction d with
  | zero => intro mj vals σ v σ' h; cases h
  | succ d ih =>
    intro mj vals σ v σ' h hmj g sz
    have hD1 := rg_at mthD_ok hmj
    simp only [mthD, Bool.and_eq_true, decide_eq_true_eq] at hD1
    obtain ⟨⟨⟨⟨⟨⟨d1, d2⟩, d3⟩, d4⟩, d5⟩, d6⟩, d7⟩ := hD1
    unfold callD at h
    by_cases hle : (arL vals).length ≤ ml mj
    · rw [if_pos hle] at h
      obtain ⟨n, hn⟩ := runE_some.mp h
      refine Met.ofW (cc := mb mj) (maxL := ml mj) (ret := mr mj) d2 rfl ?_
      intro p e s m args below meth c s₁ B hml hv
      obtain ⟨rfl, hsz, hP, hK, hI, hST⟩ := hv
      subst hsz
      have hts := atoms_spec (ws := mw mj) B.pre
      have hown : s.vm.findClass (my mj).cls = some m.cls := findClass_of_methodNamed B.named
      rw [d1] at hown
      have hF : FMok g := hST.2.2.2.2.1
      rw [lg_entry_eq]
      exact snd_run hmj B.exec B.bytes hml hown (fun w hw => hts w (List.mem_cons_of_mem _ hw)) hK hI hST B.returns B.notSynchronized ih n 0 (ent mj vals) [] σ _ _ _ hP va_S.rf (ent_LH hF hle) hn
    · rw [if_neg hle] at h; cases h
