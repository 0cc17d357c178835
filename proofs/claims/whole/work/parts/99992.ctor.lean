/-! ===== constructors: rows over a world that grows ===== -/
def nestI : List Cond := [.methodLinkNest "SmokyHeap" 9 yX5_init "SmokyHeap", .methodLinkNest "SmokyHeap" 28 yX2_init "SmokyHeap", .methodLinkNest "SmokyHeap" 35 yX6_init "SmokyHeap", .methodLinkNest "SmokyHeap" 46 yX4_init "SmokyHeap"]
/-- words of the tables that are not good ones: arrays of references, links to nest mates' constructors -/
def XW (U : State) : Prop := va_AO "SmokyHeap$Row" U ∧ va_AO "SmokyHeap$Sheet" U ∧ va_AO "java/lang/String" U ∧ ∀ w ∈ nestI, va_Nw w U
theorem nestI_kind : ∀ w ∈ nestI, ∃ a i x h, w = .methodLinkNest a i x h := by
  intro w hw
  simp only [nestI, List.mem_cons, List.not_mem_nil, or_false] at hw
  rcases hw with rfl | rfl | rfl | rfl <;> exact ⟨_, _, _, _, rfl⟩
theorem XW.same {u U : State} (hv : U.vm = u.vm) (h : XW u) : XW U := by
  have hvm : u.vm.Alike U.vm := by rw [hv]; exact Vm.Alike.refl _
  refine ⟨h.1.moved hvm, h.2.1.moved hvm, h.2.2.1.moved hvm, fun w hw => ?_⟩
  obtain ⟨a, i, x, hh, rfl⟩ := nestI_kind w hw
  exact va_Nw.same rfl hv.symm (h.2.2.2 _ hw)
theorem XW.warm {s U : State} (hW : s.WarmedH U.vm) (h : XW s) : XW U := by
  refine ⟨h.1.moved hW.alike, h.2.1.moved hW.alike, h.2.2.1.moved hW.alike, fun w hw => ?_⟩
  obtain ⟨a, i, x, hh, rfl⟩ := nestI_kind w hw
  exact va_Nw.warmM hW (h.2.2.2 _ hw)
def CP (g : Gw) (w0 : va_W) (sz : Nat) (U : State) : Prop := U.heap.size = sz ∧ va_P g.2.1 vwCl w0 U.heap ∧ va_K g.2.1 vwCl (tW g) U ∧ va_D (fun _ => True) w0 ∧ STA g (va_A w0 sz) U U.heap ∧ XW U
theorem CP_blind {g : Gw} {w0 : va_W} {sz : Nat} {av : List Value} : FrameBlind (va_Pc av (CP g w0 sz)) := by
  intro a U fr mk h
  obtain ⟨h1, h2, h3, h4, h5, h6, h7⟩ := h
  exact ⟨h1, h2, h3, va_K.moved (u := U) (U := U.calling fr mk a) (Vm.Alike.refl U.vm) h4, h5, STA_same (u := U) rfl h6, XW.same (u := U) rfl h7⟩
abbrev CQ (g : Gw) (w : (Nat → Nat) → va_W) (w0 : va_W) (h0 sz : Nat) : Array Value → State → Outcome → State → Prop := va_Qv (fun f : Nat → Nat => f 0 = h0) (fun f t => va_P g.2.1 vwCl (w f) t.heap ∧ va_D (va_A w0 sz) (w f)) (va_A w0 sz)
def mwI (y : MethodName) (code : ByteArray) (maxL : Nat) : List Cond := Cond.code y code maxL none :: lw_good
theorem mwI_good {y : MethodName} {code : ByteArray} {maxL : Nat} (h : Cond.code y code maxL none ∈ lw_good) : GoodIn lw_good (mwI y code maxL) := by
  intro w hw
  rcases List.mem_cons.mp hw with rfl | hw
  · exact ⟨h, Or.inl rfl⟩
  · exact ⟨hw, good_of_word (List.mem_filter.mp hw).2⟩
/-- a constructor's contract: from the object alone to its whole world -/
def CON (l : Launch) (g : Gw) (y : MethodName) (code : ByteArray) (maxL : Nat) (rm : Room) (mc ms : Nat) (x0 : va_E) (h0 : Nat) (As : List Value) (w : (Nat → Nat) → va_W) : Prop := ∀ sz, Met l y (mwI y code maxL) rm (va_Pc (.ref h0 :: As) (CP g [(h0, x0)] sz)) (CQ g w [(h0, x0)] h0 sz) mc ms (va_A [(h0, x0)] sz)
def CX (g : Gw) (oc : Nat) (cc : ByteArray) (nL : Nat) (p : Program) (s : State) (m : MethodId) (args : Array Value) (meth : Method) (c : Code) (A : Nat → Prop) : Prop :=
  p.tables.exec = Jvm.exec ∧ c.code = cc ∧ c.maxLocals = nL ∧ s.vm.findClass (Rn oc) = some m.cls ∧ (∀ w ∈ lw_good, w.before args s = true) ∧ va_K g.2.1 vwCl (tW g) s ∧ STA g A s s.heap ∧ XW s ∧ (∀ q, s.heap.size ≤ q → A q) ∧ meth.name = "<init>"
def WD (g : Gw) (A : Nat → Prop) (s : State) (H : Heap) (locs : List Loc) (ws : va_W) : Prop := va_P g.2.1 vwCl ws H ∧ va_D A ws ∧ va_S A s.heap H locs
theorem P_last {D : va_G} {cl : List vw_C} {wr : va_W} {x : Nat × va_E} {H : Heap} (h : va_P D cl (wr ++ [x]) H) : va_P D cl [x] H := fun k q hq => by
  have hz : k < 1 := (List.getElem?_eq_some_iff.mp hq).1
  obtain rfl : k = 0 := by omega
  refine h wr.length q ?_
  rw [List.getElem?_append_right (Nat.le_refl _), Nat.sub_self]
  exact hq
theorem D_one {x : Nat × va_E} : va_D (fun _ => True) [x] := by
  refine ⟨fun i j p q hp hq _ => ?_, fun _ _ _ => trivial⟩
  have h1 : i < 1 := (List.getElem?_eq_some_iff.mp hp).1
  have h2 : j < 1 := (List.getElem?_eq_some_iff.mp hq).1
  omega
theorem at_last {wr : va_W} {x : Nat × va_E} : (wr ++ [x])[wr.length]? = some x := by
  rw [List.getElem?_append_right (Nat.le_refl _), Nat.sub_self]
  rfl
theorem F_last {A : Nat → Prop} {wr : va_W} {x : Nat × va_E} {H0 H : Heap} {locs : List Loc} (hD : va_D A (wr ++ [x])) (hS : va_S A H0 H locs) (hA : ∀ q, H0.size ≤ q → A q) : ∀ q, va_A [x] H.size q → A q := by
  intro q h
  rcases h with ⟨k, e, h⟩ | h
  · have hz : k < 1 := (List.getElem?_eq_some_iff.mp h).1
    obtain rfl : k = 0 := by omega
    cases h
    exact hD.2 wr.length _ at_last
  · exact hA q (Nat.le_trans hS.1 h)
theorem join_last {A : Nat → Prop} {D : va_G} {cl : List vw_C} {wr w1 : va_W} {x : Nat × va_E} {H H1 : Heap} (hP : va_P D cl (wr ++ [x]) H) (hD : va_D A (wr ++ [x])) (hk : ∀ q : Nat, q < H.size → ¬ va_A [x] H.size q → H1[q]? = H[q]?) (hF : ∀ q, va_A [x] H.size q → A q) (hP1 : va_P D cl w1 H1) (hD1 : va_D (va_A [x] H.size) w1) : va_P D cl (wr ++ w1) H1 ∧ va_D A (wr ++ w1) := by
  have inL : ∀ (k : Nat) (q : Nat × va_E), wr[k]? = some q → k < wr.length ∧ (wr ++ [x])[k]? = some q := fun k q hq => by
    have hl : k < wr.length := (List.getElem?_eq_some_iff.mp hq).1
    exact ⟨hl, by rw [List.getElem?_append_left hl]; exact hq⟩
  have apart : ∀ (k : Nat) (q : Nat × va_E), wr[k]? = some q → q.1 < H.size ∧ ¬ va_A [x] H.size q.1 := by
    intro k q hq
    obtain ⟨hl, h2⟩ := inL k q hq
    have hlt := (hP k q h2).lt
    refine ⟨hlt, fun h => ?_⟩
    rcases h with ⟨k2, e, h⟩ | h
    · have hz : k2 < 1 := (List.getElem?_eq_some_iff.mp h).1
      obtain rfl : k2 = 0 := by omega
      have hx : x = (q.1, e) := Option.some.inj h
      have := hD.1 k wr.length q x h2 at_last (by rw [hx])
      omega
    · omega
  refine ⟨va_P.app (fun k q hq => ?_) hP1, va_D.app ⟨fun i j a b ha hb e => hD.1 i j a b (inL i a ha).2 (inL j b hb).2 e, fun k q hq => hD.2 k q (inL k q hq).2⟩ (hD1.weaken (fun k q _ h => hF q.1 h)) (fun i j a b ha hb e => ?_)⟩
  · obtain ⟨g1, g2⟩ := apart k q hq
    exact (hP k q (inL k q hq).2).kept (hk q.1 g1 g2)
  · exact (apart i a ha).2 (by rw [e]; exact hD1.2 j b hb)
theorem aI_in : Cond.arrayClass .int ∈ lw_good := mem_good (i := 160) rfl rfl
theorem aZ_in : Cond.arrayClass .boolean ∈ lw_good := mem_good (i := 161) rfl rfl
theorem oi_in : Cond.instanceMethod objectInit ∈ lw_good := mem_good (i := 88) rfl rfl
theorem oc_in : Cond.code objectInit ⟨#[0xb1]⟩ 1 none ∈ lw_good := mem_good (i := 89) rfl rfl
def dfl (ci : Nat) : List Value := (List.range (Nn ci)).map fun j => defaultValue (fty ci j)
theorem dfl_ok (ci : Nat) : ∀ j, j < Nn ci → defaultValue (fty ci j) = vp_V (dfl ci) j := fun j hj => by
  unfold vp_V dfl
  rw [List.getD_eq_getElem?_getD, List.getElem?_map, List.getElem?_range hj]
  rfl
section CTR
variable {p : Program} {l : Launch} {e : Env} {R : Room} {s : State} {m : MethodId} {args : Array Value} {below : List Frame} {meth : Method} {c : Code} {H : Heap} {locs : List Loc} {cells slots : Nat} {Q : State → Prop}
variable {cc : ByteArray} {pc : Nat} {ls : Array Slot} {rest : List Value} {ws wr : va_W} {A : Nat → Prop} {g : Gw} {oc nL : Nat}
theorem con_of {y : MethodName} {code : ByteArray} {maxL mc ms h0 oc : Nat} {rm : Room} {x0 : va_E} {As : List Value} {w : (Nat → Nat) → va_W} (hy : plainName y.cls = true) (hyn : y.name = "<init>") (hoc : y.cls = Rn oc) (hle : (lg_sl (Value.ref h0 :: As)).length ≤ maxL)
    (body : ∀ (p : Program) (e : Env) (s : State) (m : MethodId) (args : Array Value) (below : List Frame) (meth : Method) (c : Code) (ls : Array Slot), CX g oc code maxL p s m args meth c (va_A [(h0, x0)] s.heap.size) → meth.sig.returnType = none → meth.locks = false → lv_has ls maxL (lv_args 0 (Value.ref h0 :: As)) → WD g (va_A [(h0, x0)] s.heap.size) s s.heap [] [(h0, x0)] →
      W p l e rm s m args below meth c s.heap [] 0 0 (MQ below (CQ g w [(h0, x0)] h0 s.heap.size) args s mc ms (va_A [(h0, x0)] s.heap.size)) (F0 m 0 ls [])) : CON l g y code maxL rm mc ms x0 h0 As w := by
  intro sz
  refine Met.ofW (cc := code) (maxL := maxL) (ret := none) hy rfl ?_
  intro p e s m args below meth c s₁ B hml hv
  obtain ⟨rfl, hsz, hP, hK, hD0, hST, hXW⟩ := hv
  subst hsz
  have hts := atoms_spec (ws := mwI y code maxL) B.pre
  have hown : s.vm.findClass y.cls = some m.cls := findClass_of_methodNamed B.named
  rw [hoc] at hown
  have hD : va_D (va_A [(h0, x0)] s.heap.size) [(h0, x0)] := hD0.self
  have hin : meth.name = "<init>" := (name_of_methodNamed B.named B.method).1.trans hyn
  rw [lg_entry_eq]
  exact body p e s m _ below meth c _ ⟨B.exec, B.bytes, hml, hown, fun w hw => hts w (List.mem_cons_of_mem _ hw), hK, hST, hXW, fun q h => Or.inr h, hin⟩ B.returns B.notSynchronized (lv_entry (Value.ref h0 :: As) hle) ⟨hP, hD, va_S.rf⟩
theorem cr_obj (X : CX g oc cc nL p s m args meth c A) {idx a : Nat} (hw : Cond.methodLink (Rn oc) idx objectInit ∈ lw_good) (hsz : ls.size = nL) (hdg : decode cc pc = .ok (.invokespecial idx, 3)) (hf : 1 ≤ R.frames) (hlo : (rest.map fun v => v.category).sum + 12 ≤ R.locals)
    (kk : W p l e R s m args below meth c H locs cells slots Q (F0 m (pc + 3) ls rest)) : W p l e R s m args below meth c H locs cells slots Q (F0 m pc ls (.ref a :: rest)) := by
  obtain ⟨hx, hb, hml, hown, hts, -⟩ := X
  refine W.objInit hx hb hown (hts _ hw) (hts _ oi_in) (hts _ oc_in) rfl (by rw [hml]; exact hsz) rfl hdg hf (by show 2 * 0 + _ + 12 ≤ _; omega) ?_
  exact kk
theorem cr_put (X : CX g oc cc nL p s m args meth c A) (hWd : WD g A s H locs ws) (q0 : Nat) {h0 ci k idx : Nat} {fs : List Value} {v : Value} (he : ws[q0]? = some (h0, .inr (ci, fs))) (hci : ci < 9) (hk : k < Nn ci) (hoc : (Tn ci k).1 = Rn oc) (hw : Cond.fieldLink (Rn oc) idx (Tn ci k).1 (Tn ci k).2.1 (Tn ci k).2.2.1 ∈ lw_good) (hn : narrow (fty ci k) v = v) (hfit : fits (fty ci k) v = true) (hl : k < fs.length) (hdg : decode cc pc = .ok (.putfield idx, 3))
    (kk : ∀ (H1 : Heap) (locs1 : List Loc), WD g A s H1 locs1 (ws.set q0 (h0, .inr (ci, fs.set k v))) → W p l e R s m args below meth c H1 locs1 cells slots Q (F0 m (pc + 3) ls rest)) : W p l e R s m args below meth c H locs cells slots Q (F0 m pc ls (v :: .ref h0 :: rest)) := by
  obtain ⟨hx, hb, hml, hown, hts, hK, hST, hXW, hA, hin⟩ := X
  by_cases hfin : (Tn ci k).2.2.2 = true
  · exact va_putF (C := Rn ci) (T := Tn ci) (N := Nn ci) hx hb hts (lay_good ci hci) (fty ci) (fty_ok ci hci) (nm_n ci hci) hown hK hWd.1 hWd.2.1 hWd.2.2 q0 he (vwCl_at ci hci) k hk (hts _ hw) (fun _ h => h) hfin hin hoc (fty_ok ci hci k hk) hn hfit hl hdg (fun H1 l1 a b d => kk H1 l1 ⟨a, b, d⟩)
  · exact va_put (C := Rn ci) (T := Tn ci) (N := Nn ci) hx hb hts (lay_good ci hci) (fty ci) (fty_ok ci hci) (nm_n ci hci) hown hK hWd.1 hWd.2.1 hWd.2.2 q0 he (vwCl_at ci hci) k hk (hts _ hw) (fun _ h => h) (Bool.eq_false_iff.mpr hfin) (fty_ok ci hci k hk) hn hfit hl hdg (fun H1 l1 a b d => kk H1 l1 ⟨a, b, d⟩)
theorem cr_get (X : CX g oc cc nL p s m args meth c A) (hWd : WD g A s H locs ws) (q0 : Nat) {h0 ci k idx : Nat} {fs : List Value} {v : Value} (he : ws[q0]? = some (h0, .inr (ci, fs))) (hci : ci < 9) (hk : k < Nn ci) (hw : Cond.fieldLink (Rn oc) idx (Tn ci k).1 (Tn ci k).2.1 (Tn ci k).2.2.1 ∈ lw_good) (hv : fs[k]? = some v) (hdg : decode cc pc = .ok (.getfield idx, 3))
    (kk : W p l e R s m args below meth c H locs cells slots Q (F0 m (pc + 3) ls (v :: rest))) : W p l e R s m args below meth c H locs cells slots Q (F0 m pc ls (.ref h0 :: rest)) := by
  obtain ⟨hx, hb, hml, hown, hts, hK, hST, hXW, hA, hin⟩ := X
  exact va_get (C := Rn ci) (T := Tn ci) (N := Nn ci) hx hb hts (lay_good ci hci) hown hK hWd.1 q0 he (vwCl_at ci hci) k hk (hts _ hw) (fun _ h => h) hv hdg kk
theorem cr_newI (X : CX g oc cc nL p s m args meth c A) (hWd : WD g A s H locs ws) {n : Int32} {N : Nat} (hn : ¬ n < 0) (hN : n.toNatClampNeg = N) (hN9 : N ≤ 1000) (hc : cells + 1 ≤ R.cells) (hs : slots + N ≤ R.slots) (hdg : decode cc pc = .ok (.newarray .int, 2))
    (kk : ∀ (q : Nat) (H1 : Heap), WD g A s H1 locs (ws ++ [(q, .inl (g.2.2.1 10, N, .inl fun _ => 0))]) → W p l e R s m args below meth c H1 locs (cells + 1) (slots + N) Q (F0 m (pc + 2) ls (.ref q :: rest))) : W p l e R s m args below meth c H locs cells slots Q (F0 m pc ls (.int n :: rest)) := by
  obtain ⟨hx, hb, hml, hown, hts, hK, hST, hXW, hA, hin⟩ := X
  refine va_newa (atype := .int) (ty := .int) (a0 := (N, .inl fun _ => 0)) hx hb (hts _ aI_in) rfl hK hWd.1 hWd.2.1 hWd.2.2 hA (fun cA => rfl) hn hN (by show N * 4 ≤ _; omega) hc hs hdg (fun q cA H1 hK1 hP hD hS => ?_)
  have e1 : s.vm.findClass ("[" ++ FieldType.int.toString) = some cA := (hK1.2 5 _ rfl).2
  have e0 : s.vm.findClass ("[" ++ FieldType.int.toString) = some (g.2.2.1 10) := (hK.2 0 _ (tW_10 g)).2
  have ec : cA = g.2.2.1 10 := Option.some.inj (e1.symm.trans e0)
  subst ec
  exact kk q H1 ⟨hP, hD, hS⟩
theorem cr_newZ (X : CX g oc cc nL p s m args meth c A) (hWd : WD g A s H locs ws) {n : Int32} {N : Nat} (hn : ¬ n < 0) (hN : n.toNatClampNeg = N) (hN9 : N ≤ 1000) (hc : cells + 1 ≤ R.cells) (hs : slots + N ≤ R.slots) (hdg : decode cc pc = .ok (.newarray .boolean, 2))
    (kk : ∀ (q : Nat) (H1 : Heap), WD g A s H1 locs (ws ++ [(q, .inl (g.2.2.1 11, N, .inl fun _ => 0))]) → W p l e R s m args below meth c H1 locs (cells + 1) (slots + N) Q (F0 m (pc + 2) ls (.ref q :: rest))) : W p l e R s m args below meth c H locs cells slots Q (F0 m pc ls (.int n :: rest)) := by
  obtain ⟨hx, hb, hml, hown, hts, hK, hST, hXW, hA, hin⟩ := X
  refine va_newa (atype := .boolean) (ty := .boolean) (a0 := (N, .inl fun _ => 0)) hx hb (hts _ aZ_in) rfl hK hWd.1 hWd.2.1 hWd.2.2 hA (fun cA => rfl) hn hN (by show N * 1 ≤ _; omega) hc hs hdg (fun q cA H1 hK1 hP hD hS => ?_)
  have e1 : s.vm.findClass ("[" ++ FieldType.boolean.toString) = some cA := (hK1.2 5 _ rfl).2
  have e0 : s.vm.findClass ("[" ++ FieldType.boolean.toString) = some (g.2.2.1 11) := (hK.2 1 _ (tW_11 g)).2
  have ec : cA = g.2.2.1 11 := Option.some.inj (e1.symm.trans e0)
  subst ec
  exact kk q H1 ⟨hP, hD, hS⟩
theorem cr_newQ (X : CX g oc cc nL p s m args meth c A) (hWd : WD g A s H locs ws) {C : String} {idx t0 : Nat} {cq : ClassId} (ht : (tW g)[t0]? = some (cq, .object C)) (hao : va_AO C s) (hcl : Cond.classLink (Rn oc) idx C ∈ lw_good) {n : Int32} {N : Nat} (hn : ¬ n < 0) (hN : n.toNatClampNeg = N) (hN9 : N ≤ 1000) (hc : cells + 1 ≤ R.cells) (hs : slots + N ≤ R.slots) (hdg : decode cc pc = .ok (.anewarray idx, 3))
    (kk : ∀ (q : Nat) (H1 : Heap), WD g A s H1 locs (ws ++ [(q, .inl (cq, N, .inr (.inr (.inr (.inr fun _ => none)))))]) → W p l e R s m args below meth c H1 locs (cells + 1) (slots + N) Q (F0 m (pc + 3) ls (.ref q :: rest))) : W p l e R s m args below meth c H locs cells slots Q (F0 m pc ls (.int n :: rest)) := by
  obtain ⟨hx, hb, hml, hown, hts, hK, hST, hXW, hA, hin⟩ := X
  refine va_newq hx hb hown (hts _ hcl) hao hK hWd.1 hWd.2.1 hWd.2.2 hA hn hN (by omega) hc hs hdg (fun q cA H1 hK1 hP hD hS => ?_)
  obtain ⟨_, _, -, -, -, e1⟩ := (hK1.2 5 _ rfl).2
  obtain ⟨_, _, -, -, -, e0⟩ := (hK.2 t0 _ ht).2
  have ec : cA = cq := Option.some.inj (e1.symm.trans e0)
  subst ec
  exact kk q H1 ⟨hP, hD, hS⟩
theorem cr_new (X : CX g oc cc nL p s m args meth c A) (hWd : WD g A s H locs ws) {ci idx : Nat} (hci : ci < 9) (hcl : Cond.classLink (Rn oc) idx (Rn ci) ∈ lw_good) (hinst : Cond.instantiable (Rn ci) (Nn ci) ∈ lw_good) (hini : Cond.initialized (Rn ci) ∈ lw_good) (hc : cells + 1 ≤ R.cells) (hs : slots + Nn ci ≤ R.slots) (hdg : decode cc pc = .ok (.new idx, 3))
    (kk : ∀ (q : Nat) (H1 : Heap), WD g A s H1 locs (ws ++ [(q, .inr (ci, dfl ci))]) → W p l e R s m args below meth c H1 locs (cells + 1) (slots + Nn ci) Q (F0 m (pc + 3) ls (.ref q :: rest))) : W p l e R s m args below meth c H locs cells slots Q (F0 m pc ls rest) := by
  obtain ⟨hx, hb, hml, hown, hts, hK, hST, hXW, hA, hin⟩ := X
  exact va_new (ci := ci) (fs := dfl ci) (C := Rn ci) (T := Tn ci) (N := Nn ci) hx hb hts (lay_good ci hci) (fty ci) (fty_ok ci hci) hown (hts _ hcl) (hts _ hinst) (hts _ hini) hK hWd.1 hWd.2.1 hWd.2.2 hA (vwCl_at ci hci) (dfl_ok ci) hc hs hdg (fun q H1 a b d => kk q H1 ⟨a, b, d⟩)
theorem cr_call (X : CX g oc cc nL p s m args meth c A) {b : Nat} {x0 : va_E} (hWd : WD g A s H locs (wr ++ [(b, x0)])) {y : MethodName} {code : ByteArray} {maxL mc ms idx : Nat} {rm : Room} {As : List Value} {w : (Nat → Nat) → va_W} (hM : CON l g y code maxL rm mc ms x0 b As w)
    (hlk : Cond.methodLink (Rn oc) idx y ∈ lw_good ∨ Cond.methodLinkNest (Rn oc) idx y hostN ∈ nestI) (hcode : Cond.code y code maxL none ∈ lw_good) (hini : Cond.initialized y.cls ∈ lw_good) (hinst : Cond.instanceMethod y ∈ lw_good) (hyn : y.name = "<init>") (hd : y.cls ≠ "java/lang/invoke/MethodHandle" ∧ y.cls ≠ "java/lang/invoke/VarHandle" ∧ (parseMethodDescriptor y.desc).map (fun d => d.parameters.length) = some As.length) (hrm : rm.cells = mc ∧ rm.slots = ms) (hR : rm.frames + 1 ≤ R.frames ∧ 8 + (maxL + 11) + rm.locals ≤ R.locals) (hsz : ls.size = nL) (hcat : (rest.map fun v => v.category).sum ≤ 8) (hdg : decode cc pc = .ok (.invokespecial idx, 3)) (hf : cells + mc ≤ R.cells ∧ slots + ms ≤ R.slots)
    {st0 : List Value} (hst : st0 = As.reverse ++ .ref b :: rest)
    (kk : ∀ (f : Nat → Nat) (H1 : Heap) (locs1 : List Loc), f 0 = b → WD g A s H1 locs1 (wr ++ w f) → W p l e R s m args below meth c H1 locs1 (cells + mc) (slots + ms) Q (F0 m (pc + 3) ls rest)) : W p l e R s m args below meth c H locs cells slots Q (F0 m pc ls st0) := by
  subst hst
  obtain ⟨hx, hb, hml, hown, hts, hK, hST, hXW, hA, hin⟩ := X
  obtain ⟨hP, hD, hS⟩ := hWd
  have hFc := F_last hD hS hA
  have hpre : PreS s H (va_Pc (.ref b :: As) (CP g [(b, x0)] H.size)) (.ref b :: As) := ⟨CP_blind, fun U hU hW => ⟨rfl, by rw [hU], by rw [hU]; exact P_last hP, va_K.moved hW.alike hK, D_one, by rw [hU]; exact STA_to hST hS hFc hW, XW.warm hW hXW⟩⟩
  have hS0 : CallFix p m c cc nL s args lw_good (Rn oc) := ⟨hx, hb, hml, hown, hts⟩
  have fin : va_Run p l e R s m args below meth c H locs cells slots mc ms (F0 m pc ls (As.reverse ++ .ref b :: rest)) rest (CQ g w [(b, x0)] b H.size (Value.ref b :: As).toArray) (va_A [(b, x0)] H.size) := by
    rcases hlk with hlk | hlk
    · exact va_runI hS0 (hM H.size) (cwI As.length hts (mwI_good hcode) rfl hrm.1 hrm.2 (hts _ hini) (hts _ hlk) (hts _ hinst) hyn hd hR) hpre rfl rfl hsz rfl (lv_room hcat) hdg hf
    · exact va_runIN hS0 (hM H.size) ⟨va_cnB As.length hts (mwI_good hcode) rfl hrm.1 hrm.2 (hXW.2.2.2 _ hlk) (hts _ hini) hd hR, hyn, hts _ hinst⟩ hpre rfl rfl hsz rfl (lv_room hcat) hdg hf
  refine va_callv fin hS (fun q _ h => hFc q h) hFc (fun f t H1 locs1 ht hvm hw hB hz1 hk1 hS1 => ?_)
  obtain ⟨hP1, hD1⟩ := hB
  rw [ht] at hP1
  obtain ⟨hP2, hD2⟩ := join_last hP hD hk1 hFc hP1 hD1
  exact kk f H1 locs1 hw ⟨hP2, hD2, hS1⟩
theorem cr_iast (X : CX g oc cc nL p s m args meth c A) (hWd : WD g A s H locs ws) (q0 : Nat) {a n : Nat} {f : Nat → Int32} {i x : Int32} (ha : ws[q0]? = some (a, .inl (g.2.2.1 10, n, .inl f))) (hin : vp_in i n) (hdg : decode cc pc = .ok (.iastore, 1))
    (kk : ∀ (H1 : Heap) (locs1 : List Loc), WD g A s H1 locs1 (ws.set q0 (a, .inl (g.2.2.1 10, n, .inl (upd f i.toNatClampNeg x)))) → W p l e R s m args below meth c H1 locs1 cells slots Q (F0 m (pc + 1) ls rest)) : W p l e R s m args below meth c H locs cells slots Q (F0 m pc ls (.int x :: .int i :: .ref a :: rest)) := by
  obtain ⟨hx, hb, hml, hown, hts, hK, hST, hXW, hA, -⟩ := X
  exact va_iast hx hb hK hWd.1 hWd.2.1 hWd.2.2 q0 0 ha (tW_10 g) hin hdg (fun H1 l1 a b d => kk H1 l1 ⟨a, b, d⟩)
theorem cr_aast (X : CX g oc cc nL p s m args meth c A) (hWd : WD g A s H locs ws) (q0 t0 qk : Nat) {a n v ci : Nat} {vs : List Value} {cq : ClassId} {f : Nat → Option Nat} {i : Int32} (ht : (tW g)[t0]? = some (cq, .object (Rn ci))) (ha : ws[q0]? = some (a, .inl (cq, n, .inr (.inr (.inr (.inr f)))))) (hv : ws[qk]? = some (v, .inr (ci, vs))) (hci : ci < 9) (hin : vp_in i n) (hdg : decode cc pc = .ok (.aastore, 1))
    (kk : ∀ (H1 : Heap) (locs1 : List Loc), WD g A s H1 locs1 (ws.set q0 (a, .inl (cq, n, .inr (.inr (.inr (.inr (va_up f i.toNatClampNeg (some v)))))))) → W p l e R s m args below meth c H1 locs1 cells slots Q (F0 m (pc + 1) ls rest)) : W p l e R s m args below meth c H locs cells slots Q (F0 m pc ls (.ref v :: .int i :: .ref a :: rest)) := by
  obtain ⟨hx, hb, hml, hown, hts, hK, hST, hXW, hA, -⟩ := X
  exact va_astq (r := (Rn ci, Tn ci, Nn ci)) hx hb hK hWd.1 hWd.2.1 hWd.2.2 q0 t0 qk ci ha ht hv (vwCl_at ci hci) hin hdg (fun H1 l1 a b d => kk H1 l1 ⟨a, b, d⟩)
theorem cr_sast (X : CX g oc cc nL p s m args meth c A) (hWd : WD g A s H locs ws) (q0 j : Nat) (hj : j < 12) {a n : Nat} {f : Nat → Option Nat} {i : Int32} (ha : ws[q0]? = some (a, .inl (g.2.2.1 14, n, .inr (.inr (.inr (.inr f)))))) (hin : vp_in i n) (hdg : decode cc pc = .ok (.aastore, 1))
    (kk : ∀ (H1 : Heap) (locs1 : List Loc), WD g A s H1 locs1 (ws.set q0 (a, .inl (g.2.2.1 14, n, .inr (.inr (.inr (.inr (va_up f i.toNatClampNeg (some (g.1 (110 + j)))))))))) → W p l e R s m args below meth c H1 locs1 cells slots Q (F0 m (pc + 1) ls rest)) : W p l e R s m args below meth c H locs cells slots Q (F0 m pc ls (.ref (g.1 (110 + j)) :: .int i :: .ref a :: rest)) := by
  obtain ⟨hx, hb, hml, hown, hts, hK, hST, hXW, hA, -⟩ := X
  obtain ⟨cell, h1, h2, h3, -⟩ := (hST.2.1 j hj).1.kept hWd.2.2.2.1
  exact vb_astq (E := "java/lang/String") (C := "java/lang/String") hx hb hK hWd.1 hWd.2.1 hWd.2.2 q0 4 ha rfl ⟨cell, h1, h2, h3⟩ (fun comp c0 e1 e2 => by
    cases e1.symm.trans e2
    exact va_asg _ _) hin hdg (fun H1 l1 a b d => kk H1 l1 ⟨a, b, d⟩)
theorem cr_ldc (X : CX g oc cc nL p s m args meth c A) (hWd : WD g A s H locs ws) (j : Nat) (hj : j < 12) {idx : Nat} (ho : kow j = Rn oc) (hi : kix j = idx) (hdg : decode cc pc = .ok (.ldc idx, 2))
    (kk : W p l e R s m args below meth c H locs cells slots Q (F0 m (pc + 2) ls (.ref (g.1 (110 + j)) :: rest))) : W p l e R s m args below meth c H locs cells slots Q (F0 m pc ls rest) := by
  obtain ⟨hx, hb, hml, hown, hts, hK, hST, hXW, hA, -⟩ := X
  have hr := (hST.2.1 j hj).2.2.2.2
  rw [ho, hi] at hr
  exact va_ldcS hx hb hown hr hdg kk
end CTR
