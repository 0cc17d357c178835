/-! THE CLAIM OUT OF ONE WALK OF THE LAW'S BODY. Your part is whole_start (and what it stands on); all else here is the same for every law, but numbers. -/
def R_law : String := "SmokyHeapLaw"
def lw_P (b : Addr) (xs : List Int32) (args : Array Value) (s : State) : Prop := args = #[.ref b] ∧ s.IntsAt b xs ∧ xs.length ≤ 3072 ∧ (Jvm.Cond.and given_1 narrow_1).before args s = true
def lw_Q (_ : Array Value) (s : State) (o : Outcome) (t : State) : Prop := o = .returned (some (.int 1)) ∧ Framed s o t [] 600000 7302250
def lw_Z (below : List Frame) (a : Array Value) (s : State) : State → Prop := fun t => ∃ o, t.status = .running ∧ Ended t below o ∧ lw_Q a s o t
/-- the law's own end, with 1 on the stack, nothing written that was there before, its room as the claim has it -/
theorem lw_ret {p : Program} {l : Launch} {e : Env} {s : State} {m : MethodId} {below : List Frame} {meth : Method} {c : Code} {b : Nat} (hx : p.tables.exec = Jvm.exec) (hb : c.code = code) (hr : meth.sig.returnType = ret) (hlocks : meth.locks = false) {pc : Nat} {H : Heap} {ls : Array Slot} (hdg : decode code pc = .ok (.ireturn, 1)) : W p l e room_1 s m #[Value.ref b] below meth c H [] 600000 7302250 (lw_Z below #[Value.ref b] s) (F0 m pc ls [.int 1]) := by
  intro T hT X
  obtain ⟨fs, hret, hrun, hended, hW, hframe⟩ := X.leave (v := some (.int 1)) (hlocks := hlocks) (fun h => by rw [hr] at h; cases h)
  have hmeth' : T.vm.method? m = some meth := X.method'
  refine ⟨T.setFrames fs, ?_, .returned (some (.int 1)), hrun, hended, rfl, ⟨_, rfl⟩, hW, hframe⟩
  jvm_step X.here [X.here.top, hx, hb, hdg, hmeth', hr, ret, narrow_b1]
  (try refine ⟨rfl, ?_⟩); (try refine ⟨rfl, ?_⟩)
  first | (intro acts; rw [hret _ acts rfl rfl rfl]) | rw [hret _ _ rfl rfl rfl]
  exact Steps.refl _
/-- what holds at the law's entry: the machine, the code, the tables' words (any of lw_tbl by 'hts w (by decide +kernel)'), the script of L ints xs at the cell b, what the Statement gives of the start (any of its parts by flat_of_before) -/
def lw_At (p : Program) (s : State) (m : MethodId) (meth : Method) (c : Code) (b L : Nat) (xs : Nat → Int32) : Prop :=
  p.tables.exec = Jvm.exec ∧ c.code = code ∧ meth.sig.returnType = ret ∧ c.maxLocals = 4 ∧ s.vm.findClass R_law = some m.cls ∧ (∀ w ∈ lw_tbl, w.before #[Value.ref b] s = true) ∧ va_X b L xs s s.heap ∧ b < s.heap.size ∧ meth.locks = false ∧ (Jvm.Cond.and given_1 narrow_1).before #[Value.ref b] s = true
section LAW1
variable {p : Program} {l : Launch} {e : Env} {s : State} {m : MethodId} {args : Array Value} {below : List Frame} {meth : Method} {c : Code} {H : Heap} {locs : List Loc} {cells slots : Nat} {Q : State → Prop}
variable {pc : Nat} {ls : Array Slot} {rest : List Value} {ws wr : va_W} {A : Nat → Prop} {g : Gw} {b L j : Nat} {xs : Nat → Int32} {σ : Hs}
def LX (g : Gw) (p : Program) (s : State) (m : MethodId) (args : Array Value) (c : Code) (A : Nat → Prop) : Prop :=
  p.tables.exec = Jvm.exec ∧ c.code = code ∧ c.maxLocals = 4 ∧ s.vm.findClass R_law = some m.cls ∧ (∀ w ∈ lw_good, w.before args s = true) ∧ va_K g.2.1 vwCl (tW g) s ∧ STA g A s s.heap ∧ XW s ∧ (∀ q, s.heap.size ≤ q → A q)
theorem lw_new (X : LX g p s m args c A) (hWd : WD g A s H locs ws) {ci idx : Nat} (hci : ci < 9) (hcl : Cond.classLink R_law idx (Rn ci) ∈ lw_good) (hinst : Cond.instantiable (Rn ci) (Nn ci) ∈ lw_good) (hini : Cond.initialized (Rn ci) ∈ lw_good) (hc : cells + 1 ≤ room_1.cells) (hs : slots + Nn ci ≤ room_1.slots) (hdg : decode code pc = .ok (.new idx, 3))
    (kk : ∀ (q : Nat) (H1 : Heap), WD g A s H1 locs (ws ++ [(q, .inr (ci, dfl ci))]) → W p l e room_1 s m args below meth c H1 locs (cells + 1) (slots + Nn ci) Q (F0 m (pc + 3) ls (.ref q :: rest))) : W p l e room_1 s m args below meth c H locs cells slots Q (F0 m pc ls rest) := by
  obtain ⟨hx, hb, hml, hown, hts, hK, hST, hXW, hA⟩ := X
  exact va_new (ci := ci) (fs := dfl ci) (C := Rn ci) (T := Tn ci) (N := Nn ci) hx hb hts (lay_good ci hci) (fty ci) (fty_ok ci hci) hown (hts _ hcl) (hts _ hinst) (hts _ hini) hK hWd.1 hWd.2.1 hWd.2.2 hA (vwCl_at ci hci) (dfl_ok ci) hc hs hdg (fun q H1 a b d => kk q H1 ⟨a, b, d⟩)
theorem lw_ctor (X : LX g p s m args c A) {b : Nat} {x0 : va_E} (hWd : WD g A s H locs (wr ++ [(b, x0)])) {y : MethodName} {code0 : ByteArray} {maxL mc ms idx : Nat} {rm : Room} {w : (Nat → Nat) → va_W} (hM : CON l g y code0 maxL rm mc ms x0 b [] w)
    (hlk : Cond.methodLink R_law idx y ∈ lw_good) (hcode : Cond.code y code0 maxL none ∈ lw_good) (hini : Cond.initialized y.cls ∈ lw_good) (hinst : Cond.instanceMethod y ∈ lw_good) (hyn : y.name = "<init>") (hd : y.cls ≠ "java/lang/invoke/MethodHandle" ∧ y.cls ≠ "java/lang/invoke/VarHandle" ∧ (parseMethodDescriptor y.desc).map (fun d => d.parameters.length) = some 0) (hrm : rm.cells = mc ∧ rm.slots = ms) (hR : rm.frames + 1 ≤ room_1.frames ∧ 8 + (maxL + 11) + rm.locals ≤ room_1.locals) (hsz : ls.size = 4) (hcat : (rest.map fun v => v.category).sum ≤ 8) (hdg : decode code pc = .ok (.invokespecial idx, 3)) (hf : cells + mc ≤ room_1.cells ∧ slots + ms ≤ room_1.slots)
    (kk : ∀ (f : Nat → Nat) (H1 : Heap) (locs1 : List Loc), f 0 = b → WD g A s H1 locs1 (wr ++ w f) → W p l e room_1 s m args below meth c H1 locs1 (cells + mc) (slots + ms) Q (F0 m (pc + 3) ls rest)) : W p l e room_1 s m args below meth c H locs cells slots Q (F0 m pc ls (.ref b :: rest)) := by
  obtain ⟨hx, hb, hml, hown, hts, hK, hST, hXW, hA⟩ := X
  obtain ⟨hP, hD, hS⟩ := hWd
  have hFc := F_last hD hS hA
  have hpre : PreS s H (va_Pc (.ref b :: []) (CP g [(b, x0)] H.size)) (.ref b :: []) := ⟨CP_blind, fun U hU hW => ⟨rfl, by rw [hU], by rw [hU]; exact P_last hP, va_K.moved hW.alike hK, D_one, by rw [hU]; exact STA_to hST hS hFc hW, XW.warm hW hXW⟩⟩
  have hS0 : CallFix p m c code 4 s args lw_good R_law := ⟨hx, hb, hml, hown, hts⟩
  have fin : va_Run p l e room_1 s m args below meth c H locs cells slots mc ms (F0 m pc ls (.ref b :: rest)) rest (CQ g w [(b, x0)] b H.size (Value.ref b :: []).toArray) (va_A [(b, x0)] H.size) := va_runI hS0 (hM H.size) (cwI 0 hts (mwI_good hcode) rfl hrm.1 hrm.2 (hts _ hini) (hts _ hlk) (hts _ hinst) hyn hd hR) hpre rfl rfl hsz rfl (lv_room hcat) hdg hf
  refine va_callv fin hS (fun q _ h => hFc q h) hFc (fun f t H1 locs1 ht hvm hw hB hz1 hk1 hS1 => ?_)
  obtain ⟨hP1, hD1⟩ := hB
  rw [ht] at hP1
  obtain ⟨hP2, hD2⟩ := join_last hP hD hk1 hFc hP1 hD1
  exact kk f H1 locs1 hw ⟨hP2, hD2, hS1⟩
/-- what the loop stands on -/
def LC (g : Gw) (p : Program) (s : State) (m : MethodId) (args : Array Value) (c : Code) (b L : Nat) (xs : Nat → Int32) : Prop :=
  p.tables.exec = Jvm.exec ∧ c.code = code ∧ c.maxLocals = 4 ∧ s.vm.findClass R_law = some m.cls ∧ (∀ w ∈ lw_good, w.before args s = true) ∧ va_K g.2.1 vwCl (tW g) s ∧ STA g (AA g s.heap.size) s s.heap ∧ Inj g ∧ va_X b L xs s s.heap ∧ b < s.heap.size ∧ ¬ AA g s.heap.size b
def lvv (g : Gw) (b j : Nat) : List (Nat × Value) := [(3, .int (nI (6 * j))), (2, .ref (g.1 87)), (1, .ref (g.1 0)), (0, .ref b)]
theorem lw_vcall (C : LC g p s m args c b L xs) (hP : va_P g.2.1 vwCl (wsW g σ) H) (hS : va_S (AA g s.heap.size) s.heap H locs) {mj o idx : Nat} {As : List Value} {x : Int32} {σ' : Hs} (hcl : callD 100 mj (.ref o :: As) σ = some (some (.int x), σ')) (hmj : mj < 227) (hst : ms_ mj = false) (ho : o < 104) (hob : obk o (mo mj) = true) (hn : mn mj = As.length) (hlk : Cond.methodLink R_law idx (my mj) ∈ lw_good) (hmv : As.map (mv g) = As) (hsz : ls.size = 4) (hcat : (rest.map fun v => v.category).sum ≤ 8) (hdg : decode code pc = .ok (.invokevirtual idx, 3)) {st0 : List Value} (hst0 : st0 = As.reverse ++ .ref (g.1 o) :: rest)
    (kk : ∀ (H1 : Heap) (locs1 : List Loc), va_P g.2.1 vwCl (wsW g σ') H1 → va_S (AA g s.heap.size) s.heap H1 locs1 → W p l e room_1 s m args below meth c H1 locs1 104 3690 Q (F0 m (pc + 3) ls (.int x :: rest))) : W p l e room_1 s m args below meth c H locs 104 3690 Q (F0 m pc ls st0) := by
  subst hst0
  obtain ⟨hx, hb, hml, hown, hts, hK, hST, hI, -⟩ := C
  have hA1 := rg_at mthA_ok hmj
  simp only [mthA, hst] at hA1
  have hsel := rg_at mthB_ok hmj
  simp only [mthB, hst, Bool.false_or] at hsel
  have hD1 := rg_at mthD_ok hmj
  simp only [mthD, Bool.and_eq_true, decide_eq_true_eq] at hD1
  obtain ⟨⟨⟨⟨⟨⟨d1, d2⟩, d3⟩, d4⟩, d5⟩, d6⟩, d7⟩ := hD1
  have hmt : (my mj).cls = ow (mo mj) := d1
  have hMet := snd_call l 100 mj _ σ _ σ' hcl hmj g H.size
  have hPc : ∀ U : State, U.heap = H → s.WarmedH U.vm → PR g σ H.size U := fun U hU hW => ⟨by rw [hU], by rw [hU]; exact hP, va_K.moved hW.alike hK, hI, by rw [hU]; exact STA_to hST hS (fun q hq => AA_sub hS.1 q hq) hW⟩
  have hroom : (rmD 100).frames + 1 ≤ room_1.frames ∧ 8 + (ml mj + 11) + (rmD 100).locals ≤ room_1.locals := ⟨by decide, by show 8 + (ml mj + 11) + 60 * 100 ≤ 84000; omega⟩
  have hS0 : CallFix p m c code 4 s args lw_good R_law := ⟨hx, hb, hml, hown, hts⟩
  have hrecv : ∃ cellB : Cell, H[g.1 o]? = some cellB ∧ cellB.vm.isStatics = false ∧ s.vm.findClass (ow (mo mj)) = some cellB.cls := by
    obtain ⟨h1, h2⟩ := obk_lt hob ho
    have he := wsW_at (g := g) (σ := σ) ho
    rw [celR_obj (by rw [h1]; exact h2), h1] at he
    have h6 := va_recv hK hP (vwCl_at _ h2) he
    have e6 : Rn (mo mj) = ow (mo mj) := (show ∀ c, c < 9 → Rn c = ow c by decide +kernel) _ h2
    rw [← e6]
    exact h6
  have hpre : PreV s H (ow (mo mj)) (g.1 o) (va_Pc ((Value.ref o :: As).map (mv g)) (PR g σ H.size)) As := by
    refine ⟨PR_blind, hrecv, fun U hU hW => ⟨?_, hPc U hU hW⟩⟩
    rw [List.map_cons, hmv]
    rfl
  have hw5 : GoodIn lw_good (wsV R_law idx (ow (mo mj)) (my mj) (mw mj)) := by
    intro w hw
    unfold wsV at hw
    rcases List.mem_append.mp hw with hw | hw
    · simp only [List.mem_cons, List.not_mem_nil, or_false] at hw
      rcases hw with rfl | rfl | rfl | rfl
      · exact ⟨hlk, Or.inl rfl⟩
      · exact ⟨gdW_in hA1, Or.inl rfl⟩
      · exact ⟨by rw [hmt] at *; exact gdW_in hsel, Or.inl rfl⟩
      · exact ⟨by rw [← hmt]; exact gdW_in (rg_at mthI_ok hmj), Or.inl rfl⟩
    · exact mw_good hmj w hw
  have fin : va_Run p l e room_1 s m args below meth c H locs 104 3690 0 0 (F0 m pc ls (As.reverse ++ .ref (g.1 o) :: rest)) rest (QR g (some (.int x)) σ' H.size (Value.ref (g.1 o) :: As).toArray) (AA g H.size) := by
    have hf : 104 + 0 ≤ room_1.cells ∧ 3690 + 0 ≤ room_1.slots := ⟨Nat.le_of_ble_eq_true rfl, Nat.le_of_ble_eq_true rfl⟩
    exact va_runV hS0 hMet (cwV (mn mj) hts hw5 rfl rfl rfl ⟨hmt, d3, d4, d5⟩ hroom) hpre rfl hn.symm hsz rfl (lv_room hcat) hdg hf
  exact run_call fin hS (fun H1 locs1 hP1 hS1 => kk H1 locs1 hP1 hS1)
theorem lw_arg (C : LC g p s m args c b L xs) (hL : L ≤ 3072) (hj : 6 * j + 6 ≤ L) (hS : va_S (AA g s.heap.size) s.heap H locs) (hl : lv_has ls 4 (lvv g b j)) {k : Nat} (hk : k < 6) {z : Int} (d0 : decode code pc = .ok (.aload_n 0, 1)) (d1 : decode code (pc + 1) = .ok (.iload_n 3, 1)) (d2 : decode code (pc + 1 + 1) = .ok (.iconst z, 1)) (hz : Int32.ofInt z = nI k) (d3 : decode code (pc + 1 + 1 + 1) = .ok (.iadd, 1)) (d4 : decode code (pc + 1 + 1 + 1 + 1) = .ok (.iaload, 1))
    (kk : W p l e room_1 s m args below meth c H locs 104 3690 Q (F0 m (pc + 1 + 1 + 1 + 1 + 1) ls (.int (xs (6 * j + k))   :: rest))) : W p l e room_1 s m args below meth c H locs 104 3690 Q (F0 m pc ls rest) := by
  obtain ⟨hx, hb, hml, hown, hts, hK, hST, hI, hX, hbl, hbA⟩ := C
  have L31 : 6 * j + k < 2147483648 := by omega
  refine lv_aload_n hx hb d0 rfl (lv_at hl 3 rfl) ?_
  refine lv_iload_n hx hb d1 rfl (lv_at hl 0 rfl) ?_
  refine lv_iconst (v := nI k) hx hb d2 hz ?_
  refine lv_iadd hx hb d3 ?_
  rw [nI_add]
  refine va_sld hx hb hX hbl hbA hS (vp_in_nI (by omega) (by omega)) d4 ?_
  rw [cl_nI L31]
  exact kk
end LAW1
