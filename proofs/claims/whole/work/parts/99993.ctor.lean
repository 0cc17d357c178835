/-! ===== constructors: the walks ===== -/
theorem vpi {i : Int32} {n : Nat} (h : (decide (i < 0) || decide (n ≤ i.toNatClampNeg)) = false) : vp_in i n := fun q => by
  rw [Bool.or_eq_false_iff, decide_eq_false_iff_not, decide_eq_false_iff_not] at h
  rcases q with q | q
  · exact h.1 q
  · exact h.2 q
theorem at_mid {wr t : va_W} {x : Nat × va_E} : (wr ++ (x :: t))[wr.length]? = some x := by
  rw [List.getElem?_append_right (Nat.le_refl _), Nat.sub_self]
  rfl
theorem WD_rot {g : Gw} {A : Nat → Prop} {s : State} {H : Heap} {locs : List Loc} {ws : va_W} {x : Nat × va_E} (h : WD g A s H locs (ws ++ [x])) : WD g A s H locs (x :: ws) := by
  obtain ⟨hP, hD, hS⟩ := h
  have key : ∀ (k : Nat) (q : Nat × va_E), (x :: ws)[k]? = some q → (ws ++ [x])[if k = 0 then ws.length else k - 1]? = some q := by
    intro k q hq
    cases k with
    | zero =>
      rw [if_pos rfl]
      cases hq
      exact at_last
    | succ k =>
      have hq : ws[k]? = some q := hq
      have hl : k < ws.length := (List.getElem?_eq_some_iff.mp hq).1
      rw [if_neg (by omega), Nat.add_sub_cancel, List.getElem?_append_left hl]
      exact hq
  have bd : ∀ (k : Nat) (q : Nat × va_E), (x :: ws)[k]? = some q → k < ws.length + 1 := fun k q hq => (List.getElem?_eq_some_iff.mp hq).1
  refine ⟨fun k q hq => hP _ q (key k q hq), ⟨fun i j a b ha hb e => ?_, fun k q hq => hD.2 _ q (key k q hq)⟩, hS⟩
  have z := hD.1 _ _ a b (key i a ha) (key j b hb) e
  have b1 := bd i a ha
  have b2 := bd j b hb
  by_cases c1 : i = 0
  · by_cases c2 : j = 0
    · omega
    · rw [if_pos c1, if_neg c2] at z; omega
  · by_cases c2 : j = 0
    · rw [if_neg c1, if_pos c2] at z; omega
    · rw [if_neg c1, if_neg c2] at z; omega
theorem WD_ix {g : Gw} {A : Nat → Prop} {s : State} {H : Heap} {locs : List Loc} {ws ws' : va_W} (h : WD g A s H locs ws) (f : Nat → Nat) (hf : ∀ (k : Nat) (q : Nat × va_E), ws'[k]? = some q → ws[f k]? = some q) (inj : ∀ i j, f i = f j → i = j) : WD g A s H locs ws' := by
  obtain ⟨hP, hD, hS⟩ := h
  exact ⟨fun k q hq => hP _ q (hf k q hq), ⟨fun i j a b ha hb e => inj i j (hD.1 _ _ a b (hf i a ha) (hf j b hb) e), fun k q hq => hD.2 _ q (hf k q hq)⟩, hS⟩
def sw_f : Nat → Nat
  | 0 => 1
  | 1 => 0
  | k + 2 => k + 2
def sw2_f : Nat → Nat
  | 0 => 1
  | 1 => 2
  | 2 => 0
  | k + 3 => k + 3
def sw2_g : Nat → Nat
  | 0 => 2
  | 1 => 0
  | 2 => 1
  | k + 3 => k + 3
theorem sw_ff : ∀ k, sw_f (sw_f k) = k
  | 0 => rfl
  | 1 => rfl
  | k + 2 => rfl
theorem sw2_gf : ∀ k, sw2_g (sw2_f k) = k
  | 0 => rfl
  | 1 => rfl
  | 2 => rfl
  | k + 3 => rfl
theorem WD_sw {g : Gw} {A : Nat → Prop} {s : State} {H : Heap} {locs : List Loc} {T : va_W} {x a : Nat × va_E} (h : WD g A s H locs (x :: a :: T)) : WD g A s H locs (a :: x :: T) := by
  refine WD_ix h sw_f (fun k q hq => ?_) (fun i j e => by have := congrArg sw_f e; rwa [sw_ff, sw_ff] at this)
  match k, hq with
  | 0, hq => exact hq
  | 1, hq => exact hq
  | k + 2, hq => exact hq
theorem WD_sw2 {g : Gw} {A : Nat → Prop} {s : State} {H : Heap} {locs : List Loc} {T : va_W} {x a b : Nat × va_E} (h : WD g A s H locs (x :: a :: b :: T)) : WD g A s H locs (a :: b :: x :: T) := by
  refine WD_ix h sw2_f (fun k q hq => ?_) (fun i j e => by have := congrArg sw2_g e; rwa [sw2_gf, sw2_gf] at this)
  match k, hq with
  | 0, hq => exact hq
  | 1, hq => exact hq
  | 2, hq => exact hq
  | k + 3, hq => exact hq
section CTR2
variable {p : Program} {l : Launch} {e : Env} {R : Room} {s : State} {m : MethodId} {args : Array Value} {below : List Frame} {meth : Method} {c : Code} {H : Heap} {locs : List Loc} {cells slots : Nat} {Q : State → Prop}
variable {cc : ByteArray} {pc : Nat} {ls : Array Slot} {rest : List Value} {ws : va_W} {A : Nat → Prop} {g : Gw} {oc nL : Nat}
theorem cr_max (X : CX g oc cc nL p s m args meth c A) {idx : Nat} (hsz : ls.size = nL) {n : Int32} (hn : ¬ n < 0) (hw : Cond.methodLink (Rn oc) idx Lib.Math.max.name ∈ lw_good) (hf : 1 ≤ R.frames) (hlo : (rest.map fun v => v.category).sum + 13 ≤ R.locals) (hc : cells ≤ R.cells) (hs : slots ≤ R.slots) (hdg : decode cc pc = .ok (.invokestatic idx, 3))
    (kk : W p l e R s m args below meth c H locs cells slots Q (F0 m (pc + 3) ls (.int n :: rest))) : W p l e R s m args below meth c H locs cells slots Q (F0 m pc ls (.int n :: .int 0 :: rest)) := by
  obtain ⟨hx, hb, hml, hown, hts, -⟩ := X
  refine va_mmax hx hb (by rw [hml, hsz]) hown (hts _ hw) (hts _ (gdW_in mxw_ok.1)) (hts _ (gdW_in mxw_ok.2.2.2)) (hts _ mxc_in) hf hlo hc hs hdg ?_
  have e : (if (0 : Int32) < n then n else 0) = n := by
    by_cases h : (0 : Int32) < n
    · rw [if_pos h]
    · rw [if_neg h]
      exact Int32.le_antisymm (Int32.not_lt.mp hn) (Int32.not_lt.mp h)
  rw [e]
  exact kk
theorem cr_setS (X : CX g 0 cc nL p s m args meth c A) (hWd : WD g A s H locs ws) (hdg : decode cc pc = .ok (.getstatic 56, 3))
    (kk : W p l e R s m args below meth c H locs cells slots Q (F0 m (pc + 3) ls (.ref (g.1 109) :: rest))) : W p l e R s m args below meth c H locs cells slots Q (F0 m pc ls rest) := by
  obtain ⟨hx, hb, hml, hown, hts, hK, hST, -⟩ := X
  exact va_getsN hx hb (hST.1 5 (by omega)).1 hWd.2.2 hown (va_Nw.use (A := args) rfl (hST.2.2.2.2.2 _ (List.mem_of_getElem? (i := 0) rfl))) (fun _ h => h) hdg kk
theorem cr_cpS (X : CX g oc cc nL p s m args meth c A) (hWd : WD g A s H locs ws) (q0 : Nat) {a : Nat} {h : Nat → Int32} (ha : ws[q0]? = some (a, .inl (g.2.2.1 10, 5, .inl h))) (hsz : ls.size = nL) {idx : Nat} (hw : Cond.methodLink (Rn oc) idx arraycopyName ∈ lw_good) (hf : 1 ≤ R.frames) (hlo : 18 ≤ R.locals) (hdg : decode cc pc = .ok (.invokestatic idx, 3))
    (kk : ∀ (H1 : Heap) (locs1 : List Loc), WD g A s H1 locs1 (ws.set q0 (a, .inl (g.2.2.1 10, 5, .inl (va_cpy (fun j => (stbT.getD 5 []).getD j 0) h (0 : Int32).toNatClampNeg (0 : Int32).toNatClampNeg (5 : Int32).toNatClampNeg)))) → W p l e R s m args below meth c H1 locs1 cells slots Q (F0 m (pc + 3) ls [])) : W p l e R s m args below meth c H locs cells slots Q (F0 m pc ls [.int 5, .int 0, .ref a, .int 0, .ref (g.1 109)]) := by
  obtain ⟨hx, hb, hml, hown, hts, hK, hST, -⟩ := X
  obtain ⟨hP, hD, hS⟩ := hWd
  obtain ⟨scr, s1, ⟨s2, kS, hkS, cS, hkkS⟩, s3, s4, -, s6, s7⟩ := (hST.1 5 (by omega)).2
  have n5 : (stbT.getD 5 []).length = 5 := by decide +kernel
  have z0 : (0 : Int32).toNatClampNeg = 0 := by decide +kernel
  have z5 : (5 : Int32).toNatClampNeg = 5 := by decide +kernel
  have i0 : (0 : Int32).toInt = 0 := by decide +kernel
  have i5 : (5 : Int32).toInt = 5 := by decide +kernel
  rw [n5] at s4 s6
  have s1' : s.heap[g.1 109]? = some scr := s1
  have s7' : ¬ A (g.1 109) := s7
  have src : H[g.1 109]? = some scr := by rw [hS.2.1 (g.1 109) (Array.getElem?_eq_some_iff.mp s1').1 s7']; exact s1'
  have dst : H[a]? = some (vp_cell (g.2.2.1 10) (5, .inl h)) := hP q0 _ ha
  obtain ⟨-, kD, hkD, cD, hkkD⟩ := (hK.2 0 _ (tW_10 g)).1 5 (fun j => .int (h j))
  have dsz : (vp_cell (g.2.2.1 10) (5, .inl h)).slots.size = 5 := arrV_size _ _ _
  have el : ∀ i, i < 5 → scr.slots.getD i .null = .int ((stbT.getD 5 []).getD i 0) := fun i hi => by
    rw [Array.getD_eq_getD_getElem?, s6 i hi]
    rfl
  have cpd : copied scr (vp_cell (g.2.2.1 10) (5, .inl h)) 0 0 5 = vp_cell (g.2.2.1 10) (5, .inl (va_cpy (fun j => (stbT.getD 5 []).getD j 0) h (0 : Int32).toNatClampNeg (0 : Int32).toNatClampNeg (5 : Int32).toNatClampNeg)) := va_copiedX (fun z => .int z) scr (g.2.2.1 10) (n0 := 5) (fun j => (stbT.getD 5 []).getD j 0) h s6 (by rw [z0, z5]; omega)
  have al : a < H.size := (Array.getElem?_eq_some_iff.mp dst).1
  have aA : A a := hD.2 q0 _ ha
  intro T hT X0
  obtain ⟨vm', X', step⟩ := X0.arraycopy hx hown (hts _ hw) (hts _ (gdW_in acw_ok.1)) (hts _ (gdW_in acw_ok.2.1)) (hts _ (gdW_in acw_ok.2.2)) (src := g.1 109) (dst := a) (cs := scr) (cd := vp_cell (g.2.2.1 10) (5, .inl h)) (srcPos := 0) (destPos := 0) (n := 5) (by rw [hT]; exact src) (by rw [hT]; exact dst) s2 (fun _ h => by cases h) s3 (fun h => by cases h) hkS hkD hkkS hkkD rfl (by decide +kernel) (by decide +kernel) (by decide +kernel) (by rw [i0, i5]; omega) (by rw [i0, i5, dsz]; omega)
    (fun vm₁ _ i hi => by
      rw [z5] at hi
      rw [z0, Nat.zero_add, el i hi]
      exact ⟨rfl, trivial⟩)
    (g := F0 m pc ls [.int 5, .int 0, .ref a, .int 0, .ref (g.1 109)]) rfl (by rw [hml]; exact hsz) (rest := []) rfl (by rw [hb]; exact hdg) hf (by
      have z7 : nativeFrameWords "java/lang/System" "arraycopy" 5 = 7 := by decide +kernel
      rw [z7]
      exact hlo)
  rw [cpd] at X' step
  have oq : ∀ q : Nat, q ≠ a → (H.setIfInBounds a (vp_cell (g.2.2.1 10) (5, .inl (va_cpy (fun j => (stbT.getD 5 []).getD j 0) h (0 : Int32).toNatClampNeg (0 : Int32).toNatClampNeg (5 : Int32).toNatClampNeg))))[q]? = H[q]? := fun q hq => by simp [Array.getElem?_setIfInBounds, Ne.symm hq]
  have hs1 : va_S A s.heap (H.setIfInBounds a (vp_cell (g.2.2.1 10) (5, .inl (va_cpy (fun j => (stbT.getD 5 []).getD j 0) h (0 : Int32).toNatClampNeg (0 : Int32).toNatClampNeg (5 : Int32).toNatClampNeg)))) (locs ++ ((scr.stretch (0 : Int32).toNatClampNeg (5 : Int32).toNatClampNeg).zipIdx.map fun q => ⟨a, (0 : Int32).toNatClampNeg + q.2⟩)) := by
    refine ⟨by rw [Array.size_setIfInBounds]; exact hS.1, fun q g1 g2 => ?_, fun q hq => ?_⟩
    · rw [oq q (fun e => g2 (by rw [e]; exact aA))]
      exact hS.2.1 q g1 g2
    · rcases List.mem_append.mp hq with h | h
      · exact hS.2.2 q h
      · obtain ⟨z, -, hz⟩ := List.mem_map.mp h
        rw [← hz]
        exact aA
  obtain ⟨t, a1, b1⟩ := kk _ _ ⟨hP.set hD ha (show (H.setIfInBounds a _)[a]? = some _ by simp [Array.getElem?_setIfInBounds, al]) oq, hD.set ha, hs1⟩ _ (by rw [← hT]; rfl) X'
  exact ⟨t, step t a1, b1⟩
end CTR2
theorem dI3_0 : decode cX3_init 0 = .ok (.aload_n 0, 1) := by decide +kernel
theorem dI3_1 : decode cX3_init 1 = .ok (.invokespecial 1, 3) := by decide +kernel
theorem dI3_4 : decode cX3_init 4 = .ok (.aload_n 0, 1) := by decide +kernel
theorem dI3_5 : decode cX3_init 5 = .ok (.iconst 0, 1) := by decide +kernel
theorem dI3_6 : decode cX3_init 6 = .ok (.iload_n 1, 1) := by decide +kernel
theorem dI3_7 : decode cX3_init 7 = .ok (.invokestatic 7, 3) := by decide +kernel
theorem dI3_10 : decode cX3_init 10 = .ok (.newarray .int, 2) := by decide +kernel
theorem dI3_12 : decode cX3_init 12 = .ok (.putfield 13, 3) := by decide +kernel
theorem dI3_15 : decode cX3_init 15 = .ok (.aload_n 0, 1) := by decide +kernel
theorem dI3_16 : decode cX3_init 16 = .ok (.iconst 0, 1) := by decide +kernel
theorem dI3_17 : decode cX3_init 17 = .ok (.putfield 19, 3) := by decide +kernel
theorem dI3_20 : decode cX3_init 20 = .ok (.return_, 1) := by decide +kernel
def wRow (g : Gw) (N : Nat) (f : Nat → Nat) : va_W := [(f 0, .inr (3, [.ref (f 1), .int 0]))] ++ [(f 1, .inl (g.2.2.1 10, N, .inl (fun _ => 0)))]
set_option maxHeartbeats 4000000 in
set_option maxRecDepth 100000 in
theorem con_Row (l : Launch) (g : Gw) (N : Nat) (n : Int32) (hn : ¬ n < 0) (hN : n.toNatClampNeg = N) (hN9 : N ≤ 1000) (h0 : Nat) : CON l g yX3_init cX3_init 2 { frames := 1, cells := 1, slots := N, locals := 60 } 1 N (.inr (3, dfl 3)) h0 [.int n] (wRow g N) := by
  refine con_of (oc := 3) (by decide +kernel) rfl rfl (Nat.le_of_ble_eq_true rfl) ?_
  intro p e s m args below meth c ls X hr hlocks hl hWd
  obtain ⟨hx, hb, -⟩ := id X
  have hl : lv_has ls 2 [(0, .ref h0), (1, .int n)] := hl
  have hWd : WD g _ s _ _ ([(h0, .inr (3, [.null, .int 0]))]) := hWd
  refine lv_aload_n hx hb dI3_0 rfl (lv_at hl 0 rfl) ?_
  refine cr_obj X (gdW_in (i := 174) (by decide +kernel)) hl.1 dI3_1 (Nat.le_of_ble_eq_true rfl) (Nat.le_of_ble_eq_true rfl) ?_
  refine lv_aload_n hx hb dI3_4 rfl (lv_at hl 0 rfl) ?_
  refine lv_iconst (v := 0) hx hb dI3_5 (by decide +kernel) ?_
  refine lv_iload_n hx hb dI3_6 rfl (lv_at hl 1 rfl) ?_
  refine cr_max X hl.1 hn (gdW_in (i := 175) (by decide +kernel)) (Nat.le_of_ble_eq_true rfl) (Nat.le_of_ble_eq_true rfl) (Nat.le_of_ble_eq_true rfl) (Nat.le_of_ble_eq_true rfl) dI3_7 ?_
  refine cr_newI X hWd (N := N) hn hN hN9 (Nat.le_of_ble_eq_true rfl) (show 0 + N ≤ N by omega) dI3_10 (fun q1 Hq1 hWd => ?_)
  refine W.widen (k := 1) (n := N) (Nat.le_of_ble_eq_true rfl) (show 0 + N ≤ N by omega) ?_
  have hWd : WD g _ s _ _ ([(h0, .inr (3, [.null, .int 0]))] ++ [(q1, .inl (g.2.2.1 10, N, .inl (fun _ => 0)))]) := hWd
  refine cr_put X hWd 0 (ci := 3) (k := 0) rfl (by decide) (by decide) rfl (gdW_in (i := 178) (by decide +kernel)) rfl rfl (Nat.le_of_ble_eq_true rfl) dI3_12 (fun H2 lH2 hWd => ?_)
  have hWd : WD g _ s _ _ ([(h0, .inr (3, [.ref q1, .int 0]))] ++ [(q1, .inl (g.2.2.1 10, N, .inl (fun _ => 0)))]) := hWd
  refine lv_aload_n hx hb dI3_15 rfl (lv_at hl 0 rfl) ?_
  refine lv_iconst (v := 0) hx hb dI3_16 (by decide +kernel) ?_
  refine cr_put X hWd 0 (ci := 3) (k := 1) rfl (by decide) (by decide) rfl (gdW_in (i := 183) (by decide +kernel)) rfl rfl (Nat.le_of_ble_eq_true rfl) dI3_17 (fun H3 lH3 hWd => ?_)
  have hWd : WD g _ s _ _ ([(h0, .inr (3, [.ref q1, .int 0]))] ++ [(q1, .inl (g.2.2.1 10, N, .inl (fun _ => 0)))]) := hWd
  have hWd : WD g _ s _ _ (wRow g N (fun o => if o < 1 then h0 else q1)) := hWd
  exact W.vret hx hb hr (fun t ht hW => ⟨⟨_, rfl, rfl, by rw [ht]; exact hWd.1, hWd.2.1⟩, hWd.2.2.F ht⟩) hWd.2.2.2.2 dI3_20
theorem dI4_0 : decode cX4_init 0 = .ok (.aload_n 0, 1) := by decide +kernel
theorem dI4_1 : decode cX4_init 1 = .ok (.invokespecial 3, 3) := by decide +kernel
theorem dI4_4 : decode cX4_init 4 = .ok (.aload_n 0, 1) := by decide +kernel
theorem dI4_5 : decode cX4_init 5 = .ok (.bipush 24, 2) := by decide +kernel
theorem dI4_7 : decode cX4_init 7 = .ok (.newarray .int, 2) := by decide +kernel
theorem dI4_9 : decode cX4_init 9 = .ok (.putfield 9, 3) := by decide +kernel
theorem dI4_12 : decode cX4_init 12 = .ok (.aload_n 0, 1) := by decide +kernel
theorem dI4_13 : decode cX4_init 13 = .ok (.iconst 0, 1) := by decide +kernel
theorem dI4_14 : decode cX4_init 14 = .ok (.putfield 15, 3) := by decide +kernel
theorem dI4_17 : decode cX4_init 17 = .ok (.aload_n 0, 1) := by decide +kernel
theorem dI4_18 : decode cX4_init 18 = .ok (.iconst 0, 1) := by decide +kernel
theorem dI4_19 : decode cX4_init 19 = .ok (.putfield 19, 3) := by decide +kernel
theorem dI4_22 : decode cX4_init 22 = .ok (.return_, 1) := by decide +kernel
def wSheet (g : Gw) (f : Nat → Nat) : va_W := [(f 0, .inr (4, [.ref (f 1), .int 0, .int 0]))] ++ [(f 1, .inl (g.2.2.1 10, 24, .inl (fun _ => 0)))]
set_option maxHeartbeats 4000000 in
set_option maxRecDepth 100000 in
theorem con_Sheet (l : Launch) (g : Gw) (h0 : Nat) : CON l g yX4_init cX4_init 1 { frames := 1, cells := 1, slots := 24, locals := 60 } 1 24 (.inr (4, dfl 4)) h0 [] (wSheet g) := by
  refine con_of (oc := 4) (by decide +kernel) rfl rfl (Nat.le_of_ble_eq_true rfl) ?_
  intro p e s m args below meth c ls X hr hlocks hl hWd
  obtain ⟨hx, hb, -⟩ := id X
  have hl : lv_has ls 1 [(0, .ref h0)] := hl
  have hWd : WD g _ s _ _ ([(h0, .inr (4, [.null, .int 0, .int 0]))]) := hWd
  refine lv_aload_n hx hb dI4_0 rfl (lv_at hl 0 rfl) ?_
  refine cr_obj X (gdW_in (i := 294) (by decide +kernel)) hl.1 dI4_1 (Nat.le_of_ble_eq_true rfl) (Nat.le_of_ble_eq_true rfl) ?_
  refine lv_aload_n hx hb dI4_4 rfl (lv_at hl 0 rfl) ?_
  refine lv_bipush (v := 24) hx hb dI4_5 (by decide +kernel) ?_
  refine cr_newI X hWd (N := 24) (by decide +kernel) (by decide +kernel) (Nat.le_of_ble_eq_true rfl) (Nat.le_of_ble_eq_true rfl) (Nat.le_of_ble_eq_true rfl) dI4_7 (fun q1 Hq1 hWd => ?_)
  refine W.widen (k := 1) (n := 24) (Nat.le_of_ble_eq_true rfl) (Nat.le_of_ble_eq_true rfl) ?_
  have hWd : WD g _ s _ _ ([(h0, .inr (4, [.null, .int 0, .int 0]))] ++ [(q1, .inl (g.2.2.1 10, 24, .inl (fun _ => 0)))]) := hWd
  refine cr_put X hWd 0 (ci := 4) (k := 0) rfl (by decide) (by decide) rfl (gdW_in (i := 295) (by decide +kernel)) rfl rfl (Nat.le_of_ble_eq_true rfl) dI4_9 (fun H2 lH2 hWd => ?_)
  have hWd : WD g _ s _ _ ([(h0, .inr (4, [.ref q1, .int 0, .int 0]))] ++ [(q1, .inl (g.2.2.1 10, 24, .inl (fun _ => 0)))]) := hWd
  refine lv_aload_n hx hb dI4_12 rfl (lv_at hl 0 rfl) ?_
  refine lv_iconst (v := 0) hx hb dI4_13 (by decide +kernel) ?_
  refine cr_put X hWd 0 (ci := 4) (k := 1) rfl (by decide) (by decide) rfl (gdW_in (i := 297) (by decide +kernel)) rfl rfl (Nat.le_of_ble_eq_true rfl) dI4_14 (fun H3 lH3 hWd => ?_)
  have hWd : WD g _ s _ _ ([(h0, .inr (4, [.ref q1, .int 0, .int 0]))] ++ [(q1, .inl (g.2.2.1 10, 24, .inl (fun _ => 0)))]) := hWd
  refine lv_aload_n hx hb dI4_17 rfl (lv_at hl 0 rfl) ?_
  refine lv_iconst (v := 0) hx hb dI4_18 (by decide +kernel) ?_
  refine cr_put X hWd 0 (ci := 4) (k := 2) rfl (by decide) (by decide) rfl (gdW_in (i := 299) (by decide +kernel)) rfl rfl (Nat.le_of_ble_eq_true rfl) dI4_19 (fun H4 lH4 hWd => ?_)
  have hWd : WD g _ s _ _ ([(h0, .inr (4, [.ref q1, .int 0, .int 0]))] ++ [(q1, .inl (g.2.2.1 10, 24, .inl (fun _ => 0)))]) := hWd
  have hWd : WD g _ s _ _ (wSheet g (fun o => if o < 1 then h0 else q1)) := hWd
  exact W.vret hx hb hr (fun t ht hW => ⟨⟨_, rfl, rfl, by rw [ht]; exact hWd.1, hWd.2.1⟩, hWd.2.2.F ht⟩) hWd.2.2.2.2 dI4_22
theorem dI0_0 : decode cX0_init 0 = .ok (.aload_n 0, 1) := by decide +kernel
theorem dI0_1 : decode cX0_init 1 = .ok (.invokespecial 3, 3) := by decide +kernel
theorem dI0_4 : decode cX0_init 4 = .ok (.aload_n 0, 1) := by decide +kernel
theorem dI0_5 : decode cX0_init 5 = .ok (.bipush 30, 2) := by decide +kernel
theorem dI0_7 : decode cX0_init 7 = .ok (.newarray .int, 2) := by decide +kernel
theorem dI0_9 : decode cX0_init 9 = .ok (.putfield 9, 3) := by decide +kernel
theorem dI0_12 : decode cX0_init 12 = .ok (.aload_n 0, 1) := by decide +kernel
theorem dI0_13 : decode cX0_init 13 = .ok (.bipush 30, 2) := by decide +kernel
theorem dI0_15 : decode cX0_init 15 = .ok (.newarray .int, 2) := by decide +kernel
theorem dI0_17 : decode cX0_init 17 = .ok (.putfield 15, 3) := by decide +kernel
theorem dI0_20 : decode cX0_init 20 = .ok (.aload_n 0, 1) := by decide +kernel
theorem dI0_21 : decode cX0_init 21 = .ok (.bipush 30, 2) := by decide +kernel
theorem dI0_23 : decode cX0_init 23 = .ok (.newarray .int, 2) := by decide +kernel
theorem dI0_25 : decode cX0_init 25 = .ok (.putfield 18, 3) := by decide +kernel
theorem dI0_28 : decode cX0_init 28 = .ok (.aload_n 0, 1) := by decide +kernel
theorem dI0_29 : decode cX0_init 29 = .ok (.bipush 30, 2) := by decide +kernel
theorem dI0_31 : decode cX0_init 31 = .ok (.newarray .int, 2) := by decide +kernel
theorem dI0_33 : decode cX0_init 33 = .ok (.putfield 21, 3) := by decide +kernel
theorem dI0_36 : decode cX0_init 36 = .ok (.aload_n 0, 1) := by decide +kernel
theorem dI0_37 : decode cX0_init 37 = .ok (.bipush 30, 2) := by decide +kernel
theorem dI0_39 : decode cX0_init 39 = .ok (.newarray .int, 2) := by decide +kernel
theorem dI0_41 : decode cX0_init 41 = .ok (.putfield 24, 3) := by decide +kernel
theorem dI0_44 : decode cX0_init 44 = .ok (.aload_n 0, 1) := by decide +kernel
theorem dI0_45 : decode cX0_init 45 = .ok (.bipush 30, 2) := by decide +kernel
theorem dI0_47 : decode cX0_init 47 = .ok (.newarray .boolean, 2) := by decide +kernel
theorem dI0_49 : decode cX0_init 49 = .ok (.putfield 27, 3) := by decide +kernel
theorem dI0_52 : decode cX0_init 52 = .ok (.aload_n 0, 1) := by decide +kernel
theorem dI0_53 : decode cX0_init 53 = .ok (.iconst 5, 1) := by decide +kernel
theorem dI0_54 : decode cX0_init 54 = .ok (.newarray .int, 2) := by decide +kernel
theorem dI0_56 : decode cX0_init 56 = .ok (.putfield 31, 3) := by decide +kernel
theorem dI0_59 : decode cX0_init 59 = .ok (.aload_n 0, 1) := by decide +kernel
theorem dI0_60 : decode cX0_init 60 = .ok (.bipush 9, 2) := by decide +kernel
theorem dI0_62 : decode cX0_init 62 = .ok (.newarray .int, 2) := by decide +kernel
theorem dI0_64 : decode cX0_init 64 = .ok (.putfield 34, 3) := by decide +kernel
theorem dI0_67 : decode cX0_init 67 = .ok (.aload_n 0, 1) := by decide +kernel
theorem dI0_68 : decode cX0_init 68 = .ok (.bipush 9, 2) := by decide +kernel
theorem dI0_70 : decode cX0_init 70 = .ok (.newarray .int, 2) := by decide +kernel
theorem dI0_72 : decode cX0_init 72 = .ok (.putfield 37, 3) := by decide +kernel
theorem dI0_75 : decode cX0_init 75 = .ok (.aload_n 0, 1) := by decide +kernel
theorem dI0_76 : decode cX0_init 76 = .ok (.bipush 9, 2) := by decide +kernel
theorem dI0_78 : decode cX0_init 78 = .ok (.newarray .int, 2) := by decide +kernel
theorem dI0_80 : decode cX0_init 80 = .ok (.putfield 40, 3) := by decide +kernel
theorem dI0_83 : decode cX0_init 83 = .ok (.aload_n 0, 1) := by decide +kernel
theorem dI0_84 : decode cX0_init 84 = .ok (.iconst 0, 1) := by decide +kernel
theorem dI0_85 : decode cX0_init 85 = .ok (.putfield 43, 3) := by decide +kernel
theorem dI0_88 : decode cX0_init 88 = .ok (.aload_n 0, 1) := by decide +kernel
theorem dI0_89 : decode cX0_init 89 = .ok (.iconst 0, 1) := by decide +kernel
theorem dI0_90 : decode cX0_init 90 = .ok (.putfield 47, 3) := by decide +kernel
theorem dI0_93 : decode cX0_init 93 = .ok (.aload_n 0, 1) := by decide +kernel
theorem dI0_94 : decode cX0_init 94 = .ok (.iconst 0, 1) := by decide +kernel
theorem dI0_95 : decode cX0_init 95 = .ok (.putfield 50, 3) := by decide +kernel
theorem dI0_98 : decode cX0_init 98 = .ok (.aload_n 0, 1) := by decide +kernel
theorem dI0_99 : decode cX0_init 99 = .ok (.iconst 0, 1) := by decide +kernel
theorem dI0_100 : decode cX0_init 100 = .ok (.putfield 53, 3) := by decide +kernel
theorem dI0_103 : decode cX0_init 103 = .ok (.getstatic 56, 3) := by decide +kernel
theorem dI0_106 : decode cX0_init 106 = .ok (.iconst 0, 1) := by decide +kernel
theorem dI0_107 : decode cX0_init 107 = .ok (.aload_n 0, 1) := by decide +kernel
theorem dI0_108 : decode cX0_init 108 = .ok (.getfield 31, 3) := by decide +kernel
theorem dI0_111 : decode cX0_init 111 = .ok (.iconst 0, 1) := by decide +kernel
theorem dI0_112 : decode cX0_init 112 = .ok (.iconst 5, 1) := by decide +kernel
theorem dI0_113 : decode cX0_init 113 = .ok (.invokestatic 59, 3) := by decide +kernel
theorem dI0_116 : decode cX0_init 116 = .ok (.return_, 1) := by decide +kernel
def wHeap (g : Gw) (f : Nat → Nat) : va_W := [(f 0, .inr (0, [.ref (f 1), .ref (f 2), .ref (f 3), .ref (f 4), .ref (f 5), .ref (f 6), .ref (f 7), .ref (f 8), .ref (f 9), .ref (f 10), .int 0, .int 0, .int 0, .int 0])), (f 7, .inl (g.2.2.1 10, 5, .inl (va_cpy (fun j => (stbT.getD 5 []).getD j 0) (fun _ => 0) 0 0 5))), (f 10, .inl (g.2.2.1 10, 9, .inl (fun _ => 0))), (f 9, .inl (g.2.2.1 10, 9, .inl (fun _ => 0))), (f 8, .inl (g.2.2.1 10, 9, .inl (fun _ => 0))), (f 6, .inl (g.2.2.1 11, 30, .inl (fun _ => 0))), (f 5, .inl (g.2.2.1 10, 30, .inl (fun _ => 0))), (f 4, .inl (g.2.2.1 10, 30, .inl (fun _ => 0))), (f 3, .inl (g.2.2.1 10, 30, .inl (fun _ => 0))), (f 2, .inl (g.2.2.1 10, 30, .inl (fun _ => 0))), (f 1, .inl (g.2.2.1 10, 30, .inl (fun _ => 0)))]
set_option maxHeartbeats 4000000 in
set_option maxRecDepth 100000 in
theorem con_Heap (l : Launch) (g : Gw) (h0 : Nat) : CON l g yX0_init cX0_init 1 { frames := 1, cells := 10, slots := 212, locals := 60 } 10 212 (.inr (0, dfl 0)) h0 [] (wHeap g) := by
  refine con_of (oc := 0) (by decide +kernel) rfl rfl (Nat.le_of_ble_eq_true rfl) ?_
  intro p e s m args below meth c ls X hr hlocks hl hWd
  obtain ⟨hx, hb, -⟩ := id X
  have hl : lv_has ls 1 [(0, .ref h0)] := hl
  have hWd : WD g _ s _ _ ([(h0, .inr (0, [.null, .null, .null, .null, .null, .null, .null, .null, .null, .null, .int 0, .int 0, .int 0, .int 0]))]) := hWd
  obtain ⟨T0, hT0⟩ : ∃ T : va_W, T = [] := ⟨_, rfl⟩
  have hWd : WD g (va_A [(h0, .inr (0, dfl 0))] s.heap.size) s s.heap [] ((h0, .inr (0, [.null, .null, .null, .null, .null, .null, .null, .null, .null, .null, .int 0, .int 0, .int 0, .int 0])) :: T0) := by rw [hT0]; exact hWd
  refine lv_aload_n hx hb dI0_0 rfl (lv_at hl 0 rfl) ?_
  refine cr_obj X (gdW_in (i := 101) (by decide +kernel)) hl.1 dI0_1 (Nat.le_of_ble_eq_true rfl) (Nat.le_of_ble_eq_true rfl) ?_
  refine lv_aload_n hx hb dI0_4 rfl (lv_at hl 0 rfl) ?_
  refine lv_bipush (v := 30) hx hb dI0_5 (by decide +kernel) ?_
  refine cr_newI X hWd (N := 30) (by decide +kernel) (by decide +kernel) (Nat.le_of_ble_eq_true rfl) (Nat.le_of_ble_eq_true rfl) (Nat.le_of_ble_eq_true rfl) dI0_7 (fun q1 Hq1 hWd => ?_)
  refine W.widen (k := 1) (n := 30) (Nat.le_of_ble_eq_true rfl) (Nat.le_of_ble_eq_true rfl) ?_
  have hWd : WD g _ s _ _ ((q1, .inl (g.2.2.1 10, 30, .inl (fun _ => 0))) :: (h0, .inr (0, [.null, .null, .null, .null, .null, .null, .null, .null, .null, .null, .int 0, .int 0, .int 0, .int 0])) :: T0) := WD_rot hWd
  refine cr_put X hWd 1 (ci := 0) (k := 0) rfl (by decide) (by decide) rfl (gdW_in (i := 107) (by decide +kernel)) rfl rfl (Nat.le_of_ble_eq_true rfl) dI0_9 (fun H2 lH2 hWd => ?_)
  have hWd : WD g _ s _ _ ((q1, .inl (g.2.2.1 10, 30, .inl (fun _ => 0))) :: (h0, .inr (0, [.ref q1, .null, .null, .null, .null, .null, .null, .null, .null, .null, .int 0, .int 0, .int 0, .int 0])) :: T0) := hWd
  obtain ⟨T1, hT1⟩ : ∃ T : va_W, T = (q1, .inl (g.2.2.1 10, 30, .inl (fun _ => 0))) :: T0 := ⟨_, rfl⟩
  have hWd : WD g _ s _ _ ((h0, .inr (0, [.ref q1, .null, .null, .null, .null, .null, .null, .null, .null, .null, .int 0, .int 0, .int 0, .int 0])) :: (q1, .inl (g.2.2.1 10, 30, .inl (fun _ => 0))) :: T0) := WD_sw hWd
  rw [← hT1] at hWd
  refine lv_aload_n hx hb dI0_12 rfl (lv_at hl 0 rfl) ?_
  refine lv_bipush (v := 30) hx hb dI0_13 (by decide +kernel) ?_
  refine cr_newI X hWd (N := 30) (by decide +kernel) (by decide +kernel) (Nat.le_of_ble_eq_true rfl) (Nat.le_of_ble_eq_true rfl) (Nat.le_of_ble_eq_true rfl) dI0_15 (fun q3 Hq3 hWd => ?_)
  refine W.widen (k := 2) (n := 60) (Nat.le_of_ble_eq_true rfl) (Nat.le_of_ble_eq_true rfl) ?_
  have hWd : WD g _ s _ _ ((q3, .inl (g.2.2.1 10, 30, .inl (fun _ => 0))) :: (h0, .inr (0, [.ref q1, .null, .null, .null, .null, .null, .null, .null, .null, .null, .int 0, .int 0, .int 0, .int 0])) :: T1) := WD_rot hWd
  refine cr_put X hWd 1 (ci := 0) (k := 1) rfl (by decide) (by decide) rfl (gdW_in (i := 109) (by decide +kernel)) rfl rfl (Nat.le_of_ble_eq_true rfl) dI0_17 (fun H4 lH4 hWd => ?_)
  have hWd : WD g _ s _ _ ((q3, .inl (g.2.2.1 10, 30, .inl (fun _ => 0))) :: (h0, .inr (0, [.ref q1, .ref q3, .null, .null, .null, .null, .null, .null, .null, .null, .int 0, .int 0, .int 0, .int 0])) :: T1) := hWd
  obtain ⟨T2, hT2⟩ : ∃ T : va_W, T = (q3, .inl (g.2.2.1 10, 30, .inl (fun _ => 0))) :: T1 := ⟨_, rfl⟩
  have hWd : WD g _ s _ _ ((h0, .inr (0, [.ref q1, .ref q3, .null, .null, .null, .null, .null, .null, .null, .null, .int 0, .int 0, .int 0, .int 0])) :: (q3, .inl (g.2.2.1 10, 30, .inl (fun _ => 0))) :: T1) := WD_sw hWd
  rw [← hT2] at hWd
  refine lv_aload_n hx hb dI0_20 rfl (lv_at hl 0 rfl) ?_
  refine lv_bipush (v := 30) hx hb dI0_21 (by decide +kernel) ?_
  refine cr_newI X hWd (N := 30) (by decide +kernel) (by decide +kernel) (Nat.le_of_ble_eq_true rfl) (Nat.le_of_ble_eq_true rfl) (Nat.le_of_ble_eq_true rfl) dI0_23 (fun q5 Hq5 hWd => ?_)
  refine W.widen (k := 3) (n := 90) (Nat.le_of_ble_eq_true rfl) (Nat.le_of_ble_eq_true rfl) ?_
  have hWd : WD g _ s _ _ ((q5, .inl (g.2.2.1 10, 30, .inl (fun _ => 0))) :: (h0, .inr (0, [.ref q1, .ref q3, .null, .null, .null, .null, .null, .null, .null, .null, .int 0, .int 0, .int 0, .int 0])) :: T2) := WD_rot hWd
  refine cr_put X hWd 1 (ci := 0) (k := 2) rfl (by decide) (by decide) rfl (gdW_in (i := 111) (by decide +kernel)) rfl rfl (Nat.le_of_ble_eq_true rfl) dI0_25 (fun H6 lH6 hWd => ?_)
  have hWd : WD g _ s _ _ ((q5, .inl (g.2.2.1 10, 30, .inl (fun _ => 0))) :: (h0, .inr (0, [.ref q1, .ref q3, .ref q5, .null, .null, .null, .null, .null, .null, .null, .int 0, .int 0, .int 0, .int 0])) :: T2) := hWd
  obtain ⟨T3, hT3⟩ : ∃ T : va_W, T = (q5, .inl (g.2.2.1 10, 30, .inl (fun _ => 0))) :: T2 := ⟨_, rfl⟩
  have hWd : WD g _ s _ _ ((h0, .inr (0, [.ref q1, .ref q3, .ref q5, .null, .null, .null, .null, .null, .null, .null, .int 0, .int 0, .int 0, .int 0])) :: (q5, .inl (g.2.2.1 10, 30, .inl (fun _ => 0))) :: T2) := WD_sw hWd
  rw [← hT3] at hWd
  refine lv_aload_n hx hb dI0_28 rfl (lv_at hl 0 rfl) ?_
  refine lv_bipush (v := 30) hx hb dI0_29 (by decide +kernel) ?_
  refine cr_newI X hWd (N := 30) (by decide +kernel) (by decide +kernel) (Nat.le_of_ble_eq_true rfl) (Nat.le_of_ble_eq_true rfl) (Nat.le_of_ble_eq_true rfl) dI0_31 (fun q7 Hq7 hWd => ?_)
  refine W.widen (k := 4) (n := 120) (Nat.le_of_ble_eq_true rfl) (Nat.le_of_ble_eq_true rfl) ?_
  have hWd : WD g _ s _ _ ((q7, .inl (g.2.2.1 10, 30, .inl (fun _ => 0))) :: (h0, .inr (0, [.ref q1, .ref q3, .ref q5, .null, .null, .null, .null, .null, .null, .null, .int 0, .int 0, .int 0, .int 0])) :: T3) := WD_rot hWd
  refine cr_put X hWd 1 (ci := 0) (k := 3) rfl (by decide) (by decide) rfl (gdW_in (i := 113) (by decide +kernel)) rfl rfl (Nat.le_of_ble_eq_true rfl) dI0_33 (fun H8 lH8 hWd => ?_)
  have hWd : WD g _ s _ _ ((q7, .inl (g.2.2.1 10, 30, .inl (fun _ => 0))) :: (h0, .inr (0, [.ref q1, .ref q3, .ref q5, .ref q7, .null, .null, .null, .null, .null, .null, .int 0, .int 0, .int 0, .int 0])) :: T3) := hWd
  obtain ⟨T4, hT4⟩ : ∃ T : va_W, T = (q7, .inl (g.2.2.1 10, 30, .inl (fun _ => 0))) :: T3 := ⟨_, rfl⟩
  have hWd : WD g _ s _ _ ((h0, .inr (0, [.ref q1, .ref q3, .ref q5, .ref q7, .null, .null, .null, .null, .null, .null, .int 0, .int 0, .int 0, .int 0])) :: (q7, .inl (g.2.2.1 10, 30, .inl (fun _ => 0))) :: T3) := WD_sw hWd
  rw [← hT4] at hWd
  refine lv_aload_n hx hb dI0_36 rfl (lv_at hl 0 rfl) ?_
  refine lv_bipush (v := 30) hx hb dI0_37 (by decide +kernel) ?_
  refine cr_newI X hWd (N := 30) (by decide +kernel) (by decide +kernel) (Nat.le_of_ble_eq_true rfl) (Nat.le_of_ble_eq_true rfl) (Nat.le_of_ble_eq_true rfl) dI0_39 (fun q9 Hq9 hWd => ?_)
  refine W.widen (k := 5) (n := 150) (Nat.le_of_ble_eq_true rfl) (Nat.le_of_ble_eq_true rfl) ?_
  have hWd : WD g _ s _ _ ((q9, .inl (g.2.2.1 10, 30, .inl (fun _ => 0))) :: (h0, .inr (0, [.ref q1, .ref q3, .ref q5, .ref q7, .null, .null, .null, .null, .null, .null, .int 0, .int 0, .int 0, .int 0])) :: T4) := WD_rot hWd
  refine cr_put X hWd 1 (ci := 0) (k := 4) rfl (by decide) (by decide) rfl (gdW_in (i := 115) (by decide +kernel)) rfl rfl (Nat.le_of_ble_eq_true rfl) dI0_41 (fun H10 lH10 hWd => ?_)
  have hWd : WD g _ s _ _ ((q9, .inl (g.2.2.1 10, 30, .inl (fun _ => 0))) :: (h0, .inr (0, [.ref q1, .ref q3, .ref q5, .ref q7, .ref q9, .null, .null, .null, .null, .null, .int 0, .int 0, .int 0, .int 0])) :: T4) := hWd
  obtain ⟨T5, hT5⟩ : ∃ T : va_W, T = (q9, .inl (g.2.2.1 10, 30, .inl (fun _ => 0))) :: T4 := ⟨_, rfl⟩
  have hWd : WD g _ s _ _ ((h0, .inr (0, [.ref q1, .ref q3, .ref q5, .ref q7, .ref q9, .null, .null, .null, .null, .null, .int 0, .int 0, .int 0, .int 0])) :: (q9, .inl (g.2.2.1 10, 30, .inl (fun _ => 0))) :: T4) := WD_sw hWd
  rw [← hT5] at hWd
  refine lv_aload_n hx hb dI0_44 rfl (lv_at hl 0 rfl) ?_
  refine lv_bipush (v := 30) hx hb dI0_45 (by decide +kernel) ?_
  refine cr_newZ X hWd (N := 30) (by decide +kernel) (by decide +kernel) (Nat.le_of_ble_eq_true rfl) (Nat.le_of_ble_eq_true rfl) (Nat.le_of_ble_eq_true rfl) dI0_47 (fun q11 Hq11 hWd => ?_)
  refine W.widen (k := 6) (n := 180) (Nat.le_of_ble_eq_true rfl) (Nat.le_of_ble_eq_true rfl) ?_
  have hWd : WD g _ s _ _ ((q11, .inl (g.2.2.1 11, 30, .inl (fun _ => 0))) :: (h0, .inr (0, [.ref q1, .ref q3, .ref q5, .ref q7, .ref q9, .null, .null, .null, .null, .null, .int 0, .int 0, .int 0, .int 0])) :: T5) := WD_rot hWd
  refine cr_put X hWd 1 (ci := 0) (k := 5) rfl (by decide) (by decide) rfl (gdW_in (i := 116) (by decide +kernel)) rfl rfl (Nat.le_of_ble_eq_true rfl) dI0_49 (fun H12 lH12 hWd => ?_)
  have hWd : WD g _ s _ _ ((q11, .inl (g.2.2.1 11, 30, .inl (fun _ => 0))) :: (h0, .inr (0, [.ref q1, .ref q3, .ref q5, .ref q7, .ref q9, .ref q11, .null, .null, .null, .null, .int 0, .int 0, .int 0, .int 0])) :: T5) := hWd
  obtain ⟨T6, hT6⟩ : ∃ T : va_W, T = (q11, .inl (g.2.2.1 11, 30, .inl (fun _ => 0))) :: T5 := ⟨_, rfl⟩
  have hWd : WD g _ s _ _ ((h0, .inr (0, [.ref q1, .ref q3, .ref q5, .ref q7, .ref q9, .ref q11, .null, .null, .null, .null, .int 0, .int 0, .int 0, .int 0])) :: (q11, .inl (g.2.2.1 11, 30, .inl (fun _ => 0))) :: T5) := WD_sw hWd
  rw [← hT6] at hWd
  refine lv_aload_n hx hb dI0_52 rfl (lv_at hl 0 rfl) ?_
  refine lv_iconst (v := 5) hx hb dI0_53 (by decide +kernel) ?_
  refine cr_newI X hWd (N := 5) (by decide +kernel) (by decide +kernel) (Nat.le_of_ble_eq_true rfl) (Nat.le_of_ble_eq_true rfl) (Nat.le_of_ble_eq_true rfl) dI0_54 (fun q13 Hq13 hWd => ?_)
  refine W.widen (k := 7) (n := 185) (Nat.le_of_ble_eq_true rfl) (Nat.le_of_ble_eq_true rfl) ?_
  have hWd : WD g _ s _ _ ((q13, .inl (g.2.2.1 10, 5, .inl (fun _ => 0))) :: (h0, .inr (0, [.ref q1, .ref q3, .ref q5, .ref q7, .ref q9, .ref q11, .null, .null, .null, .null, .int 0, .int 0, .int 0, .int 0])) :: T6) := WD_rot hWd
  refine cr_put X hWd 1 (ci := 0) (k := 6) rfl (by decide) (by decide) rfl (gdW_in (i := 118) (by decide +kernel)) rfl rfl (Nat.le_of_ble_eq_true rfl) dI0_56 (fun H14 lH14 hWd => ?_)
  have hWd : WD g _ s _ _ ((q13, .inl (g.2.2.1 10, 5, .inl (fun _ => 0))) :: (h0, .inr (0, [.ref q1, .ref q3, .ref q5, .ref q7, .ref q9, .ref q11, .ref q13, .null, .null, .null, .int 0, .int 0, .int 0, .int 0])) :: T6) := hWd
  have hWd : WD g _ s _ _ ((h0, .inr (0, [.ref q1, .ref q3, .ref q5, .ref q7, .ref q9, .ref q11, .ref q13, .null, .null, .null, .int 0, .int 0, .int 0, .int 0])) :: (q13, .inl (g.2.2.1 10, 5, .inl (fun _ => 0))) :: T6) := WD_sw hWd
  refine lv_aload_n hx hb dI0_59 rfl (lv_at hl 0 rfl) ?_
  refine lv_bipush (v := 9) hx hb dI0_60 (by decide +kernel) ?_
  refine cr_newI X hWd (N := 9) (by decide +kernel) (by decide +kernel) (Nat.le_of_ble_eq_true rfl) (Nat.le_of_ble_eq_true rfl) (Nat.le_of_ble_eq_true rfl) dI0_62 (fun q15 Hq15 hWd => ?_)
  refine W.widen (k := 8) (n := 194) (Nat.le_of_ble_eq_true rfl) (Nat.le_of_ble_eq_true rfl) ?_
  have hWd : WD g _ s _ _ ((q15, .inl (g.2.2.1 10, 9, .inl (fun _ => 0))) :: (h0, .inr (0, [.ref q1, .ref q3, .ref q5, .ref q7, .ref q9, .ref q11, .ref q13, .null, .null, .null, .int 0, .int 0, .int 0, .int 0])) :: (q13, .inl (g.2.2.1 10, 5, .inl (fun _ => 0))) :: T6) := WD_rot hWd
  refine cr_put X hWd 1 (ci := 0) (k := 7) rfl (by decide) (by decide) rfl (gdW_in (i := 120) (by decide +kernel)) rfl rfl (Nat.le_of_ble_eq_true rfl) dI0_64 (fun H16 lH16 hWd => ?_)
  have hWd : WD g _ s _ _ ((q15, .inl (g.2.2.1 10, 9, .inl (fun _ => 0))) :: (h0, .inr (0, [.ref q1, .ref q3, .ref q5, .ref q7, .ref q9, .ref q11, .ref q13, .ref q15, .null, .null, .int 0, .int 0, .int 0, .int 0])) :: (q13, .inl (g.2.2.1 10, 5, .inl (fun _ => 0))) :: T6) := hWd
  obtain ⟨T7, hT7⟩ : ∃ T : va_W, T = (q15, .inl (g.2.2.1 10, 9, .inl (fun _ => 0))) :: T6 := ⟨_, rfl⟩
  have hWd : WD g _ s _ _ ((h0, .inr (0, [.ref q1, .ref q3, .ref q5, .ref q7, .ref q9, .ref q11, .ref q13, .ref q15, .null, .null, .int 0, .int 0, .int 0, .int 0])) :: (q13, .inl (g.2.2.1 10, 5, .inl (fun _ => 0))) :: (q15, .inl (g.2.2.1 10, 9, .inl (fun _ => 0))) :: T6) := WD_sw2 hWd
  rw [← hT7] at hWd
  refine lv_aload_n hx hb dI0_67 rfl (lv_at hl 0 rfl) ?_
  refine lv_bipush (v := 9) hx hb dI0_68 (by decide +kernel) ?_
  refine cr_newI X hWd (N := 9) (by decide +kernel) (by decide +kernel) (Nat.le_of_ble_eq_true rfl) (Nat.le_of_ble_eq_true rfl) (Nat.le_of_ble_eq_true rfl) dI0_70 (fun q17 Hq17 hWd => ?_)
  refine W.widen (k := 9) (n := 203) (Nat.le_of_ble_eq_true rfl) (Nat.le_of_ble_eq_true rfl) ?_
  have hWd : WD g _ s _ _ ((q17, .inl (g.2.2.1 10, 9, .inl (fun _ => 0))) :: (h0, .inr (0, [.ref q1, .ref q3, .ref q5, .ref q7, .ref q9, .ref q11, .ref q13, .ref q15, .null, .null, .int 0, .int 0, .int 0, .int 0])) :: (q13, .inl (g.2.2.1 10, 5, .inl (fun _ => 0))) :: T7) := WD_rot hWd
  refine cr_put X hWd 1 (ci := 0) (k := 8) rfl (by decide) (by decide) rfl (gdW_in (i := 122) (by decide +kernel)) rfl rfl (Nat.le_of_ble_eq_true rfl) dI0_72 (fun H18 lH18 hWd => ?_)
  have hWd : WD g _ s _ _ ((q17, .inl (g.2.2.1 10, 9, .inl (fun _ => 0))) :: (h0, .inr (0, [.ref q1, .ref q3, .ref q5, .ref q7, .ref q9, .ref q11, .ref q13, .ref q15, .ref q17, .null, .int 0, .int 0, .int 0, .int 0])) :: (q13, .inl (g.2.2.1 10, 5, .inl (fun _ => 0))) :: T7) := hWd
  obtain ⟨T8, hT8⟩ : ∃ T : va_W, T = (q17, .inl (g.2.2.1 10, 9, .inl (fun _ => 0))) :: T7 := ⟨_, rfl⟩
  have hWd : WD g _ s _ _ ((h0, .inr (0, [.ref q1, .ref q3, .ref q5, .ref q7, .ref q9, .ref q11, .ref q13, .ref q15, .ref q17, .null, .int 0, .int 0, .int 0, .int 0])) :: (q13, .inl (g.2.2.1 10, 5, .inl (fun _ => 0))) :: (q17, .inl (g.2.2.1 10, 9, .inl (fun _ => 0))) :: T7) := WD_sw2 hWd
  rw [← hT8] at hWd
  refine lv_aload_n hx hb dI0_75 rfl (lv_at hl 0 rfl) ?_
  refine lv_bipush (v := 9) hx hb dI0_76 (by decide +kernel) ?_
  refine cr_newI X hWd (N := 9) (by decide +kernel) (by decide +kernel) (Nat.le_of_ble_eq_true rfl) (Nat.le_of_ble_eq_true rfl) (Nat.le_of_ble_eq_true rfl) dI0_78 (fun q19 Hq19 hWd => ?_)
  refine W.widen (k := 10) (n := 212) (Nat.le_of_ble_eq_true rfl) (Nat.le_of_ble_eq_true rfl) ?_
  have hWd : WD g _ s _ _ ((q19, .inl (g.2.2.1 10, 9, .inl (fun _ => 0))) :: (h0, .inr (0, [.ref q1, .ref q3, .ref q5, .ref q7, .ref q9, .ref q11, .ref q13, .ref q15, .ref q17, .null, .int 0, .int 0, .int 0, .int 0])) :: (q13, .inl (g.2.2.1 10, 5, .inl (fun _ => 0))) :: T8) := WD_rot hWd
  refine cr_put X hWd 1 (ci := 0) (k := 9) rfl (by decide) (by decide) rfl (gdW_in (i := 123) (by decide +kernel)) rfl rfl (Nat.le_of_ble_eq_true rfl) dI0_80 (fun H20 lH20 hWd => ?_)
  have hWd : WD g _ s _ _ ((q19, .inl (g.2.2.1 10, 9, .inl (fun _ => 0))) :: (h0, .inr (0, [.ref q1, .ref q3, .ref q5, .ref q7, .ref q9, .ref q11, .ref q13, .ref q15, .ref q17, .ref q19, .int 0, .int 0, .int 0, .int 0])) :: (q13, .inl (g.2.2.1 10, 5, .inl (fun _ => 0))) :: T8) := hWd
  obtain ⟨T9, hT9⟩ : ∃ T : va_W, T = (q19, .inl (g.2.2.1 10, 9, .inl (fun _ => 0))) :: T8 := ⟨_, rfl⟩
  have hWd : WD g _ s _ _ ((h0, .inr (0, [.ref q1, .ref q3, .ref q5, .ref q7, .ref q9, .ref q11, .ref q13, .ref q15, .ref q17, .ref q19, .int 0, .int 0, .int 0, .int 0])) :: (q13, .inl (g.2.2.1 10, 5, .inl (fun _ => 0))) :: (q19, .inl (g.2.2.1 10, 9, .inl (fun _ => 0))) :: T8) := WD_sw2 hWd
  rw [← hT9] at hWd
  refine lv_aload_n hx hb dI0_83 rfl (lv_at hl 0 rfl) ?_
  refine lv_iconst (v := 0) hx hb dI0_84 (by decide +kernel) ?_
  refine cr_put X hWd 0 (ci := 0) (k := 10) rfl (by decide) (by decide) rfl (gdW_in (i := 125) (by decide +kernel)) rfl rfl (Nat.le_of_ble_eq_true rfl) dI0_85 (fun H21 lH21 hWd => ?_)
  have hWd : WD g _ s _ _ ((h0, .inr (0, [.ref q1, .ref q3, .ref q5, .ref q7, .ref q9, .ref q11, .ref q13, .ref q15, .ref q17, .ref q19, .int 0, .int 0, .int 0, .int 0])) :: (q13, .inl (g.2.2.1 10, 5, .inl (fun _ => 0))) :: T9) := hWd
  refine lv_aload_n hx hb dI0_88 rfl (lv_at hl 0 rfl) ?_
  refine lv_iconst (v := 0) hx hb dI0_89 (by decide +kernel) ?_
  refine cr_put X hWd 0 (ci := 0) (k := 11) rfl (by decide) (by decide) rfl (gdW_in (i := 126) (by decide +kernel)) rfl rfl (Nat.le_of_ble_eq_true rfl) dI0_90 (fun H22 lH22 hWd => ?_)
  have hWd : WD g _ s _ _ ((h0, .inr (0, [.ref q1, .ref q3, .ref q5, .ref q7, .ref q9, .ref q11, .ref q13, .ref q15, .ref q17, .ref q19, .int 0, .int 0, .int 0, .int 0])) :: (q13, .inl (g.2.2.1 10, 5, .inl (fun _ => 0))) :: T9) := hWd
  refine lv_aload_n hx hb dI0_93 rfl (lv_at hl 0 rfl) ?_
  refine lv_iconst (v := 0) hx hb dI0_94 (by decide +kernel) ?_
  refine cr_put X hWd 0 (ci := 0) (k := 12) rfl (by decide) (by decide) rfl (gdW_in (i := 128) (by decide +kernel)) rfl rfl (Nat.le_of_ble_eq_true rfl) dI0_95 (fun H23 lH23 hWd => ?_)
  have hWd : WD g _ s _ _ ((h0, .inr (0, [.ref q1, .ref q3, .ref q5, .ref q7, .ref q9, .ref q11, .ref q13, .ref q15, .ref q17, .ref q19, .int 0, .int 0, .int 0, .int 0])) :: (q13, .inl (g.2.2.1 10, 5, .inl (fun _ => 0))) :: T9) := hWd
  refine lv_aload_n hx hb dI0_98 rfl (lv_at hl 0 rfl) ?_
  refine lv_iconst (v := 0) hx hb dI0_99 (by decide +kernel) ?_
  refine cr_put X hWd 0 (ci := 0) (k := 13) rfl (by decide) (by decide) rfl (gdW_in (i := 129) (by decide +kernel)) rfl rfl (Nat.le_of_ble_eq_true rfl) dI0_100 (fun H24 lH24 hWd => ?_)
  have hWd : WD g _ s _ _ ((h0, .inr (0, [.ref q1, .ref q3, .ref q5, .ref q7, .ref q9, .ref q11, .ref q13, .ref q15, .ref q17, .ref q19, .int 0, .int 0, .int 0, .int 0])) :: (q13, .inl (g.2.2.1 10, 5, .inl (fun _ => 0))) :: T9) := hWd
  refine cr_setS X hWd dI0_103 ?_
  refine lv_iconst (v := 0) hx hb dI0_106 (by decide +kernel) ?_
  refine lv_aload_n hx hb dI0_107 rfl (lv_at hl 0 rfl) ?_
  refine cr_get X hWd 0 (ci := 0) (k := 6) rfl (by decide) (by decide) (gdW_in (i := 118) (by decide +kernel)) rfl dI0_108 ?_
  refine lv_iconst (v := 0) hx hb dI0_111 (by decide +kernel) ?_
  refine lv_iconst (v := 5) hx hb dI0_112 (by decide +kernel) ?_
  refine cr_cpS X hWd 1 rfl hl.1 (gdW_in (i := 104) (by decide +kernel)) (Nat.le_of_ble_eq_true rfl) (Nat.le_of_ble_eq_true rfl) dI0_113 (fun H25 lH25 hWd => ?_)
  have hWd : WD g _ s _ _ ((h0, .inr (0, [.ref q1, .ref q3, .ref q5, .ref q7, .ref q9, .ref q11, .ref q13, .ref q15, .ref q17, .ref q19, .int 0, .int 0, .int 0, .int 0])) :: (q13, .inl (g.2.2.1 10, 5, .inl (va_cpy (fun j => (stbT.getD 5 []).getD j 0) (fun _ => 0) 0 0 5))) :: T9) := hWd
  rw [hT9, hT8, hT7, hT6, hT5, hT4, hT3, hT2, hT1, hT0] at hWd
  have hWd : WD g _ s _ _ (wHeap g (fun o => if o < 1 then h0 else if o < 2 then q1 else if o < 3 then q3 else if o < 4 then q5 else if o < 5 then q7 else if o < 6 then q9 else if o < 7 then q11 else if o < 8 then q13 else if o < 9 then q15 else if o < 10 then q17 else q19)) := hWd
  exact W.vret hx hb hr (fun t ht hW => ⟨⟨_, rfl, rfl, by rw [ht]; exact hWd.1, hWd.2.1⟩, hWd.2.2.F ht⟩) hWd.2.2.2.2 dI0_116
