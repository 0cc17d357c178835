/-! ===== the law's start: statics, strings, classes ===== -/
abbrev FL : List Cond := flatC (Jvm.Cond.and given_1 narrow_1)
def inF (w : Cond) : Bool := decide (w ∈ FL)
def inT (w : Cond) : Bool := decide (w ∈ lw_tbl)
theorem inF_ok {args : Array Value} {s : State} (h : (Jvm.Cond.and given_1 narrow_1).before args s = true) {w : Cond} (hw : inF w = true) : w.before args s = true := flat_of_before _ h w (of_decide_eq_true hw)
theorem inT_ok {args : Array Value} {s : State} (h : ∀ w ∈ lw_tbl, w.before args s = true) {w : Cond} (hw : inT w = true) : w.before args s = true := h w (of_decide_eq_true hw)
def trm (i : Nat) : Term := .static "SmokyHeap" (sn i) "[I"
def stC (i : Nat) : Bool := inF (.arrayOf (trm i) .int) && (inF (.eq (.length (trm i)) (.int (Int32.ofNat (stbT.getD i []).length))) && ((List.range (stbT.getD i []).length).all (fun j => inF (.eq (.elem (trm i) (.int (Int32.ofNat j))) (.int ((stbT.getD i []).getD j 0)))) && (inT (.laysStatic "SmokyHeap" (sn i) "[I") && decide ((stbT.getD i []).length < 2147483648))))
set_option maxRecDepth 100000 in
theorem stC_ok : (List.range 6).all stC = true := by decide +kernel
def ktm (i : Nat) : Term := .string (kow i) (kix i)
def kvl (i : Nat) : Term := .field (ktm i) "java/lang/String" "value" "[B"
def ksC (i : Nat) : Bool := inF (.exactly (ktm i) "java/lang/String") && (inF (.eq (.field (ktm i) "java/lang/String" "coder" "B") (.int 0)) && (inF (.arrayOf (kvl i) .byte) && (inF (.eq (.length (kvl i)) (.int (Int32.ofNat (lenT.getD i 0)))) && ((List.range (lenT.getD i 0)).all (fun j => inF (.eq (.elem (kvl i) (.int (Int32.ofNat j))) (.int ((bytT.getD i []).getD j 0)))) && (inT (.stringRef (kow i) (kix i) (ktx i)) && decide (lenT.getD i 0 < 2147483648))))))
set_option maxRecDepth 100000 in
theorem ksC_ok : (List.range 12).all ksC = true := by decide +kernel
set_option maxRecDepth 100000 in
theorem nst_in : nestW.all inT = true ∧ nestI.all inT = true := by decide +kernel
set_option maxRecDepth 100000 in
theorem oth_in : inF (.eq (.static "java/lang/String" "COMPACT_STRINGS" "Z") (.int 1)) = true ∧ inF (.isRef (.static "jdk/internal/util/Preconditions" "SIOOBE_FORMATTER" "Ljava/util/function/BiFunction;")) = true ∧ inT (.laysStatic "java/lang/String" "COMPACT_STRINGS" "Z") = true ∧ inT (.laysStatic "jdk/internal/util/Preconditions" "SIOOBE_FORMATTER" "Ljava/util/function/BiFunction;") = true := by decide +kernel
set_option maxRecDepth 100000 in
theorem oti_in : inT (.initialized "SmokyHeap") = true ∧ inT (.initialized "java/lang/String") = true ∧ inT (.initialized "jdk/internal/util/Preconditions") = true ∧ inT (.arrayOver (.object "SmokyHeap$Row")) = true ∧ inT (.arrayOver (.object "SmokyHeap$Sheet")) = true ∧ inT (.arrayOver (.object "java/lang/String")) = true := by decide +kernel
theorem rng_all {n : Nat} {f : Nat → Bool} (h : (List.range n).all f = true) {i : Nat} (hi : i < n) : f i = true := List.all_eq_true.mp h i (List.mem_range.mpr hi)
theorem STA_start {args : Array Value} {s : State} (hgv : (Jvm.Cond.and given_1 narrow_1).before args s = true) (hts : ∀ w ∈ lw_tbl, w.before args s = true) (D : va_G) (cA : Nat → ClassId) : ∃ g : Gw, g.2.1 = D ∧ g.2.2.1 = cA ∧ STA g (fun q : Nat => s.heap.size ≤ q) s s.heap := by
  have hA : ∀ a : Nat, a < s.heap.size → ¬ (fun q : Nat => s.heap.size ≤ q) a := fun a h => Nat.not_le.mpr h
  have h1 : ∀ i : Nat, ∃ t : Nat, i < 6 → va_Z "SmokyHeap" (sn i) "[I" (.ref t) (fun q : Nat => s.heap.size ≤ q) s s.heap ∧ va_T .int t (stbT.getD i []).length (fun j => .int ((stbT.getD i []).getD j 0)) (fun q : Nat => s.heap.size ≤ q) s s.heap := by
    intro i
    by_cases hi : i < 6
    · have hb := rng_all stC_ok hi
      simp only [stC, Bool.and_eq_true, decide_eq_true_eq] at hb
      obtain ⟨b1, b2, b3, b4, b5⟩ := hb
      obtain ⟨t, ht, hT⟩ := va_Tof (f := fun j => .int ((stbT.getD i []).getD j 0)) (A := fun q : Nat => s.heap.size ≤ q) b5 (inF_ok hgv b1) (va_eqt (inF_ok hgv b2)) (fun j hj => va_eqt (inF_ok hgv (rng_all b3 hj))) hA
      exact ⟨t, fun _ => ⟨va_Zref (inT_ok hts b4) (inT_ok hts oti_in.1) ht hA, hT⟩⟩
    · exact ⟨0, fun h => absurd h hi⟩
  have h2 : ∀ i : Nat, ∃ q : Nat × Nat, i < 12 → va_O "java/lang/String" q.1 (fun q : Nat => s.heap.size ≤ q) s s.heap ∧ va_OF "java/lang/String" "coder" "B" (.int 0) q.1 (fun q : Nat => s.heap.size ≤ q) s s.heap ∧ va_OF "java/lang/String" "value" "[B" (.ref q.2) q.1 (fun q : Nat => s.heap.size ≤ q) s s.heap ∧ va_T .byte q.2 (lenT.getD i 0) (fun j => .int ((bytT.getD i []).getD j 0)) (fun q : Nat => s.heap.size ≤ q) s s.heap ∧ vk_R (kow i) (kix i) (ktx i) q.1 s := by
    intro i
    by_cases hi : i < 12
    · have hb := rng_all ksC_ok hi
      simp only [ksC, Bool.and_eq_true, decide_eq_true_eq] at hb
      obtain ⟨b1, b2, b3, b4, b5, b6, b7⟩ := hb
      obtain ⟨a, cl, cell, kk, q1, q2, q3, q4, q5, q6, -⟩ := Cond.exactly_spec (args := args) (first := s) (o := none) (s := s) (idx := []) (t := ktm i) (cls := "java/lang/String") (inF_ok hgv b1)
      obtain ⟨t, ht, hT⟩ := va_Tof (f := fun j => .int ((bytT.getD i []).getD j 0)) (A := fun q : Nat => s.heap.size ≤ q) b7 (inF_ok hgv b3) (va_eqt (inF_ok hgv b4)) (fun j hj => va_eqt (inF_ok hgv (rng_all b5 hj))) hA
      have hsr := inT_ok hts b6
      refine ⟨(a, t), fun _ => ⟨⟨cell, q3, q5, by rw [q6]; exact q2, hA a (Array.getElem?_eq_some_iff.mp q3).1⟩, vk_OFof q1 (va_eqt (inF_ok hgv b2)) hA, vk_OFof q1 ht hA, hT, vk_R.of hsr q1⟩⟩
    · exact ⟨(0, 0), fun h => absurd h hi⟩
  obtain ⟨ad, had⟩ := Classical.axiomOfChoice h1
  obtain ⟨ak, hak⟩ := Classical.axiomOfChoice h2
  have hz := va_Zqof (A := fun q : Nat => s.heap.size ≤ q) (inT_ok hts oth_in.2.2.2) (inT_ok hts oti_in.2.2.1) (inF_ok hgv oth_in.2.1) hA
  obtain ⟨fm, hfm, hfz⟩ : ∃ fm : Value, (fm = .null ∨ ∃ t, fm = .ref t) ∧ va_Z "jdk/internal/util/Preconditions" "SIOOBE_FORMATTER" "Ljava/util/function/BiFunction;" fm (fun q : Nat => s.heap.size ≤ q) s s.heap := by
    rcases hz with hz | ⟨t, hz⟩
    · exact ⟨.null, Or.inl rfl, hz⟩
    · exact ⟨.ref t, Or.inr ⟨t, rfl⟩, hz⟩
  refine ⟨(fun o => if o < 110 then ad (o - 104) else if o < 122 then (ak (o - 110)).1 else (ak (o - 122)).2, D, cA, fm), rfl, rfl, fun i hi => ?_, fun i hi => ?_, va_Zof (inT_ok hts oth_in.2.2.1) (inT_ok hts oti_in.2.1) (va_eqi (inF_ok hgv oth_in.1)) hA, hfz, hfm, fun w hw => ?_⟩
  · have e : (if 104 + i < 110 then ad (104 + i - 104) else if 104 + i < 122 then (ak (104 + i - 110)).1 else (ak (104 + i - 122)).2) = ad i := by
      rw [if_pos (by omega), Nat.add_sub_cancel_left]
    show va_Z "SmokyHeap" (sn i) "[I" (.ref (if 104 + i < 110 then ad (104 + i - 104) else if 104 + i < 122 then (ak (104 + i - 110)).1 else (ak (104 + i - 122)).2)) _ s s.heap ∧ va_T .int (if 104 + i < 110 then ad (104 + i - 104) else if 104 + i < 122 then (ak (104 + i - 110)).1 else (ak (104 + i - 122)).2) _ _ _ s s.heap
    rw [e]
    exact had i hi
  · have e : (if 110 + i < 110 then ad (110 + i - 104) else if 110 + i < 122 then (ak (110 + i - 110)).1 else (ak (110 + i - 122)).2) = (ak i).1 := by
      rw [if_neg (by omega), if_pos (by omega), Nat.add_sub_cancel_left]
    have e2 : (if 122 + i < 110 then ad (122 + i - 104) else if 122 + i < 122 then (ak (122 + i - 110)).1 else (ak (122 + i - 122)).2) = (ak i).2 := by
      rw [if_neg (by omega), if_neg (by omega), Nat.add_sub_cancel_left]
    show va_O "java/lang/String" (if 110 + i < 110 then ad (110 + i - 104) else if 110 + i < 122 then (ak (110 + i - 110)).1 else (ak (110 + i - 122)).2) _ s s.heap ∧ va_OF "java/lang/String" "coder" "B" (.int 0) (if 110 + i < 110 then ad (110 + i - 104) else if 110 + i < 122 then (ak (110 + i - 110)).1 else (ak (110 + i - 122)).2) _ s s.heap ∧ va_OF "java/lang/String" "value" "[B" (.ref (if 122 + i < 110 then ad (122 + i - 104) else if 122 + i < 122 then (ak (122 + i - 110)).1 else (ak (122 + i - 122)).2)) (if 110 + i < 110 then ad (110 + i - 104) else if 110 + i < 122 then (ak (110 + i - 110)).1 else (ak (110 + i - 122)).2) _ s s.heap ∧ va_T .byte (if 122 + i < 110 then ad (122 + i - 104) else if 122 + i < 122 then (ak (122 + i - 110)).1 else (ak (122 + i - 122)).2) _ _ _ s s.heap ∧ vk_R (kow i) (kix i) (ktx i) (if 110 + i < 110 then ad (110 + i - 104) else if 110 + i < 122 then (ak (110 + i - 110)).1 else (ak (110 + i - 122)).2) s
    rw [e, e2]
    exact hak i hi
  · have hb := inT_ok hts (List.all_eq_true.mp nst_in.1 w hw)
    rcases nest_kind w hw with ⟨a, i, x, hh, rfl⟩ | ⟨a, i, b, n, d, hh, rfl⟩
    · exact va_Nw.of rfl hb
    · exact va_Nw.of rfl hb
theorem XW_start {args : Array Value} {s : State} (hts : ∀ w ∈ lw_tbl, w.before args s = true) : XW s := by
  refine ⟨va_AO.of (inT_ok hts oti_in.2.2.2.1), va_AO.of (inT_ok hts oti_in.2.2.2.2.1), va_AO.of (inT_ok hts oti_in.2.2.2.2.2), fun w hw => ?_⟩
  have hb := inT_ok hts (List.all_eq_true.mp nst_in.2 w hw)
  obtain ⟨a, i, x, hh, rfl⟩ := nestI_kind w hw
  exact va_Nw.of rfl hb
theorem arr_of {s : State} {cA comp : ClassId} {kA : Class} {ty : FieldType} (h1 : s.vm.classes[cA]? = some kA) (h2 : kA.kind = .array comp ty) : ArrOfT s cA ty := fun n z => ⟨(fun k h => by cases h), kA, h1, comp, h2⟩
theorem ins_ok : (List.range 9).all (fun c => inT (.instantiable (Rn c) (Nn c))) = true := by decide +kernel
/-- the classes' numbers and places, the arrays' classes -/
theorem K_start {args : Array Value} {s : State} (hts : ∀ w ∈ lw_tbl, w.before args s = true) : ∃ (D : va_G) (cA : Nat → ClassId), (∀ (c : Nat) (q : vw_C), vwCl[c]? = some q → u_Kn s q.1 q.2.1 q.2.2 (D.1 c) (D.2 c)) ∧ ∀ (k : Nat) (q : ClassId × FieldType), ([(cA 10, .int), (cA 11, .boolean), (cA 12, .object "SmokyHeap$Row"), (cA 13, .object "SmokyHeap$Sheet"), (cA 14, .object "java/lang/String")] : List (ClassId × FieldType))[k]? = some q → ArrOfT s q.1 q.2 ∧ va_RA s q.1 q.2 := by
  have h1 : ∀ c : Nat, ∃ z : ClassId × (Nat → Nat), c < 9 → u_Kn s (Rn c) (Tn c) (Nn c) z.1 z.2 := by
    intro c
    by_cases hc : c < 9
    · obtain ⟨cc, iS, hk⟩ := u_known (C := Rn c) (T := Tn c) (N := Nn c) (n := Nn c) hts (lay_in c hc) (inT_ok hts (rng_all ins_ok hc))
      exact ⟨(cc, iS), fun _ => hk⟩
    · exact ⟨(0, fun _ => 0), fun h => absurd h hc⟩
  obtain ⟨ad, had⟩ := Classical.axiomOfChoice h1
  obtain ⟨cI, kI, oI, i1, i2, i3⟩ := Cond.arrayClass_spec (type := .int) (hts _ (List.mem_filter.mp aI_in).1)
  obtain ⟨cZ, kZ, oZ, z1, z2, z3⟩ := Cond.arrayClass_spec (type := .boolean) (hts _ (List.mem_filter.mp aZ_in).1)
  obtain ⟨oR, cR, kR, r1, -, r2, r3, r4⟩ := Cond.arrayOver_spec (n := "SmokyHeap$Row") (inT_ok hts oti_in.2.2.2.1)
  obtain ⟨oS, cS, kS, s1, -, s2, s3, s4⟩ := Cond.arrayOver_spec (n := "SmokyHeap$Sheet") (inT_ok hts oti_in.2.2.2.2.1)
  obtain ⟨oT, cT, kT_, t1, -, t2, t3, t4⟩ := Cond.arrayOver_spec (n := "java/lang/String") (inT_ok hts oti_in.2.2.2.2.2)
  refine ⟨(fun c => (ad c).1, fun c => (ad c).2), fun k => if k = 10 then cI else if k = 11 then cZ else if k = 12 then cR else if k = 13 then cS else cT, fun c q hq => ?_, fun k q hq => ?_⟩
  · have hc : c < 9 := (List.getElem?_eq_some_iff.mp hq).1
    have e := (vwCl_at c hc).symm.trans hq
    cases e
    exact had c hc
  · match k, hq with
    | 0, hq => cases hq; exact ⟨arr_of i2 i3, i1⟩
    | 1, hq => cases hq; exact ⟨arr_of z2 z3, z1⟩
    | 2, hq => cases hq; exact ⟨arr_of r2 r3, kR, oR, r2, r3, r1, r4⟩
    | 3, hq => cases hq; exact ⟨arr_of s2 s3, kS, oS, s2, s3, s1, s4⟩
    | 4, hq => cases hq; exact ⟨arr_of t2 t3, kT_, oT, t2, t3, t1, t4⟩
    | k + 5, hq => cases hq
/-- what the law has at its start, by an address for each static thing -/
theorem G_start {args : Array Value} {s : State} (hgv : (Jvm.Cond.and given_1 narrow_1).before args s = true) (hts : ∀ w ∈ lw_tbl, w.before args s = true) : ∃ g : Gw, STA g (fun q : Nat => s.heap.size ≤ q) s s.heap ∧ va_K g.2.1 vwCl (tW g) s ∧ XW s := by
  obtain ⟨D, cA, k1, k2⟩ := K_start hts
  obtain ⟨g, e1, e2, hST⟩ := STA_start hgv hts D cA
  refine ⟨g, hST, ⟨fun c q hq => by rw [e1]; exact k1 c q hq, fun k q hq => ?_⟩, XW_start hts⟩
  refine k2 k q ?_
  rw [← e2]
  exact hq
