/-! ===== voice: the trace ===== -/
def flF (F : Nat → Int32) : List Int32 → Nat → Int32
  | [] => F
  | v :: L => if L.length < 30 then upd (flF F L) L.length v else flF F L
def szI (L : List Int32) : Int32 := nI (min L.length 30)
theorem flF_eq (F G : Nat → Int32) : ∀ (L : List Int32) k, k < min L.length 30 → flF F L k = flF G L k
  | [], k, h => by simp at h
  | v :: L, k, h => by
    rw [List.length_cons] at h
    by_cases c : L.length < 30
    · simp only [flF, if_pos c, upd_at]
      by_cases c2 : k = L.length
      · rw [if_pos c2, if_pos c2]
      · rw [if_neg c2, if_neg c2]
        exact flF_eq F G L k (by omega)
    · simp only [flF, if_neg c]
      exact flF_eq F G L k (by omega)
def pI (p : Bool) : Int32 := if p = true then 1 else 0
def vcS (σ0 : Hs) (L : List Int32) (p : Bool) : Hs := rep (rep (rep σ0 75 (flF (σ0 75) L)) 74 (upd (σ0 74) 1 (szI L))) 73 (upd (σ0 73) 1 (pI p))
def vmS (σ0 : Hs) (L : List Int32) (p : Bool) : Hs := rep (rep σ0 99 (flF (σ0 99) L)) 87 (upd (upd (σ0 87) 19 (szI L)) 21 (pI p))
theorem vc_73 (σ0 : Hs) (L : List Int32) (p : Bool) : vcS σ0 L p 73 = upd (σ0 73) 1 (pI p) := rep_self _ _ _
theorem vc_74 (σ0 : Hs) (L : List Int32) (p : Bool) : vcS σ0 L p 74 = upd (σ0 74) 1 (szI L) := by
  unfold vcS
  rw [rep_ne (by omega), rep_self]
theorem vc_75 (σ0 : Hs) (L : List Int32) (p : Bool) : vcS σ0 L p 75 = flF (σ0 75) L := by
  unfold vcS
  rw [rep_ne (by omega), rep_ne (by omega), rep_self]
theorem vc_o (σ0 : Hs) (L : List Int32) (p : Bool) {o : Nat} (h : ¬ (o = 73 ∨ o = 74 ∨ o = 75)) : vcS σ0 L p o = σ0 o := by
  unfold vcS
  rw [rep_ne (by omega), rep_ne (by omega), rep_ne (by omega)]
theorem vc_ext {τ σ0 : Hs} {L : List Int32} {p : Bool} (h3 : τ 73 = upd (σ0 73) 1 (pI p)) (h4 : τ 74 = upd (σ0 74) 1 (szI L)) (h5 : τ 75 = flF (σ0 75) L) (ho : ∀ o, ¬ (o = 73 ∨ o = 74 ∨ o = 75) → τ o = σ0 o) : τ = vcS σ0 L p := by
  funext o
  by_cases a : o = 73
  · subst a; rw [h3, vc_73]
  · by_cases b : o = 74
    · subst b; rw [h4, vc_74]
    · by_cases c : o = 75
      · subst c; rw [h5, vc_75]
      · rw [ho o (by omega), vc_o _ _ _ (by omega)]
theorem vm_87 (σ0 : Hs) (L : List Int32) (p : Bool) : vmS σ0 L p 87 = upd (upd (σ0 87) 19 (szI L)) 21 (pI p) := rep_self _ _ _
theorem vm_99 (σ0 : Hs) (L : List Int32) (p : Bool) : vmS σ0 L p 99 = flF (σ0 99) L := by
  unfold vmS
  rw [rep_ne (by omega), rep_self]
theorem vm_o (σ0 : Hs) (L : List Int32) (p : Bool) {o : Nat} (h : ¬ (o = 87 ∨ o = 99)) : vmS σ0 L p o = σ0 o := by
  unfold vmS
  rw [rep_ne (by omega), rep_ne (by omega)]
theorem vm_ext {τ σ0 : Hs} {L : List Int32} {p : Bool} (h3 : τ 87 = upd (upd (σ0 87) 19 (szI L)) 21 (pI p)) (h5 : τ 99 = flF (σ0 99) L) (ho : ∀ o, ¬ (o = 87 ∨ o = 99) → τ o = σ0 o) : τ = vmS σ0 L p := by
  funext o
  by_cases a : o = 87
  · subst a; rw [h3, vm_87]
  · by_cases c : o = 99
    · subst c; rw [h5, vm_99]
    · rw [ho o (by omega), vm_o _ _ _ (by omega)]
theorem upd_upd (F : Nat → Int32) (k : Nat) (v w : Int32) : upd (upd F k v) k w = upd F k w := by
  funext q
  simp only [upd]
  by_cases c : q = k
  · rw [if_pos c, if_pos c]
  · rw [if_neg c, if_neg c, if_neg c]
theorem upd_sw (F : Nat → Int32) {k j : Nat} (h : k ≠ j) (v w : Int32) : upd (upd F k v) j w = upd (upd F j w) k v := by
  funext q
  simp only [upd]
  by_cases c : q = k
  · have : ¬ q = j := by omega
    rw [if_pos c, if_neg this, if_pos c]
  · rw [if_neg c, if_neg c]
theorem vc_add (d : Nat) (σ0 : Hs) (L : List Int32) (p : Bool) (v : Int32) : ∃ b, callD (d + 1) 44 [.ref 74, .int v] (vcS σ0 L p) = some (some (.int b), vcS σ0 (v :: L) p) := by
  by_cases c : L.length < 30
  · have h : vcS σ0 L p 74 1 = nI L.length := by
      rw [vc_74, upd_at, if_pos rfl, szI, Nat.min_eq_left (by omega)]
    refine ⟨1, ?_⟩
    rw [r74_add d L.length c v _ h]
    congr 2
    refine vc_ext ?_ ?_ ?_ (fun o ho => ?_)
    · rw [rep_ne (by omega), rep_ne (by omega), vc_73]
    · rw [rep_self, vc_74, upd_upd, szI, List.length_cons, Nat.min_eq_left (by omega)]
    · rw [rep_ne (by omega), rep_self, vc_75]
      simp only [flF, if_pos c]
    · rw [rep_ne (by omega), rep_ne (by omega), vc_o _ _ _ ho]
  · have h : vcS σ0 L p 74 1 = nI 30 := by
      rw [vc_74, upd_at, if_pos rfl, szI, Nat.min_eq_right (by omega)]
    refine ⟨0, ?_⟩
    rw [r74_full d v _ h]
    congr 2
    refine vc_ext (vc_73 _ _ _) ?_ ?_ (fun o ho => vc_o _ _ _ ho)
    · rw [vc_74, szI, szI, List.length_cons, Nat.min_eq_right (by omega), Nat.min_eq_right (by omega)]
    · rw [vc_75]
      simp only [flF, if_neg c]
theorem vm_began (d : Nat) (σ0 : Hs) (L : List Int32) (p : Bool) (v : Int32) : callD (d + 1) 196 [.ref 87, .int v] (vmS σ0 L p) = some (none, vmS σ0 (v :: L) p) := by
  by_cases c : L.length < 30
  · have h : vmS σ0 L p 87 19 = nI L.length := by
      rw [vm_87, upd_at, if_neg (by omega), upd_at, if_pos rfl, szI, Nat.min_eq_left (by omega)]
    have g : ((30 : Int32) ≤ nI L.length) = False := by rw [show (30 : Int32) = nI 30 from rfl, le_nn (by omega) (by omega)]; exact eq_false (by omega)
    have n1 := nI_1 L.length
    have e99 := vm_99 σ0 L p
    have e : rep (rep (vmS σ0 L p) 99 (upd (vmS σ0 L p 99) L.length v)) 87 (upd (vmS σ0 L p 87) 19 (nI (L.length + 1))) = vmS σ0 (v :: L) p := by
      refine vm_ext ?_ ?_ (fun o ho => ?_)
      · rw [rep_self, vm_87, upd_sw _ (show 21 ≠ 19 by omega), upd_upd, szI, List.length_cons, Nat.min_eq_left (by omega)]
      · rw [rep_ne (by omega), rep_self, vm_99]
        simp only [flF, if_pos c]
      · rw [rep_ne (by omega), rep_ne (by omega), vm_o _ _ _ ho]
    have e87 : ∀ (F : Nat → Int32), rep (vmS σ0 L p) 99 F 87 = vmS σ0 L p 87 := fun F => rep_ne (by omega)
    simp only [c196, s196_0, s196_1_o87, s196_4, s196_6, s196_9, s196_10_o87, s196_13, s196_14_o87, s196_17, s196_18_o99, s196_19, s196_20, s196_21_o87, s196_24, s196_25, s196_26_o87, s196_29, h, g, vp_nI c, cl_nI (show L.length < 2147483648 by omega), up2_rep, e87, n1, e, simprocAttr, if_true, if_false, true_and, and_true, false_and, and_false, not_false_eq_true, not_true_eq_false, gd_T, kont_i, kont_v]
  · have h : vmS σ0 L p 87 19 = nI 30 := by
      rw [vm_87, upd_at, if_neg (by omega), upd_at, if_pos rfl, szI, Nat.min_eq_right (by omega)]
    have g : ((30 : Int32) ≤ nI 30) = True := eq_true (by decide +kernel)
    have e : vmS σ0 L p = vmS σ0 (v :: L) p := by
      refine vm_ext ?_ ?_ (fun o ho => vm_o _ _ _ ho)
      · rw [vm_87, szI, szI, List.length_cons, Nat.min_eq_right (by omega), Nat.min_eq_right (by omega)]
      · rw [vm_99]
        simp only [flF, if_neg c]
    rw [← e]
    simp only [c196, s196_0, s196_1_o87, s196_4, s196_6, s196_9, s196_10_o87, s196_13, s196_14_o87, s196_17, s196_18_o99, s196_19, s196_20, s196_21_o87, s196_24, s196_25, s196_26_o87, s196_29, h, g, simprocAttr, if_true, if_false, true_and, and_true, false_and, and_false, not_false_eq_true, not_true_eq_false, gd_T, kont_i, kont_v]
theorem vc_set (σ0 : Hs) (L : List Int32) : rep (vcS σ0 L false) 73 (upd (vcS σ0 L false 73) 1 1) = vcS σ0 L true := by
  refine vc_ext ?_ ?_ ?_ (fun o ho => ?_)
  · rw [rep_self, vc_73, upd_upd]; rfl
  · rw [rep_ne (by omega), vc_74]
  · rw [rep_ne (by omega), vc_75]
  · rw [rep_ne (by omega), vc_o _ _ _ ho]
theorem vm_set (σ0 : Hs) (L : List Int32) (q : Bool) : rep (vmS σ0 L false) 87 (upd (vmS σ0 L false 87) 21 (pI q)) = vmS σ0 L q := by
  refine vm_ext ?_ ?_ (fun o ho => ?_)
  · rw [rep_self, vm_87, upd_upd]
  · rw [rep_ne (by omega), vm_99]
  · rw [rep_ne (by omega), vm_o _ _ _ ho]
theorem vc_p (σ0 : Hs) (L : List Int32) (p : Bool) : vcS σ0 L p 73 1 = pI p := by rw [vc_73, upd_at, if_pos rfl]
theorem vm_p (σ0 : Hs) (L : List Int32) (p : Bool) : vmS σ0 L p 87 21 = pI p := by rw [vm_87, upd_at, if_pos rfl]
theorem vc_f (σ0 : Hs) (L : List Int32) (p : Bool) {k : Nat} (h : k ≠ 1) : vcS σ0 L p 73 k = σ0 73 k := by rw [vc_73, upd_at, if_neg h]
theorem vm_f (σ0 : Hs) (L : List Int32) (p : Bool) {k : Nat} (h : k ≠ 19) (h2 : k ≠ 21) : vmS σ0 L p 87 k = σ0 87 k := by rw [vm_87, upd_at, if_neg h2, upd_at, if_neg h]
