/-! ===== text: the reader's state and the model's ===== -/
def fl6 (F : Nat → Int32) : List Int32 → Nat → Int32
  | [] => F
  | v :: L => if L.length < 60 then upd (fl6 F L) L.length v else fl6 F L
def sz6 (L : List Int32) : Int32 := nI (min L.length 60)
def rcS (σ0 : Hs) (a : Nat) (L : List Int32) (w : Bool) : Hs := rep (rep (rep σ0 72 (fl6 (σ0 72) L)) 71 (upd (σ0 71) 1 (sz6 L))) 70 (upd (upd (σ0 70) 3 (nI a)) 4 (pI w))
def rmS (σ0 : Hs) (a : Nat) (L : List Int32) (w : Bool) (op : Nat) : Hs := rep (rep σ0 96 (fl6 (σ0 96) L)) 87 (upd (upd (upd (upd (σ0 87) 9 (nI a)) 10 (nI op)) 12 (pI w)) 14 (sz6 L))
theorem rc_70 (σ0 : Hs) (a : Nat) (L : List Int32) (w : Bool) : rcS σ0 a L w 70 = upd (upd (σ0 70) 3 (nI a)) 4 (pI w) := rep_self _ _ _
theorem rc_71 (σ0 : Hs) (a : Nat) (L : List Int32) (w : Bool) : rcS σ0 a L w 71 = upd (σ0 71) 1 (sz6 L) := by
  unfold rcS
  rw [rep_ne (by omega), rep_self]
theorem rc_72 (σ0 : Hs) (a : Nat) (L : List Int32) (w : Bool) : rcS σ0 a L w 72 = fl6 (σ0 72) L := by
  unfold rcS
  rw [rep_ne (by omega), rep_ne (by omega), rep_self]
theorem rc_o (σ0 : Hs) (a : Nat) (L : List Int32) (w : Bool) {o : Nat} (h : ¬ (o = 70 ∨ o = 71 ∨ o = 72)) : rcS σ0 a L w o = σ0 o := by
  unfold rcS
  rw [rep_ne (by omega), rep_ne (by omega), rep_ne (by omega)]
theorem rc_ext {τ σ0 : Hs} {a : Nat} {L : List Int32} {w : Bool} (h3 : τ 70 = upd (upd (σ0 70) 3 (nI a)) 4 (pI w)) (h4 : τ 71 = upd (σ0 71) 1 (sz6 L)) (h5 : τ 72 = fl6 (σ0 72) L) (ho : ∀ o, ¬ (o = 70 ∨ o = 71 ∨ o = 72) → τ o = σ0 o) : τ = rcS σ0 a L w := by
  funext o
  by_cases x : o = 70
  · subst x; rw [h3, rc_70]
  · by_cases y : o = 71
    · subst y; rw [h4, rc_71]
    · by_cases z : o = 72
      · subst z; rw [h5, rc_72]
      · rw [ho o (by omega), rc_o _ _ _ _ (by omega)]
theorem rm_87 (σ0 : Hs) (a : Nat) (L : List Int32) (w : Bool) (op : Nat) : rmS σ0 a L w op 87 = upd (upd (upd (upd (σ0 87) 9 (nI a)) 10 (nI op)) 12 (pI w)) 14 (sz6 L) := rep_self _ _ _
theorem rm_96 (σ0 : Hs) (a : Nat) (L : List Int32) (w : Bool) (op : Nat) : rmS σ0 a L w op 96 = fl6 (σ0 96) L := by
  unfold rmS
  rw [rep_ne (by omega), rep_self]
theorem rm_o (σ0 : Hs) (a : Nat) (L : List Int32) (w : Bool) (op : Nat) {o : Nat} (h : ¬ (o = 87 ∨ o = 96)) : rmS σ0 a L w op o = σ0 o := by
  unfold rmS
  rw [rep_ne (by omega), rep_ne (by omega)]
theorem rm_ext {τ σ0 : Hs} {a : Nat} {L : List Int32} {w : Bool} {op : Nat} (h3 : τ 87 = upd (upd (upd (upd (σ0 87) 9 (nI a)) 10 (nI op)) 12 (pI w)) 14 (sz6 L)) (h5 : τ 96 = fl6 (σ0 96) L) (ho : ∀ o, ¬ (o = 87 ∨ o = 96) → τ o = σ0 o) : τ = rmS σ0 a L w op := by
  funext o
  by_cases x : o = 87
  · subst x; rw [h3, rm_87]
  · by_cases z : o = 96
    · subst z; rw [h5, rm_96]
    · rw [ho o (by omega), rm_o _ _ _ _ _ (by omega)]
theorem rc_at (σ0 : Hs) (a : Nat) (L : List Int32) (w : Bool) : rcS σ0 a L w 70 3 = nI a := by rw [rc_70, upd_at, if_neg (by omega), upd_at, if_pos rfl]
theorem rc_w (σ0 : Hs) (a : Nat) (L : List Int32) (w : Bool) : rcS σ0 a L w 70 4 = pI w := by rw [rc_70, upd_at, if_pos rfl]
theorem rc_f (σ0 : Hs) (a : Nat) (L : List Int32) (w : Bool) {k : Nat} (h : k ≠ 3) (h2 : k ≠ 4) : rcS σ0 a L w 70 k = σ0 70 k := by rw [rc_70, upd_at, if_neg h2, upd_at, if_neg h]
theorem rm_at (σ0 : Hs) (a : Nat) (L : List Int32) (w : Bool) (op : Nat) : rmS σ0 a L w op 87 9 = nI a := by
  rw [rm_87, upd_at, if_neg (by omega), upd_at, if_neg (by omega), upd_at, if_neg (by omega), upd_at, if_pos rfl]
theorem rm_op (σ0 : Hs) (a : Nat) (L : List Int32) (w : Bool) (op : Nat) : rmS σ0 a L w op 87 10 = nI op := by
  rw [rm_87, upd_at, if_neg (by omega), upd_at, if_neg (by omega), upd_at, if_pos rfl]
theorem rm_w (σ0 : Hs) (a : Nat) (L : List Int32) (w : Bool) (op : Nat) : rmS σ0 a L w op 87 12 = pI w := by
  rw [rm_87, upd_at, if_neg (by omega), upd_at, if_pos rfl]
theorem rm_n (σ0 : Hs) (a : Nat) (L : List Int32) (w : Bool) (op : Nat) : rmS σ0 a L w op 87 14 = sz6 L := by
  rw [rm_87, upd_at, if_pos rfl]
theorem rm_use (σ0 : Hs) (a : Nat) (L : List Int32) (w : Bool) (op : Nat) : rmS σ0 a L w op 87 11 = σ0 87 11 := by
  rw [rm_87, upd_at, if_neg (by omega), upd_at, if_neg (by omega), upd_at, if_neg (by omega), upd_at, if_neg (by omega)]
/-- setting the place, the fault, how deep -/
theorem rc_sa (σ0 : Hs) (a b : Nat) (L : List Int32) (w : Bool) : rep (rcS σ0 a L w) 70 (upd (rcS σ0 a L w 70) 3 (nI b)) = rcS σ0 b L w := by
  refine rc_ext ?_ ?_ ?_ (fun o ho => ?_)
  · rw [rep_self, rc_70, upd_sw _ (show 4 ≠ 3 by omega), upd_upd]
  · rw [rep_ne (by omega), rc_71]
  · rw [rep_ne (by omega), rc_72]
  · rw [rep_ne (by omega), rc_o _ _ _ _ ho]
theorem rc_sw (σ0 : Hs) (a : Nat) (L : List Int32) (w v : Bool) : rep (rcS σ0 a L w) 70 (upd (rcS σ0 a L w 70) 4 (pI v)) = rcS σ0 a L v := by
  refine rc_ext ?_ ?_ ?_ (fun o ho => ?_)
  · rw [rep_self, rc_70, upd_upd]
  · rw [rep_ne (by omega), rc_71]
  · rw [rep_ne (by omega), rc_72]
  · rw [rep_ne (by omega), rc_o _ _ _ _ ho]
theorem rm_sa (σ0 : Hs) (a b : Nat) (L : List Int32) (w : Bool) (op : Nat) : rep (rmS σ0 a L w op) 87 (upd (rmS σ0 a L w op 87) 9 (nI b)) = rmS σ0 b L w op := by
  refine rm_ext ?_ ?_ (fun o ho => ?_)
  · rw [rep_self, rm_87, upd_sw _ (show 14 ≠ 9 by omega), upd_sw _ (show 12 ≠ 9 by omega), upd_sw _ (show 10 ≠ 9 by omega), upd_upd]
  · rw [rep_ne (by omega), rm_96]
  · rw [rep_ne (by omega), rm_o _ _ _ _ _ ho]
theorem rm_so (σ0 : Hs) (a : Nat) (L : List Int32) (w : Bool) (op oq : Nat) : rep (rmS σ0 a L w op) 87 (upd (rmS σ0 a L w op 87) 10 (nI oq)) = rmS σ0 a L w oq := by
  refine rm_ext ?_ ?_ (fun o ho => ?_)
  · rw [rep_self, rm_87, upd_sw _ (show 14 ≠ 10 by omega), upd_sw _ (show 12 ≠ 10 by omega), upd_upd]
  · rw [rep_ne (by omega), rm_96]
  · rw [rep_ne (by omega), rm_o _ _ _ _ _ ho]
theorem rm_sw (σ0 : Hs) (a : Nat) (L : List Int32) (w v : Bool) (op : Nat) : rep (rmS σ0 a L w op) 87 (upd (rmS σ0 a L w op 87) 12 (pI v)) = rmS σ0 a L v op := by
  refine rm_ext ?_ ?_ (fun o ho => ?_)
  · rw [rep_self, rm_87, upd_sw _ (show 14 ≠ 12 by omega), upd_upd]
  · rw [rep_ne (by omega), rm_96]
  · rw [rep_ne (by omega), rm_o _ _ _ _ _ ho]
theorem rc_add (d : Nat) (σ0 : Hs) (a : Nat) (L : List Int32) (w : Bool) (v : Int32) : ∃ b, callD (d + 1) 44 [.ref 71, .int v] (rcS σ0 a L w) = some (some (.int b), rcS σ0 a (v :: L) w) := by
  by_cases c : L.length < 60
  · have h : rcS σ0 a L w 71 1 = nI L.length := by
      rw [rc_71, upd_at, if_pos rfl, sz6, Nat.min_eq_left (by omega)]
    refine ⟨1, ?_⟩
    rw [r71_add d L.length c v _ h]
    congr 2
    refine rc_ext ?_ ?_ ?_ (fun o ho => ?_)
    · rw [rep_ne (by omega), rep_ne (by omega), rc_70]
    · rw [rep_self, rc_71, upd_upd, sz6, List.length_cons, Nat.min_eq_left (by omega)]
    · rw [rep_ne (by omega), rep_self, rc_72]
      simp only [fl6, if_pos c]
    · rw [rep_ne (by omega), rep_ne (by omega), rc_o _ _ _ _ ho]
  · have h : rcS σ0 a L w 71 1 = nI 60 := by
      rw [rc_71, upd_at, if_pos rfl, sz6, Nat.min_eq_right (by omega)]
    refine ⟨0, ?_⟩
    rw [r71_full d v _ h]
    congr 2
    refine rc_ext (rc_70 _ _ _ _) ?_ ?_ (fun o ho => rc_o _ _ _ _ ho)
    · rw [rc_71, sz6, sz6, List.length_cons, Nat.min_eq_right (by omega), Nat.min_eq_right (by omega)]
    · rw [rc_72]
      simp only [fl6, if_neg c]
theorem m_codes_f (d : Nat) (σ0 : Hs) (a : Nat) (L : List Int32) (op : Nat) (v : Int32) (c : L.length < 60) : callD (d + 1) 146 [.ref 87, .int v] (rmS σ0 a L false op) = some (none, rmS σ0 a (v :: L) false op) := by
  have h : rmS σ0 a L false op 87 14 = nI L.length := by rw [rm_n, sz6, Nat.min_eq_left (by omega)]
  have hw : rmS σ0 a L false op 87 12 = 0 := rm_w _ _ _ _ _
  have n1 := nI_1 L.length
  have e : rep (rep (rmS σ0 a L false op) 96 (upd (rmS σ0 a L false op 96) L.length v)) 87 (upd (rmS σ0 a L false op 87) 14 (nI (L.length + 1))) = rmS σ0 a (v :: L) false op := by
    refine rm_ext ?_ ?_ (fun o ho => ?_)
    · rw [rep_self, rm_87, upd_upd, sz6, List.length_cons, Nat.min_eq_left (by omega)]
    · rw [rep_ne (by omega), rep_self, rm_96]
      simp only [fl6, if_pos c]
    · rw [rep_ne (by omega), rep_ne (by omega), rm_o _ _ _ _ _ ho]
  have e87 : ∀ (F : Nat → Int32), rep (rmS σ0 a L false op) 96 F 87 = rmS σ0 a L false op 87 := fun F => rep_ne (by omega)
  simp only [c146, s146_0, s146_1_o87, s146_4, s146_7, s146_8_o87, s146_11, s146_12_o87, s146_15, s146_16_o96, s146_17, s146_18, s146_19_o87, s146_22, s146_23, s146_24_o87, s146_27, h, hw, vp_nI c, cl_nI (show L.length < 2147483648 by omega), up2_rep, e87, n1, e, simprocAttr, if_true, if_false, true_and, and_true, false_and, and_false, not_false_eq_true, not_true_eq_false, gd_T, kont_i, kont_v]
theorem m_codes_t (d : Nat) (σ0 : Hs) (a : Nat) (L : List Int32) (op : Nat) (v : Int32) : callD (d + 1) 146 [.ref 87, .int v] (rmS σ0 a L true op) = some (none, rmS σ0 a L true op) := by
  have hw : rmS σ0 a L true op 87 12 = 1 := rm_w _ _ _ _ _
  simp only [c146, s146_0, s146_1_o87, s146_4, s146_7, s146_8_o87, s146_11, s146_12_o87, s146_15, s146_16_o96, s146_17, s146_18, s146_19_o87, s146_22, s146_23, s146_24_o87, s146_27, hw, simprocAttr, if_true, if_false, true_and, and_true, false_and, and_false, not_false_eq_true, not_true_eq_false, gd_T, kont_i, kont_v]
/-- the tape as both have it -/
def TPc (σ0 : Hs) (n : Nat) (B : Nat → Nat) : Prop := n ≤ 60 ∧ σ0 70 1 = 22 ∧ σ0 22 1 = nI n ∧ ∀ k, k < n → B k < 256 ∧ σ0 23 k = nI (B k)
def TPm (τ0 : Hs) (n : Nat) (B : Nat → Nat) : Prop := n ≤ 60 ∧ τ0 88 1 = nI n ∧ ∀ k, k < n → B k < 256 ∧ τ0 88 (275 + k) = nI (B k)
def chN (B : Nat → Nat) (n a : Nat) : Nat := if a < n then B a else 0
def heI (B : Nat → Nat) (n a : Nat) : Int32 := if a < n then nI (B a) else -1
theorem i2c_n : ∀ c, c < 256 → ((nI c).toUInt32 % 65536).toInt32 = nI c := by decide +kernel
theorem nar_c : ∀ c, c < 256 → vp_nar .char (nI c) = nI c := by decide +kernel
theorem m_here_t (d : Nat) (σ0 : Hs) (a : Nat) (L : List Int32) (op : Nat) : callD (d + 1) 144 [.ref 87] (rmS σ0 a L true op) = some (some (.int (-1)), rmS σ0 a L true op) := by
  have hw : rmS σ0 a L true op 87 12 = 1 := rm_w _ _ _ _ _
  simp only [c144, s144_0, s144_1_o87, s144_4, s144_7, s144_8_o87, s144_11, s144_12_o87, s144_15, s144_16_o88, s144_17, s144_20, s144_21_o87, s144_24, s144_27, s144_28_o87, s144_31, s144_32_o88, s144_33, s144_36, s144_37, hw, simprocAttr, if_true, if_false, true_and, and_true, false_and, and_false, not_false_eq_true, not_true_eq_false, gd_T, kont_i, kont_v]
theorem m_here_f (d : Nat) (σ0 : Hs) (a n : Nat) (B : Nat → Nat) (ha : a ≤ 60) (ht : TPm σ0 n B) (L : List Int32) (op : Nat) : callD (d + 1) 144 [.ref 87] (rmS σ0 a L false op) = some (some (.int (heI B n a)), rmS σ0 a L false op) := by
  obtain ⟨hn, h1, h2⟩ := ht
  have hw : rmS σ0 a L false op 87 12 = 0 := rm_w _ _ _ _ _
  have ha9 := rm_at σ0 a L false op
  have e88 : rmS σ0 a L false op 88 = σ0 88 := rm_o _ _ _ _ _ (by omega)
  have ix : (275 : Int32) + nI a = nI (275 + a) := nI_add 275 a
  unfold heI
  by_cases c : a < n
  · have g : (nI n ≤ nI a) = False := by rw [le_nn (by omega) (by omega)]; exact eq_false (by omega)
    rw [if_pos c]
    simp only [c144, s144_0, s144_1_o87, s144_4, s144_7, s144_8_o87, s144_11, s144_12_o87, s144_15, s144_16_o88, s144_17, s144_20, s144_21_o87, s144_24, s144_27, s144_28_o87, s144_31, s144_32_o88, s144_33, s144_36, s144_37, hw, ha9, vp_lit, e88, h1, g, ix, vp_nI (show 275 + a < 545 by omega), cl_nI (show 275 + a < 2147483648 by omega), (h2 a c).2, simprocAttr, if_true, if_false, true_and, and_true, false_and, and_false, not_false_eq_true, not_true_eq_false, gd_T, kont_i, kont_v]
  · have g : (nI n ≤ nI a) = True := by rw [le_nn (by omega) (by omega)]; exact eq_true (by omega)
    rw [if_neg c]
    simp only [c144, s144_0, s144_1_o87, s144_4, s144_7, s144_8_o87, s144_11, s144_12_o87, s144_15, s144_16_o88, s144_17, s144_20, s144_21_o87, s144_24, s144_27, s144_28_o87, s144_31, s144_32_o88, s144_33, s144_36, s144_37, hw, ha9, vp_lit, e88, h1, g, simprocAttr, if_true, if_false, true_and, and_true, false_and, and_false, not_false_eq_true, not_true_eq_false, gd_T, kont_i, kont_v]
