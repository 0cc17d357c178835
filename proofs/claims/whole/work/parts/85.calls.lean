/-! ===== the calls: washing, report, suspects, liar ===== -/
def wmI : Nat → Nat → Int32 → Int32
  | 0, _, s => s
  | m + 1, k, s => wmI m (k + 1) (s ||| ((1 : Int32) <<< (nI k &&& 31)))
theorem wm_ok : ∀ f, f < 24 → ∀ t, t < 24 → bcI (wmI (t + 1 - f) f 0) = jmax 0 (nI t - nI f + 1) := by decide +kernel
theorem k_wash_l (d t : Nat) (ht : t < 24) (i1 i2 : Int32) (σ : Hs) : ∀ m k s, (k + m = t + 1 ∨ (m = 0 ∧ t < k)) → k < 100 → ru d 73 39 [.ref 0, .int i1, .int i2, .int (nI t), .int s, .int (nI k)] [] σ = ru d 73 60 [.ref 0, .int i1, .int i2, .int (nI t), .int (wmI m k s), .int (nI (k + m))] [] σ := by
  intro m
  induction m with
  | zero =>
    intro k s hk hk2
    have e : (nI t < nI k) = True := by rw [lt_nn (by omega) (by omega)]; exact eq_true (by omega)
    simp only [s73_39]
    simp only [s73_41, s73_42, e, wmI, Nat.add_zero, simprocAttr, if_true, if_false, true_and, and_true, false_and, and_false, not_false_eq_true, not_true_eq_false, gd_T, kont_i, kont_v]
  | succ m ih =>
    intro k s hk hk2
    have e : (nI t < nI k) = False := by rw [lt_nn (by omega) (by omega)]; exact eq_false (by omega)
    have hi := ih (k + 1) (s ||| ((1 : Int32) <<< (nI k &&& 31))) (by omega) (by omega)
    rw [wmI, show k + (m + 1) = k + 1 + m by omega, ← hi]
    generalize hR : ru d 73 39 [.ref 0, .int i1, .int i2, .int (nI t), .int (s ||| ((1 : Int32) <<< (nI k &&& 31))), .int (nI (k + 1))] [] σ = R
    simp only [s73_39]
    simp only [s73_41, s73_42, s73_45, s73_47, s73_48, s73_50, s73_51, s73_52, s73_54, s73_57, e, nI_1, simprocAttr, if_true, if_false, true_and, and_true, false_and, and_false, not_false_eq_true, not_true_eq_false, gd_T, kont_i, kont_v]
    exact hR
theorem m_wash_l (d t : Nat) (ht : t < 24) (i1 i2 : Int32) (σ : Hs) : ∀ m k s, (k + m = t + 1 ∨ (m = 0 ∧ t < k)) → k < 100 → ru d 177 40 [.ref 87, .int i1, .int i2, .int (nI t), .int s, .int (nI k)] [] σ = ru d 177 61 [.ref 87, .int i1, .int i2, .int (nI t), .int (wmI m k s), .int (nI (k + m))] [] σ := by
  intro m
  induction m with
  | zero =>
    intro k s hk hk2
    have e : (nI t < nI k) = True := by rw [lt_nn (by omega) (by omega)]; exact eq_true (by omega)
    simp only [s177_40]
    simp only [s177_42, s177_43, e, wmI, Nat.add_zero, simprocAttr, if_true, if_false, true_and, and_true, false_and, and_false, not_false_eq_true, not_true_eq_false, gd_T, kont_i, kont_v]
  | succ m ih =>
    intro k s hk hk2
    have e : (nI t < nI k) = False := by rw [lt_nn (by omega) (by omega)]; exact eq_false (by omega)
    have hi := ih (k + 1) (s ||| ((1 : Int32) <<< (nI k &&& 31))) (by omega) (by omega)
    rw [wmI, show k + (m + 1) = k + 1 + m by omega, ← hi]
    generalize hR : ru d 177 40 [.ref 87, .int i1, .int i2, .int (nI t), .int (s ||| ((1 : Int32) <<< (nI k &&& 31))), .int (nI (k + 1))] [] σ = R
    simp only [s177_40]
    simp only [s177_42, s177_43, s177_46, s177_48, s177_49, s177_51, s177_52, s177_53, s177_55, s177_58, e, nI_1, simprocAttr, if_true, if_false, true_and, and_true, false_and, and_false, not_false_eq_true, not_true_eq_false, gd_T, kont_i, kont_v]
    exact hR
theorem L_washing {i : Nat} {σ : Hs} (h : RR i σ) (d : Nat) (u v w : Int32) : Step d i 73 177 [.int u, .int v, .int w] σ := by
  by_cases hu : 0 ≤ u ∧ u ≤ 8
  · have hut := eq_true hu
    by_cases hv : 0 ≤ v ∧ v ≤ 23
    · have hvt := eq_true hv
      by_cases hw : 0 ≤ w ∧ w ≤ 23
      · have hwt := eq_true hw
        obtain ⟨g, -, lg, rfl⟩ := within_n (a := 0) (b := 8) hu rfl rfl (by omega) (by omega)
        obtain ⟨f, -, lf, rfl⟩ := within_n (a := 0) (b := 23) hv rfl rfl (by omega) (by omega)
        obtain ⟨t, -, lt, rfl⟩ := within_n (a := 0) (b := 23) hw rfl rfl (by omega) (by omega)
        have g9 : g < 9 := by omega
        have g31 : g < 2147483648 := by omega
        have eb : bcI (wmI (t + 1 - f) f 0) = jmax 0 (nI t - nI f + 1) := wm_ok f (by omega) t (by omega)
        obtain ⟨s, hs⟩ : ∃ s, s = wmI (t + 1 - f) f 0 := ⟨_, rfl⟩
        have c1 : callD (d + 100) 73 [.ref 0, .int (nI g), .int (nI f), .int (nI t)] σ = some (some (.int (jmax 0 (nI t - nI f + 1))), rep σ 10 (upd (σ 10) g s)) := by
          have hl := k_wash_l (d + 99) t (by omega) (nI g) (nI f) σ (t + 1 - f) f 0 (by omega) (by omega)
          simp only [c73, s73_0, s73_1, s73_4, s73_7, s73_8, s73_9, s73_11, s73_14, s73_17, s73_18, s73_19, s73_21, s73_24, s73_27, s73_28, s73_29_o0, s73_32, s73_33, s73_34, s73_36, s73_37, k_isGarden, k_within, lt_le9, hut, hvt, hwt, b2_t, simprocAttr, if_true, if_false, true_and, and_true, false_and, and_false, not_false_eq_true, not_true_eq_false, gd_T, kont_i, kont_v]
          rw [hl, ← hs]
          simp only [s73_60, s73_61_o0, s73_64_o1, s73_67_o2, s73_70, s73_71, s73_73_o10, s73_74, s73_76, s73_79, vp_nI g9, cl_nI g31, up2_rep, k_bc, simprocAttr, if_true, if_false, true_and, and_true, false_and, and_false, not_false_eq_true, not_true_eq_false, gd_T, kont_i, kont_v]
          rw [hs, eb]
        have e88 : rep σ 10 (upd (σ 10) g s) 88 = σ 88 := rep_ne (by omega)
        have ix : (224 : Int32) + 3 * nI g + 2 = nI (226 + 3 * g) := by
          rw [show (224 : Int32) = nI 224 from rfl, show (3 : Int32) = nI 3 from rfl, show (2 : Int32) = nI 2 from rfl, pk_mul, nI_add, nI_add]
          congr 1; omega
        have c2 : callD (d + 100) 177 [.ref 87, .int (nI g), .int (nI f), .int (nI t)] (rep σ 10 (upd (σ 10) g s)) = some (some (.int (jmax 0 (nI t - nI f + 1))), rep (rep σ 10 (upd (σ 10) g s)) 88 (upd (σ 88) (226 + 3 * g) s)) := by
          have hl := m_wash_l (d + 99) t (by omega) (nI g) (nI f) (rep σ 10 (upd (σ 10) g s)) (t + 1 - f) f 0 (by omega) (by omega)
          simp only [c177, s177_0, s177_1, s177_4, s177_7, s177_8, s177_9, s177_11, s177_14, s177_17, s177_18, s177_19, s177_21, s177_24, s177_27, s177_28, s177_30_o87, s177_33, s177_34, s177_35, s177_37, s177_38, m_isGarden, m_within, hut, hvt, hwt, b2_t, simprocAttr, if_true, if_false, true_and, and_true, false_and, and_false, not_false_eq_true, not_true_eq_false, gd_T, kont_i, kont_v]
          rw [hl, ← hs]
          simp only [s177_61, s177_62_o87, s177_65, s177_68, s177_69, s177_70, s177_71, s177_72, s177_73, s177_74, s177_76_o88, s177_77, s177_78, s177_79, s177_80, s177_81, s177_82, s177_83, s177_86, ix, vp_nI (show 226 + 3 * g < 545 by omega), cl_nI (show 226 + 3 * g < 2147483648 by omega), up2_rep, e88, simprocAttr, if_true, if_false, true_and, and_true, false_and, and_false, not_false_eq_true, not_true_eq_false, gd_T, kont_i, kont_v]
        obtain ⟨hW, hM, hG, h11, h12⟩ := id h.mi
        have MI' : MI (upd (σ 88) (226 + 3 * g) s) := by
          refine ⟨hW.up (Or.inr (by omega)), MOK_congr (fun j j1 j2 => by rw [upd_at, if_neg (by omega)]) (by rw [upd_at, if_neg (by omega)]) (by rw [upd_at, if_neg (by omega)]) (KOK_up (Or.inr (by omega)) hM.2.1) hM, fun q hq => ?_, ?_, ?_⟩
          · rw [upd_at, upd_at, if_neg (by omega), if_neg (by omega)]; exact hG q hq
          · rw [upd_at, if_neg (by omega)]; exact h11
          · rw [upd_at, if_neg (by omega)]; exact h12
        have PH' : PH (306000 * (i + 1)) (upd (σ 88) (226 + 3 * g) s) := by
          intro q hq
          obtain ⟨n, e1, l⟩ := h.ph q hq
          refine ⟨n, by rw [upd_at, if_neg (by omega)]; exact e1, ?_⟩
          rw [sN_eq (T := σ 88) (fun p hp => stN_of (by simp only [ofT, upd]; rw [if_neg (by omega)]) (by simp only [ofT, upd]; rw [if_neg (by omega)]))]
          omega
        refine ⟨_, _, _, c1, c2, h.ql (rep_self _ _ _) ?_ MI' (fun a ha => by rw [upd_at, if_neg (by omega)]) PH' (h.wb.two c1 c2) ?_ ?_ ?_⟩
        · exact (h.hr.g8 g9 s).fr (fun o o1 o2 => rep_ne (by omega))
        · intro o ho
          unfold kpO at ho
          rw [rep_ne (by omega), rep_ne (by omega)]
        · rw [rep_ne (by omega), rep_ne (by omega)]
        · rw [rep_ne (by omega), rep_ne (by omega)]
      · have hwf := eq_false hw
        refine Step_err h 1 (v := -1000001) ?_ ?_
        · simp only [c73, s73_0, s73_1, s73_4, s73_7, s73_8, s73_9, s73_11, s73_14, s73_17, s73_18, s73_19, s73_21, s73_24, s73_27, s73_28, s73_29_o0, s73_32, s73_33, s73_34, s73_36, s73_37, k_isGarden, k_within, lt_le9, hut, hvt, hwf, b2_t, b2_f, k_failed_1, simprocAttr, if_true, if_false, true_and, and_true, false_and, and_false, not_false_eq_true, not_true_eq_false, gd_T, kont_i, kont_v]
        · simp only [c177, s177_0, s177_1, s177_4, s177_7, s177_8, s177_9, s177_11, s177_14, s177_17, s177_18, s177_19, s177_21, s177_24, s177_27, s177_28, s177_30_o87, s177_33, s177_34, s177_35, s177_37, s177_38, m_isGarden, m_within, hut, hvt, hwf, b2_t, b2_f, m_fin_1, simprocAttr, if_true, if_false, true_and, and_true, false_and, and_false, not_false_eq_true, not_true_eq_false, gd_T, kont_i, kont_v]
    · have hvf := eq_false hv
      refine Step_err h 1 (v := -1000001) ?_ ?_
      · simp only [c73, s73_0, s73_1, s73_4, s73_7, s73_8, s73_9, s73_11, s73_14, s73_17, s73_18, s73_19, s73_21, s73_24, s73_27, s73_28, s73_29_o0, s73_32, s73_33, s73_34, s73_36, s73_37, k_isGarden, k_within, lt_le9, hut, hvf, b2_t, b2_f, k_failed_1, simprocAttr, if_true, if_false, true_and, and_true, false_and, and_false, not_false_eq_true, not_true_eq_false, gd_T, kont_i, kont_v]
      · simp only [c177, s177_0, s177_1, s177_4, s177_7, s177_8, s177_9, s177_11, s177_14, s177_17, s177_18, s177_19, s177_21, s177_24, s177_27, s177_28, s177_30_o87, s177_33, s177_34, s177_35, s177_37, s177_38, m_isGarden, m_within, hut, hvf, b2_t, b2_f, m_fin_1, simprocAttr, if_true, if_false, true_and, and_true, false_and, and_false, not_false_eq_true, not_true_eq_false, gd_T, kont_i, kont_v]
  · have huf := eq_false hu
    refine Step_err h 1 (v := -1000001) ?_ ?_
    · simp only [c73, s73_0, s73_1, s73_4, s73_7, s73_8, s73_9, s73_11, s73_14, s73_17, s73_18, s73_19, s73_21, s73_24, s73_27, s73_28, s73_29_o0, s73_32, s73_33, s73_34, s73_36, s73_37, k_isGarden, lt_le9, huf, b2_f, k_failed_1, simprocAttr, if_true, if_false, true_and, and_true, false_and, and_false, not_false_eq_true, not_true_eq_false, gd_T, kont_i, kont_v]
    · simp only [c177, s177_0, s177_1, s177_4, s177_7, s177_8, s177_9, s177_11, s177_14, s177_17, s177_18, s177_19, s177_21, s177_24, s177_27, s177_28, s177_30_o87, s177_33, s177_34, s177_35, s177_37, s177_38, m_isGarden, huf, b2_f, m_fin_1, simprocAttr, if_true, if_false, true_and, and_true, false_and, and_false, not_false_eq_true, not_true_eq_false, gd_T, kont_i, kont_v]
/-! suspects -/
def pthI (x w : Nat) : Nat → Nat → Int32
  | 0, _ => -1
  | n + 1, a => if a = x then nI a else match nxN a w with | some b => pthI x w n b | none => -1
def frI (x w : Nat) : Nat → Int32
  | 0 => 0
  | k + 1 => frI x w k ||| (if pthI x w 4 k < 0 then 0 else (1 : Int32) <<< (nI k &&& 31))
def gwI (w : Nat) : Nat → Nat → Int32 → Int32
  | 0, _, s => s
  | m + 1, a, s => match nxN a w with | some b => gwI w m b (s ||| ((1 : Int32) <<< (nI a &&& 31))) | none => s ||| ((1 : Int32) <<< (nI a &&& 31))
theorem up_ok : ∀ x, x < 9 → ∀ w, w < 4 → gwI ((w + 2) % 4) 3 x 0 = frI x w 9 := by decide +kernel
def upN (x w : Nat) : Nat := (frI x w 9).toNatClampNeg
theorem upN_ok : ∀ x, x < 9 → ∀ w, w < 4 → frI x w 9 = nI (upN x w) := by decide +kernel
theorem k_up_l (d w : Nat) (hw : w < 4) (i0 i1 : Int32) (σ : Hs) : ∀ m k a s, k + m = 3 → a < 9 → ∃ l4 l5 : Value, ru (d + 2) 53 14 [.int i0, .int i1, .int (nI w), .int s, .int (nI a), .int (nI k)] [] σ = ru (d + 2) 53 49 [.int i0, .int i1, .int (nI w), .int (gwI w m a s), l4, l5] [] σ := by
  intro m
  induction m with
  | zero =>
    intro k a s hk ha
    obtain rfl : k = 3 := by omega
    refine ⟨.int (nI a), .int (nI 3), ?_⟩
    simp only [s53_14]
    simp only [s53_16, s53_17, show (3 : Int32) ≤ nI 3 from Int32.le_refl _, gwI, simprocAttr, if_true, if_false, true_and, and_true, false_and, and_false, not_false_eq_true, not_true_eq_false, gd_T, kont_i, kont_v]
  | succ m ih =>
    intro k a s hk ha
    have e3 : (3 ≤ nI k) = False := by rw [show (3 : Int32) = nI 3 from rfl, le_nn (by omega) (by omega)]; exact eq_false (by omega)
    have hig := k_isGarden (d + 1) (nI a) σ
    rw [b2_T (gar_n ha)] at hig
    have hng := k_nextGarden d a w ha hw σ
    rw [gwI]
    cases hx : nxN a w with
    | some b =>
      obtain ⟨l4, l5, hi⟩ := ih (k + 1) b (s ||| ((1 : Int32) <<< (nI a &&& 31))) (by omega) (nxN_lt ha hw hx).1
      rw [show nxI a w = nI b by unfold nxI; rw [hx]] at hng
      refine ⟨l4, l5, ?_⟩
      simp only []
      rw [← hi]
      generalize hR : ru (d + 2) 53 14 [.int i0, .int i1, .int (nI w), .int (s ||| ((1 : Int32) <<< (nI a &&& 31))), .int (nI b), .int (nI (k + 1))] [] σ = R
      simp only [s53_14]
      simp only [s53_16, s53_17, s53_20, s53_22, s53_25, s53_28, s53_29, s53_30, s53_32, s53_33, s53_34, s53_35, s53_37, s53_38, s53_41, s53_43, s53_46, e3, hig, hng, nI_1, simprocAttr, if_true, if_false, true_and, and_true, false_and, and_false, not_false_eq_true, not_true_eq_false, gd_T, kont_i, kont_v]
      exact hR
    | none =>
      rw [show nxI a w = -1 by unfold nxI; rw [hx]] at hng
      have hm : callD (d + 2) 106 [.int (-1)] σ = some (some (.int 0), σ) := by
        have := k_isGarden (d + 1) (-1) σ
        rw [b2_F (show ¬ ((0 : Int32) ≤ -1 ∧ (-1 : Int32) < 9) by decide)] at this
        exact this
      refine ⟨.int (-1), .int (nI (k + 1)), ?_⟩
      simp only []
      generalize hR : ru (d + 2) 53 49 [.int i0, .int i1, .int (nI w), .int (s ||| ((1 : Int32) <<< (nI a &&& 31))), .int (-1), .int (nI (k + 1))] [] σ = R
      simp only [s53_14]
      simp only [s53_16, s53_17, s53_20, s53_22, s53_25, s53_28, s53_29, s53_30, s53_32, s53_33, s53_34, s53_35, s53_37, s53_38, s53_41, s53_43, s53_46, e3, hig, hng, nI_1, simprocAttr, if_true, if_false, true_and, and_true, false_and, and_false, not_false_eq_true, not_true_eq_false, gd_T, kont_i, kont_v]
      simp only [s53_14]
      simp only [s53_16, s53_17, s53_20, s53_22, s53_25, hm, simprocAttr, if_true, if_false, true_and, and_true, false_and, and_false, not_false_eq_true, not_true_eq_false, gd_T, kont_i, kont_v]
      rw [ite_self]
      exact hR
theorem k_up (d x w : Nat) (hx : x < 9) (hw : w < 4) (σ : Hs) : callD (d + 3) 53 [.int (nI x), .int (nI w)] σ = some (some (.int (nI (upN x w))), σ) := by
  obtain ⟨l4, l5, hl⟩ := k_up_l d ((w + 2) % 4) (Nat.mod_lt _ (by omega)) (nI x) (nI w) σ 3 0 x 0 rfl hx
  have er : nI w + 2 - (nI w + 2) / 4 * 4 = nI ((w + 2) % 4) := by
    rw [show (2 : Int32) = nI 2 from rfl, nI_add]
    exact pk_rem (d := 4) (by omega) (by decide) (by decide)
  simp only [c53, s53_0, s53_1, s53_2, s53_3, s53_4, s53_5, s53_6, s53_7, s53_8, s53_9, s53_11, s53_12, z4, er, not_false_eq_true, simprocAttr, if_true, if_false, true_and, and_true, false_and, and_false, not_false_eq_true, not_true_eq_false, gd_T, kont_i, kont_v]
  rw [show ru (d + 2) 53 14 [.int (nI x), .int (nI w), .int (nI ((w + 2) % 4)), .int 0, .int (nI x), .int 0] [] σ = _ from hl, up_ok x hx w hw, upN_ok x hx w hw]
  cases l4 <;> cases l5 <;> simp only [s53_49, s53_50]
theorem m_from_i (d x w r : Nat) (hx : x < 9) (hw : w < 4) (hr : r < 12) (σ : Hs) (e1 : σ 88 (251 + 2 * r) = nI x) (e2 : σ 88 (252 + 2 * r) = nI w) (s : Int32) (g : Nat) : ∀ n a, rkN a w < n → a < 9 → ru (d + 2) 192 13 [.ref 87, .int (nI r), .int s, .int (nI g), .int (nI a)] [] σ = ru (d + 2) 192 59 [.ref 87, .int (nI r), .int s, .int (nI g), .int (pthI x w n a)] [] σ := by
  intro n
  induction n with
  | zero => intro a h; omega
  | succ n ih =>
    intro a ha a9
    have i1 : (251 : Int32) + 2 * nI r = nI (251 + 2 * r) := by rw [show (251 : Int32) = nI 251 from rfl, show (2 : Int32) = nI 2 from rfl, pk_mul, nI_add]
    have i2 : nI (251 + 2 * r) + 1 = nI (252 + 2 * r) := by rw [nI_1]; congr 1; omega
    have an : (nI a < 0) = False := eq_false (nI_pos (by omega))
    have hn := m_next d a w a9 hw σ
    rw [pthI]
    by_cases c : a = x
    · rw [if_pos c]
      have ce : (nI a = nI x) = True := by rw [c]; exact eq_true rfl
      simp only [s192_13]
      simp only [s192_15, s192_18, s192_20, s192_21_o87, s192_24, s192_27, s192_28, s192_29, s192_30, s192_31_o88, s192_32, s192_35, s192_37, s192_38_o87, s192_41, s192_44, s192_45, s192_46, s192_47, s192_48, s192_49, s192_50_o88, s192_51, s192_54, s192_56, an, i1, vp_nI (show 251 + 2 * r < 545 by omega), cl_nI (show 251 + 2 * r < 2147483648 by omega), e1, ce, simprocAttr, if_true, if_false, true_and, and_true, false_and, and_false, not_false_eq_true, not_true_eq_false, gd_T, kont_i, kont_v]
    · rw [if_neg c]
      have ce : (nI a = nI x) = False := by rw [eq_nn (by omega) (by omega)]; exact eq_false c
      cases hb : nxN a w with
      | some b =>
        obtain ⟨b9, hrk⟩ := nxN_lt a9 hw hb
        rw [show nxI a w = nI b by unfold nxI; rw [hb]] at hn
        have hi := ih b (by omega) b9
        simp only []
        rw [← hi]
        generalize hR : ru (d + 2) 192 13 [.ref 87, .int (nI r), .int s, .int (nI g), .int (nI b)] [] σ = R
        simp only [s192_13]
        simp only [s192_15, s192_18, s192_20, s192_21_o87, s192_24, s192_27, s192_28, s192_29, s192_30, s192_31_o88, s192_32, s192_35, s192_37, s192_38_o87, s192_41, s192_44, s192_45, s192_46, s192_47, s192_48, s192_49, s192_50_o88, s192_51, s192_54, s192_56, an, i1, i2, vp_nI (show 251 + 2 * r < 545 by omega), cl_nI (show 251 + 2 * r < 2147483648 by omega), vp_nI (show 252 + 2 * r < 545 by omega), cl_nI (show 252 + 2 * r < 2147483648 by omega), e1, e2, ce, hn, simprocAttr, if_true, if_false, true_and, and_true, false_and, and_false, not_false_eq_true, not_true_eq_false, gd_T, kont_i, kont_v]
        exact hR
      | none =>
        rw [show nxI a w = -1 by unfold nxI; rw [hb]] at hn
        simp only []
        generalize hR : ru (d + 2) 192 59 [.ref 87, .int (nI r), .int s, .int (nI g), .int (-1)] [] σ = R
        simp only [s192_13]
        simp only [s192_15, s192_18, s192_20, s192_21_o87, s192_24, s192_27, s192_28, s192_29, s192_30, s192_31_o88, s192_32, s192_35, s192_37, s192_38_o87, s192_41, s192_44, s192_45, s192_46, s192_47, s192_48, s192_49, s192_50_o88, s192_51, s192_54, s192_56, an, i1, i2, vp_nI (show 251 + 2 * r < 545 by omega), cl_nI (show 251 + 2 * r < 2147483648 by omega), vp_nI (show 252 + 2 * r < 545 by omega), cl_nI (show 252 + 2 * r < 2147483648 by omega), e1, e2, ce, hn, simprocAttr, if_true, if_false, true_and, and_true, false_and, and_false, not_false_eq_true, not_true_eq_false, gd_T, kont_i, kont_v]
        simp only [s192_13]
        simp only [s192_15, simprocAttr, if_true, if_false, true_and, and_true, false_and, and_false, not_false_eq_true, not_true_eq_false, gd_T, kont_i, kont_v]
        exact hR
theorem m_from_l (d x w r : Nat) (hx : x < 9) (hw : w < 4) (hr : r < 12) (σ : Hs) (e1 : σ 88 (251 + 2 * r) = nI x) (e2 : σ 88 (252 + 2 * r) = nI w) : ∀ m g (l4 : Value), g + m = 9 → l4.category = 1 → ∃ l4' : Value, ru (d + 2) 192 4 [.ref 87, .int (nI r), .int (frI x w g), .int (nI g), l4] [] σ = ru (d + 2) 192 80 [.ref 87, .int (nI r), .int (frI x w 9), .int (nI 9), l4'] [] σ := by
  intro m
  induction m with
  | zero =>
    intro g l4 hg _
    obtain rfl : g = 9 := by omega
    refine ⟨l4, ?_⟩
    simp only [s192_4]
    simp only [s192_5, s192_7, show (9 : Int32) ≤ nI 9 from Int32.le_refl _, simprocAttr, if_true, if_false, true_and, and_true, false_and, and_false, not_false_eq_true, not_true_eq_false, gd_T, kont_i, kont_v]
  | succ m ih =>
    intro g l4 hg hl4
    have e9 : (9 ≤ nI g) = False := by rw [show (9 : Int32) = nI 9 from rfl, le_nn (by omega) (by omega)]; exact eq_false (by omega)
    have hi1 := m_from_i d x w r hx hw hr σ e1 e2 (frI x w g) g 4 g (by have := rk_le (g := g) (w := w) (by omega); omega) (by omega)
    obtain ⟨l4', hi⟩ := ih (g + 1) (.int (pthI x w 4 g)) (by omega) rfl
    refine ⟨l4', ?_⟩
    rw [← hi]
    rw [frI]
    have hs : ru (d + 2) 192 4 [.ref 87, .int (nI r), .int (frI x w g), .int (nI g), l4] [] σ = ru (d + 2) 192 13 [.ref 87, .int (nI r), .int (frI x w g), .int (nI g), .int (nI g)] [] σ := by
      simp only [s192_4]
      simp only [s192_5, s192_7, s192_10, s192_11, e9, simprocAttr, if_true, if_false, true_and, and_true, false_and, and_false, not_false_eq_true, not_true_eq_false, gd_T, kont_i, kont_v]
    rw [hs, hi1]
    by_cases c : pthI x w 4 g < 0
    · rw [if_pos c]
      generalize hR : ru (d + 2) 192 4 [.ref 87, .int (nI r), .int (frI x w g ||| 0), .int (nI (g + 1)), .int (pthI x w 4 g)] [] σ = R
      simp only [s192_59, s192_60, s192_62, s192_65, s192_66, s192_67, s192_68, s192_71, s192_72, s192_73, s192_74, s192_77, nI_1, simprocAttr, if_true, if_false, true_and, and_true, false_and, and_false, not_false_eq_true, not_true_eq_false, gd_T, kont_i, kont_v]
      rw [if_pos c]
      exact hR
    · rw [if_neg c]
      generalize hR : ru (d + 2) 192 4 [.ref 87, .int (nI r), .int (frI x w g ||| ((1 : Int32) <<< (nI g &&& 31))), .int (nI (g + 1)), .int (pthI x w 4 g)] [] σ = R
      simp only [s192_59, s192_60, s192_62, s192_65, s192_66, s192_67, s192_68, s192_71, s192_72, s192_73, s192_74, s192_77, nI_1, simprocAttr, if_true, if_false, true_and, and_true, false_and, and_false, not_false_eq_true, not_true_eq_false, gd_T, kont_i, kont_v]
      rw [if_neg c]
      exact hR
theorem m_from (d x w r : Nat) (hx : x < 9) (hw : w < 4) (hr : r < 12) (σ : Hs) (e1 : σ 88 (251 + 2 * r) = nI x) (e2 : σ 88 (252 + 2 * r) = nI w) : callD (d + 3) 192 [.ref 87, .int (nI r)] σ = some (some (.int (nI (upN x w))), σ) := by
  obtain ⟨l4', hl⟩ := m_from_l d x w r hx hw hr σ e1 e2 9 0 uu rfl rfl
  simp only [c192, s192_0, s192_1, s192_2, s192_3]
  rw [show ru (d + 2) 192 4 [.ref 87, .int (nI r), .int 0, .int 0, uu] [] σ = _ from hl, upN_ok x hx w hw]
  cases l4' <;> simp only [s192_80, s192_81]
