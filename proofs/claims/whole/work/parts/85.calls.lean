/-! ===== the calls: washing, report, suspects, liar ===== -/
def wmI : Nat → Nat → Int32 → Int32
  | 0, _, s => s
  | m + 1, k, s => wmI m (k + 1) (s ||| ((1 : Int32) <<< (nI k &&& 31)))
theorem wm_ok : ∀ f, f < 24 → ∀ t, t < 24 → bcI (wmI (t + 1 - f) f 0) = jmax 0 (nI t - nI f + 1) := by decide +kernel
theorem k_wash_l (d t : Nat) (ht : t < 24) (i1 i2 : Int32) (σ : Hs) : ∀ m k s, (k + m = t + 1 ∨ (m = 0 ∧ t < k)) → k < 100 → ru d 74 39 [.ref 0, .int i1, .int i2, .int (nI t), .int s, .int (nI k)] [] σ = ru d 74 60 [.ref 0, .int i1, .int i2, .int (nI t), .int (wmI m k s), .int (nI (k + m))] [] σ := by
  intro m
  induction m with
  | zero =>
    intro k s hk hk2
    have e : (nI t < nI k) = True := by rw [lt_nn (by omega) (by omega)]; exact eq_true (by omega)
    simp only [s74_39]
    simp only [s74_41, s74_42, e, wmI, Nat.add_zero, simprocAttr, if_true, if_false, true_and, and_true, false_and, and_false, not_false_eq_true, not_true_eq_false, gd_T, kont_i, kont_v]
  | succ m ih =>
    intro k s hk hk2
    have e : (nI t < nI k) = False := by rw [lt_nn (by omega) (by omega)]; exact eq_false (by omega)
    have hi := ih (k + 1) (s ||| ((1 : Int32) <<< (nI k &&& 31))) (by omega) (by omega)
    rw [wmI, show k + (m + 1) = k + 1 + m by omega, ← hi]
    generalize hR : ru d 74 39 [.ref 0, .int i1, .int i2, .int (nI t), .int (s ||| ((1 : Int32) <<< (nI k &&& 31))), .int (nI (k + 1))] [] σ = R
    simp only [s74_39]
    simp only [s74_41, s74_42, s74_45, s74_47, s74_48, s74_50, s74_51, s74_52, s74_54, s74_57, e, nI_1, simprocAttr, if_true, if_false, true_and, and_true, false_and, and_false, not_false_eq_true, not_true_eq_false, gd_T, kont_i, kont_v]
    exact hR
theorem m_wash_l (d t : Nat) (ht : t < 24) (i1 i2 : Int32) (σ : Hs) : ∀ m k s, (k + m = t + 1 ∨ (m = 0 ∧ t < k)) → k < 100 → ru d 178 40 [.ref 87, .int i1, .int i2, .int (nI t), .int s, .int (nI k)] [] σ = ru d 178 61 [.ref 87, .int i1, .int i2, .int (nI t), .int (wmI m k s), .int (nI (k + m))] [] σ := by
  intro m
  induction m with
  | zero =>
    intro k s hk hk2
    have e : (nI t < nI k) = True := by rw [lt_nn (by omega) (by omega)]; exact eq_true (by omega)
    simp only [s178_40]
    simp only [s178_42, s178_43, e, wmI, Nat.add_zero, simprocAttr, if_true, if_false, true_and, and_true, false_and, and_false, not_false_eq_true, not_true_eq_false, gd_T, kont_i, kont_v]
  | succ m ih =>
    intro k s hk hk2
    have e : (nI t < nI k) = False := by rw [lt_nn (by omega) (by omega)]; exact eq_false (by omega)
    have hi := ih (k + 1) (s ||| ((1 : Int32) <<< (nI k &&& 31))) (by omega) (by omega)
    rw [wmI, show k + (m + 1) = k + 1 + m by omega, ← hi]
    generalize hR : ru d 178 40 [.ref 87, .int i1, .int i2, .int (nI t), .int (s ||| ((1 : Int32) <<< (nI k &&& 31))), .int (nI (k + 1))] [] σ = R
    simp only [s178_40]
    simp only [s178_42, s178_43, s178_46, s178_48, s178_49, s178_51, s178_52, s178_53, s178_55, s178_58, e, nI_1, simprocAttr, if_true, if_false, true_and, and_true, false_and, and_false, not_false_eq_true, not_true_eq_false, gd_T, kont_i, kont_v]
    exact hR
theorem L_washing {i : Nat} {σ : Hs} (h : RR i σ) (d : Nat) (u v w : Int32) : Step d i 74 178 [.int u, .int v, .int w] σ := by
  by_cases hu : 0 ≤ u ∧ u ≤ 8
  · have hut := eq_true hu
    by_cases hv : 0 ≤ v ∧ v ≤ 23
    · have hvt := eq_true hv
      by_cases hw : 0 ≤ w ∧ w ≤ 23
      · have hwt := eq_true hw
        obtain ⟨g, -, lg, rfl⟩ := within_n (a := 0) (b := 8) hu rfl rfl (by omega) (by omega)
        obtain ⟨f, -, lf, rfl⟩ := within_n (a := 0) (b := 23) hv rfl rfl (by omega) (by omega)
        obtain ⟨t, -, lt, rfl⟩ := within_n (a := 0) (b := 23) hw rfl rfl (by omega) (by omega)
        have g9 : g < 9 := by omega
        have g31 : g < 2147483648 := by omega
        have eb : bcI (wmI (t + 1 - f) f 0) = jmax 0 (nI t - nI f + 1) := wm_ok f (by omega) t (by omega)
        obtain ⟨s, hs⟩ : ∃ s, s = wmI (t + 1 - f) f 0 := ⟨_, rfl⟩
        have c1 : callD (d + 100) 74 [.ref 0, .int (nI g), .int (nI f), .int (nI t)] σ = some (some (.int (jmax 0 (nI t - nI f + 1))), rep σ 10 (upd (σ 10) g s)) := by
          have hl := k_wash_l (d + 99) t (by omega) (nI g) (nI f) σ (t + 1 - f) f 0 (by omega) (by omega)
          simp only [c74, s74_0, s74_1, s74_4, s74_7, s74_8, s74_9, s74_11, s74_14, s74_17, s74_18, s74_19, s74_21, s74_24, s74_27, s74_28, s74_29_o0, s74_32, s74_33, s74_34, s74_36, s74_37, k_isGarden, k_within, lt_le9, hut, hvt, hwt, b2_t, simprocAttr, if_true, if_false, true_and, and_true, false_and, and_false, not_false_eq_true, not_true_eq_false, gd_T, kont_i, kont_v]
          rw [hl, ← hs]
          simp only [s74_60, s74_61_o0, s74_64_o1, s74_67_o2, s74_70, s74_71, s74_73_o10, s74_74, s74_76, s74_79, vp_nI g9, cl_nI g31, up2_rep, k_bc, simprocAttr, if_true, if_false, true_and, and_true, false_and, and_false, not_false_eq_true, not_true_eq_false, gd_T, kont_i, kont_v]
          rw [hs, eb]
        have e88 : rep σ 10 (upd (σ 10) g s) 88 = σ 88 := rep_ne (by omega)
        have ix : (224 : Int32) + 3 * nI g + 2 = nI (226 + 3 * g) := by
          rw [show (224 : Int32) = nI 224 from rfl, show (3 : Int32) = nI 3 from rfl, show (2 : Int32) = nI 2 from rfl, pk_mul, nI_add, nI_add]
          congr 1; omega
        have c2 : callD (d + 100) 178 [.ref 87, .int (nI g), .int (nI f), .int (nI t)] (rep σ 10 (upd (σ 10) g s)) = some (some (.int (jmax 0 (nI t - nI f + 1))), rep (rep σ 10 (upd (σ 10) g s)) 88 (upd (σ 88) (226 + 3 * g) s)) := by
          have hl := m_wash_l (d + 99) t (by omega) (nI g) (nI f) (rep σ 10 (upd (σ 10) g s)) (t + 1 - f) f 0 (by omega) (by omega)
          simp only [c178, s178_0, s178_1, s178_4, s178_7, s178_8, s178_9, s178_11, s178_14, s178_17, s178_18, s178_19, s178_21, s178_24, s178_27, s178_28, s178_30_o87, s178_33, s178_34, s178_35, s178_37, s178_38, m_isGarden, m_within, hut, hvt, hwt, b2_t, simprocAttr, if_true, if_false, true_and, and_true, false_and, and_false, not_false_eq_true, not_true_eq_false, gd_T, kont_i, kont_v]
          rw [hl, ← hs]
          simp only [s178_61, s178_62_o87, s178_65, s178_68, s178_69, s178_70, s178_71, s178_72, s178_73, s178_74, s178_76_o88, s178_77, s178_78, s178_79, s178_80, s178_81, s178_82, s178_83, s178_86, ix, vp_nI (show 226 + 3 * g < 545 by omega), cl_nI (show 226 + 3 * g < 2147483648 by omega), up2_rep, e88, simprocAttr, if_true, if_false, true_and, and_true, false_and, and_false, not_false_eq_true, not_true_eq_false, gd_T, kont_i, kont_v]
        obtain ⟨hW, hM, hG, h11, h12⟩ := id h.mi
        have MI' : MI (upd (σ 88) (226 + 3 * g) s) := by
          refine ⟨hW.up (Or.inr (by omega)), MOK_congr (fun j j1 j2 => by rw [upd_at, if_neg (by omega)]) (by rw [upd_at, if_neg (by omega)]) (by rw [upd_at, if_neg (by omega)]) (KOK_up (Or.inr (by omega)) hM.2.1) hM, fun q hq => ?_, ?_, ?_⟩
          · rw [upd_at, upd_at, if_neg (by omega), if_neg (by omega)]; exact hG q hq
          · rw [upd_at, if_neg (by omega)]; exact h11
          · rw [upd_at, if_neg (by omega)]; exact h12
        have PH' : PH (306000 * (i + 1)) (upd (σ 88) (226 + 3 * g) s) := by
          intro q hq
          obtain ⟨n, e1, l⟩ := h.ph q hq
          refine ⟨n, by rw [upd_at, if_neg (by omega)]; exact e1, ?_⟩
          rw [sN_eq (T := σ 88) (fun p hp => stN_of (by simp only [ofT, upd]; rw [if_neg (by omega)]) (by simp only [ofT, upd]; rw [if_neg (by omega)]))]
          omega
        refine ⟨_, _, _, c1, c2, h.ql (rep_self _ _ _) ?_ MI' (fun a ha => by rw [upd_at, if_neg (by omega)]) PH' (h.wb.two c1 c2) ?_ ?_ ?_⟩
        · exact (h.hr.g8 g9 s).fr (fun o o1 o2 => rep_ne (by omega))
        · intro o ho
          unfold kpO at ho
          rw [rep_ne (by omega), rep_ne (by omega)]
        · rw [rep_ne (by omega), rep_ne (by omega)]
        · rw [rep_ne (by omega), rep_ne (by omega)]
      · have hwf := eq_false hw
        refine Step_err h 1 (v := -1000001) ?_ ?_
        · simp only [c74, s74_0, s74_1, s74_4, s74_7, s74_8, s74_9, s74_11, s74_14, s74_17, s74_18, s74_19, s74_21, s74_24, s74_27, s74_28, s74_29_o0, s74_32, s74_33, s74_34, s74_36, s74_37, k_isGarden, k_within, lt_le9, hut, hvt, hwf, b2_t, b2_f, k_failed_1, simprocAttr, if_true, if_false, true_and, and_true, false_and, and_false, not_false_eq_true, not_true_eq_false, gd_T, kont_i, kont_v]
        · simp only [c178, s178_0, s178_1, s178_4, s178_7, s178_8, s178_9, s178_11, s178_14, s178_17, s178_18, s178_19, s178_21, s178_24, s178_27, s178_28, s178_30_o87, s178_33, s178_34, s178_35, s178_37, s178_38, m_isGarden, m_within, hut, hvt, hwf, b2_t, b2_f, m_fin_1, simprocAttr, if_true, if_false, true_and, and_true, false_and, and_false, not_false_eq_true, not_true_eq_false, gd_T, kont_i, kont_v]
    · have hvf := eq_false hv
      refine Step_err h 1 (v := -1000001) ?_ ?_
      · simp only [c74, s74_0, s74_1, s74_4, s74_7, s74_8, s74_9, s74_11, s74_14, s74_17, s74_18, s74_19, s74_21, s74_24, s74_27, s74_28, s74_29_o0, s74_32, s74_33, s74_34, s74_36, s74_37, k_isGarden, k_within, lt_le9, hut, hvf, b2_t, b2_f, k_failed_1, simprocAttr, if_true, if_false, true_and, and_true, false_and, and_false, not_false_eq_true, not_true_eq_false, gd_T, kont_i, kont_v]
      · simp only [c178, s178_0, s178_1, s178_4, s178_7, s178_8, s178_9, s178_11, s178_14, s178_17, s178_18, s178_19, s178_21, s178_24, s178_27, s178_28, s178_30_o87, s178_33, s178_34, s178_35, s178_37, s178_38, m_isGarden, m_within, hut, hvf, b2_t, b2_f, m_fin_1, simprocAttr, if_true, if_false, true_and, and_true, false_and, and_false, not_false_eq_true, not_true_eq_false, gd_T, kont_i, kont_v]
  · have huf := eq_false hu
    refine Step_err h 1 (v := -1000001) ?_ ?_
    · simp only [c74, s74_0, s74_1, s74_4, s74_7, s74_8, s74_9, s74_11, s74_14, s74_17, s74_18, s74_19, s74_21, s74_24, s74_27, s74_28, s74_29_o0, s74_32, s74_33, s74_34, s74_36, s74_37, k_isGarden, lt_le9, huf, b2_f, k_failed_1, simprocAttr, if_true, if_false, true_and, and_true, false_and, and_false, not_false_eq_true, not_true_eq_false, gd_T, kont_i, kont_v]
    · simp only [c178, s178_0, s178_1, s178_4, s178_7, s178_8, s178_9, s178_11, s178_14, s178_17, s178_18, s178_19, s178_21, s178_24, s178_27, s178_28, s178_30_o87, s178_33, s178_34, s178_35, s178_37, s178_38, m_isGarden, huf, b2_f, m_fin_1, simprocAttr, if_true, if_false, true_and, and_true, false_and, and_false, not_false_eq_true, not_true_eq_false, gd_T, kont_i, kont_v]
/-! suspects -/
def pthI (x w : Nat) : Nat → Nat → Int32
  | 0, _ => -1
  | n + 1, a => if a = x then nI a else match nxN a w with | some b => pthI x w n b | none => -1
def frI (x w : Nat) : Nat → Int32
  | 0 => 0
  | k + 1 => frI x w k ||| (if pthI x w 4 k < 0 then 0 else (1 : Int32) <<< (nI k &&& 31))
def gwI (w : Nat) : Nat → Nat → Int32 → Int32
  | 0, _, s => s
  | m + 1, a, s => match nxN a w with | some b => gwI w m b (s ||| ((1 : Int32) <<< (nI a &&& 31))) | none => s ||| ((1 : Int32) <<< (nI a &&& 31))
theorem up_ok : ∀ x, x < 9 → ∀ w, w < 4 → gwI ((w + 2) % 4) 3 x 0 = frI x w 9 := by decide +kernel
def upN (x w : Nat) : Nat := (frI x w 9).toNatClampNeg
theorem upN_ok : ∀ x, x < 9 → ∀ w, w < 4 → frI x w 9 = nI (upN x w) := by decide +kernel
theorem k_up_l (d w : Nat) (hw : w < 4) (i0 i1 : Int32) (σ : Hs) : ∀ m k a s, k + m = 3 → a < 9 → ∃ l4 l5 : Value, ru (d + 2) 54 14 [.int i0, .int i1, .int (nI w), .int s, .int (nI a), .int (nI k)] [] σ = ru (d + 2) 54 49 [.int i0, .int i1, .int (nI w), .int (gwI w m a s), l4, l5] [] σ := by
  intro m
  induction m with
  | zero =>
    intro k a s hk ha
    obtain rfl : k = 3 := by omega
    refine ⟨.int (nI a), .int (nI 3), ?_⟩
    simp only [s54_14]
    simp only [s54_16, s54_17, show (3 : Int32) ≤ nI 3 from Int32.le_refl _, gwI, simprocAttr, if_true, if_false, true_and, and_true, false_and, and_false, not_false_eq_true, not_true_eq_false, gd_T, kont_i, kont_v]
  | succ m ih =>
    intro k a s hk ha
    have e3 : (3 ≤ nI k) = False := by rw [show (3 : Int32) = nI 3 from rfl, le_nn (by omega) (by omega)]; exact eq_false (by omega)
    have hig := k_isGarden (d + 1) (nI a) σ
    rw [b2_T (gar_n ha)] at hig
    have hng := k_nextGarden d a w ha hw σ
    rw [gwI]
    cases hx : nxN a w with
    | some b =>
      obtain ⟨l4, l5, hi⟩ := ih (k + 1) b (s ||| ((1 : Int32) <<< (nI a &&& 31))) (by omega) (nxN_lt ha hw hx).1
      rw [show nxI a w = nI b by unfold nxI; rw [hx]] at hng
      refine ⟨l4, l5, ?_⟩
      simp only []
      rw [← hi]
      generalize hR : ru (d + 2) 54 14 [.int i0, .int i1, .int (nI w), .int (s ||| ((1 : Int32) <<< (nI a &&& 31))), .int (nI b), .int (nI (k + 1))] [] σ = R
      simp only [s54_14]
      simp only [s54_16, s54_17, s54_20, s54_22, s54_25, s54_28, s54_29, s54_30, s54_32, s54_33, s54_34, s54_35, s54_37, s54_38, s54_41, s54_43, s54_46, e3, hig, hng, nI_1, simprocAttr, if_true, if_false, true_and, and_true, false_and, and_false, not_false_eq_true, not_true_eq_false, gd_T, kont_i, kont_v]
      exact hR
    | none =>
      rw [show nxI a w = -1 by unfold nxI; rw [hx]] at hng
      have hm : callD (d + 2) 107 [.int (-1)] σ = some (some (.int 0), σ) := by
        have := k_isGarden (d + 1) (-1) σ
        rw [b2_F (show ¬ ((0 : Int32) ≤ -1 ∧ (-1 : Int32) < 9) by decide)] at this
        exact this
      refine ⟨.int (-1), .int (nI (k + 1)), ?_⟩
      simp only []
      generalize hR : ru (d + 2) 54 49 [.int i0, .int i1, .int (nI w), .int (s ||| ((1 : Int32) <<< (nI a &&& 31))), .int (-1), .int (nI (k + 1))] [] σ = R
      simp only [s54_14]
      simp only [s54_16, s54_17, s54_20, s54_22, s54_25, s54_28, s54_29, s54_30, s54_32, s54_33, s54_34, s54_35, s54_37, s54_38, s54_41, s54_43, s54_46, e3, hig, hng, nI_1, simprocAttr, if_true, if_false, true_and, and_true, false_and, and_false, not_false_eq_true, not_true_eq_false, gd_T, kont_i, kont_v]
      simp only [s54_14]
      simp only [s54_16, s54_17, s54_20, s54_22, s54_25, hm, simprocAttr, if_true, if_false, true_and, and_true, false_and, and_false, not_false_eq_true, not_true_eq_false, gd_T, kont_i, kont_v]
      rw [ite_self]
      exact hR
theorem k_up (d x w : Nat) (hx : x < 9) (hw : w < 4) (σ : Hs) : callD (d + 3) 54 [.int (nI x), .int (nI w)] σ = some (some (.int (nI (upN x w))), σ) := by
  obtain ⟨l4, l5, hl⟩ := k_up_l d ((w + 2) % 4) (Nat.mod_lt _ (by omega)) (nI x) (nI w) σ 3 0 x 0 rfl hx
  have er : nI w + 2 - (nI w + 2) / 4 * 4 = nI ((w + 2) % 4) := by
    rw [show (2 : Int32) = nI 2 from rfl, nI_add]
    exact pk_rem (d := 4) (by omega) (by decide) (by decide)
  simp only [c54, s54_0, s54_1, s54_2, s54_3, s54_4, s54_5, s54_6, s54_7, s54_8, s54_9, s54_11, s54_12, z4, er, not_false_eq_true, simprocAttr, if_true, if_false, true_and, and_true, false_and, and_false, not_false_eq_true, not_true_eq_false, gd_T, kont_i, kont_v]
  rw [show ru (d + 2) 54 14 [.int (nI x), .int (nI w), .int (nI ((w + 2) % 4)), .int 0, .int (nI x), .int 0] [] σ = _ from hl, up_ok x hx w hw, upN_ok x hx w hw]
  cases l4 <;> cases l5 <;> simp only [s54_49, s54_50]
theorem m_from_i (d x w r : Nat) (hx : x < 9) (hw : w < 4) (hr : r < 12) (σ : Hs) (e1 : σ 88 (251 + 2 * r) = nI x) (e2 : σ 88 (252 + 2 * r) = nI w) (s : Int32) (g : Nat) : ∀ n a, rkN a w < n → a < 9 → ru (d + 2) 193 13 [.ref 87, .int (nI r), .int s, .int (nI g), .int (nI a)] [] σ = ru (d + 2) 193 59 [.ref 87, .int (nI r), .int s, .int (nI g), .int (pthI x w n a)] [] σ := by
  intro n
  induction n with
  | zero => intro a h; omega
  | succ n ih =>
    intro a ha a9
    have i1 : (251 : Int32) + 2 * nI r = nI (251 + 2 * r) := by rw [show (251 : Int32) = nI 251 from rfl, show (2 : Int32) = nI 2 from rfl, pk_mul, nI_add]
    have i2 : nI (251 + 2 * r) + 1 = nI (252 + 2 * r) := by rw [nI_1]; congr 1; omega
    have an : (nI a < 0) = False := eq_false (nI_pos (by omega))
    have hn := m_next d a w a9 hw σ
    rw [pthI]
    by_cases c : a = x
    · rw [if_pos c]
      have ce : (nI a = nI x) = True := by rw [c]; exact eq_true rfl
      simp only [s193_13]
      simp only [s193_15, s193_18, s193_20, s193_21_o87, s193_24, s193_27, s193_28, s193_29, s193_30, s193_31_o88, s193_32, s193_35, s193_37, s193_38_o87, s193_41, s193_44, s193_45, s193_46, s193_47, s193_48, s193_49, s193_50_o88, s193_51, s193_54, s193_56, an, i1, vp_nI (show 251 + 2 * r < 545 by omega), cl_nI (show 251 + 2 * r < 2147483648 by omega), e1, ce, simprocAttr, if_true, if_false, true_and, and_true, false_and, and_false, not_false_eq_true, not_true_eq_false, gd_T, kont_i, kont_v]
    · rw [if_neg c]
      have ce : (nI a = nI x) = False := by rw [eq_nn (by omega) (by omega)]; exact eq_false c
      cases hb : nxN a w with
      | some b =>
        obtain ⟨b9, hrk⟩ := nxN_lt a9 hw hb
        rw [show nxI a w = nI b by unfold nxI; rw [hb]] at hn
        have hi := ih b (by omega) b9
        simp only []
        rw [← hi]
        generalize hR : ru (d + 2) 193 13 [.ref 87, .int (nI r), .int s, .int (nI g), .int (nI b)] [] σ = R
        simp only [s193_13]
        simp only [s193_15, s193_18, s193_20, s193_21_o87, s193_24, s193_27, s193_28, s193_29, s193_30, s193_31_o88, s193_32, s193_35, s193_37, s193_38_o87, s193_41, s193_44, s193_45, s193_46, s193_47, s193_48, s193_49, s193_50_o88, s193_51, s193_54, s193_56, an, i1, i2, vp_nI (show 251 + 2 * r < 545 by omega), cl_nI (show 251 + 2 * r < 2147483648 by omega), vp_nI (show 252 + 2 * r < 545 by omega), cl_nI (show 252 + 2 * r < 2147483648 by omega), e1, e2, ce, hn, simprocAttr, if_true, if_false, true_and, and_true, false_and, and_false, not_false_eq_true, not_true_eq_false, gd_T, kont_i, kont_v]
        exact hR
      | none =>
        rw [show nxI a w = -1 by unfold nxI; rw [hb]] at hn
        simp only []
        generalize hR : ru (d + 2) 193 59 [.ref 87, .int (nI r), .int s, .int (nI g), .int (-1)] [] σ = R
        simp only [s193_13]
        simp only [s193_15, s193_18, s193_20, s193_21_o87, s193_24, s193_27, s193_28, s193_29, s193_30, s193_31_o88, s193_32, s193_35, s193_37, s193_38_o87, s193_41, s193_44, s193_45, s193_46, s193_47, s193_48, s193_49, s193_50_o88, s193_51, s193_54, s193_56, an, i1, i2, vp_nI (show 251 + 2 * r < 545 by omega), cl_nI (show 251 + 2 * r < 2147483648 by omega), vp_nI (show 252 + 2 * r < 545 by omega), cl_nI (show 252 + 2 * r < 2147483648 by omega), e1, e2, ce, hn, simprocAttr, if_true, if_false, true_and, and_true, false_and, and_false, not_false_eq_true, not_true_eq_false, gd_T, kont_i, kont_v]
        simp only [s193_13]
        simp only [s193_15, simprocAttr, if_true, if_false, true_and, and_true, false_and, and_false, not_false_eq_true, not_true_eq_false, gd_T, kont_i, kont_v]
        exact hR
theorem m_from_l (d x w r : Nat) (hx : x < 9) (hw : w < 4) (hr : r < 12) (σ : Hs) (e1 : σ 88 (251 + 2 * r) = nI x) (e2 : σ 88 (252 + 2 * r) = nI w) : ∀ m g (l4 : Value), g + m = 9 → l4.category = 1 → ∃ l4' : Value, ru (d + 2) 193 4 [.ref 87, .int (nI r), .int (frI x w g), .int (nI g), l4] [] σ = ru (d + 2) 193 80 [.ref 87, .int (nI r), .int (frI x w 9), .int (nI 9), l4'] [] σ := by
  intro m
  induction m with
  | zero =>
    intro g l4 hg _
    obtain rfl : g = 9 := by omega
    refine ⟨l4, ?_⟩
    simp only [s193_4]
    simp only [s193_5, s193_7, show (9 : Int32) ≤ nI 9 from Int32.le_refl _, simprocAttr, if_true, if_false, true_and, and_true, false_and, and_false, not_false_eq_true, not_true_eq_false, gd_T, kont_i, kont_v]
  | succ m ih =>
    intro g l4 hg hl4
    have e9 : (9 ≤ nI g) = False := by rw [show (9 : Int32) = nI 9 from rfl, le_nn (by omega) (by omega)]; exact eq_false (by omega)
    have hi1 := m_from_i d x w r hx hw hr σ e1 e2 (frI x w g) g 4 g (by have := rk_le (g := g) (w := w) (by omega); omega) (by omega)
    obtain ⟨l4', hi⟩ := ih (g + 1) (.int (pthI x w 4 g)) (by omega) rfl
    refine ⟨l4', ?_⟩
    rw [← hi]
    rw [frI]
    have hs : ru (d + 2) 193 4 [.ref 87, .int (nI r), .int (frI x w g), .int (nI g), l4] [] σ = ru (d + 2) 193 13 [.ref 87, .int (nI r), .int (frI x w g), .int (nI g), .int (nI g)] [] σ := by
      simp only [s193_4]
      simp only [s193_5, s193_7, s193_10, s193_11, e9, simprocAttr, if_true, if_false, true_and, and_true, false_and, and_false, not_false_eq_true, not_true_eq_false, gd_T, kont_i, kont_v]
    rw [hs, hi1]
    by_cases c : pthI x w 4 g < 0
    · rw [if_pos c]
      generalize hR : ru (d + 2) 193 4 [.ref 87, .int (nI r), .int (frI x w g ||| 0), .int (nI (g + 1)), .int (pthI x w 4 g)] [] σ = R
      simp only [s193_59, s193_60, s193_62, s193_65, s193_66, s193_67, s193_68, s193_71, s193_72, s193_73, s193_74, s193_77, nI_1, simprocAttr, if_true, if_false, true_and, and_true, false_and, and_false, not_false_eq_true, not_true_eq_false, gd_T, kont_i, kont_v]
      rw [if_pos c]
      exact hR
    · rw [if_neg c]
      generalize hR : ru (d + 2) 193 4 [.ref 87, .int (nI r), .int (frI x w g ||| ((1 : Int32) <<< (nI g &&& 31))), .int (nI (g + 1)), .int (pthI x w 4 g)] [] σ = R
      simp only [s193_59, s193_60, s193_62, s193_65, s193_66, s193_67, s193_68, s193_71, s193_72, s193_73, s193_74, s193_77, nI_1, simprocAttr, if_true, if_false, true_and, and_true, false_and, and_false, not_false_eq_true, not_true_eq_false, gd_T, kont_i, kont_v]
      rw [if_neg c]
      exact hR
theorem m_from (d x w r : Nat) (hx : x < 9) (hw : w < 4) (hr : r < 12) (σ : Hs) (e1 : σ 88 (251 + 2 * r) = nI x) (e2 : σ 88 (252 + 2 * r) = nI w) : callD (d + 3) 193 [.ref 87, .int (nI r)] σ = some (some (.int (nI (upN x w))), σ) := by
  obtain ⟨l4', hl⟩ := m_from_l d x w r hx hw hr σ e1 e2 9 0 uu rfl rfl
  simp only [c193, s193_0, s193_1, s193_2, s193_3]
  rw [show ru (d + 2) 193 4 [.ref 87, .int (nI r), .int 0, .int 0, uu] [] σ = _ from hl, upN_ok x hx w hw]
  cases l4' <;> simp only [s193_80, s193_81]
