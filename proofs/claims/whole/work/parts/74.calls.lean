/-! ===== the calls: seed, minutes, gusts ===== -/
theorem HR.cg {b : Nat} {σ : Hs} {T T' : Nat → Int32} (h : HR b σ T) (e : ∀ a, (a = 0 ∨ (4 ≤ a ∧ a ≤ 12) ∨ (14 ≤ a ∧ a < 251)) → T' a = T a) : HR b σ T' := by
  have ef : ∀ p f, p < 30 → f < 7 → ofT T' p f = ofT T p f := fun p f hp hf => e _ (by omega)
  obtain ⟨a1, a2, a3, a4, a5, a6, a7, a8⟩ := h
  refine ⟨fun p hp hi f f1 f6 => ?_, fun p hp hi => ?_, fun k hk => ?_, fun g hg => ?_, ?_, ?_, ?_, ?_⟩
  · unfold isT at hi
    rw [ef p 0 hp (by omega)] at hi
    rw [ef p f hp (by omega)]; exact a1 p hp hi f f1 f6
  · unfold isT at hi
    rw [ef p 0 hp (by omega)] at hi
    exact a2 p hp hi
  · rw [e _ (by omega)]; exact a3 k hk
  · rw [e _ (by omega), e _ (by omega), e _ (by omega)]; exact a4 g hg
  · rw [e _ (by omega)]; exact a5
  · rw [e _ (by omega)]; exact a6
  · rw [e _ (by omega)]; exact a7
  · rw [e _ (by omega)]; exact a8
theorem MI.cg {T T' : Nat → Int32} (h : MI T) (e : ∀ a, ((4 ≤ a ∧ a ≤ 12) ∨ (14 ≤ a ∧ a < 251) ∨ 359 ≤ a) → T' a = T a) : MI T' := by
  have ef : ∀ p f, p < 30 → f < 7 → ofT T' p f = ofT T p f := fun p f hp hf => e _ (by omega)
  obtain ⟨h1, ⟨⟨l0, l1, l2⟩, -, ⟨g, g1, g2⟩, w, w1, w2⟩, h3, h4, h5⟩ := h
  have hh : ∀ j, 359 ≤ j → T' j = T j := fun j hj => e j (by omega)
  have hW : WI T' := h1.of ef
  refine ⟨hW, ⟨⟨LWT_congr hh l0, LWT_congr hh l1, LWT_congr hh l2⟩, hW.K, ⟨g, g1, (e 8 (by omega)).trans g2⟩, w, w1, (e 6 (by omega)).trans w2⟩, fun g hg => ?_, ?_, ?_⟩
  · rw [e _ (by omega), e _ (by omega)]; exact h3 g hg
  · rw [e _ (by omega)]; exact h4
  · rw [e _ (by omega)]; exact h5
theorem PH.cg {T T' : Nat → Int32} {B : Nat} (h : PH B T) (e : ∀ a, (14 ≤ a ∧ a < 251) → T' a = T a) : PH B T' := by
  intro g hg
  obtain ⟨n, e1, l⟩ := h g hg
  refine ⟨n, (e _ (by omega)).trans e1, ?_⟩
  have ef : ∀ p f, p < 30 → f < 7 → ofT T' p f = ofT T p f := fun p f hp hf => e _ (by omega)
  rw [sN_eq (T := T) (fun q hq => stN_of (ef q 0 hq (by omega)) (ef q 2 hq (by omega)))]
  exact l
def QdT (T T' : Nat → Int32) : Prop := ∀ a, (a = 1 ∨ a = 2 ∨ a = 13 ∨ 251 ≤ a) → T' a = T a
theorem QdT.tr {A B C : Nat → Int32} (h1 : QdT A B) (h2 : QdT B C) : QdT A C := fun a ha => (h2 a ha).trans (h1 a ha)
theorem QlT.qd {T T' : Nat → Int32} (h : QlT T T') : QdT T T' := fun a ha => h a (by omega)
theorem TI.qd {T T' : Nat → Int32} (h : TI T) (hM : MI T') (e : QdT T T') : TI T' := by
  obtain ⟨-, h6, h7⟩ := h
  refine ⟨hM, fun n hn en k hk => ?_, fun n hn en k hk => ?_⟩
  · rw [e _ (by omega)] at en
    rw [e _ (by omega)]; exact h6 n hn en k hk
  · rw [e _ (by omega)] at en
    rw [e _ (by omega), e _ (by omega)]; exact h7 n hn en k hk
theorem SR.qd {σ σ' : Hs} {T T' : Nat → Int32} (h : SR 1 σ T) (hH : HR 2 σ' T') (e : QdT T T') (h3 : σ' 1 6 = T' 3) (f : ∀ o, (16 ≤ o ∧ o ≤ 29) → σ' o = σ o) : SR 1 σ' T' := by
  obtain ⟨h1, h2, ⟨n, n1, n2, n3⟩, ⟨m, m1, m2, m3, m4⟩, ⟨k, k1, k2, k3⟩, h6⟩ := h
  refine ⟨hH, fun u hu cnt hc ec => ?_, ⟨n, n1, ?_, ?_⟩, ⟨m, m1, ?_, ?_, ?_⟩, ⟨k, k1, ?_, ?_⟩, h3⟩
  · rw [e _ (by omega)] at ec
    exact ((h2 u hu cnt hc ec).fr (σ' := σ') (fun o o1 o2 => f o (by omega))).cg (fun j hj => congrArg enI (e _ (by omega)))
  · rw [e _ (by omega)]; exact n2
  · exact (n3.fr (σ' := σ') (fun o o1 o2 => f o (by omega))).cg (fun j hj => e _ (by omega))
  · rw [e _ (by omega)]; exact m2
  · exact (m3.fr (σ' := σ') (fun o o1 o2 => f o (by omega))).cg (fun j hj => e _ (by omega))
  · exact (m4.fr (σ' := σ') (fun o o1 o2 => f o (by omega))).cg (fun j hj => e _ (by omega))
  · rw [e _ (by omega)]; exact k2
  · exact (k3.fr (σ' := σ') (fun o o1 o2 => f o (by omega))).cg (fun j hj => e _ (by omega))
theorem RR.qd {i : Nat} {σ σ2 : Hs} {T' : Nat → Int32} (h : RR i σ) (e88 : σ2 88 = T') (hH : HR 2 σ2 T') (hM : MI T') (e : QdT (σ 88) T') (h3 : σ2 1 6 = T' 3) (hP : PH (306000 * (i + 1)) T') (hW : WB σ2) (f : ∀ o, ((16 ≤ o ∧ o ≤ 29) ∨ kpO o ∨ o = 85 ∨ o = 91) → σ2 o = σ o) (f3 : σ2 87 3 = σ 87 3) (f19 : σ2 87 19 = σ 87 19) : RR (i + 1) σ2 := by
  subst e88
  exact h.nx (h.sr.qd hH e h3 (fun o ho => f o (Or.inl ho))) (h.ti.qd hM e) hP (h.er.fr (f 85 (by omega)) (f 91 (by omega))) hW (fun o ho => f o (Or.inr (Or.inl ho))) f3 f19
theorem any_n (v : Int32) : ∃ n : Nat, v = nI n := ⟨v.toBitVec.toNat, Int32.toBitVec_inj.mp (by show _ = BitVec.ofNat 32 _; simp)⟩
theorem L_seed {i : Nat} {σ : Hs} (h : RR i σ) (d : Nat) (v : Int32) : Step d i 72 175 [.int v] σ := by
  have g : σ 1 6 = σ 88 3 := h.sr.2.2.2.2.2
  have c1 : callD (d + 100) 72 [.ref 0, .int v] σ = some (some (.int (σ 88 3)), rep σ 1 (upd (σ 1) 6 v)) := by
    simp only [c72, s72_0, s72_1_o0, s72_4_o1, s72_7, s72_8, s72_9_o0, s72_12, s72_13_o1, s72_16, s72_17, g, up2_rep, simprocAttr, if_true, if_false, true_and, and_true, false_and, and_false, not_false_eq_true, not_true_eq_false, gd_T, kont_i, kont_v]
  have hc := m_comes (d + 98) 3 (by omega) v (rep σ 1 (upd (σ 1) 6 v))
  rw [rep_ne (show 88 ≠ 1 by omega), n_3] at hc
  have c2 : callD (d + 100) 175 [.ref 87, .int v] (rep σ 1 (upd (σ 1) 6 v)) = some (some (.int (σ 88 3)), rep (rep σ 1 (upd (σ 1) 6 v)) 88 (upd (σ 88) 3 v)) := by
    simp only [c175, s175_0, s175_1, s175_2, s175_3_o87, s175_6, hc, simprocAttr, if_true, if_false, true_and, and_true, false_and, and_false, not_false_eq_true, not_true_eq_false, gd_T, kont_i, kont_v]
  refine ⟨_, _, _, c1, c2, h.qd (rep_self _ _ _) ?_ (h.mi.cg (fun a ha => by rw [upd_at, if_neg (by omega)])) (fun a ha => by rw [upd_at, if_neg (by omega)]) ?_ ((h.ph.mono (by omega)).cg (fun a ha => by rw [upd_at, if_neg (by omega)])) (h.wb.two c1 c2) ?_ ?_ ?_⟩
  · exact (h.hr.fr (σ' := rep (rep σ 1 (upd (σ 1) 6 v)) 88 (upd (σ 88) 3 v)) (fun o o1 o2 => (rep_ne (by omega)).trans (rep_ne (by omega)))).cg (fun a ha => by rw [upd_at, if_neg (by omega)])
  · rw [rep_ne (by omega), rep_self, upd_at, upd_at, if_pos rfl, if_pos rfl]
  · intro o ho
    unfold kpO at ho
    rw [rep_ne (by omega), rep_ne (by omega)]
  · rw [rep_ne (by omega), rep_ne (by omega)]
  · rw [rep_ne (by omega), rep_ne (by omega)]
theorem z5of : (99999 : Int32) = nI 99999 := rfl
theorem m_whyNot (d : Nat) (v : Int32) (σ : Hs) : callD (d + 2) 171 [.ref 87, .int v] σ = some (some (.int (if ¬ (1 ≤ v ∧ v ≤ 200) then -1000001 else if σ 88 0 + v ≤ 99999 then 0 else -1000003)), σ) := by
  by_cases hv : 1 ≤ v ∧ v ≤ 200
  · have hvt := eq_true hv
    simp only [c171, s171_0, s171_1, s171_2, s171_5, s171_8, s171_11, s171_13, s171_16, s171_17_o87, s171_20, s171_21_o88, s171_22, s171_23, s171_24, s171_27, s171_30, s171_32, s171_35, s171_36, m_within, hvt, b2_t, vp_lit, simprocAttr, if_true, if_false, true_and, and_true, false_and, and_false, not_false_eq_true, not_true_eq_false, gd_T, kont_i, kont_v]
    by_cases q : σ 88 0 + v ≤ 99999
    · simp only [q, simprocAttr, if_true, if_false, true_and, and_true, false_and, and_false, not_false_eq_true, not_true_eq_false, gd_T, kont_i, kont_v]
    · simp only [q, simprocAttr, if_true, if_false, true_and, and_true, false_and, and_false, not_false_eq_true, not_true_eq_false, gd_T, kont_i, kont_v]
  · have hvf := eq_false hv
    simp only [c171, s171_0, s171_1, s171_2, s171_5, s171_8, s171_11, s171_13, s171_16, s171_17_o87, s171_20, s171_21_o88, s171_22, s171_23, s171_24, s171_27, s171_30, s171_32, s171_35, s171_36, m_within, hvf, b2_f, simprocAttr, if_true, if_false, true_and, and_true, false_and, and_false, not_false_eq_true, not_true_eq_false, gd_T, kont_i, kont_v]
theorem L_minutes {i : Nat} (hi : i ≤ 512) {σ : Hs} (h : RR i σ) (d : Nat) (v : Int32) : Step d i 70 172 [.int v] σ := by
  by_cases hv : 1 ≤ v ∧ v ≤ 200
  · have hvt := eq_true hv
    have g0 : σ 2 13 = σ 88 0 := h.hr.2.2.2.2.2.2.2
    by_cases q : σ 88 0 + v ≤ 99999
    · have qt := eq_true q
      obtain ⟨n, n1, n2, rfl⟩ := within_n (a := 1) (b := 200) hv rfl rfl (by omega) (by omega)
      obtain ⟨σ1, e1, r1, f1⟩ := h2_pass (d + 93) n (by omega) σ (σ 88) ⟨h.hr, h.lr, h.mi⟩
      have f88 : σ1 88 = σ 88 := f1 88 (by omega) (by omega)
      have hHot : Hot σ1 := ⟨fun k hk => by rw [f1 92 (by omega) (by omega)]; exact h.hot.1 k hk, fun k hk => by rw [f1 93 (by omega) (by omega)]; exact h.hot.2 k hk⟩
      obtain ⟨σ2, e2, g2, g3, g4⟩ := m_minutesGo (d + 89) n (by omega) σ1 (by rw [f88]; exact h.mok) hHot
      rw [f88] at g2
      have g13 : σ1 2 13 = itT n (σ 88) 0 := r1.1.2.2.2.2.2.2.2
      have c1 : callD (d + 100) 70 [.ref 0, .int (nI n)] σ = some (some (.int (itT n (σ 88) 0)), σ1) := by
        simp only [c70, s70_0, s70_1, s70_2, s70_5, s70_8, s70_11, s70_12, s70_13_o0, s70_16, s70_17, s70_18_o0, s70_21_o1, s70_24_o2, s70_27, s70_28, s70_29, s70_31, s70_34, s70_35, s70_36_o0, s70_39, s70_40, s70_41_o0, s70_44_o1, s70_47, s70_48, s70_49_o0, s70_52_o1, s70_55_o2, s70_58, s70_59_o0, s70_62_o1, s70_65_o2, s70_68, k_within, hvt, b2_t, g0, qt, e1, g13, simprocAttr, if_true, if_false, true_and, and_true, false_and, and_false, not_false_eq_true, not_true_eq_false, gd_T, kont_i, kont_v]
      have hw := m_whyNot (d + 97) (nI n) σ1
      rw [f88, if_neg (fun x => x hv), if_pos q] at hw
      have c2 : callD (d + 100) 172 [.ref 87, .int (nI n)] σ1 = some (some (.int (itT n (σ 88) 0)), σ2) := by
        simp only [c172, s172_0, s172_1, s172_2_o87, s172_5, s172_6, s172_7, s172_10, s172_11, s172_12_o87, s172_15, s172_16, s172_17, s172_18_o87, s172_21, s172_22_o87, s172_25, s172_26_o88, s172_27, hw, e2, g2, vp_lit, simprocAttr, if_true, if_false, true_and, and_true, false_and, and_false, not_false_eq_true, not_true_eq_false, gd_T, kont_i, kont_v]
      have ff : ∀ o, (o < 2 ∨ 12 < o) → o ≠ 15 → o ≠ 87 → o ≠ 88 → o ≠ 97 → o ≠ 98 → σ2 o = σ o := fun o o1 o2 o3 o4 o5 o6 => (g4 o o3 o4 o5 o6).trans (f1 o o1 o2)
      refine ⟨_, _, _, c1, c2, h.ql g2 ?_ (MI.it n _ h.mi) (QlT.it n _ h.mok) (PH.it (by omega) n _ h.mi (h.ph.mono (by omega))) (h.wb.two c1 c2) ?_ ?_ ?_⟩
      · exact r1.1.fr (fun o o1 o2 => g4 o (by omega) (by omega) (by omega) (by omega))
      · intro o ho
        unfold kpO at ho
        exact ff o (by omega) (by omega) (by omega) (by omega) (by omega) (by omega)
      · rw [g3 3 (by omega), f1 87 (by omega) (by omega)]
      · rw [g3 19 (by omega), f1 87 (by omega) (by omega)]
    · have qf := eq_false q
      refine Step_err h 3 (v := -1000003) ?_ ?_
      · simp only [c70, s70_0, s70_1, s70_2, s70_5, s70_8, s70_11, s70_12, s70_13_o0, s70_16, s70_17, s70_18_o0, s70_21_o1, s70_24_o2, s70_27, s70_28, s70_29, s70_31, s70_34, s70_35, s70_36_o0, s70_39, s70_40, s70_41_o0, s70_44_o1, s70_47, s70_48, s70_49_o0, s70_52_o1, s70_55_o2, s70_58, s70_59_o0, s70_62_o1, s70_65_o2, s70_68, k_within, hvt, b2_t, g0, qf, k_failed_3, simprocAttr, if_true, if_false, true_and, and_true, false_and, and_false, not_false_eq_true, not_true_eq_false, gd_T, kont_i, kont_v]
      · have hw := m_whyNot (d + 97) v (erC σ 3)
        rw [show erC σ 3 88 = σ 88 from rep_ne (by omega), if_neg (fun x => x hv), if_neg q] at hw
        simp only [c172, s172_0, s172_1, s172_2_o87, s172_5, s172_6, s172_7, s172_10, s172_11, s172_12_o87, s172_15, s172_16, s172_17, s172_18_o87, s172_21, s172_22_o87, s172_25, s172_26_o88, s172_27, hw, m_fin_3, simprocAttr, if_true, if_false, true_and, and_true, false_and, and_false, not_false_eq_true, not_true_eq_false, gd_T, kont_i, kont_v]
  · have hvf := eq_false hv
    refine Step_err h 1 (v := -1000001) ?_ ?_
    · simp only [c70, s70_0, s70_1, s70_2, s70_5, s70_8, s70_11, s70_12, s70_13_o0, s70_16, s70_17, s70_18_o0, s70_21_o1, s70_24_o2, s70_27, s70_28, s70_29, s70_31, s70_34, s70_35, s70_36_o0, s70_39, s70_40, s70_41_o0, s70_44_o1, s70_47, s70_48, s70_49_o0, s70_52_o1, s70_55_o2, s70_58, s70_59_o0, s70_62_o1, s70_65_o2, s70_68, k_within, hvf, b2_f, k_failed_1, simprocAttr, if_true, if_false, true_and, and_true, false_and, and_false, not_false_eq_true, not_true_eq_false, gd_T, kont_i, kont_v]
    · have hw := m_whyNot (d + 97) v (erC σ 1)
      rw [if_pos hv] at hw
      simp only [c172, s172_0, s172_1, s172_2_o87, s172_5, s172_6, s172_7, s172_10, s172_11, s172_12_o87, s172_15, s172_16, s172_17, s172_18_o87, s172_21, s172_22_o87, s172_25, s172_26_o88, s172_27, hw, m_fin_1, simprocAttr, if_true, if_false, true_and, and_true, false_and, and_false, not_false_eq_true, not_true_eq_false, gd_T, kont_i, kont_v]
/-- a gust's minute -/
def drI (x : Int32) : Int32 := x * 1103515245 + 12345
def w8I (x : Int32) : Int32 := (x.toUInt32 >>> (Int32.toUInt32 8 &&& Int32.toUInt32 31)).toInt32
def gvI (x : Int32) : Int32 := w8I (drI x) - w8I (drI x) / 100 * 100
def guX (Y : Nat → Int32) : Nat → Int32 := upd (upd Y 3 (drI (Y 3))) 5 (gvI (Y 3))
noncomputable def guT (Y : Nat → Int32) : Nat → Int32 := upd (minT (guX Y)) 5 (Y 5)
noncomputable def guI : Nat → (Nat → Int32) → Nat → Int32
  | 0, Y => Y
  | n + 1, Y => guI n (guT Y)
theorem guX_MI {Y : Nat → Int32} (h : MI Y) : MI (guX Y) := by
  obtain ⟨n, hn⟩ := any_n (gvI (Y 3))
  unfold guX
  rw [hn]
  exact MI.st (k := 1) (h.cg (fun a ha => by rw [upd_at, if_neg (by omega)])) (by omega) (by omega) (by omega)
theorem guT_MI {Y : Nat → Int32} (h : MI Y) : MI (guT Y) := by
  obtain ⟨n, hn⟩ := any_n (Y 5)
  unfold guT
  rw [hn]
  exact MI.st (k := 1) (guX_MI h).min (by omega) (by omega) (by omega)
theorem guT_PH {Y : Nat → Int32} {B : Nat} (hB : B ≤ 1999999999) (h : MI Y) (hP : PH B Y) : PH B (guT Y) := by
  unfold guT
  exact PH.st (k := 1) (by omega) ((PH.st (k := 1) (by omega) (hP.cg (fun a ha => by rw [upd_at, if_neg (by omega)]))).min (guX_MI h) hB)
theorem guT_qd {Y : Nat → Int32} (h : MI Y) : QdT Y (guT Y) := by
  intro a ha
  unfold guT
  rw [upd_at, if_neg (by omega)]
  have e : minT (guX Y) a = guX Y a := by
    by_cases c : a = 13
    · subst c; exact minT_13 (guX_MI h).2.1
    · exact minT_ne (guX_MI h).2.1 (by omega)
  rw [e]
  unfold guX
  rw [upd_at, if_neg (by omega), upd_at, if_neg (by omega)]
theorem guT_5 {Y : Nat → Int32} : guT Y 5 = Y 5 := by unfold guT; rw [upd_at, if_pos rfl]
theorem guT_3 {Y : Nat → Int32} (h : MI Y) : guT Y 3 = drI (Y 3) := by
  unfold guT
  rw [upd_at, if_neg (by omega), minT_ne (guX_MI h).2.1 (by omega)]
  unfold guX
  rw [upd_at, if_neg (by omega), upd_at, if_pos rfl]
theorem k_draw (d : Nat) (σ : Hs) (x : Int32) (h : σ 1 6 = x) : callD (d + 1) 51 [.ref 1] σ = some (some (.int (w8I (drI x))), rep σ 1 (upd (σ 1) 6 (drI x))) := by
  simp only [c51, s51_0, s51_1, s51_2_o1, s51_5, s51_7, s51_8, s51_11, s51_12_o1, s51_15, s51_16_o1, s51_19, s51_21, s51_22, h, up2_rep, rep_at, upd_at, simprocAttr, if_true, if_false, true_and, and_true, false_and, and_false, not_false_eq_true, not_true_eq_false, gd_T, kont_i, kont_v]
  rfl
theorem m_drawn (d : Nat) (σ : Hs) : callD (d + 1) 173 [.ref 87, .int 100] σ = some (some (.int (gvI (σ 88 3))), rep σ 88 (upd (σ 88) 3 (drI (σ 88 3)))) := by
  simp only [c173, s173_0, s173_1_o87, s173_4, s173_5, s173_6_o87, s173_9, s173_10_o88, s173_11, s173_14, s173_15, s173_18, s173_19_o88, s173_20, s173_21_o87, s173_24, s173_25_o88, s173_26, s173_28, s173_29, s173_30, s173_31, vp_lit, up2_rep, rep_at, upd_at, z100, not_false_eq_true, simprocAttr, if_true, if_false, true_and, and_true, false_and, and_false, not_false_eq_true, not_true_eq_false, gd_T, kont_i, kont_v]
  rfl
