/-! ===== the class's world against the model's, between calls ===== -/
def ERr (σ : Hs) : Prop := ∀ k, 1 ≤ k → k < 7 → σ 85 k = σ 91 k
def VRr (σ : Hs) : Prop := ∃ n, n ≤ 30 ∧ σ 74 1 = nI n ∧ σ 87 19 = nI n ∧ ∀ k, k < n → σ 75 k = σ 99 k
def SHr (σ : Hs) : Prop := ∀ j, j < 4 → (σ (77 + 2 * j) 1 = σ 100 j ∧ (σ 100 j = 0 ∨ σ 100 j = 8 ∨ σ 100 j = 16 ∨ σ 100 j = 32)) ∧ ∃ n, n ≤ 24 ∧ σ (77 + 2 * j) 2 = nI n ∧ σ 101 j = nI n ∧ ∀ k, k < 24 → σ (78 + 2 * j) k = σ 102 (24 * j + k)
def mostF : Nat → Int32 := fun k => ([1439, 99, 3, 999, 8] : List Int32).getD k 0
def COr (σ : Hs) : Prop := Hot σ ∧ ∀ k, k < 5 → σ 94 k = mostF k
def KRr (B : Nat) (σ : Hs) : Prop := σ 0 8 = σ 87 3 ∧ (σ 87 3 = 0 ∨ (SR 30 σ (σ 89) ∧ TI (σ 89) ∧ PH B (σ 89)))
def RR (i : Nat) (σ : Hs) : Prop := SR 1 σ (σ 88) ∧ TI (σ 88) ∧ PH (306000 * i) (σ 88) ∧ KRr (306000 * i) σ ∧ ERr σ ∧ VRr σ ∧ SHr σ ∧ COr σ ∧ WB σ
theorem RR.wb {i : Nat} {σ : Hs} (h : RR i σ) : WB σ := h.2.2.2.2.2.2.2.2
theorem RR.hot {i : Nat} {σ : Hs} (h : RR i σ) : Hot σ := h.2.2.2.2.2.2.2.1.1
theorem RR.most {i : Nat} {σ : Hs} (h : RR i σ) {k : Nat} (hk : k < 5) : σ 94 k = mostF k := h.2.2.2.2.2.2.2.1.2 k hk
theorem RR.sr {i : Nat} {σ : Hs} (h : RR i σ) : SR 1 σ (σ 88) := h.1
theorem RR.ti {i : Nat} {σ : Hs} (h : RR i σ) : TI (σ 88) := h.2.1
theorem RR.hr {i : Nat} {σ : Hs} (h : RR i σ) : HR 2 σ (σ 88) := h.1.1
theorem RR.lr {i : Nat} {σ : Hs} (h : RR i σ) : LR σ (σ 88) := LR_of h.1.2.1 h.ti.L
theorem RR.wi {i : Nat} {σ : Hs} (h : RR i σ) : WI (σ 88) := h.2.1.1.1
theorem RR.mi {i : Nat} {σ : Hs} (h : RR i σ) : MI (σ 88) := h.2.1.1
theorem RR.mok {i : Nat} {σ : Hs} (h : RR i σ) : MOK (σ 88) := h.2.1.1.2.1
theorem RR.ph {i : Nat} {σ : Hs} (h : RR i σ) : PH (306000 * i) (σ 88) := h.2.2.1
theorem RR.er {i : Nat} {σ : Hs} (h : RR i σ) : ERr σ := h.2.2.2.2.1
theorem KRr.fr {B B' : Nat} {σ σ' : Hs} (h : KRr B σ) (hB : B ≤ B') (e : ∀ o, (o = 0 ∨ (30 ≤ o ∧ o ≤ 58) ∨ o = 89) → σ' o = σ o) (e3 : σ' 87 3 = σ 87 3) : KRr B' σ' := by
  obtain ⟨h1, h2⟩ := h
  refine ⟨by rw [e 0 (Or.inl rfl), e3]; exact h1, ?_⟩
  rw [e3, e 89 (by omega)]
  rcases h2 with h2 | ⟨a1, a2, a3⟩
  · exact Or.inl h2
  · exact Or.inr ⟨a1.fr (fun o o1 o2 => e o (by omega)), a2, a3.mono hB⟩
theorem VRr.fr {σ σ' : Hs} (h : VRr σ) (e : ∀ o, (o = 74 ∨ o = 75 ∨ o = 99) → σ' o = σ o) (e19 : σ' 87 19 = σ 87 19) : VRr σ' := by
  obtain ⟨n, h1, h2, h3, h4⟩ := h
  refine ⟨n, h1, ?_, ?_, ?_⟩
  · rw [e 74 (by omega)]; exact h2
  · rw [e19]; exact h3
  · intro k hk
    rw [e 75 (by omega), e 99 (by omega)]; exact h4 k hk
theorem SHr.fr {σ σ' : Hs} (h : SHr σ) (e : ∀ o, ((77 ≤ o ∧ o ≤ 84) ∨ (100 ≤ o ∧ o ≤ 102)) → σ' o = σ o) : SHr σ' := by
  intro j hj
  obtain ⟨a1, n, b1, b2, b3, b4⟩ := h j hj
  refine ⟨?_, n, b1, ?_, ?_, ?_⟩
  · rw [e _ (by omega), e 100 (by omega)]; exact a1
  · rw [e _ (by omega)]; exact b2
  · rw [e 101 (by omega)]; exact b3
  · intro k hk
    rw [e _ (by omega), e 102 (by omega)]; exact b4 k hk
theorem COr.fr {σ σ' : Hs} (h : COr σ) (e : ∀ o, (92 ≤ o ∧ o ≤ 94) → σ' o = σ o) : COr σ' := by
  refine ⟨⟨fun k hk => ?_, fun k hk => ?_⟩, fun k hk => ?_⟩
  · rw [e 92 (by omega)]; exact h.1.1 k hk
  · rw [e 93 (by omega)]; exact h.1.2 k hk
  · rw [e 94 (by omega)]; exact h.2 k hk
/-- the objects that most calls leave as they are -/
def kpO (o : Nat) : Prop := o = 0 ∨ (30 ≤ o ∧ o ≤ 58) ∨ o = 74 ∨ o = 75 ∨ (77 ≤ o ∧ o ≤ 84) ∨ o = 89 ∨ (92 ≤ o ∧ o ≤ 94) ∨ (99 ≤ o ∧ o ≤ 102)
theorem RR.nx {i : Nat} {σ σ2 : Hs} (h : RR i σ) (h1 : SR 1 σ2 (σ2 88)) (h2 : TI (σ2 88)) (h3 : PH (306000 * (i + 1)) (σ2 88)) (hE : ERr σ2) (hW : WB σ2) (f : ∀ o, kpO o → σ2 o = σ o) (f3 : σ2 87 3 = σ 87 3) (f19 : σ2 87 19 = σ 87 19) : RR (i + 1) σ2 := by
  obtain ⟨-, -, -, hK, -, hV, hS, hC, -⟩ := h
  exact ⟨h1, h2, h3, hK.fr (by omega) (fun o ho => f o (by unfold kpO; omega)) f3, hE, hV.fr (fun o ho => f o (by unfold kpO; omega)) f19, hS.fr (fun o ho => f o (by unfold kpO; omega)), hC.fr (fun o ho => f o (by unfold kpO; omega)), hW⟩
theorem ERr.fr {σ σ' : Hs} (h : ERr σ) (e1 : σ' 85 = σ 85) (e2 : σ' 91 = σ 91) : ERr σ' := fun k h1 h7 => by rw [e1, e2]; exact h k h1 h7
def Step (d i mc mm : Nat) (as : List Value) (σ : Hs) : Prop := ∃ v σ1 σ2, callD (d + 100) mc (.ref 0 :: as) σ = some (some (.int v), σ1) ∧ callD (d + 100) mm (.ref 87 :: as) σ1 = some (some (.int v), σ2) ∧ RR (i + 1) σ2
theorem WB.two {d1 d2 m1 m2 : Nat} {a1 a2 : List Value} {v1 v2 : Option Value} {σ σ1 σ2 : Hs} (h : WB σ) (e1 : callD d1 m1 a1 σ = some (v1, σ1)) (e2 : callD d2 m2 a2 σ1 = some (v2, σ2)) : WB σ2 := callD_WB _ _ _ _ _ _ (callD_WB _ _ _ _ _ _ h e1) e2
def erC (σ : Hs) (k : Nat) : Hs := rep σ 85 (upd (σ 85) k (σ 85 k + 1))
def erM (σ : Hs) (k : Nat) : Hs := rep σ 91 (upd (σ 91) k (σ 91 k + 1))
theorem k_failed_1 (d : Nat) (σ : Hs) : callD (d + 2) 99 [.ref 0, .int 1] σ = some (some (.int (-1000001)), erC σ 1) := by
  have hw : ((1 : Int32) ≤ 1 ∧ (1 : Int32) ≤ 6) = True := eq_true (by decide)
  simp only [c99, s99_0, s99_1, s99_2, s99_4, s99_7, s99_10, s99_11_o0, s99_14, s99_15, s99_16_o85, s99_17, s99_18, s99_19_o85, s99_20, s99_23, s99_24, s99_25, k_within, hw, b2_t, vp_lit, up2_rep, simprocAttr, if_true, if_false, true_and, and_true, false_and, and_false, not_false_eq_true, not_true_eq_false, gd_T, kont_i, kont_v]
  rfl
theorem m_fin_1 (d : Nat) (σ : Hs) : callD (d + 1) 111 [.ref 87, .int (-1000001)] σ = some (some (.int (-1000001)), erM σ 1) := m_finding_1 d σ
theorem k_failed_2 (d : Nat) (σ : Hs) : callD (d + 2) 99 [.ref 0, .int 2] σ = some (some (.int (-1000002)), erC σ 2) := by
  have hw : ((1 : Int32) ≤ 2 ∧ (2 : Int32) ≤ 6) = True := eq_true (by decide)
  simp only [c99, s99_0, s99_1, s99_2, s99_4, s99_7, s99_10, s99_11_o0, s99_14, s99_15, s99_16_o85, s99_17, s99_18, s99_19_o85, s99_20, s99_23, s99_24, s99_25, k_within, hw, b2_t, vp_lit, up2_rep, simprocAttr, if_true, if_false, true_and, and_true, false_and, and_false, not_false_eq_true, not_true_eq_false, gd_T, kont_i, kont_v]
  rfl
theorem m_fin_2 (d : Nat) (σ : Hs) : callD (d + 1) 111 [.ref 87, .int (-1000002)] σ = some (some (.int (-1000002)), erM σ 2) := m_finding_2 d σ
theorem k_failed_3 (d : Nat) (σ : Hs) : callD (d + 2) 99 [.ref 0, .int 3] σ = some (some (.int (-1000003)), erC σ 3) := by
  have hw : ((1 : Int32) ≤ 3 ∧ (3 : Int32) ≤ 6) = True := eq_true (by decide)
  simp only [c99, s99_0, s99_1, s99_2, s99_4, s99_7, s99_10, s99_11_o0, s99_14, s99_15, s99_16_o85, s99_17, s99_18, s99_19_o85, s99_20, s99_23, s99_24, s99_25, k_within, hw, b2_t, vp_lit, up2_rep, simprocAttr, if_true, if_false, true_and, and_true, false_and, and_false, not_false_eq_true, not_true_eq_false, gd_T, kont_i, kont_v]
  rfl
theorem m_fin_3 (d : Nat) (σ : Hs) : callD (d + 1) 111 [.ref 87, .int (-1000003)] σ = some (some (.int (-1000003)), erM σ 3) := m_finding_3 d σ
theorem k_failed_4 (d : Nat) (σ : Hs) : callD (d + 2) 99 [.ref 0, .int 4] σ = some (some (.int (-1000004)), erC σ 4) := by
  have hw : ((1 : Int32) ≤ 4 ∧ (4 : Int32) ≤ 6) = True := eq_true (by decide)
  simp only [c99, s99_0, s99_1, s99_2, s99_4, s99_7, s99_10, s99_11_o0, s99_14, s99_15, s99_16_o85, s99_17, s99_18, s99_19_o85, s99_20, s99_23, s99_24, s99_25, k_within, hw, b2_t, vp_lit, up2_rep, simprocAttr, if_true, if_false, true_and, and_true, false_and, and_false, not_false_eq_true, not_true_eq_false, gd_T, kont_i, kont_v]
  rfl
theorem m_fin_4 (d : Nat) (σ : Hs) : callD (d + 1) 111 [.ref 87, .int (-1000004)] σ = some (some (.int (-1000004)), erM σ 4) := m_finding_4 d σ
theorem k_failed_5 (d : Nat) (σ : Hs) : callD (d + 2) 99 [.ref 0, .int 5] σ = some (some (.int (-1000005)), erC σ 5) := by
  have hw : ((1 : Int32) ≤ 5 ∧ (5 : Int32) ≤ 6) = True := eq_true (by decide)
  simp only [c99, s99_0, s99_1, s99_2, s99_4, s99_7, s99_10, s99_11_o0, s99_14, s99_15, s99_16_o85, s99_17, s99_18, s99_19_o85, s99_20, s99_23, s99_24, s99_25, k_within, hw, b2_t, vp_lit, up2_rep, simprocAttr, if_true, if_false, true_and, and_true, false_and, and_false, not_false_eq_true, not_true_eq_false, gd_T, kont_i, kont_v]
  rfl
theorem m_fin_5 (d : Nat) (σ : Hs) : callD (d + 1) 111 [.ref 87, .int (-1000005)] σ = some (some (.int (-1000005)), erM σ 5) := m_finding_5 d σ
theorem k_failed_6 (d : Nat) (σ : Hs) : callD (d + 2) 99 [.ref 0, .int 6] σ = some (some (.int (-1000006)), erC σ 6) := by
  have hw : ((1 : Int32) ≤ 6 ∧ (6 : Int32) ≤ 6) = True := eq_true (by decide)
  simp only [c99, s99_0, s99_1, s99_2, s99_4, s99_7, s99_10, s99_11_o0, s99_14, s99_15, s99_16_o85, s99_17, s99_18, s99_19_o85, s99_20, s99_23, s99_24, s99_25, k_within, hw, b2_t, vp_lit, up2_rep, simprocAttr, if_true, if_false, true_and, and_true, false_and, and_false, not_false_eq_true, not_true_eq_false, gd_T, kont_i, kont_v]
  rfl
theorem m_fin_6 (d : Nat) (σ : Hs) : callD (d + 1) 111 [.ref 87, .int (-1000006)] σ = some (some (.int (-1000006)), erM σ 6) := m_finding_6 d σ
theorem ERr_e {σ : Hs} (h : ERr σ) (k : Nat) : ERr (erM (erC σ k) k) := by
  intro j h1 h7
  unfold erM erC
  rw [rep_ne (by omega), rep_self, rep_self, upd_at, upd_at, rep_ne (by omega), h j h1 h7]
  by_cases c : j = k
  · rw [if_pos c, if_pos c]
    rw [h k (by omega) (by omega)]
  · rw [if_neg c, if_neg c]
theorem erMC_o {σ : Hs} {k o : Nat} (h1 : o ≠ 85) (h2 : o ≠ 91) : erM (erC σ k) k o = σ o := by
  unfold erM erC
  rw [rep_ne h2, rep_ne h1]
theorem RR.err {i : Nat} {σ : Hs} (h : RR i σ) (k : Nat) (hW : WB (erM (erC σ k) k)) : RR (i + 1) (erM (erC σ k) k) := by
  have e88 : erM (erC σ k) k 88 = σ 88 := erMC_o (by omega) (by omega)
  refine h.nx ?_ ?_ ?_ (ERr_e h.er k) hW (fun o ho => erMC_o (by unfold kpO at ho; omega) (by unfold kpO at ho; omega)) ?_ ?_
  · rw [e88]; exact h.sr.fr (fun o o1 o2 => erMC_o (by omega) (by omega))
  · rw [e88]; exact h.ti
  · rw [e88]; exact h.ph.mono (by omega)
  · rw [erMC_o (by omega) (by omega)]
  · rw [erMC_o (by omega) (by omega)]
theorem Step_err {d i mc mm : Nat} {as : List Value} {σ : Hs} (h : RR i σ) (k : Nat) {v : Int32} (hc : callD (d + 100) mc (.ref 0 :: as) σ = some (some (.int v), erC σ k)) (hm : callD (d + 100) mm (.ref 87 :: as) (erC σ k) = some (some (.int v), erM (erC σ k) k)) : Step d i mc mm as σ := ⟨v, _, _, hc, hm, h.err k (h.wb.two hc hm)⟩
/-- only places change -/
def PlT (T T' : Nat → Int32) : Prop := ∀ a, (a < 14 ∨ 224 ≤ a) → T' a = T a
theorem TI.pl {T T' : Nat → Int32} (h : TI T) (hW : WI T') (e : PlT T T') : TI T' := by
  obtain ⟨⟨h1, h2, h3, h4, h5⟩, h6, h7⟩ := h
  refine ⟨⟨hW, MOK_congr (fun j j1 j2 => e j (by omega)) (e 6 (by omega)) (e 8 (by omega)) hW.K h2, fun g hg => ?_, ?_, ?_⟩, fun n hn en k hk => ?_, fun n hn en k hk => ?_⟩
  · rw [e _ (by omega), e _ (by omega)]; exact h3 g hg
  · rw [e _ (by omega)]; exact h4
  · rw [e _ (by omega)]; exact h5
  · rw [e _ (by omega)] at en
    rw [e _ (by omega)]; exact h6 n hn en k hk
  · rw [e _ (by omega)] at en
    rw [e _ (by omega), e _ (by omega)]; exact h7 n hn en k hk
theorem RW.cg {r n : Nat} {σ : Hs} {F G : Nat → Int32} (h : RW r n σ F) (e : ∀ k, k < n → G k = F k) : RW r n σ G := ⟨h.1, fun k hk => (h.2 k hk).trans (e k hk).symm⟩
theorem SR.pl {σ σ' : Hs} {T T' : Nat → Int32} (h : SR 1 σ T) (hH : HR 2 σ' T') (e : PlT T T') (f : ∀ o, (o = 1 ∨ (16 ≤ o ∧ o ≤ 29)) → σ' o = σ o) : SR 1 σ' T' := by
  obtain ⟨h1, h2, ⟨n, n1, n2, n3⟩, ⟨m, m1, m2, m3, m4⟩, ⟨k, k1, k2, k3⟩, h6⟩ := h
  refine ⟨hH, fun u hu cnt hc ec => ?_, ⟨n, n1, ?_, ?_⟩, ⟨m, m1, ?_, ?_, ?_⟩, ⟨k, k1, ?_, ?_⟩, ?_⟩
  · rw [e _ (by omega)] at ec
    exact ((h2 u hu cnt hc ec).fr (σ' := σ') (fun o o1 o2 => f o (by omega))).cg (fun j hj => congrArg enI (e _ (by omega)))
  · rw [e _ (by omega)]; exact n2
  · exact (n3.fr (σ' := σ') (fun o o1 o2 => f o (by omega))).cg (fun j hj => e _ (by omega))
  · rw [e _ (by omega)]; exact m2
  · exact (m3.fr (σ' := σ') (fun o o1 o2 => f o (by omega))).cg (fun j hj => e _ (by omega))
  · exact (m4.fr (σ' := σ') (fun o o1 o2 => f o (by omega))).cg (fun j hj => e _ (by omega))
  · rw [e _ (by omega)]; exact k2
  · exact (k3.fr (σ' := σ') (fun o o1 o2 => f o (by omega))).cg (fun j hj => e _ (by omega))
  · rw [f 1 (by omega), e _ (by omega)]; exact h6
theorem PH.pl {T T' : Nat → Int32} {B c : Nat} (h : PH B T) (e : PlT T T') (hs : sN T' 30 ≤ sN T 30 + c) : PH (B + 51 * c) T' := by
  intro g hg
  obtain ⟨n, e1, l⟩ := h g hg
  exact ⟨n, by rw [e _ (by omega)]; exact e1, by omega⟩
/-- a call that changes places alone -/
theorem RR.pl {i : Nat} {σ σ2 : Hs} {T' : Nat → Int32} (h : RR i σ) (e88 : σ2 88 = T') (hH : HR 2 σ2 T') (hWI : WI T') (e : PlT (σ 88) T') (hs : sN T' 30 ≤ sN (σ 88) 30 + 6000) (hW : WB σ2) (f : ∀ o, (o = 1 ∨ (16 ≤ o ∧ o ≤ 29) ∨ kpO o ∨ o = 85 ∨ o = 91) → σ2 o = σ o) (f3 : σ2 87 3 = σ 87 3) (f19 : σ2 87 19 = σ 87 19) : RR (i + 1) σ2 := by
  subst e88
  exact h.nx (h.sr.pl hH e (fun o ho => f o (by omega))) (h.ti.pl hWI e) ((h.ph.pl e hs).mono (by omega)) (h.er.fr (f 85 (by omega)) (f 91 (by omega))) hW (fun o ho => f o (Or.inr (Or.inr (Or.inl ho)))) f3 f19
/-- a call that changes nothing -/
theorem RR.same {i : Nat} {σ : Hs} (h : RR i σ) : RR (i + 1) σ := h.nx h.sr h.ti (h.ph.mono (by omega)) h.er h.wb (fun _ _ => rfl) rfl rfl
