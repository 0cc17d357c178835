/-! ===== the call: voice, put together ===== -/
def bgS (σ : Hs) (a b c : Int32) : Hs := rep (rep σ 73 (upd (upd (upd (upd (σ 73) 2 a) 3 b) 4 c) 1 0)) 74 (upd (σ 74) 1 0)
theorem k_answerOf (d : Nat) (σ σ' : Hs) (a b c w x v : Int32) (hc : callD d 55 [.ref 73, .int a, .int w, .int x, .int 0] (bgS σ a b c) = some (some (.int v), σ')) : callD (d + 1) 54 [.ref 73, .int a, .int b, .int c, .int w, .int x] σ = some (some (.int v), σ') := by
  have e : ∀ F : Nat → Int32, rep σ 73 F 74 = σ 74 := fun F => rep_ne (by omega)
  unfold bgS at hc
  have g : rep (rep σ 73 (upd (upd (upd (upd (σ 73) 2 a) 3 b) 4 c) 1 0)) 74 (upd (σ 74) 1 0) 73 2 = a := by
    rw [rep_ne (by omega), rep_self, upd_at, if_neg (by omega), upd_at, if_neg (by omega), upd_at, if_neg (by omega), upd_at, if_pos rfl]
  simp only [c54, s54_0, s54_1, s54_2_o73, s54_5, s54_6, s54_7_o73, s54_10, s54_11, s54_12_o73, s54_15, s54_16, s54_17_o73, s54_20, s54_21_o73, s54_24, s54_25_o74, s54_28, s54_29, s54_30_o73, s54_33, s54_35, s54_37, s54_38_o73, s54_41, up2_rep, rep_self, rep_rep, isB_0, e, g, hc, simprocAttr, if_true, if_false, true_and, and_true, false_and, and_false, not_false_eq_true, not_true_eq_false, gd_T, kont_i, kont_v]
theorem bg_o (σ : Hs) (a b c : Int32) {o : Nat} (h : ¬ (o = 73 ∨ o = 74)) : bgS σ a b c o = σ o := by
  unfold bgS
  rw [rep_ne (by omega), rep_ne (by omega)]
theorem bg_73 (σ : Hs) (a b c : Int32) : bgS σ a b c 73 = upd (upd (upd (upd (σ 73) 2 a) 3 b) 4 c) 1 0 := by
  unfold bgS
  rw [rep_ne (by omega), rep_self]
theorem bg_74 (σ : Hs) (a b c : Int32) : bgS σ a b c 74 = upd (σ 74) 1 0 := by
  unfold bgS
  rw [rep_self]
theorem bg_vc (σ : Hs) (a b c : Int32) : bgS σ a b c = vcS (bgS σ a b c) [] false := by
  refine vc_ext ?_ ?_ rfl (fun o ho => rfl)
  · rw [bg_73, show pI false = 0 from rfl, upd_upd]
  · rw [bg_74, show szI [] = 0 from rfl, upd_upd]
def mbS (ρ : Hs) (b : Int32) : Hs := rep ρ 87 (upd (upd (upd (ρ 87) 19 0) 20 b) 21 0)
theorem mb_87 (ρ : Hs) (b : Int32) : mbS ρ b 87 = upd (upd (upd (ρ 87) 19 0) 20 b) 21 0 := rep_self _ _ _
theorem mb_o (ρ : Hs) (b : Int32) {o : Nat} (h : o ≠ 87) : mbS ρ b o = ρ o := rep_ne h
theorem mb_vm (ρ : Hs) (b : Int32) : mbS ρ b = vmS (mbS ρ b) [] false := by
  refine vm_ext ?_ rfl (fun o ho => rfl)
  rw [mb_87, show pI false = 0 from rfl, show szI [] = 0 from rfl, upd_sw (upd (upd (ρ 87) 19 0) 20 b) (show 21 ≠ 19 by omega), upd_upd, upd_sw (upd (ρ 87) 19 0) (show 20 ≠ 19 by omega), upd_upd]
/-- the joint run -/
theorem V_run {σ : Hs} {p kd a : Nat} {st x : Int32} (hp : p < 30) (hkd : kd < 7) (ha : a < 4) (hk : ofT (σ 88) p 1 = nI kd) (hs : ofT (σ 88) p 2 = st) (ρ : Hs) (h88 : ρ 88 = σ 88) : ∃ v L2 p2, (∀ d, callD (d + 98) 55 [.ref 73, .int (nI kd), .int (nI a), .int x, .int 0] (bgS σ (nI kd) (nI p) st) = some (some (.int v), vcS (bgS σ (nI kd) (nI p) st) L2 p2)) ∧ (∀ d, callD (d + 99) 198 [.ref 87, .int (nI a), .int x] (mbS ρ (nI p)) = some (some (.int v), vmS (mbS ρ (nI p)) L2 p2)) := by
  have h20 : mbS ρ (nI p) 87 20 = nI p := by rw [mb_87, upd_at, if_neg (by omega), upd_at, if_pos rfl]
  have e88 : mbS ρ (nI p) 88 = σ 88 := (mb_o _ _ (by omega)).trans h88
  have hv : VCx (bgS σ (nI kd) (nI p) st) (mbS ρ (nI p)) kd p st := by
    refine ⟨?_, ?_, ?_, h20, by rw [e88]; exact hk, by rw [e88]; exact hs, hp, hkd⟩
    · rw [bg_73, upd_at, if_neg (by omega), upd_at, if_neg (by omega), upd_at, if_neg (by omega), upd_at, if_pos rfl]
    · rw [bg_73, upd_at, if_neg (by omega), upd_at, if_neg (by omega), upd_at, if_pos rfl]
    · rw [bg_73, upd_at, if_neg (by omega), upd_at, if_pos rfl]
  obtain ⟨v, L2, p2, hc, hm⟩ := BQ_all hv 28 kd a hkd ha (by omega) x [] false
  rw [← bg_vc, ← mb_vm] at *
  refine ⟨v, L2, p2, fun d => ?_, fun d => ?_⟩
  · exact hc (d + 95) 0 (by omega) (by omega)
  · exact m_voiced (D := d + 95) hp h20 (by rw [e88]; exact hk) (hm (d + 93) (by omega))
theorem RR.voi {i : Nat} {σ σ2 : Hs} (h : RR i σ) (f : ∀ o, ¬ (o = 73 ∨ o = 74 ∨ o = 75 ∨ o = 85 ∨ o = 87 ∨ o = 91 ∨ o = 99) → σ2 o = σ o) (hE : ERr σ2) (hV : VRr σ2) (f3 : σ2 87 3 = σ 87 3) (hW : WB σ2) : RR (i + 1) σ2 := by
  have e88 : σ2 88 = σ 88 := f 88 (by omega)
  obtain ⟨a1, a2, a3, a4, -, -, a7, a8, -⟩ := h
  refine ⟨?_, ?_, ?_, a4.fr (by omega) (fun o ho => f o (by omega)) f3, hE, hV, a7.fr (fun o ho => f o (by omega)), a8.fr (fun o ho => f o (by omega)), hW⟩
  · rw [e88]; exact a1.fr (fun o o1 o2 => f o (by omega))
  · rw [e88]; exact a2
  · rw [e88]; exact a3.mono (by omega)
theorem pI_inj {p q : Bool} (h : pI p = pI q) : p = q := by
  cases p <;> cases q <;> first | rfl | exact absurd h (by decide)
theorem L_voice {i : Nat} {σ : Hs} (h : RR i σ) (d : Nat) (y w x : Int32) : Step d i 87 201 [.int y, .int w, .int x] σ := by
  by_cases hy : 0 ≤ y ∧ y ≤ 29
  · have hyt := eq_true hy
    by_cases hw : 0 ≤ w ∧ w ≤ 3
    · have hwt := eq_true hw
      obtain ⟨p, hp, rfl⟩ := plc_n hy
      obtain ⟨a, -, ha, rfl⟩ := within_n (a := 0) (b := 3) hw rfl rfl (by omega) (by omega)
      have p31 : p < 2147483648 := by omega
      have ei := h2_has (d + 98) p hp σ (σ 88) h.hr h.wi.P
      by_cases hi : isT (σ 88) p
      · obtain ⟨kd, ek, lk⟩ := h.wi.n hp hi 1 (by omega) (by omega)
        have lk : kd < 7 := lk
        have g1 : σ 3 p = ofT (σ 88) p 1 := h.hr.f hp hi 1 (by omega) (by omega)
        have g2 : σ 4 p = ofT (σ 88) p 2 := h.hr.f hp hi 2 (by omega) (by omega)
        have vr := fun ρ h88 => V_run (σ := σ) (a := a) (x := x) hp lk (by omega) ek rfl ρ h88
        obtain ⟨v, L2, p2, hc, -⟩ := vr σ rfl
        have hp2 := vc_p (bgS σ (nI kd) (nI p) (ofT (σ 88) p 2)) L2 p2
        have hc0 := k_answerOf (d + 98) σ _ (nI kd) (nI p) (ofT (σ 88) p 2) (nI a) x v (hc d)
        have cl : ∀ R, (callD (d + 100) 87 [.ref 0, .int (nI p), .int (nI a), .int x] σ = R) ↔ ((if p2 = true then some (some (.int (-1000006)), erC (vcS (bgS σ (nI kd) (nI p) (ofT (σ 88) p 2)) L2 p2) 6) else some (some (.int v), vcS (bgS σ (nI kd) (nI p) (ofT (σ 88) p 2)) L2 p2)) = R) := by
          intro R
          cases p2 with
          | true =>
            have hp2 : vcS (bgS σ (nI kd) (nI p) (ofT (σ 88) p 2)) L2 true 73 1 = 1 := hp2
            simp only [c87, s87_0, s87_1, s87_4, s87_7, s87_8, s87_9, s87_10, s87_13, s87_16, s87_17, s87_18_o0, s87_21, s87_22, s87_23_o0, s87_26_o1, s87_29, s87_30_o2, s87_33, s87_36, s87_37, s87_38_o0, s87_41, s87_42, s87_43_o0, s87_46, s87_47_o0, s87_50_o1, s87_53_o2, s87_56, s87_57_o3, s87_58, s87_59, s87_60_o0, s87_63_o1, s87_66_o2, s87_69, s87_70_o4, s87_71, s87_72, s87_73_o73, s87_76, s87_78, s87_79_o0, s87_82_o73, s87_85, s87_88, s87_89, s87_91_o0, s87_94, s87_97, s87_99, k_isPlace, k_within, lt_le30, hyt, hwt, b2_t, ei, b2_T hi, vp_nI hp, cl_nI p31, g1, g2, ek, hc0, hp2, k_failed_6, simprocAttr, if_true, if_false, true_and, and_true, false_and, and_false, not_false_eq_true, not_true_eq_false, gd_T, kont_i, kont_v]
          | false =>
            have hp2 : vcS (bgS σ (nI kd) (nI p) (ofT (σ 88) p 2)) L2 false 73 1 = 0 := hp2
            simp only [c87, s87_0, s87_1, s87_4, s87_7, s87_8, s87_9, s87_10, s87_13, s87_16, s87_17, s87_18_o0, s87_21, s87_22, s87_23_o0, s87_26_o1, s87_29, s87_30_o2, s87_33, s87_36, s87_37, s87_38_o0, s87_41, s87_42, s87_43_o0, s87_46, s87_47_o0, s87_50_o1, s87_53_o2, s87_56, s87_57_o3, s87_58, s87_59, s87_60_o0, s87_63_o1, s87_66_o2, s87_69, s87_70_o4, s87_71, s87_72, s87_73_o73, s87_76, s87_78, s87_79_o0, s87_82_o73, s87_85, s87_88, s87_89, s87_91_o0, s87_94, s87_97, s87_99, k_isPlace, k_within, lt_le30, hyt, hwt, b2_t, ei, b2_T hi, vp_nI hp, cl_nI p31, g1, g2, ek, hc0, hp2, Bool.false_eq_true, simprocAttr, if_true, if_false, true_and, and_true, false_and, and_false, not_false_eq_true, not_true_eq_false, gd_T, kont_i, kont_v]
        cases p2 with
        | true =>
          have c1 := (cl _).mpr rfl
          rw [if_pos rfl] at c1
          obtain ⟨v', L3, p3, hc', hm'⟩ := vr (erC (vcS (bgS σ (nI kd) (nI p) (ofT (σ 88) p 2)) L2 true) 6) (by
            rw [show erC (vcS (bgS σ (nI kd) (nI p) (ofT (σ 88) p 2)) L2 true) 6 88 = vcS (bgS σ (nI kd) (nI p) (ofT (σ 88) p 2)) L2 true 88 from rep_ne (by omega), vc_o _ _ _ (by omega), bg_o _ _ _ _ (by omega)])
          have e1 := (hc 0).symm.trans (hc' 0)
          have e2 : vcS (bgS σ (nI kd) (nI p) (ofT (σ 88) p 2)) L2 true = vcS (bgS σ (nI kd) (nI p) (ofT (σ 88) p 2)) L3 p3 := by
            injection e1 with e1
            injection e1
          have e3 : p3 = true := by
            have := congrFun (congrFun e2 73) 1
            rw [vc_p, vc_p] at this
            exact (pI_inj this).symm
          subst e3
          rw [e2] at c1 hm'
          generalize hs1 : vcS (bgS σ (nI kd) (nI p) (ofT (σ 88) p 2)) L3 true = σ1 at c1 hm'
          have f88 : erC σ1 6 88 = σ 88 := by
            rw [← hs1, show erC (vcS (bgS σ (nI kd) (nI p) (ofT (σ 88) p 2)) L3 true) 6 88 = vcS (bgS σ (nI kd) (nI p) (ofT (σ 88) p 2)) L3 true 88 from rep_ne (by omega), vc_o _ _ _ (by omega), bg_o _ _ _ _ (by omega)]
          have hi1 : isT (erC σ1 6 88) p := by rw [f88]; exact hi
          have mp : vmS (mbS (erC σ1 6) (nI p)) L3 true 87 21 = 1 := vm_p _ _ _
          have c2 : callD (d + 100) 201 [.ref 87, .int (nI p), .int (nI a), .int x] (erC σ1 6) = some (some (.int (-1000006)), erM (vmS (mbS (erC σ1 6) (nI p)) L3 true) 6) := by
            have hm0 := hm' d
            unfold mbS at hm0 mp ⊢
            simp only [c201, s201_0, s201_1, s201_4, s201_7, s201_8, s201_9, s201_10, s201_13, s201_16, s201_17, s201_19_o87, s201_22, s201_23, s201_24, s201_25_o87, s201_28, s201_31, s201_32, s201_34_o87, s201_37, s201_38, s201_39, s201_40_o87, s201_43, s201_44, s201_45_o87, s201_48, s201_49, s201_50_o87, s201_53, s201_54, s201_55, s201_56_o87, s201_59, s201_61, s201_62_o87, s201_65, s201_68, s201_69, s201_72_o87, s201_75, s201_78, s201_80, m_isPlace, m_within, hyt, hwt, b2_t, m_is _ _ hp, b2_T hi1, up2_rep, rep_self, rep_rep, isB_0, hm0, mp, m_fin_6, simprocAttr, if_true, if_false, true_and, and_true, false_and, and_false, not_false_eq_true, not_true_eq_false, gd_T, kont_i, kont_v]
          have w2 := h.wb.two c1 c2
          refine ⟨_, _, _, c1, c2, h.voi (fun o ho => ?_) (fun j j1 j7 => ?_) ⟨min L3.length 30, by omega, ?_, ?_, fun k hk => ?_⟩ ?_ w2⟩
          · unfold erM
            rw [rep_ne (by omega), vm_o _ _ _ (by omega), mb_o _ _ (by omega)]
            unfold erC
            rw [rep_ne (by omega), ← hs1, vc_o _ _ _ (by omega), bg_o _ _ _ _ (by omega)]
          · unfold erM
            rw [rep_ne (by omega), rep_self, vm_o _ _ _ (by omega), mb_o _ _ (by omega), vm_o _ _ _ (by omega), mb_o _ _ (by omega)]
            unfold erC
            rw [rep_self, rep_ne (by omega), ← hs1, vc_o _ _ _ (by omega), bg_o _ _ _ _ (by omega), vc_o _ _ _ (by omega), bg_o _ _ _ _ (by omega), upd_at, upd_at, h.er j j1 j7]
            by_cases c : j = 6
            · rw [if_pos c, if_pos c, h.er 6 (by omega) (by omega)]
            · rw [if_neg c, if_neg c]
          · unfold erM
            rw [rep_ne (by omega), vm_o _ _ _ (by omega), mb_o _ _ (by omega)]
            unfold erC
            rw [rep_ne (by omega), ← hs1, vc_74, upd_at, if_pos rfl]
            rfl
          · unfold erM
            rw [rep_ne (by omega), vm_87, upd_at, if_neg (by omega), upd_at, if_pos rfl]
            rfl
          · unfold erM
            rw [rep_ne (by omega), rep_ne (by omega), vm_o _ _ _ (by omega), mb_o _ _ (by omega), vm_99]
            unfold erC
            rw [rep_ne (by omega), ← hs1, vc_75]
            exact flF_eq _ _ _ _ hk
          · unfold erM
            rw [rep_ne (by omega), vm_f _ _ _ (by omega) (by omega), mb_87, upd_at, if_neg (by omega), upd_at, if_neg (by omega), upd_at, if_neg (by omega)]
            unfold erC
            rw [rep_ne (by omega), ← hs1, vc_o _ _ _ (by omega), bg_o _ _ _ _ (by omega)]
        | false =>
          have c1 := (cl _).mpr rfl
          rw [if_neg (by decide)] at c1
          obtain ⟨v', L3, p3, hc', hm'⟩ := vr (vcS (bgS σ (nI kd) (nI p) (ofT (σ 88) p 2)) L2 false) (by
            rw [vc_o _ _ _ (by omega), bg_o _ _ _ _ (by omega)])
          have e1 := (hc 0).symm.trans (hc' 0)
          have e2 : vcS (bgS σ (nI kd) (nI p) (ofT (σ 88) p 2)) L2 false = vcS (bgS σ (nI kd) (nI p) (ofT (σ 88) p 2)) L3 p3 := by
            injection e1 with e1
            injection e1
          have e4 : v = v' := by
            injection e1 with e1
            injection e1 with e1
            injection e1 with e1
            injection e1
          have e3 : p3 = false := by
            have := congrFun (congrFun e2 73) 1
            rw [vc_p, vc_p] at this
            exact (pI_inj this).symm
          subst e3
          subst e4
          rw [e2] at c1 hm'
          generalize hs1 : vcS (bgS σ (nI kd) (nI p) (ofT (σ 88) p 2)) L3 false = σ1 at c1 hm'
          have f88 : σ1 88 = σ 88 := by
            rw [← hs1, vc_o _ _ _ (by omega), bg_o _ _ _ _ (by omega)]
          have hi1 : isT (σ1 88) p := by rw [f88]; exact hi
          have mp : vmS (mbS σ1 (nI p)) L3 false 87 21 = 0 := vm_p _ _ _
          have c2 : callD (d + 100) 201 [.ref 87, .int (nI p), .int (nI a), .int x] σ1 = some (some (.int v), vmS (mbS σ1 (nI p)) L3 false) := by
            have hm0 := hm' d
            unfold mbS at hm0 mp ⊢
            simp only [c201, s201_0, s201_1, s201_4, s201_7, s201_8, s201_9, s201_10, s201_13, s201_16, s201_17, s201_19_o87, s201_22, s201_23, s201_24, s201_25_o87, s201_28, s201_31, s201_32, s201_34_o87, s201_37, s201_38, s201_39, s201_40_o87, s201_43, s201_44, s201_45_o87, s201_48, s201_49, s201_50_o87, s201_53, s201_54, s201_55, s201_56_o87, s201_59, s201_61, s201_62_o87, s201_65, s201_68, s201_69, s201_72_o87, s201_75, s201_78, s201_80, m_isPlace, m_within, hyt, hwt, b2_t, m_is _ _ hp, b2_T hi1, up2_rep, rep_self, rep_rep, isB_0, hm0, mp, simprocAttr, if_true, if_false, true_and, and_true, false_and, and_false, not_false_eq_true, not_true_eq_false, gd_T, kont_i, kont_v]
          have w2 := h.wb.two c1 c2
          refine ⟨_, _, _, c1, c2, h.voi (fun o ho => ?_) (h.er.fr ?_ ?_) ⟨min L3.length 30, by omega, ?_, ?_, fun k hk => ?_⟩ ?_ w2⟩
          · rw [vm_o _ _ _ (by omega), mb_o _ _ (by omega), ← hs1, vc_o _ _ _ (by omega), bg_o _ _ _ _ (by omega)]
          · rw [vm_o _ _ _ (by omega), mb_o _ _ (by omega), ← hs1, vc_o _ _ _ (by omega), bg_o _ _ _ _ (by omega)]
          · rw [vm_o _ _ _ (by omega), mb_o _ _ (by omega), ← hs1, vc_o _ _ _ (by omega), bg_o _ _ _ _ (by omega)]
          · rw [vm_o _ _ _ (by omega), mb_o _ _ (by omega), ← hs1, vc_74, upd_at, if_pos rfl]
            rfl
          · rw [vm_87, upd_at, if_neg (by omega), upd_at, if_pos rfl]
            rfl
          · rw [vm_o _ _ _ (by omega), mb_o _ _ (by omega), vm_99, ← hs1, vc_75]
            exact flF_eq _ _ _ _ hk
          · rw [vm_f _ _ _ (by omega) (by omega), mb_87, upd_at, if_neg (by omega), upd_at, if_neg (by omega), upd_at, if_neg (by omega), ← hs1, vc_o _ _ _ (by omega), bg_o _ _ _ _ (by omega)]
      · refine Step_err h 2 (v := -1000002) ?_ ?_
        · simp only [c87, s87_0, s87_1, s87_4, s87_7, s87_8, s87_9, s87_10, s87_13, s87_16, s87_17, s87_18_o0, s87_21, s87_22, s87_23_o0, s87_26_o1, s87_29, s87_30_o2, s87_33, s87_36, s87_37, s87_38_o0, s87_41, s87_42, s87_43_o0, s87_46, s87_47_o0, s87_50_o1, s87_53_o2, s87_56, s87_57_o3, s87_58, s87_59, s87_60_o0, s87_63_o1, s87_66_o2, s87_69, s87_70_o4, s87_71, s87_72, s87_73_o73, s87_76, s87_78, s87_79_o0, s87_82_o73, s87_85, s87_88, s87_89, s87_91_o0, s87_94, s87_97, s87_99, k_isPlace, k_within, lt_le30, hyt, hwt, b2_t, ei, b2_F hi, k_failed_2, simprocAttr, if_true, if_false, true_and, and_true, false_and, and_false, not_false_eq_true, not_true_eq_false, gd_T, kont_i, kont_v]
        · have hi1 : ¬ isT (erC σ 2 88) p := by rw [show erC σ 2 88 = σ 88 from rep_ne (by omega)]; exact hi
          simp only [c201, s201_0, s201_1, s201_4, s201_7, s201_8, s201_9, s201_10, s201_13, s201_16, s201_17, s201_19_o87, s201_22, s201_23, s201_24, s201_25_o87, s201_28, s201_31, s201_32, s201_34_o87, s201_37, s201_38, s201_39, s201_40_o87, s201_43, s201_44, s201_45_o87, s201_48, s201_49, s201_50_o87, s201_53, s201_54, s201_55, s201_56_o87, s201_59, s201_61, s201_62_o87, s201_65, s201_68, s201_69, s201_72_o87, s201_75, s201_78, s201_80, m_isPlace, m_within, hyt, hwt, b2_t, m_is _ _ hp, b2_F hi1, m_fin_2, simprocAttr, if_true, if_false, true_and, and_true, false_and, and_false, not_false_eq_true, not_true_eq_false, gd_T, kont_i, kont_v]
    · have hwf := eq_false hw
      refine Step_err h 1 (v := -1000001) ?_ ?_
      · simp only [c87, s87_0, s87_1, s87_4, s87_7, s87_8, s87_9, s87_10, s87_13, s87_16, s87_17, s87_18_o0, s87_21, s87_22, s87_23_o0, s87_26_o1, s87_29, s87_30_o2, s87_33, s87_36, s87_37, s87_38_o0, s87_41, s87_42, s87_43_o0, s87_46, s87_47_o0, s87_50_o1, s87_53_o2, s87_56, s87_57_o3, s87_58, s87_59, s87_60_o0, s87_63_o1, s87_66_o2, s87_69, s87_70_o4, s87_71, s87_72, s87_73_o73, s87_76, s87_78, s87_79_o0, s87_82_o73, s87_85, s87_88, s87_89, s87_91_o0, s87_94, s87_97, s87_99, k_isPlace, k_within, lt_le30, hyt, hwf, b2_t, b2_f, k_failed_1, simprocAttr, if_true, if_false, true_and, and_true, false_and, and_false, not_false_eq_true, not_true_eq_false, gd_T, kont_i, kont_v]
      · simp only [c201, s201_0, s201_1, s201_4, s201_7, s201_8, s201_9, s201_10, s201_13, s201_16, s201_17, s201_19_o87, s201_22, s201_23, s201_24, s201_25_o87, s201_28, s201_31, s201_32, s201_34_o87, s201_37, s201_38, s201_39, s201_40_o87, s201_43, s201_44, s201_45_o87, s201_48, s201_49, s201_50_o87, s201_53, s201_54, s201_55, s201_56_o87, s201_59, s201_61, s201_62_o87, s201_65, s201_68, s201_69, s201_72_o87, s201_75, s201_78, s201_80, m_isPlace, m_within, hyt, hwf, b2_t, b2_f, m_fin_1, simprocAttr, if_true, if_false, true_and, and_true, false_and, and_false, not_false_eq_true, not_true_eq_false, gd_T, kont_i, kont_v]
  · have hyf := nplc hy
    refine Step_err h 1 (v := -1000001) ?_ ?_
    · simp only [c87, s87_0, s87_1, s87_4, s87_7, s87_8, s87_9, s87_10, s87_13, s87_16, s87_17, s87_18_o0, s87_21, s87_22, s87_23_o0, s87_26_o1, s87_29, s87_30_o2, s87_33, s87_36, s87_37, s87_38_o0, s87_41, s87_42, s87_43_o0, s87_46, s87_47_o0, s87_50_o1, s87_53_o2, s87_56, s87_57_o3, s87_58, s87_59, s87_60_o0, s87_63_o1, s87_66_o2, s87_69, s87_70_o4, s87_71, s87_72, s87_73_o73, s87_76, s87_78, s87_79_o0, s87_82_o73, s87_85, s87_88, s87_89, s87_91_o0, s87_94, s87_97, s87_99, k_isPlace, k_within, lt_le30, hyf, b2_f, k_failed_1, simprocAttr, if_true, if_false, true_and, and_true, false_and, and_false, not_false_eq_true, not_true_eq_false, gd_T, kont_i, kont_v]
    · simp only [c201, s201_0, s201_1, s201_4, s201_7, s201_8, s201_9, s201_10, s201_13, s201_16, s201_17, s201_19_o87, s201_22, s201_23, s201_24, s201_25_o87, s201_28, s201_31, s201_32, s201_34_o87, s201_37, s201_38, s201_39, s201_40_o87, s201_43, s201_44, s201_45_o87, s201_48, s201_49, s201_50_o87, s201_53, s201_54, s201_55, s201_56_o87, s201_59, s201_61, s201_62_o87, s201_65, s201_68, s201_69, s201_72_o87, s201_75, s201_78, s201_80, m_isPlace, m_within, hyf, b2_f, m_fin_1, simprocAttr, if_true, if_false, true_and, and_true, false_and, and_false, not_false_eq_true, not_true_eq_false, gd_T, kont_i, kont_v]
