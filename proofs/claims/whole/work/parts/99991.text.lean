/-! ===== the call: text, both runs ===== -/
theorem L_text_0 {i : Nat} {σ : Hs} (h : RR i σ) (d : Nat) : Step d i 68 154 [.int 0] σ := by
  obtain ⟨n, n60, h1, hr⟩ := h.sr.2.2.1
  have hr : RW 22 n σ (fun k => σ 88 (275 + k)) := hr
  have hb := h.ti.2.1 n n60 h1
  obtain ⟨B, hB⟩ : ∃ B : Nat → Nat, ∀ k, k < n → B k < 256 ∧ σ 88 (275 + k) = nI (B k) := ⟨fun k => (σ 88 (275 + k)).toNatClampNeg, fun k hk => by
    obtain ⟨c, lc, ec⟩ := hb k hk
    show (σ 88 (275 + k)).toNatClampNeg < 256 ∧ σ 88 (275 + k) = nI (σ 88 (275 + k)).toNatClampNeg
    rw [ec, cl_nI (by omega)]
    exact ⟨lc, rfl⟩⟩
  have tc : TPc (txC σ 111) n B := ⟨n60, txC_1 σ _, by rw [txC_o _ _ (by omega)]; exact hr.1, fun k hk => ⟨(hB k hk).1, by rw [txC_o _ _ (by omega)]; exact (hr.2 k hk).trans (hB k hk).2⟩⟩
  have run : ∀ τ : Hs, τ 88 = σ 88 → PRz (txC σ 111) (txM τ 0) n 0 0 [] [] (callD (d + 98) 38 [.ref 70, .int 0, .int (nI 0)] (rcS (txC σ 111) 0 [] false)) (callD (d + 99) 147 [.ref 87] (rmS (txM τ 0) 0 [] false 0)) := fun τ e => text_all tc ⟨n60, by rw [txM_o _ _ (by omega), e]; exact h1, fun k hk => ⟨(hB k hk).1, by rw [txM_o _ _ (by omega), e]; exact (hB k hk).2⟩⟩ (NMz_0 (txC_2 σ _) (txM_u τ _)) d
  have cls : ∃ a X w, a ≤ n ∧ (w = false → X.length ≤ 60) ∧ callD (d + 98) 38 [.ref 70, .int 0, .int (nI 0)] (rcS (txC σ 111) 0 [] false) = some (none, rcS (txC σ 111) a X w) := by
    rcases run σ rfl with ⟨a2, C, x1, x2, x3, x4, x5, x6⟩ | ⟨a2, X, Y, x1, x2, x5, x6⟩
    · exact ⟨a2, _, false, x2, fun _ => by rw [List.append_nil, List.length_map]; omega, x5⟩
    · exact ⟨a2, X, true, x2, (fun q => absurd q (by decide)), x5⟩
  obtain ⟨a, X, w, ha, hX, x5⟩ := cls
  have ee : ∀ a, a ≠ 1 → (a < 275 ∨ 335 ≤ a) → upd (σ 88) 1 0 a = σ 88 a := fun a q _ => by rw [upd_at, if_neg q]
  have e1 : upd (σ 88) 1 0 1 = nI 0 := by rw [upd_at, if_pos rfl]; rfl
  have fz : ∀ o, o ≠ 22 → ¬ (o = 70 ∨ o = 71 ∨ o = 72) → txZ (rcS (txC σ 111) a X w) o = σ o := fun o o1 o2 => by
    unfold txZ
    rw [rep_ne o1, rc_o _ _ _ _ o2, txC_o _ _ (by omega)]
  have fz22 : txZ (rcS (txC σ 111) a X w) 22 1 = nI 0 := by
    unfold txZ
    rw [rep_self, upd_at, if_pos rfl]; rfl
  by_cases hbad : w = true ∨ a < n
  · have c1 := k_text_0 d σ n a X w n60 ha hr.1 x5 hbad
    generalize hs1 : txZ (rcS (txC σ 111) a X w) = σ1 at c1 fz fz22
    have e88 : σ1 88 = σ 88 := fz 88 (by omega) (by omega)
    have res : ∃ Y, callD (d + 99) 147 [.ref 87] (rmS (txM σ1 0) 0 [] false 0) = some (none, rmS (txM σ1 0) a Y w 0) := by
      rcases run σ1 e88 with ⟨a2, C, y1, y2, y3, y4, y5, y6⟩ | ⟨a2, X2, Y, y1, y2, y5, y6⟩
      · have e := x5.symm.trans y5
        injection e with e
        injection e with e0 e
        obtain ⟨q1, q2, -⟩ := rcS_inj e (by omega) (by omega)
        rw [q1, q2]
        exact ⟨_, y6⟩
      · have e := x5.symm.trans y5
        injection e with e
        injection e with e0 e
        obtain ⟨q1, q2, -⟩ := rcS_inj e (by omega) (by omega)
        rw [q1, q2]
        exact ⟨_, y6⟩
    obtain ⟨Y, x6⟩ := res
    have c2 := m_text_0 d σ1 n a Y w n60 ha (by rw [e88]; exact h1) x6 hbad
    rw [e88] at c2
    have f2 : ∀ o, o ≠ 88 → ¬ (o = 87 ∨ o = 96) → rep (rmS (txM σ1 0) a Y true 0) 88 (upd (σ 88) 1 0) o = σ1 o := fun o o1 o2 => by
      rw [rep_ne o1, rm_o _ _ _ _ _ o2, txM_o _ _ (by omega)]
    have f87 : ∀ k, (k < 9 ∨ 14 < k) → rep (rmS (txM σ1 0) a Y true 0) 88 (upd (σ 88) 1 0) 87 k = σ 87 k := fun k hk => by
      rw [rep_ne (by omega), rm_87, upd_at, if_neg (by omega), upd_at, if_neg (by omega), upd_at, if_neg (by omega), upd_at, if_neg (by omega)]
      unfold txM
      rw [rep_self, upd_at, if_neg (by omega), fz 87 (by omega) (by omega)]
    refine ⟨_, _, _, c1, c2, h.row (rep_self _ _ _) (h.sr.tape (n := 0) (by omega) e1 ⟨?_, fun k hk => absurd hk (by omega)⟩ (fun o ho => ?_) ee) (h.ti.tape (n := 0) (by omega) e1 (fun k hk => absurd hk (by omega)) ee) (fun a ha => ee a (by omega) (by omega)) (h.wb.two c1 c2) (fun o ho => ?_) (f87 3 (by omega)) (f87 19 (by omega))⟩
    · rw [f2 22 (by omega) (by omega)]; exact fz22
    · rw [f2 o (by omega) (by omega)]; exact fz o (by omega) (by omega)
    · unfold kpO at ho
      rw [f2 o (by omega) (by omega)]; exact fz o (by omega) (by omega)
  · have na : n ≤ a := Nat.le_of_not_lt (fun q => hbad (Or.inr q))
    cases w with
    | true => exact absurd (Or.inl rfl) hbad
    | false =>
      have hX := hX rfl
      have r71 : RW 71 X.length (txZ (rcS (txC σ 111) a X false)) (fl6 (σ 72) X) := by
        refine ⟨?_, fun k _ => ?_⟩
        · unfold txZ
          rw [rep_ne (by omega), rc_71, upd_at, if_pos rfl, sz6, Nat.min_eq_left hX]
        · show txZ (rcS (txC σ 111) a X false) 72 k = _
          unfold txZ
          rw [rep_ne (by omega), rc_72, txC_o _ _ (by omega)]
      obtain ⟨σ1, hcp, rc1, fcp⟩ := r16_copy_71 (d + 98) X.length hX _ _ r71
      have c1 := k_textg_0 d σ σ1 n a X n60 ha hr.1 x5 na hcp
      have e88 : σ1 88 = σ 88 := (fcp 88 (by omega) (by omega)).trans (fz 88 (by omega) (by omega))
      have res : ∃ C, C.length = X.length ∧ (∀ k, k < C.length → fl6 (σ 72) X k = enI (fl6 (σ1 96) C k)) ∧ wfC C ∧ callD (d + 99) 147 [.ref 87] (rmS (txM σ1 0) 0 [] false 0) = some (none, rmS (txM σ1 0) a C false 0) := by
        rcases run σ1 e88 with ⟨a2, C, y1, y2, y3, y4, y5, y6⟩ | ⟨a2, X2, Y, y1, y2, y5, y6⟩
        · have e := x5.symm.trans y5
          injection e with e
          injection e with e0 e
          obtain ⟨q1, -, q3⟩ := rcS_inj e (by omega) (by omega)
          have e72 := congrFun e 72
          rw [List.append_nil] at q3 e72 y6
          rw [rc_72, rc_72, txC_o _ _ (by omega)] at e72
          have hl := sz6_inj q3 hX (by rw [List.length_map]; omega)
          rw [List.length_map] at hl
          refine ⟨C, hl.symm, fun k hk => ?_, y4, ?_⟩
          · rw [e72]
            exact fl6_map _ _ C (by omega) k hk
          · rw [q1]
            exact y6
        · have e := x5.symm.trans y5
          injection e with e
          injection e with e0 e
          obtain ⟨-, q2, -⟩ := rcS_inj e (by omega) (by omega)
          cases q2
      obtain ⟨C, lC, hv, wC, x6⟩ := res
      have lC60 : C.length ≤ 60 := by omega
      have c2 := m_textg_0 d σ1 n a C lC60 n60 ha (by rw [e88]; exact h1) x6 na
      rw [e88] at c2
      obtain ⟨T', hT'⟩ : ∃ T', T' = cbF (fl6 (σ1 96) C) (upd (upd (σ 88) 1 0) 359 (nI C.length)) 360 C.length := ⟨_, rfl⟩
      rw [← hT'] at c2
      obtain ⟨σ2, hσ2⟩ : ∃ σ2, σ2 = rep (rmS (txM σ1 0) a C false 0) 88 T' := ⟨_, rfl⟩
      rw [← hσ2] at c2
      have f2 : ∀ o, o ≠ 88 → ¬ (o = 87 ∨ o = 96) → σ2 o = σ1 o := fun o o1 o2 => by
        rw [hσ2, rep_ne o1, rm_o _ _ _ _ _ o2, txM_o _ _ (by omega)]
      have f12 : ∀ o, o ≠ 16 → o ≠ 17 → o ≠ 22 → ¬ (o = 70 ∨ o = 71 ∨ o = 72) → o ≠ 88 → ¬ (o = 87 ∨ o = 96) → σ2 o = σ o := fun o o1 o2 o3 o4 o5 o6 => (f2 o o5 o6).trans ((fcp o o1 o2).trans (fz o o3 o4))
      have f87 : ∀ k, (k < 9 ∨ 14 < k) → σ2 87 k = σ 87 k := fun k hk => by
        rw [hσ2, rep_ne (by omega), rm_87, upd_at, if_neg (by omega), upd_at, if_neg (by omega), upd_at, if_neg (by omega), upd_at, if_neg (by omega)]
        unfold txM
        rw [rep_self, upd_at, if_neg (by omega), fcp 87 (by omega) (by omega), fz 87 (by omega) (by omega)]
      have tlow : ∀ j, j < 359 → T' j = upd (σ 88) 1 0 j := fun j hj => by
        rw [hT']
        unfold cbF
        rw [if_neg (by omega), upd_at, if_neg (by omega)]
      have tout : ∀ j, 359 ≤ j → (j < 359 ∨ 421 ≤ j) → T' j = upd (σ 88) 1 0 j := fun j _ hj => by
        rw [hT']
        unfold cbF
        rw [if_neg (by omega), upd_at, if_neg (by omega)]
      have tcnt : T' 359 = nI C.length := by
        rw [hT']
        unfold cbF
        rw [if_neg (by omega), upd_at, if_pos rfl]
      have tval : ∀ k, k < C.length → T' (360 + k) = fl6 (σ1 96) C k := fun k hk => by
        rw [hT']
        unfold cbF
        rw [if_pos (by omega), Nat.add_sub_cancel_left]
      have srz : SR 1 (txZ (rcS (txC σ 111) a X false)) (upd (σ 88) 1 0) := h.sr.tape (n := 0) (by omega) e1 ⟨fz22, fun k hk => absurd hk (by omega)⟩ (fun o ho => fz o (by omega) (by omega)) ee
      have tiz : TI (upd (σ 88) 1 0) := h.ti.tape (n := 0) (by omega) e1 (fun k hk => absurd hk (by omega)) ee
      have lq : LQ 16 σ2 T' := by
        refine LQ_1 (u := 0) (cnt := C.length) (by omega) srz.2.1 lC60 tcnt ⟨?_, fun k hk => ?_⟩ (fun o o1 o2 o3 o4 => ?_) tout
        · show σ2 16 1 = _
          rw [f2 16 (by omega) (by omega), rc1.1, lC]
        · show σ2 17 k = enI (T' (360 + k))
          rw [f2 17 (by omega) (by omega), tval k hk, ← hv k hk]
          exact rc1.2 k (by omega)
        · rw [f2 o (by omega) (by omega)]
          exact fcp o (by omega) (by omega)
      have lw : LWT T' 0 := by
        refine ⟨C.length, lC60, tcnt, Or.inr ?_⟩
        have q := cdL_eq C.reverse T' 360 (fun k hk => by
          rw [List.length_reverse] at hk
          rw [tval k hk]
          exact fl6_rev _ C lC60 k hk)
        rw [List.length_reverse] at q
        show wfV (cdL T' 360 C.length) 0
        rw [q]
        have z := wC [] 0 rfl
        rwa [List.append_nil] at z
      refine ⟨_, _, _, c1, c2, h.row (T' := T') (by rw [hσ2]; exact rep_self _ _ _) (srz.law lq (fun o ho => ?_) tlow) (tiz.law (LWT_1 (u := 0) tiz.L lw (by omega) tout) tlow) (fun a ha => ?_) (h.wb.two c1 c2) (fun o ho => ?_) (f87 3 (by omega)) (f87 19 (by omega))⟩
      · rw [f2 o (by omega) (by omega)]
        exact fcp o (by omega) (by omega)
      · rw [tlow a (by omega)]
        exact ee a (by omega) (by omega)
      · unfold kpO at ho
        exact f12 o (by omega) (by omega) (by omega) (by omega) (by omega) (by omega)
theorem L_text_1 {i : Nat} {σ : Hs} (h : RR i σ) (d : Nat) : Step d i 68 154 [.int 1] σ := by
  obtain ⟨n, n60, h1, hr⟩ := h.sr.2.2.1
  have hr : RW 22 n σ (fun k => σ 88 (275 + k)) := hr
  have hb := h.ti.2.1 n n60 h1
  obtain ⟨B, hB⟩ : ∃ B : Nat → Nat, ∀ k, k < n → B k < 256 ∧ σ 88 (275 + k) = nI (B k) := ⟨fun k => (σ 88 (275 + k)).toNatClampNeg, fun k hk => by
    obtain ⟨c, lc, ec⟩ := hb k hk
    show (σ 88 (275 + k)).toNatClampNeg < 256 ∧ σ 88 (275 + k) = nI (σ 88 (275 + k)).toNatClampNeg
    rw [ec, cl_nI (by omega)]
    exact ⟨lc, rfl⟩⟩
  have tc : TPc (txC σ 112) n B := ⟨n60, txC_1 σ _, by rw [txC_o _ _ (by omega)]; exact hr.1, fun k hk => ⟨(hB k hk).1, by rw [txC_o _ _ (by omega)]; exact (hr.2 k hk).trans (hB k hk).2⟩⟩
  have run : ∀ τ : Hs, τ 88 = σ 88 → PRz (txC σ 112) (txM τ 1) n 0 0 [] [] (callD (d + 98) 38 [.ref 70, .int 0, .int (nI 0)] (rcS (txC σ 112) 0 [] false)) (callD (d + 99) 147 [.ref 87] (rmS (txM τ 1) 0 [] false 0)) := fun τ e => text_all tc ⟨n60, by rw [txM_o _ _ (by omega), e]; exact h1, fun k hk => ⟨(hB k hk).1, by rw [txM_o _ _ (by omega), e]; exact (hB k hk).2⟩⟩ (NMz_1 (txC_2 σ _) (txM_u τ _)) d
  have cls : ∃ a X w, a ≤ n ∧ (w = false → X.length ≤ 60) ∧ callD (d + 98) 38 [.ref 70, .int 0, .int (nI 0)] (rcS (txC σ 112) 0 [] false) = some (none, rcS (txC σ 112) a X w) := by
    rcases run σ rfl with ⟨a2, C, x1, x2, x3, x4, x5, x6⟩ | ⟨a2, X, Y, x1, x2, x5, x6⟩
    · exact ⟨a2, _, false, x2, fun _ => by rw [List.append_nil, List.length_map]; omega, x5⟩
    · exact ⟨a2, X, true, x2, (fun q => absurd q (by decide)), x5⟩
  obtain ⟨a, X, w, ha, hX, x5⟩ := cls
  have ee : ∀ a, a ≠ 1 → (a < 275 ∨ 335 ≤ a) → upd (σ 88) 1 0 a = σ 88 a := fun a q _ => by rw [upd_at, if_neg q]
  have e1 : upd (σ 88) 1 0 1 = nI 0 := by rw [upd_at, if_pos rfl]; rfl
  have fz : ∀ o, o ≠ 22 → ¬ (o = 70 ∨ o = 71 ∨ o = 72) → txZ (rcS (txC σ 112) a X w) o = σ o := fun o o1 o2 => by
    unfold txZ
    rw [rep_ne o1, rc_o _ _ _ _ o2, txC_o _ _ (by omega)]
  have fz22 : txZ (rcS (txC σ 112) a X w) 22 1 = nI 0 := by
    unfold txZ
    rw [rep_self, upd_at, if_pos rfl]; rfl
  by_cases hbad : w = true ∨ a < n
  · have c1 := k_text_1 d σ n a X w n60 ha hr.1 x5 hbad
    generalize hs1 : txZ (rcS (txC σ 112) a X w) = σ1 at c1 fz fz22
    have e88 : σ1 88 = σ 88 := fz 88 (by omega) (by omega)
    have res : ∃ Y, callD (d + 99) 147 [.ref 87] (rmS (txM σ1 1) 0 [] false 0) = some (none, rmS (txM σ1 1) a Y w 0) := by
      rcases run σ1 e88 with ⟨a2, C, y1, y2, y3, y4, y5, y6⟩ | ⟨a2, X2, Y, y1, y2, y5, y6⟩
      · have e := x5.symm.trans y5
        injection e with e
        injection e with e0 e
        obtain ⟨q1, q2, -⟩ := rcS_inj e (by omega) (by omega)
        rw [q1, q2]
        exact ⟨_, y6⟩
      · have e := x5.symm.trans y5
        injection e with e
        injection e with e0 e
        obtain ⟨q1, q2, -⟩ := rcS_inj e (by omega) (by omega)
        rw [q1, q2]
        exact ⟨_, y6⟩
    obtain ⟨Y, x6⟩ := res
    have c2 := m_text_1 d σ1 n a Y w n60 ha (by rw [e88]; exact h1) x6 hbad
    rw [e88] at c2
    have f2 : ∀ o, o ≠ 88 → ¬ (o = 87 ∨ o = 96) → rep (rmS (txM σ1 1) a Y true 0) 88 (upd (σ 88) 1 0) o = σ1 o := fun o o1 o2 => by
      rw [rep_ne o1, rm_o _ _ _ _ _ o2, txM_o _ _ (by omega)]
    have f87 : ∀ k, (k < 9 ∨ 14 < k) → rep (rmS (txM σ1 1) a Y true 0) 88 (upd (σ 88) 1 0) 87 k = σ 87 k := fun k hk => by
      rw [rep_ne (by omega), rm_87, upd_at, if_neg (by omega), upd_at, if_neg (by omega), upd_at, if_neg (by omega), upd_at, if_neg (by omega)]
      unfold txM
      rw [rep_self, upd_at, if_neg (by omega), fz 87 (by omega) (by omega)]
    refine ⟨_, _, _, c1, c2, h.row (rep_self _ _ _) (h.sr.tape (n := 0) (by omega) e1 ⟨?_, fun k hk => absurd hk (by omega)⟩ (fun o ho => ?_) ee) (h.ti.tape (n := 0) (by omega) e1 (fun k hk => absurd hk (by omega)) ee) (fun a ha => ee a (by omega) (by omega)) (h.wb.two c1 c2) (fun o ho => ?_) (f87 3 (by omega)) (f87 19 (by omega))⟩
    · rw [f2 22 (by omega) (by omega)]; exact fz22
    · rw [f2 o (by omega) (by omega)]; exact fz o (by omega) (by omega)
    · unfold kpO at ho
      rw [f2 o (by omega) (by omega)]; exact fz o (by omega) (by omega)
  · have na : n ≤ a := Nat.le_of_not_lt (fun q => hbad (Or.inr q))
    cases w with
    | true => exact absurd (Or.inl rfl) hbad
    | false =>
      have hX := hX rfl
      have r71 : RW 71 X.length (txZ (rcS (txC σ 112) a X false)) (fl6 (σ 72) X) := by
        refine ⟨?_, fun k _ => ?_⟩
        · unfold txZ
          rw [rep_ne (by omega), rc_71, upd_at, if_pos rfl, sz6, Nat.min_eq_left hX]
        · show txZ (rcS (txC σ 112) a X false) 72 k = _
          unfold txZ
          rw [rep_ne (by omega), rc_72, txC_o _ _ (by omega)]
      obtain ⟨σ1, hcp, rc1, fcp⟩ := r18_copy_71 (d + 98) X.length hX _ _ r71
      have c1 := k_textg_1 d σ σ1 n a X n60 ha hr.1 x5 na hcp
      have e88 : σ1 88 = σ 88 := (fcp 88 (by omega) (by omega)).trans (fz 88 (by omega) (by omega))
      have res : ∃ C, C.length = X.length ∧ (∀ k, k < C.length → fl6 (σ 72) X k = enI (fl6 (σ1 96) C k)) ∧ wfC C ∧ callD (d + 99) 147 [.ref 87] (rmS (txM σ1 1) 0 [] false 0) = some (none, rmS (txM σ1 1) a C false 0) := by
        rcases run σ1 e88 with ⟨a2, C, y1, y2, y3, y4, y5, y6⟩ | ⟨a2, X2, Y, y1, y2, y5, y6⟩
        · have e := x5.symm.trans y5
          injection e with e
          injection e with e0 e
          obtain ⟨q1, -, q3⟩ := rcS_inj e (by omega) (by omega)
          have e72 := congrFun e 72
          rw [List.append_nil] at q3 e72 y6
          rw [rc_72, rc_72, txC_o _ _ (by omega)] at e72
          have hl := sz6_inj q3 hX (by rw [List.length_map]; omega)
          rw [List.length_map] at hl
          refine ⟨C, hl.symm, fun k hk => ?_, y4, ?_⟩
          · rw [e72]
            exact fl6_map _ _ C (by omega) k hk
          · rw [q1]
            exact y6
        · have e := x5.symm.trans y5
          injection e with e
          injection e with e0 e
          obtain ⟨-, q2, -⟩ := rcS_inj e (by omega) (by omega)
          cases q2
      obtain ⟨C, lC, hv, wC, x6⟩ := res
      have lC60 : C.length ≤ 60 := by omega
      have c2 := m_textg_1 d σ1 n a C lC60 n60 ha (by rw [e88]; exact h1) x6 na
      rw [e88] at c2
      obtain ⟨T', hT'⟩ : ∃ T', T' = cbF (fl6 (σ1 96) C) (upd (upd (σ 88) 1 0) 421 (nI C.length)) 422 C.length := ⟨_, rfl⟩
      rw [← hT'] at c2
      obtain ⟨σ2, hσ2⟩ : ∃ σ2, σ2 = rep (rmS (txM σ1 1) a C false 0) 88 T' := ⟨_, rfl⟩
      rw [← hσ2] at c2
      have f2 : ∀ o, o ≠ 88 → ¬ (o = 87 ∨ o = 96) → σ2 o = σ1 o := fun o o1 o2 => by
        rw [hσ2, rep_ne o1, rm_o _ _ _ _ _ o2, txM_o _ _ (by omega)]
      have f12 : ∀ o, o ≠ 18 → o ≠ 19 → o ≠ 22 → ¬ (o = 70 ∨ o = 71 ∨ o = 72) → o ≠ 88 → ¬ (o = 87 ∨ o = 96) → σ2 o = σ o := fun o o1 o2 o3 o4 o5 o6 => (f2 o o5 o6).trans ((fcp o o1 o2).trans (fz o o3 o4))
      have f87 : ∀ k, (k < 9 ∨ 14 < k) → σ2 87 k = σ 87 k := fun k hk => by
        rw [hσ2, rep_ne (by omega), rm_87, upd_at, if_neg (by omega), upd_at, if_neg (by omega), upd_at, if_neg (by omega), upd_at, if_neg (by omega)]
        unfold txM
        rw [rep_self, upd_at, if_neg (by omega), fcp 87 (by omega) (by omega), fz 87 (by omega) (by omega)]
      have tlow : ∀ j, j < 359 → T' j = upd (σ 88) 1 0 j := fun j hj => by
        rw [hT']
        unfold cbF
        rw [if_neg (by omega), upd_at, if_neg (by omega)]
      have tout : ∀ j, 359 ≤ j → (j < 421 ∨ 483 ≤ j) → T' j = upd (σ 88) 1 0 j := fun j _ hj => by
        rw [hT']
        unfold cbF
        rw [if_neg (by omega), upd_at, if_neg (by omega)]
      have tcnt : T' 421 = nI C.length := by
        rw [hT']
        unfold cbF
        rw [if_neg (by omega), upd_at, if_pos rfl]
      have tval : ∀ k, k < C.length → T' (422 + k) = fl6 (σ1 96) C k := fun k hk => by
        rw [hT']
        unfold cbF
        rw [if_pos (by omega), Nat.add_sub_cancel_left]
      have srz : SR 1 (txZ (rcS (txC σ 112) a X false)) (upd (σ 88) 1 0) := h.sr.tape (n := 0) (by omega) e1 ⟨fz22, fun k hk => absurd hk (by omega)⟩ (fun o ho => fz o (by omega) (by omega)) ee
      have tiz : TI (upd (σ 88) 1 0) := h.ti.tape (n := 0) (by omega) e1 (fun k hk => absurd hk (by omega)) ee
      have lq : LQ 16 σ2 T' := by
        refine LQ_1 (u := 1) (cnt := C.length) (by omega) srz.2.1 lC60 tcnt ⟨?_, fun k hk => ?_⟩ (fun o o1 o2 o3 o4 => ?_) tout
        · show σ2 18 1 = _
          rw [f2 18 (by omega) (by omega), rc1.1, lC]
        · show σ2 19 k = enI (T' (422 + k))
          rw [f2 19 (by omega) (by omega), tval k hk, ← hv k hk]
          exact rc1.2 k (by omega)
        · rw [f2 o (by omega) (by omega)]
          exact fcp o (by omega) (by omega)
      have lw : LWT T' 1 := by
        refine ⟨C.length, lC60, tcnt, Or.inr ?_⟩
        have q := cdL_eq C.reverse T' 422 (fun k hk => by
          rw [List.length_reverse] at hk
          rw [tval k hk]
          exact fl6_rev _ C lC60 k hk)
        rw [List.length_reverse] at q
        show wfV (cdL T' 422 C.length) 0
        rw [q]
        have z := wC [] 0 rfl
        rwa [List.append_nil] at z
      refine ⟨_, _, _, c1, c2, h.row (T' := T') (by rw [hσ2]; exact rep_self _ _ _) (srz.law lq (fun o ho => ?_) tlow) (tiz.law (LWT_1 (u := 1) tiz.L lw (by omega) tout) tlow) (fun a ha => ?_) (h.wb.two c1 c2) (fun o ho => ?_) (f87 3 (by omega)) (f87 19 (by omega))⟩
      · rw [f2 o (by omega) (by omega)]
        exact fcp o (by omega) (by omega)
      · rw [tlow a (by omega)]
        exact ee a (by omega) (by omega)
      · unfold kpO at ho
        exact f12 o (by omega) (by omega) (by omega) (by omega) (by omega) (by omega)
theorem L_text_2 {i : Nat} {σ : Hs} (h : RR i σ) (d : Nat) : Step d i 68 154 [.int 2] σ := by
  obtain ⟨n, n60, h1, hr⟩ := h.sr.2.2.1
  have hr : RW 22 n σ (fun k => σ 88 (275 + k)) := hr
  have hb := h.ti.2.1 n n60 h1
  obtain ⟨B, hB⟩ : ∃ B : Nat → Nat, ∀ k, k < n → B k < 256 ∧ σ 88 (275 + k) = nI (B k) := ⟨fun k => (σ 88 (275 + k)).toNatClampNeg, fun k hk => by
    obtain ⟨c, lc, ec⟩ := hb k hk
    show (σ 88 (275 + k)).toNatClampNeg < 256 ∧ σ 88 (275 + k) = nI (σ 88 (275 + k)).toNatClampNeg
    rw [ec, cl_nI (by omega)]
    exact ⟨lc, rfl⟩⟩
  have tc : TPc (txC σ 113) n B := ⟨n60, txC_1 σ _, by rw [txC_o _ _ (by omega)]; exact hr.1, fun k hk => ⟨(hB k hk).1, by rw [txC_o _ _ (by omega)]; exact (hr.2 k hk).trans (hB k hk).2⟩⟩
  have run : ∀ τ : Hs, τ 88 = σ 88 → PRz (txC σ 113) (txM τ 2) n 0 0 [] [] (callD (d + 98) 38 [.ref 70, .int 0, .int (nI 0)] (rcS (txC σ 113) 0 [] false)) (callD (d + 99) 147 [.ref 87] (rmS (txM τ 2) 0 [] false 0)) := fun τ e => text_all tc ⟨n60, by rw [txM_o _ _ (by omega), e]; exact h1, fun k hk => ⟨(hB k hk).1, by rw [txM_o _ _ (by omega), e]; exact (hB k hk).2⟩⟩ (NMz_2 (txC_2 σ _) (txM_u τ _)) d
  have cls : ∃ a X w, a ≤ n ∧ (w = false → X.length ≤ 60) ∧ callD (d + 98) 38 [.ref 70, .int 0, .int (nI 0)] (rcS (txC σ 113) 0 [] false) = some (none, rcS (txC σ 113) a X w) := by
    rcases run σ rfl with ⟨a2, C, x1, x2, x3, x4, x5, x6⟩ | ⟨a2, X, Y, x1, x2, x5, x6⟩
    · exact ⟨a2, _, false, x2, fun _ => by rw [List.append_nil, List.length_map]; omega, x5⟩
    · exact ⟨a2, X, true, x2, (fun q => absurd q (by decide)), x5⟩
  obtain ⟨a, X, w, ha, hX, x5⟩ := cls
  have ee : ∀ a, a ≠ 1 → (a < 275 ∨ 335 ≤ a) → upd (σ 88) 1 0 a = σ 88 a := fun a q _ => by rw [upd_at, if_neg q]
  have e1 : upd (σ 88) 1 0 1 = nI 0 := by rw [upd_at, if_pos rfl]; rfl
  have fz : ∀ o, o ≠ 22 → ¬ (o = 70 ∨ o = 71 ∨ o = 72) → txZ (rcS (txC σ 113) a X w) o = σ o := fun o o1 o2 => by
    unfold txZ
    rw [rep_ne o1, rc_o _ _ _ _ o2, txC_o _ _ (by omega)]
  have fz22 : txZ (rcS (txC σ 113) a X w) 22 1 = nI 0 := by
    unfold txZ
    rw [rep_self, upd_at, if_pos rfl]; rfl
  by_cases hbad : w = true ∨ a < n
  · have c1 := k_text_2 d σ n a X w n60 ha hr.1 x5 hbad
    generalize hs1 : txZ (rcS (txC σ 113) a X w) = σ1 at c1 fz fz22
    have e88 : σ1 88 = σ 88 := fz 88 (by omega) (by omega)
    have res : ∃ Y, callD (d + 99) 147 [.ref 87] (rmS (txM σ1 2) 0 [] false 0) = some (none, rmS (txM σ1 2) a Y w 0) := by
      rcases run σ1 e88 with ⟨a2, C, y1, y2, y3, y4, y5, y6⟩ | ⟨a2, X2, Y, y1, y2, y5, y6⟩
      · have e := x5.symm.trans y5
        injection e with e
        injection e with e0 e
        obtain ⟨q1, q2, -⟩ := rcS_inj e (by omega) (by omega)
        rw [q1, q2]
        exact ⟨_, y6⟩
      · have e := x5.symm.trans y5
        injection e with e
        injection e with e0 e
        obtain ⟨q1, q2, -⟩ := rcS_inj e (by omega) (by omega)
        rw [q1, q2]
        exact ⟨_, y6⟩
    obtain ⟨Y, x6⟩ := res
    have c2 := m_text_2 d σ1 n a Y w n60 ha (by rw [e88]; exact h1) x6 hbad
    rw [e88] at c2
    have f2 : ∀ o, o ≠ 88 → ¬ (o = 87 ∨ o = 96) → rep (rmS (txM σ1 2) a Y true 0) 88 (upd (σ 88) 1 0) o = σ1 o := fun o o1 o2 => by
      rw [rep_ne o1, rm_o _ _ _ _ _ o2, txM_o _ _ (by omega)]
    have f87 : ∀ k, (k < 9 ∨ 14 < k) → rep (rmS (txM σ1 2) a Y true 0) 88 (upd (σ 88) 1 0) 87 k = σ 87 k := fun k hk => by
      rw [rep_ne (by omega), rm_87, upd_at, if_neg (by omega), upd_at, if_neg (by omega), upd_at, if_neg (by omega), upd_at, if_neg (by omega)]
      unfold txM
      rw [rep_self, upd_at, if_neg (by omega), fz 87 (by omega) (by omega)]
    refine ⟨_, _, _, c1, c2, h.row (rep_self _ _ _) (h.sr.tape (n := 0) (by omega) e1 ⟨?_, fun k hk => absurd hk (by omega)⟩ (fun o ho => ?_) ee) (h.ti.tape (n := 0) (by omega) e1 (fun k hk => absurd hk (by omega)) ee) (fun a ha => ee a (by omega) (by omega)) (h.wb.two c1 c2) (fun o ho => ?_) (f87 3 (by omega)) (f87 19 (by omega))⟩
    · rw [f2 22 (by omega) (by omega)]; exact fz22
    · rw [f2 o (by omega) (by omega)]; exact fz o (by omega) (by omega)
    · unfold kpO at ho
      rw [f2 o (by omega) (by omega)]; exact fz o (by omega) (by omega)
  · have na : n ≤ a := Nat.le_of_not_lt (fun q => hbad (Or.inr q))
    cases w with
    | true => exact absurd (Or.inl rfl) hbad
    | false =>
      have hX := hX rfl
      have r71 : RW 71 X.length (txZ (rcS (txC σ 113) a X false)) (fl6 (σ 72) X) := by
        refine ⟨?_, fun k _ => ?_⟩
        · unfold txZ
          rw [rep_ne (by omega), rc_71, upd_at, if_pos rfl, sz6, Nat.min_eq_left hX]
        · show txZ (rcS (txC σ 113) a X false) 72 k = _
          unfold txZ
          rw [rep_ne (by omega), rc_72, txC_o _ _ (by omega)]
      obtain ⟨σ1, hcp, rc1, fcp⟩ := r20_copy_71 (d + 98) X.length hX _ _ r71
      have c1 := k_textg_2 d σ σ1 n a X n60 ha hr.1 x5 na hcp
      have e88 : σ1 88 = σ 88 := (fcp 88 (by omega) (by omega)).trans (fz 88 (by omega) (by omega))
      have res : ∃ C, C.length = X.length ∧ (∀ k, k < C.length → fl6 (σ 72) X k = enI (fl6 (σ1 96) C k)) ∧ wfC C ∧ callD (d + 99) 147 [.ref 87] (rmS (txM σ1 2) 0 [] false 0) = some (none, rmS (txM σ1 2) a C false 0) := by
        rcases run σ1 e88 with ⟨a2, C, y1, y2, y3, y4, y5, y6⟩ | ⟨a2, X2, Y, y1, y2, y5, y6⟩
        · have e := x5.symm.trans y5
          injection e with e
          injection e with e0 e
          obtain ⟨q1, -, q3⟩ := rcS_inj e (by omega) (by omega)
          have e72 := congrFun e 72
          rw [List.append_nil] at q3 e72 y6
          rw [rc_72, rc_72, txC_o _ _ (by omega)] at e72
          have hl := sz6_inj q3 hX (by rw [List.length_map]; omega)
          rw [List.length_map] at hl
          refine ⟨C, hl.symm, fun k hk => ?_, y4, ?_⟩
          · rw [e72]
            exact fl6_map _ _ C (by omega) k hk
          · rw [q1]
            exact y6
        · have e := x5.symm.trans y5
          injection e with e
          injection e with e0 e
          obtain ⟨-, q2, -⟩ := rcS_inj e (by omega) (by omega)
          cases q2
      obtain ⟨C, lC, hv, wC, x6⟩ := res
      have lC60 : C.length ≤ 60 := by omega
      have c2 := m_textg_2 d σ1 n a C lC60 n60 ha (by rw [e88]; exact h1) x6 na
      rw [e88] at c2
      obtain ⟨T', hT'⟩ : ∃ T', T' = cbF (fl6 (σ1 96) C) (upd (upd (σ 88) 1 0) 483 (nI C.length)) 484 C.length := ⟨_, rfl⟩
      rw [← hT'] at c2
      obtain ⟨σ2, hσ2⟩ : ∃ σ2, σ2 = rep (rmS (txM σ1 2) a C false 0) 88 T' := ⟨_, rfl⟩
      rw [← hσ2] at c2
      have f2 : ∀ o, o ≠ 88 → ¬ (o = 87 ∨ o = 96) → σ2 o = σ1 o := fun o o1 o2 => by
        rw [hσ2, rep_ne o1, rm_o _ _ _ _ _ o2, txM_o _ _ (by omega)]
      have f12 : ∀ o, o ≠ 20 → o ≠ 21 → o ≠ 22 → ¬ (o = 70 ∨ o = 71 ∨ o = 72) → o ≠ 88 → ¬ (o = 87 ∨ o = 96) → σ2 o = σ o := fun o o1 o2 o3 o4 o5 o6 => (f2 o o5 o6).trans ((fcp o o1 o2).trans (fz o o3 o4))
      have f87 : ∀ k, (k < 9 ∨ 14 < k) → σ2 87 k = σ 87 k := fun k hk => by
        rw [hσ2, rep_ne (by omega), rm_87, upd_at, if_neg (by omega), upd_at, if_neg (by omega), upd_at, if_neg (by omega), upd_at, if_neg (by omega)]
        unfold txM
        rw [rep_self, upd_at, if_neg (by omega), fcp 87 (by omega) (by omega), fz 87 (by omega) (by omega)]
      have tlow : ∀ j, j < 359 → T' j = upd (σ 88) 1 0 j := fun j hj => by
        rw [hT']
        unfold cbF
        rw [if_neg (by omega), upd_at, if_neg (by omega)]
      have tout : ∀ j, 359 ≤ j → (j < 483 ∨ 545 ≤ j) → T' j = upd (σ 88) 1 0 j := fun j _ hj => by
        rw [hT']
        unfold cbF
        rw [if_neg (by omega), upd_at, if_neg (by omega)]
      have tcnt : T' 483 = nI C.length := by
        rw [hT']
        unfold cbF
        rw [if_neg (by omega), upd_at, if_pos rfl]
      have tval : ∀ k, k < C.length → T' (484 + k) = fl6 (σ1 96) C k := fun k hk => by
        rw [hT']
        unfold cbF
        rw [if_pos (by omega), Nat.add_sub_cancel_left]
      have srz : SR 1 (txZ (rcS (txC σ 113) a X false)) (upd (σ 88) 1 0) := h.sr.tape (n := 0) (by omega) e1 ⟨fz22, fun k hk => absurd hk (by omega)⟩ (fun o ho => fz o (by omega) (by omega)) ee
      have tiz : TI (upd (σ 88) 1 0) := h.ti.tape (n := 0) (by omega) e1 (fun k hk => absurd hk (by omega)) ee
      have lq : LQ 16 σ2 T' := by
        refine LQ_1 (u := 2) (cnt := C.length) (by omega) srz.2.1 lC60 tcnt ⟨?_, fun k hk => ?_⟩ (fun o o1 o2 o3 o4 => ?_) tout
        · show σ2 20 1 = _
          rw [f2 20 (by omega) (by omega), rc1.1, lC]
        · show σ2 21 k = enI (T' (484 + k))
          rw [f2 21 (by omega) (by omega), tval k hk, ← hv k hk]
          exact rc1.2 k (by omega)
        · rw [f2 o (by omega) (by omega)]
          exact fcp o (by omega) (by omega)
      have lw : LWT T' 2 := by
        refine ⟨C.length, lC60, tcnt, Or.inr ?_⟩
        have q := cdL_eq C.reverse T' 484 (fun k hk => by
          rw [List.length_reverse] at hk
          rw [tval k hk]
          exact fl6_rev _ C lC60 k hk)
        rw [List.length_reverse] at q
        show wfV (cdL T' 484 C.length) 0
        rw [q]
        have z := wC [] 0 rfl
        rwa [List.append_nil] at z
      refine ⟨_, _, _, c1, c2, h.row (T' := T') (by rw [hσ2]; exact rep_self _ _ _) (srz.law lq (fun o ho => ?_) tlow) (tiz.law (LWT_1 (u := 2) tiz.L lw (by omega) tout) tlow) (fun a ha => ?_) (h.wb.two c1 c2) (fun o ho => ?_) (f87 3 (by omega)) (f87 19 (by omega))⟩
      · rw [f2 o (by omega) (by omega)]
        exact fcp o (by omega) (by omega)
      · rw [tlow a (by omega)]
        exact ee a (by omega) (by omega)
      · unfold kpO at ho
        exact f12 o (by omega) (by omega) (by omega) (by omega) (by omega) (by omega)
theorem L_text {i : Nat} {σ : Hs} (h : RR i σ) (d : Nat) (v : Int32) : Step d i 68 154 [.int v] σ := by
  by_cases hv : 0 ≤ v ∧ v ≤ 2
  · obtain ⟨u, -, lu, rfl⟩ := within_n (a := 0) (b := 2) hv rfl rfl (by omega) (by omega)
    have hu : u = 0 ∨ u = 1 ∨ u = 2 := by omega
    rcases hu with rfl | rfl | rfl
    · exact L_text_0 h d
    · exact L_text_1 h d
    · exact L_text_2 h d
  · have hvf := eq_false hv
    refine Step_err h 1 (v := -1000001) ?_ ?_
    · simp only [c68, s68_0, s68_1, s68_4, s68_7, s68_8, s68_9_o0, s68_12, s68_13, s68_14_o0, s68_17, s68_18_o0, s68_21_o1, s68_24, s68_25_o70, s68_28, s68_29, s68_30_o0, s68_33_o1, s68_36, s68_37_o22, s68_40, s68_41, s68_42, s68_45, s68_47, s68_48, s68_49, s68_50, s68_51_o0, s68_54_o1, s68_57_o13, s68_60, s68_61_o14, s68_62, s68_63_o0, s68_66_o70, s68_69_o16, s68_69_o18, s68_69_o20, s68_72, s68_73, k_isUse, hvf, b2_f, k_failed_1, simprocAttr, if_true, if_false, true_and, and_true, false_and, and_false, not_false_eq_true, not_true_eq_false, gd_T, kont_i, kont_v]
    · simp only [c154, s154_0, s154_1, s154_2, s154_3, s154_6, s154_9, s154_10, s154_12_o87, s154_15, s154_16, s154_17, s154_18_o87, s154_21, s154_22, s154_23_o87, s154_26, s154_27, s154_28_o87, s154_31, s154_32, s154_33_o87, s154_36, s154_37, s154_38_o87, s154_41, s154_42_o87, s154_45, s154_46, s154_47_o87, s154_50, s154_53, s154_54_o87, s154_57, s154_58_o87, s154_61, s154_62_o88, s154_63, s154_66, s154_67, s154_70, s154_71_o87, s154_74, s154_75_o87, s154_78, s154_79, s154_80_o88, s154_81, s154_82_o87, s154_85, s154_88, s154_90, s154_91_o87, s154_94, s154_95, s154_96, s154_97_o87, s154_100, s154_103, s154_105, s154_106_o87, s154_109, s154_110, s154_111, s154_112_o87, s154_115_o88, s154_116, s154_117, s154_119, s154_120_o87, s154_123, s154_126, s154_127_o87, s154_130, s154_133, s154_135, s154_136_o87, s154_139, s154_140, s154_141, s154_142, s154_143, s154_144, s154_145, s154_146_o87, s154_149, s154_150_o96, s154_151_o88, s154_152, s154_155, s154_158, s154_159, m_within, hvf, b2_f, m_fin_1, simprocAttr, if_true, if_false, true_and, and_true, false_and, and_false, not_false_eq_true, not_true_eq_false, gd_T, kont_i, kont_v]
