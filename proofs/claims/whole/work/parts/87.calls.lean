/-! ===== the calls: report, untell, check ===== -/
theorem L_report {i : Nat} {σ : Hs} (h : RR i σ) (d : Nat) (v w : Int32) : Step d i 84 191 [.int v, .int w] σ := by
  by_cases hv : 0 ≤ v ∧ v ≤ 8
  · have hvt := eq_true hv
    by_cases hw : 0 ≤ w ∧ w ≤ 3
    · have hwt := eq_true hw
      obtain ⟨n, n1, n2, n3, n4⟩ := h.sr.2.2.2.1
      have n3 : RW 24 n σ (fun k => σ 88 (251 + 2 * k)) := n3
      have n4 : RW 26 n σ (fun k => σ 88 (252 + 2 * k)) := n4
      by_cases c : n = 12
      · subst c
        refine Step_err h 4 (v := -1000004) ?_ ?_
        · have e : (nI 12 < 12) = False := eq_false (fun q => Int32.lt_irrefl q)
          simp only [c84, s84_0, s84_1, s84_4, s84_7, s84_8, s84_9, s84_10, s84_13, s84_16, s84_17, s84_18_o0, s84_21, s84_22, s84_23_o0, s84_26_o1, s84_29_o24, s84_32, s84_33, s84_34, s84_36, s84_39, s84_40, s84_41_o0, s84_44, s84_45, s84_46_o0, s84_49_o1, s84_52, s84_53_o24, s84_56, s84_57, s84_58_o0, s84_61_o1, s84_64, s84_65_o26, s84_68, s84_69, s84_70, k_isGarden, k_within, lt_le9, hvt, hwt, b2_t, n3.1, e, k_failed_4, simprocAttr, if_true, if_false, true_and, and_true, false_and, and_false, not_false_eq_true, not_true_eq_false, gd_T, kont_i, kont_v]
        · have e : erC σ 4 88 13 = nI 12 := by rw [show erC σ 4 88 = σ 88 from rep_ne (by omega)]; exact n2
          simp only [c191, s191_0, s191_1, s191_4, s191_7, s191_8, s191_9, s191_10, s191_13, s191_16, s191_17, s191_19_o87, s191_22, s191_23, s191_24_o87, s191_27, s191_29_o88, s191_30, s191_31, s191_32, s191_34, s191_37, s191_38, s191_40_o87, s191_43, s191_44, s191_45_o87, s191_48, s191_51, s191_52, s191_53, s191_54, s191_55, s191_56_o88, s191_57, s191_58_o87, s191_61, s191_64, s191_65, s191_66, s191_67, s191_68, s191_69, s191_70, s191_71_o88, s191_72, s191_73_o87, s191_76, s191_78, s191_79_o88, s191_80, s191_81, s191_82_o88, s191_83, s191_84, m_isGarden, m_within, hvt, hwt, b2_t, vp_lit, e, show (nI 12 = 12) = True from eq_true rfl, m_fin_4, simprocAttr, if_true, if_false, true_and, and_true, false_and, and_false, not_false_eq_true, not_true_eq_false, gd_T, kont_i, kont_v]
      · have l12 : n < 12 := by omega
        have n31 : n < 2147483648 := by omega
        obtain ⟨g, -, lg, rfl⟩ := within_n (a := 0) (b := 8) hv rfl rfl (by omega) (by omega)
        obtain ⟨y, -, ly, rfl⟩ := within_n (a := 0) (b := 3) hw rfl rfl (by omega) (by omega)
        have e : (nI n < 12) = True := by rw [show (12 : Int32) = nI 12 from rfl, lt_nn n31 (by omega)]; exact eq_true l12
        have a1 := r24_add (d + 98) n l12 (nI g) σ n3.1
        obtain ⟨σ1, hσ1⟩ : ∃ σ1, σ1 = rep (rep σ 25 (upd (σ 25) n (nI g))) 24 (upd (σ 24) 1 (nI (n + 1))) := ⟨_, rfl⟩
        rw [← hσ1] at a1
        have f1 : ∀ o, o ≠ 24 → o ≠ 25 → σ1 o = σ o := fun o o1 o2 => by rw [hσ1, rep_ne o1, rep_ne o2]
        have w1 : RW 24 (n + 1) σ1 (upd (fun k => σ 88 (251 + 2 * k)) n (nI g)) := by rw [hσ1]; exact n3.add
        have n4' : RW 26 n σ1 (fun k => σ 88 (252 + 2 * k)) := n4.fr (fun o o1 o2 => f1 o (by omega) (by omega))
        have a2 := r26_add (d + 98) n l12 (nI y) σ1 n4'.1
        obtain ⟨σ2, hσ2⟩ : ∃ σ2, σ2 = rep (rep σ1 27 (upd (σ1 27) n (nI y))) 26 (upd (σ1 26) 1 (nI (n + 1))) := ⟨_, rfl⟩
        rw [← hσ2] at a2
        have f2 : ∀ o, o ≠ 26 → o ≠ 27 → σ2 o = σ1 o := fun o o1 o2 => by rw [hσ2, rep_ne o1, rep_ne o2]
        have w2 : RW 26 (n + 1) σ2 (upd (fun k => σ 88 (252 + 2 * k)) n (nI y)) := by rw [hσ2]; exact n4'.add
        have ff : ∀ o, (o < 24 ∨ 27 < o) → σ2 o = σ o := fun o ho => (f2 o (by omega) (by omega)).trans (f1 o (by omega) (by omega))
        have c1 : callD (d + 100) 84 [.ref 0, .int (nI g), .int (nI y)] σ = some (some (.int (nI n)), σ2) := by
          simp only [c84, s84_0, s84_1, s84_4, s84_7, s84_8, s84_9, s84_10, s84_13, s84_16, s84_17, s84_18_o0, s84_21, s84_22, s84_23_o0, s84_26_o1, s84_29_o24, s84_32, s84_33, s84_34, s84_36, s84_39, s84_40, s84_41_o0, s84_44, s84_45, s84_46_o0, s84_49_o1, s84_52, s84_53_o24, s84_56, s84_57, s84_58_o0, s84_61_o1, s84_64, s84_65_o26, s84_68, s84_69, s84_70, k_isGarden, k_within, lt_le9, hvt, hwt, b2_t, n3.1, e, a1, a2, simprocAttr, if_true, if_false, true_and, and_true, false_and, and_false, not_false_eq_true, not_true_eq_false, gd_T, kont_i, kont_v]
        have e88 : σ2 88 = σ 88 := ff 88 (by omega)
        have ne : (nI n = 12) = False := by rw [show (12 : Int32) = nI 12 from rfl, eq_nn n31 (by omega)]; exact eq_false c
        have i1 : (251 : Int32) + 2 * nI n = nI (251 + 2 * n) := by rw [show (251 : Int32) = nI 251 from rfl, show (2 : Int32) = nI 2 from rfl, pk_mul, nI_add]
        have i2 : nI (251 + 2 * n) + 1 = nI (252 + 2 * n) := by rw [nI_1]; congr 1; omega
        have c2 : callD (d + 100) 191 [.ref 87, .int (nI g), .int (nI y)] σ2 = some (some (.int (nI n)), rep σ2 88 (upd (upd (upd (σ 88) (251 + 2 * n) (nI g)) (252 + 2 * n) (nI y)) 13 (nI (n + 1)))) := by
          simp only [c191, s191_0, s191_1, s191_4, s191_7, s191_8, s191_9, s191_10, s191_13, s191_16, s191_17, s191_19_o87, s191_22, s191_23, s191_24_o87, s191_27, s191_29_o88, s191_30, s191_31, s191_32, s191_34, s191_37, s191_38, s191_40_o87, s191_43, s191_44, s191_45_o87, s191_48, s191_51, s191_52, s191_53, s191_54, s191_55, s191_56_o88, s191_57, s191_58_o87, s191_61, s191_64, s191_65, s191_66, s191_67, s191_68, s191_69, s191_70, s191_71_o88, s191_72, s191_73_o87, s191_76, s191_78, s191_79_o88, s191_80, s191_81, s191_82_o88, s191_83, s191_84, m_isGarden, m_within, hvt, hwt, b2_t, vp_lit, e88, n2, ne, i1, i2, vp_nI (show 251 + 2 * n < 545 by omega), cl_nI (show 251 + 2 * n < 2147483648 by omega), vp_nI (show 252 + 2 * n < 545 by omega), cl_nI (show 252 + 2 * n < 2147483648 by omega), up2_rep, rep_self, rep_rep, upd_at, show (13 = 251 + 2 * n) = False from eq_false (by omega), show (13 = 252 + 2 * n) = False from eq_false (by omega), nI_1, simprocAttr, if_true, if_false, true_and, and_true, false_and, and_false, not_false_eq_true, not_true_eq_false, gd_T, kont_i, kont_v]
        obtain ⟨T', hT'⟩ : ∃ T', T' = upd (upd (upd (σ 88) (251 + 2 * n) (nI g)) (252 + 2 * n) (nI y)) 13 (nI (n + 1)) := ⟨_, rfl⟩
        rw [← hT'] at c2
        have ee : ∀ a, a ≠ 13 → a ≠ 251 + 2 * n → a ≠ 252 + 2 * n → T' a = σ 88 a := fun a a1 a2 a3 => by rw [hT', upd_at, if_neg a1, upd_at, if_neg a3, upd_at, if_neg a2]
        have t13 : T' 13 = nI (n + 1) := by rw [hT', upd_at, if_pos rfl]
        have tg : T' (251 + 2 * n) = nI g := by rw [hT', upd_at, if_neg (by omega), upd_at, if_neg (by omega), upd_at, if_pos rfl]
        have tw : T' (252 + 2 * n) = nI y := by rw [hT', upd_at, if_neg (by omega), upd_at, if_pos rfl]
        obtain ⟨s1, s2, ⟨t, t1, t2, t3⟩, -, ⟨q, q1, q2, q3⟩, s6⟩ := h.sr
        have TI' : TI T' := by
          obtain ⟨u1, u2, u3⟩ := h.ti
          refine ⟨u1.cg (fun a ha => ee a (by omega) (by omega) (by omega)), fun m hm em k hk => ?_, fun m hm em k hk => ?_⟩
          · rw [ee _ (by omega) (by omega) (by omega)] at em
            rw [ee _ (by omega) (by omega) (by omega)]; exact u2 m hm em k hk
          · have : m = n + 1 := by have := em.symm.trans t13; rwa [nI_eq (by omega) (by omega)] at this
            subst this
            by_cases ck : k = n
            · subst ck
              exact ⟨⟨g, by omega, tg⟩, y, by omega, tw⟩
            · rw [ee _ (by omega) (by omega) (by omega), ee _ (by omega) (by omega) (by omega)]
              exact u3 n n1 n2 k (by omega)
        have fo : ∀ o, (o < 24 ∨ 27 < o) → o ≠ 88 → rep σ2 88 T' o = σ o := fun o o1 o2 => (rep_ne o2).trans (ff o o1)
        refine ⟨_, _, _, c1, c2, h.row (rep_self _ _ _) ⟨?_, fun u hu cnt hc ec => ?_, ⟨t, t1, ?_, ?_⟩, ⟨n + 1, by omega, t13, ?_, ?_⟩, ⟨q, q1, ?_, ?_⟩, ?_⟩ TI' (fun a ha => ee a (by omega) (by omega) (by omega)) (h.wb.two c1 c2) (fun o ho => fo o (by unfold kpO at ho; omega) (by unfold kpO at ho; omega)) (by rw [fo 87 (by omega) (by omega)]) (by rw [fo 87 (by omega) (by omega)])⟩
        · exact (s1.fr (fun o o1 o2 => fo o (by omega) (by omega))).cg (fun a ha => ee a (by omega) (by omega) (by omega))
        · rw [ee _ (by omega) (by omega) (by omega)] at ec
          exact ((s2 u hu cnt hc ec).fr (σ' := rep σ2 88 T') (fun o o1 o2 => fo o (by omega) (by omega))).cg (fun j hj => congrArg enI (ee _ (by omega) (by omega) (by omega)))
        · rw [ee _ (by omega) (by omega) (by omega)]; exact t2
        · exact (t3.fr (σ' := rep σ2 88 T') (fun o o1 o2 => fo o (by omega) (by omega))).cg (fun j hj => ee _ (by omega) (by omega) (by omega))
        · refine (w1.fr (σ' := rep σ2 88 T') (fun o o1 o2 => (rep_ne (by omega)).trans (f2 o (by omega) (by omega)))).cg (fun k hk => ?_)
          simp only [upd_at]
          by_cases ck : k = n
          · rw [if_pos ck, ck]; exact tg
          · rw [if_neg ck]; exact ee _ (by omega) (by omega) (by omega)
        · refine (w2.fr (σ' := rep σ2 88 T') (fun o o1 o2 => rep_ne (by omega))).cg (fun k hk => ?_)
          simp only [upd_at]
          by_cases ck : k = n
          · rw [if_pos ck, ck]; exact tw
          · rw [if_neg ck]; exact ee _ (by omega) (by omega) (by omega)
        · rw [ee _ (by omega) (by omega) (by omega)]; exact q2
        · exact (q3.fr (σ' := rep σ2 88 T') (fun o o1 o2 => fo o (by omega) (by omega))).cg (fun j hj => ee _ (by omega) (by omega) (by omega))
        · rw [fo 1 (by omega) (by omega), ee _ (by omega) (by omega) (by omega)]; exact s6
    · have hwf := eq_false hw
      refine Step_err h 1 (v := -1000001) ?_ ?_
      · simp only [c84, s84_0, s84_1, s84_4, s84_7, s84_8, s84_9, s84_10, s84_13, s84_16, s84_17, s84_18_o0, s84_21, s84_22, s84_23_o0, s84_26_o1, s84_29_o24, s84_32, s84_33, s84_34, s84_36, s84_39, s84_40, s84_41_o0, s84_44, s84_45, s84_46_o0, s84_49_o1, s84_52, s84_53_o24, s84_56, s84_57, s84_58_o0, s84_61_o1, s84_64, s84_65_o26, s84_68, s84_69, s84_70, k_isGarden, k_within, lt_le9, hvt, hwf, b2_t, b2_f, k_failed_1, simprocAttr, if_true, if_false, true_and, and_true, false_and, and_false, not_false_eq_true, not_true_eq_false, gd_T, kont_i, kont_v]
      · simp only [c191, s191_0, s191_1, s191_4, s191_7, s191_8, s191_9, s191_10, s191_13, s191_16, s191_17, s191_19_o87, s191_22, s191_23, s191_24_o87, s191_27, s191_29_o88, s191_30, s191_31, s191_32, s191_34, s191_37, s191_38, s191_40_o87, s191_43, s191_44, s191_45_o87, s191_48, s191_51, s191_52, s191_53, s191_54, s191_55, s191_56_o88, s191_57, s191_58_o87, s191_61, s191_64, s191_65, s191_66, s191_67, s191_68, s191_69, s191_70, s191_71_o88, s191_72, s191_73_o87, s191_76, s191_78, s191_79_o88, s191_80, s191_81, s191_82_o88, s191_83, s191_84, m_isGarden, m_within, hvt, hwf, b2_t, b2_f, m_fin_1, simprocAttr, if_true, if_false, true_and, and_true, false_and, and_false, not_false_eq_true, not_true_eq_false, gd_T, kont_i, kont_v]
  · have hvf := eq_false hv
    refine Step_err h 1 (v := -1000001) ?_ ?_
    · simp only [c84, s84_0, s84_1, s84_4, s84_7, s84_8, s84_9, s84_10, s84_13, s84_16, s84_17, s84_18_o0, s84_21, s84_22, s84_23_o0, s84_26_o1, s84_29_o24, s84_32, s84_33, s84_34, s84_36, s84_39, s84_40, s84_41_o0, s84_44, s84_45, s84_46_o0, s84_49_o1, s84_52, s84_53_o24, s84_56, s84_57, s84_58_o0, s84_61_o1, s84_64, s84_65_o26, s84_68, s84_69, s84_70, k_isGarden, lt_le9, hvf, b2_f, k_failed_1, simprocAttr, if_true, if_false, true_and, and_true, false_and, and_false, not_false_eq_true, not_true_eq_false, gd_T, kont_i, kont_v]
    · simp only [c191, s191_0, s191_1, s191_4, s191_7, s191_8, s191_9, s191_10, s191_13, s191_16, s191_17, s191_19_o87, s191_22, s191_23, s191_24_o87, s191_27, s191_29_o88, s191_30, s191_31, s191_32, s191_34, s191_37, s191_38, s191_40_o87, s191_43, s191_44, s191_45_o87, s191_48, s191_51, s191_52, s191_53, s191_54, s191_55, s191_56_o88, s191_57, s191_58_o87, s191_61, s191_64, s191_65, s191_66, s191_67, s191_68, s191_69, s191_70, s191_71_o88, s191_72, s191_73_o87, s191_76, s191_78, s191_79_o88, s191_80, s191_81, s191_82_o88, s191_83, s191_84, m_isGarden, hvf, b2_f, m_fin_1, simprocAttr, if_true, if_false, true_and, and_true, false_and, and_false, not_false_eq_true, not_true_eq_false, gd_T, kont_i, kont_v]
theorem k_isUse (d : Nat) (v : Int32) (σ : Hs) : callD (d + 1) 105 [.int v] σ = some (some (.int (b2 (0 ≤ v ∧ v ≤ 2))), σ) := by
  simp only [c105, s105_0, s105_1, s105_4, s105_5, s105_6, s105_9, s105_10, s105_13, s105_14, isB_0, isB_1]
  have e : (3 ≤ v) = ¬ v ≤ 2 := by
    rw [Int32.le_iff_toInt_le, Int32.le_iff_toInt_le, show (3 : Int32).toInt = 3 from rfl, show (2 : Int32).toInt = 2 from rfl]
    exact propext ⟨fun q => by omega, fun q => by omega⟩
  by_cases h1 : v < 0
  · rw [if_pos h1, b2_F (fun h => Int32.not_le.mpr h1 h.1)]
  · rw [if_neg h1]
    by_cases h2 : v ≤ 2
    · rw [if_neg (by rw [e]; exact fun q => q h2), b2_T ⟨Int32.not_lt.mp h1, h2⟩]
    · rw [if_pos (by rw [e]; exact h2), b2_F (fun h => h2 h.2)]
theorem cdL_cg {T T' : Nat → Int32} : ∀ m a, (∀ j, a ≤ j → j < a + m → T' j = T j) → cdL T' a m = cdL T a m := by
  intro m
  induction m with
  | zero => intro a _; rfl
  | succ m ih =>
    intro a h
    rw [cdL, cdL, h a (Nat.le_refl _) (by omega), ih (a + 1) (fun j hj h2 => h j (by omega) (by omega))]
theorem LWT_cg {T T' : Nat → Int32} {u : Nat} (h : ∀ j, 359 + 62 * u ≤ j → j < 421 + 62 * u → T' j = T j) (hL : LWT T u) : LWT T' u := by
  obtain ⟨c, h1, h2, h3⟩ := hL
  refine ⟨c, h1, by rw [h _ (by omega) (by omega)]; exact h2, ?_⟩
  rcases h3 with h3 | h3
  · exact Or.inl h3
  · refine Or.inr ?_
    rw [cdL_cg c _ (fun j hj h2 => h j (by omega) (by omega))]
    exact h3
/-- one law changes -/
theorem LQ_1 {σ σ' : Hs} {T T' : Nat → Int32} {u cnt : Nat} (hu : u < 3) (h : LQ 16 σ T) (hc : cnt ≤ 60) (ec : T' (359 + 62 * u) = nI cnt) (hr : RW (16 + 2 * u) cnt σ' (fun k => enI (T' (360 + 62 * u + k)))) (f : ∀ o, 16 ≤ o → o ≤ 21 → o ≠ 16 + 2 * u → o ≠ 17 + 2 * u → σ' o = σ o) (e : ∀ j, 359 ≤ j → (j < 359 + 62 * u ∨ 421 + 62 * u ≤ j) → T' j = T j) : LQ 16 σ' T' := by
  intro x hx cx hcx ex
  by_cases c : x = u
  · subst c
    have : cx = cnt := by have := ex.symm.trans ec; rwa [nI_eq (by omega) (by omega)] at this
    subst this
    exact hr
  · rw [e _ (by omega) (by omega)] at ex
    exact ((h x hx cx hcx ex).fr (σ' := σ') (fun o o1 o2 => f o (by omega) (by omega) (by omega) (by omega))).cg (fun j hj => congrArg enI (e _ (by omega) (by omega)))
theorem LWT_1 {T T' : Nat → Int32} {u : Nat} (h : LWT T 0 ∧ LWT T 1 ∧ LWT T 2) (hu : LWT T' u) (u3 : u < 3) (e : ∀ j, 359 ≤ j → (j < 359 + 62 * u ∨ 421 + 62 * u ≤ j) → T' j = T j) : LWT T' 0 ∧ LWT T' 1 ∧ LWT T' 2 := by
  have go : ∀ x, x < 3 → LWT T x → LWT T' x := by
    intro x hx hl
    by_cases c : x = u
    · rw [c]; exact hu
    · exact LWT_cg (fun j j1 j2 => e j (by omega) (by omega)) hl
  exact ⟨go 0 (by omega) h.1, go 1 (by omega) h.2.1, go 2 (by omega) h.2.2⟩
theorem L_untell_0 {i : Nat} {σ : Hs} (h : RR i σ) (d : Nat) : Step d i 69 155 [.int 0] σ := by
  have hv : ((0 : Int32) ≤ 0 ∧ (0 : Int32) ≤ 2) = True := eq_true (by decide)
  have hh := k_has_0 (d + 98) σ (σ 88) (h.lr).1
  have e88 : rep σ 16 (upd (σ 16) 1 0) 88 = σ 88 := rep_ne (by omega)
  have hc := m_comes (d + 98) 359 (by omega) 0 (rep σ 16 (upd (σ 16) 1 0))
  rw [e88] at hc
  have hc : callD (d + 98 + 1) 116 [.ref 87, .int 359, .int 0] (rep σ 16 (upd (σ 16) 1 0)) = some (some (.int (σ 88 359)), rep (rep σ 16 (upd (σ 16) 1 0)) 88 (upd (σ 88) 359 0)) := hc
  have fin : ∀ (v : Int32), callD (d + 100) 69 [.ref 0, .int 0] σ = some (some (.int v), rep σ 16 (upd (σ 16) 1 0)) → callD (d + 100) 155 [.ref 87, .int 0] (rep σ 16 (upd (σ 16) 1 0)) = some (some (.int v), rep (rep σ 16 (upd (σ 16) 1 0)) 88 (upd (σ 88) 359 0)) → Step d i 69 155 [.int 0] σ := by
    intro v c1 c2
    have e1 : ∀ a, a < 359 → upd (σ 88) 359 0 a = σ 88 a := fun a ha => by rw [upd_at, if_neg (by omega)]
    have e2 : ∀ j, 359 ≤ j → (j < 359 ∨ 421 ≤ j) → upd (σ 88) 359 0 j = σ 88 j := fun j _ hj => by rw [upd_at, if_neg (by omega)]
    have lw : LWT (upd (σ 88) 359 0) 0 := ⟨0, by omega, by show upd (σ 88) 359 0 359 = _; rw [upd_at, if_pos rfl]; rfl, Or.inl rfl⟩
    have lq : LQ 16 (rep (rep σ 16 (upd (σ 16) 1 0)) 88 (upd (σ 88) 359 0)) (upd (σ 88) 359 0) := by
      refine LQ_1 (u := 0) (cnt := 0) (by omega) h.sr.2.1 (by omega) (by show upd (σ 88) 359 0 359 = _; rw [upd_at, if_pos rfl]; rfl) ⟨?_, fun k hk => absurd hk (by omega)⟩ (fun o o1 o2 o3 o4 => ?_) e2
      · show rep (rep σ 16 (upd (σ 16) 1 0)) 88 (upd (σ 88) 359 0) 16 1 = _
        rw [rep_ne (by omega), rep_self, upd_at, if_pos rfl]; rfl
      · rw [rep_ne (by omega), rep_ne (by omega)]
    refine ⟨_, _, _, c1, c2, h.row (rep_self _ _ _) (h.sr.law lq (fun o ho => ?_) e1) (h.ti.law (LWT_1 (u := 0) h.ti.L lw (by omega) e2) e1) (fun a ha => e1 a (by omega)) (h.wb.two c1 c2) (fun o ho => ?_) ?_ ?_⟩
    · rw [rep_ne (by omega), rep_ne (by omega)]
    · unfold kpO at ho
      rw [rep_ne (by omega), rep_ne (by omega)]
    · rw [rep_ne (by omega), rep_ne (by omega)]
    · rw [rep_ne (by omega), rep_ne (by omega)]
  by_cases c : 0 < σ 88 359
  · have c0 := eq_false (Int32.not_le.mpr c)
    refine fin 1 ?_ ?_
    · simp only [c69, s69_0, s69_1, s69_4, s69_7, s69_8, s69_9_o0, s69_12, s69_13, s69_14_o0, s69_17_o1, s69_20, s69_21_o13, s69_24, s69_27, s69_28, s69_31, s69_32, s69_33, s69_34_o0, s69_37_o1, s69_40_o13, s69_43, s69_44_o14, s69_45, s69_46_o16, s69_46_o18, s69_46_o20, s69_49, s69_50, k_isUse, hv, b2_t, hh, b2_T c, vp_lit, cr14_0, up2_rep, simprocAttr, if_true, if_false, true_and, and_true, false_and, and_false, not_false_eq_true, not_true_eq_false, gd_T, kont_i, kont_v]
    · simp only [c155, s155_0, s155_1, s155_2, s155_3, s155_6, s155_9, s155_10, s155_13, s155_15, s155_16, s155_17, s155_18, s155_19_o87, s155_22, s155_25, s155_26, s155_29, s155_30, s155_33, s155_34, s155_36_o87, s155_39, m_within, hv, b2_t, hc, c0, simprocAttr, if_true, if_false, true_and, and_true, false_and, and_false, not_false_eq_true, not_true_eq_false, gd_T, kont_i, kont_v]
  · have c0 := eq_true (Int32.not_lt.mp c)
    refine fin 0 ?_ ?_
    · simp only [c69, s69_0, s69_1, s69_4, s69_7, s69_8, s69_9_o0, s69_12, s69_13, s69_14_o0, s69_17_o1, s69_20, s69_21_o13, s69_24, s69_27, s69_28, s69_31, s69_32, s69_33, s69_34_o0, s69_37_o1, s69_40_o13, s69_43, s69_44_o14, s69_45, s69_46_o16, s69_46_o18, s69_46_o20, s69_49, s69_50, k_isUse, hv, b2_t, hh, b2_F c, vp_lit, cr14_0, up2_rep, simprocAttr, if_true, if_false, true_and, and_true, false_and, and_false, not_false_eq_true, not_true_eq_false, gd_T, kont_i, kont_v]
    · simp only [c155, s155_0, s155_1, s155_2, s155_3, s155_6, s155_9, s155_10, s155_13, s155_15, s155_16, s155_17, s155_18, s155_19_o87, s155_22, s155_25, s155_26, s155_29, s155_30, s155_33, s155_34, s155_36_o87, s155_39, m_within, hv, b2_t, hc, c0, simprocAttr, if_true, if_false, true_and, and_true, false_and, and_false, not_false_eq_true, not_true_eq_false, gd_T, kont_i, kont_v]
theorem L_untell_1 {i : Nat} {σ : Hs} (h : RR i σ) (d : Nat) : Step d i 69 155 [.int 1] σ := by
  have hv : ((0 : Int32) ≤ 1 ∧ (1 : Int32) ≤ 2) = True := eq_true (by decide)
  have hh := k_has_1 (d + 98) σ (σ 88) (h.lr).2.1
  have e88 : rep σ 18 (upd (σ 18) 1 0) 88 = σ 88 := rep_ne (by omega)
  have hc := m_comes (d + 98) 421 (by omega) 0 (rep σ 18 (upd (σ 18) 1 0))
  rw [e88] at hc
  have hc : callD (d + 98 + 1) 116 [.ref 87, .int 421, .int 0] (rep σ 18 (upd (σ 18) 1 0)) = some (some (.int (σ 88 421)), rep (rep σ 18 (upd (σ 18) 1 0)) 88 (upd (σ 88) 421 0)) := hc
  have fin : ∀ (v : Int32), callD (d + 100) 69 [.ref 0, .int 1] σ = some (some (.int v), rep σ 18 (upd (σ 18) 1 0)) → callD (d + 100) 155 [.ref 87, .int 1] (rep σ 18 (upd (σ 18) 1 0)) = some (some (.int v), rep (rep σ 18 (upd (σ 18) 1 0)) 88 (upd (σ 88) 421 0)) → Step d i 69 155 [.int 1] σ := by
    intro v c1 c2
    have e1 : ∀ a, a < 359 → upd (σ 88) 421 0 a = σ 88 a := fun a ha => by rw [upd_at, if_neg (by omega)]
    have e2 : ∀ j, 359 ≤ j → (j < 421 ∨ 483 ≤ j) → upd (σ 88) 421 0 j = σ 88 j := fun j _ hj => by rw [upd_at, if_neg (by omega)]
    have lw : LWT (upd (σ 88) 421 0) 1 := ⟨0, by omega, by show upd (σ 88) 421 0 421 = _; rw [upd_at, if_pos rfl]; rfl, Or.inl rfl⟩
    have lq : LQ 16 (rep (rep σ 18 (upd (σ 18) 1 0)) 88 (upd (σ 88) 421 0)) (upd (σ 88) 421 0) := by
      refine LQ_1 (u := 1) (cnt := 0) (by omega) h.sr.2.1 (by omega) (by show upd (σ 88) 421 0 421 = _; rw [upd_at, if_pos rfl]; rfl) ⟨?_, fun k hk => absurd hk (by omega)⟩ (fun o o1 o2 o3 o4 => ?_) e2
      · show rep (rep σ 18 (upd (σ 18) 1 0)) 88 (upd (σ 88) 421 0) 18 1 = _
        rw [rep_ne (by omega), rep_self, upd_at, if_pos rfl]; rfl
      · rw [rep_ne (by omega), rep_ne (by omega)]
    refine ⟨_, _, _, c1, c2, h.row (rep_self _ _ _) (h.sr.law lq (fun o ho => ?_) e1) (h.ti.law (LWT_1 (u := 1) h.ti.L lw (by omega) e2) e1) (fun a ha => e1 a (by omega)) (h.wb.two c1 c2) (fun o ho => ?_) ?_ ?_⟩
    · rw [rep_ne (by omega), rep_ne (by omega)]
    · unfold kpO at ho
      rw [rep_ne (by omega), rep_ne (by omega)]
    · rw [rep_ne (by omega), rep_ne (by omega)]
    · rw [rep_ne (by omega), rep_ne (by omega)]
  by_cases c : 0 < σ 88 421
  · have c0 := eq_false (Int32.not_le.mpr c)
    refine fin 1 ?_ ?_
    · simp only [c69, s69_0, s69_1, s69_4, s69_7, s69_8, s69_9_o0, s69_12, s69_13, s69_14_o0, s69_17_o1, s69_20, s69_21_o13, s69_24, s69_27, s69_28, s69_31, s69_32, s69_33, s69_34_o0, s69_37_o1, s69_40_o13, s69_43, s69_44_o14, s69_45, s69_46_o16, s69_46_o18, s69_46_o20, s69_49, s69_50, k_isUse, hv, b2_t, hh, b2_T c, vp_lit, cr14_1, up2_rep, simprocAttr, if_true, if_false, true_and, and_true, false_and, and_false, not_false_eq_true, not_true_eq_false, gd_T, kont_i, kont_v]
    · simp only [c155, s155_0, s155_1, s155_2, s155_3, s155_6, s155_9, s155_10, s155_13, s155_15, s155_16, s155_17, s155_18, s155_19_o87, s155_22, s155_25, s155_26, s155_29, s155_30, s155_33, s155_34, s155_36_o87, s155_39, m_within, hv, b2_t, hc, c0, simprocAttr, if_true, if_false, true_and, and_true, false_and, and_false, not_false_eq_true, not_true_eq_false, gd_T, kont_i, kont_v]
  · have c0 := eq_true (Int32.not_lt.mp c)
    refine fin 0 ?_ ?_
    · simp only [c69, s69_0, s69_1, s69_4, s69_7, s69_8, s69_9_o0, s69_12, s69_13, s69_14_o0, s69_17_o1, s69_20, s69_21_o13, s69_24, s69_27, s69_28, s69_31, s69_32, s69_33, s69_34_o0, s69_37_o1, s69_40_o13, s69_43, s69_44_o14, s69_45, s69_46_o16, s69_46_o18, s69_46_o20, s69_49, s69_50, k_isUse, hv, b2_t, hh, b2_F c, vp_lit, cr14_1, up2_rep, simprocAttr, if_true, if_false, true_and, and_true, false_and, and_false, not_false_eq_true, not_true_eq_false, gd_T, kont_i, kont_v]
    · simp only [c155, s155_0, s155_1, s155_2, s155_3, s155_6, s155_9, s155_10, s155_13, s155_15, s155_16, s155_17, s155_18, s155_19_o87, s155_22, s155_25, s155_26, s155_29, s155_30, s155_33, s155_34, s155_36_o87, s155_39, m_within, hv, b2_t, hc, c0, simprocAttr, if_true, if_false, true_and, and_true, false_and, and_false, not_false_eq_true, not_true_eq_false, gd_T, kont_i, kont_v]
theorem L_untell_2 {i : Nat} {σ : Hs} (h : RR i σ) (d : Nat) : Step d i 69 155 [.int 2] σ := by
  have hv : ((0 : Int32) ≤ 2 ∧ (2 : Int32) ≤ 2) = True := eq_true (by decide)
  have hh := k_has_2 (d + 98) σ (σ 88) (h.lr).2.2
  have e88 : rep σ 20 (upd (σ 20) 1 0) 88 = σ 88 := rep_ne (by omega)
  have hc := m_comes (d + 98) 483 (by omega) 0 (rep σ 20 (upd (σ 20) 1 0))
  rw [e88] at hc
  have hc : callD (d + 98 + 1) 116 [.ref 87, .int 483, .int 0] (rep σ 20 (upd (σ 20) 1 0)) = some (some (.int (σ 88 483)), rep (rep σ 20 (upd (σ 20) 1 0)) 88 (upd (σ 88) 483 0)) := hc
  have fin : ∀ (v : Int32), callD (d + 100) 69 [.ref 0, .int 2] σ = some (some (.int v), rep σ 20 (upd (σ 20) 1 0)) → callD (d + 100) 155 [.ref 87, .int 2] (rep σ 20 (upd (σ 20) 1 0)) = some (some (.int v), rep (rep σ 20 (upd (σ 20) 1 0)) 88 (upd (σ 88) 483 0)) → Step d i 69 155 [.int 2] σ := by
    intro v c1 c2
    have e1 : ∀ a, a < 359 → upd (σ 88) 483 0 a = σ 88 a := fun a ha => by rw [upd_at, if_neg (by omega)]
    have e2 : ∀ j, 359 ≤ j → (j < 483 ∨ 545 ≤ j) → upd (σ 88) 483 0 j = σ 88 j := fun j _ hj => by rw [upd_at, if_neg (by omega)]
    have lw : LWT (upd (σ 88) 483 0) 2 := ⟨0, by omega, by show upd (σ 88) 483 0 483 = _; rw [upd_at, if_pos rfl]; rfl, Or.inl rfl⟩
    have lq : LQ 16 (rep (rep σ 20 (upd (σ 20) 1 0)) 88 (upd (σ 88) 483 0)) (upd (σ 88) 483 0) := by
      refine LQ_1 (u := 2) (cnt := 0) (by omega) h.sr.2.1 (by omega) (by show upd (σ 88) 483 0 483 = _; rw [upd_at, if_pos rfl]; rfl) ⟨?_, fun k hk => absurd hk (by omega)⟩ (fun o o1 o2 o3 o4 => ?_) e2
      · show rep (rep σ 20 (upd (σ 20) 1 0)) 88 (upd (σ 88) 483 0) 20 1 = _
        rw [rep_ne (by omega), rep_self, upd_at, if_pos rfl]; rfl
      · rw [rep_ne (by omega), rep_ne (by omega)]
    refine ⟨_, _, _, c1, c2, h.row (rep_self _ _ _) (h.sr.law lq (fun o ho => ?_) e1) (h.ti.law (LWT_1 (u := 2) h.ti.L lw (by omega) e2) e1) (fun a ha => e1 a (by omega)) (h.wb.two c1 c2) (fun o ho => ?_) ?_ ?_⟩
    · rw [rep_ne (by omega), rep_ne (by omega)]
    · unfold kpO at ho
      rw [rep_ne (by omega), rep_ne (by omega)]
    · rw [rep_ne (by omega), rep_ne (by omega)]
    · rw [rep_ne (by omega), rep_ne (by omega)]
  by_cases c : 0 < σ 88 483
  · have c0 := eq_false (Int32.not_le.mpr c)
    refine fin 1 ?_ ?_
    · simp only [c69, s69_0, s69_1, s69_4, s69_7, s69_8, s69_9_o0, s69_12, s69_13, s69_14_o0, s69_17_o1, s69_20, s69_21_o13, s69_24, s69_27, s69_28, s69_31, s69_32, s69_33, s69_34_o0, s69_37_o1, s69_40_o13, s69_43, s69_44_o14, s69_45, s69_46_o16, s69_46_o18, s69_46_o20, s69_49, s69_50, k_isUse, hv, b2_t, hh, b2_T c, vp_lit, cr14_2, up2_rep, simprocAttr, if_true, if_false, true_and, and_true, false_and, and_false, not_false_eq_true, not_true_eq_false, gd_T, kont_i, kont_v]
    · simp only [c155, s155_0, s155_1, s155_2, s155_3, s155_6, s155_9, s155_10, s155_13, s155_15, s155_16, s155_17, s155_18, s155_19_o87, s155_22, s155_25, s155_26, s155_29, s155_30, s155_33, s155_34, s155_36_o87, s155_39, m_within, hv, b2_t, hc, c0, simprocAttr, if_true, if_false, true_and, and_true, false_and, and_false, not_false_eq_true, not_true_eq_false, gd_T, kont_i, kont_v]
  · have c0 := eq_true (Int32.not_lt.mp c)
    refine fin 0 ?_ ?_
    · simp only [c69, s69_0, s69_1, s69_4, s69_7, s69_8, s69_9_o0, s69_12, s69_13, s69_14_o0, s69_17_o1, s69_20, s69_21_o13, s69_24, s69_27, s69_28, s69_31, s69_32, s69_33, s69_34_o0, s69_37_o1, s69_40_o13, s69_43, s69_44_o14, s69_45, s69_46_o16, s69_46_o18, s69_46_o20, s69_49, s69_50, k_isUse, hv, b2_t, hh, b2_F c, vp_lit, cr14_2, up2_rep, simprocAttr, if_true, if_false, true_and, and_true, false_and, and_false, not_false_eq_true, not_true_eq_false, gd_T, kont_i, kont_v]
    · simp only [c155, s155_0, s155_1, s155_2, s155_3, s155_6, s155_9, s155_10, s155_13, s155_15, s155_16, s155_17, s155_18, s155_19_o87, s155_22, s155_25, s155_26, s155_29, s155_30, s155_33, s155_34, s155_36_o87, s155_39, m_within, hv, b2_t, hc, c0, simprocAttr, if_true, if_false, true_and, and_true, false_and, and_false, not_false_eq_true, not_true_eq_false, gd_T, kont_i, kont_v]
theorem L_untell {i : Nat} {σ : Hs} (h : RR i σ) (d : Nat) (v : Int32) : Step d i 69 155 [.int v] σ := by
  by_cases hv : 0 ≤ v ∧ v ≤ 2
  · obtain ⟨u, -, lu, rfl⟩ := within_n (a := 0) (b := 2) hv rfl rfl (by omega) (by omega)
    have hu : u = 0 ∨ u = 1 ∨ u = 2 := by omega
    rcases hu with rfl | rfl | rfl
    · exact L_untell_0 h d
    · exact L_untell_1 h d
    · exact L_untell_2 h d
  · have hvf := eq_false hv
    refine Step_err h 1 (v := -1000001) ?_ ?_
    · simp only [c69, s69_0, s69_1, s69_4, s69_7, s69_8, s69_9_o0, s69_12, s69_13, s69_14_o0, s69_17_o1, s69_20, s69_21_o13, s69_24, s69_27, s69_28, s69_31, s69_32, s69_33, s69_34_o0, s69_37_o1, s69_40_o13, s69_43, s69_44_o14, s69_45, s69_46_o16, s69_46_o18, s69_46_o20, s69_49, s69_50, k_isUse, hvf, b2_f, k_failed_1, simprocAttr, if_true, if_false, true_and, and_true, false_and, and_false, not_false_eq_true, not_true_eq_false, gd_T, kont_i, kont_v]
    · simp only [c155, s155_0, s155_1, s155_2, s155_3, s155_6, s155_9, s155_10, s155_13, s155_15, s155_16, s155_17, s155_18, s155_19_o87, s155_22, s155_25, s155_26, s155_29, s155_30, s155_33, s155_34, s155_36_o87, s155_39, m_within, hvf, b2_f, m_fin_1, simprocAttr, if_true, if_false, true_and, and_true, false_and, and_false, not_false_eq_true, not_true_eq_false, gd_T, kont_i, kont_v]
