/-! ===== the class: smoke goes over the gardens; minutes ===== -/
theorem k_isGarden (d : Nat) (v : Int32) (σ : Hs) : callD (d + 1) 106 [.int v] σ = some (some (.int (b2 (0 ≤ v ∧ v < 9))), σ) := by
  simp only [c106, s106_0, s106_1, s106_4, s106_5, s106_7, s106_10, s106_11, s106_14, s106_15, isB_0, isB_1]
  by_cases h1 : v < 0
  · rw [if_pos h1, b2_F (fun h => Int32.not_le.mpr h1 h.1)]
  · rw [if_neg h1]
    by_cases h2 : 9 ≤ v
    · rw [if_pos h2, b2_F (fun h => Int32.not_lt.mpr h2 h.2)]
    · rw [if_neg h2, b2_T ⟨Int32.not_lt.mp h1, Int32.not_le.mp h2⟩]
theorem gar_n {g : Nat} (h : g < 9) : 0 ≤ nI g ∧ nI g < 9 := ⟨nI_pos' (by omega), nI_lt (b := 9) h (by omega)⟩
theorem k_nextGarden (d g w : Nat) (hg : g < 9) (hw : w < 4) (σ : Hs) : callD (d + 2) 110 [.int (nI g), .int (nI w)] σ = some (some (.int (nxI g w)), σ) := by
  have h1 : g = 0 ∨ g = 1 ∨ g = 2 ∨ g = 3 ∨ g = 4 ∨ g = 5 ∨ g = 6 ∨ g = 7 ∨ g = 8 := by omega
  have h2 : w = 0 ∨ w = 1 ∨ w = 2 ∨ w = 3 := by omega
  rcases h1 with rfl | rfl | rfl | rfl | rfl | rfl | rfl | rfl | rfl <;> rcases h2 with rfl | rfl | rfl | rfl <;> (simp only [c110, s110_0, s110_1, s110_2, s110_3, s110_4, s110_5, s110_8, s110_9, s110_10, s110_13, s110_14, s110_15, s110_16, s110_19, s110_20, s110_21, s110_22, s110_23, s110_26, s110_27, s110_30, s110_31, s110_32, s110_33, s110_36, s110_37, s110_38, s110_39, s110_40, s110_43, s110_44, s110_45, s110_46, s110_49, s110_50, s110_51, s110_52, s110_53, s110_54, s110_57, s110_60, s110_61, s110_64, s110_65, n_0, n_1, n_2, n_3, n_4, n_5, n_6, n_7, n_8, k_isGarden, b2_t, b2_f, simprocAttr, if_true, if_false, true_and, and_true, false_and, and_false, not_false_eq_true, not_true_eq_false, gd_T, kont_i, kont_v]; rfl)
theorem and_1 (x : Int32) : x &&& 1 = 0 ∨ x &&& 1 = 1 := by
  obtain ⟨j, hj, e⟩ := pk_andE x (m := 1) 1 (by decide)
  have : j = 0 ∨ j = 1 := by omega
  rcases this with rfl | rfl
  · exact Or.inl e
  · exact Or.inr e
theorem HR.g8 {b : Nat} {σ : Hs} {T : Nat → Int32} (h : HR b σ T) {g : Nat} (hg : g < 9) (v : Int32) : HR b (rep σ (b + 8) (upd (σ (b + 8)) g v)) (upd T (226 + 3 * g) v) := by
  have e : ∀ p f, p < 30 → f < 7 → ofT (upd T (226 + 3 * g) v) p f = ofT T p f := by
    intro p f hp hf
    simp only [ofT, upd]
    rw [if_neg (by omega)]
  obtain ⟨a1, a2, a3, a4, a5, a6, a7, a8⟩ := h
  refine ⟨?_, ?_, ?_, ?_, ?_, ?_, ?_, ?_⟩
  · intro p hp hi f f1 f6
    unfold isT at hi
    rw [e p 0 hp (by omega)] at hi
    rw [rep_ne (by omega), e p f hp (by omega)]
    exact a1 p hp hi f f1 f6
  · intro p hp hi
    unfold isT at hi
    rw [e p 0 hp (by omega)] at hi
    rw [rep_ne (by omega)]
    exact a2 p hp hi
  · intro j hj
    rw [rep_ne (by omega), upd_at, if_neg (by omega)]; exact a3 j hj
  · intro q hq
    obtain ⟨c1, c2, c3⟩ := a4 q hq
    refine ⟨?_, ?_, ?_⟩
    all_goals
      rw [rep_at, upd_at]
      by_cases c : q = g
      · subst c
        first
          | (rw [if_pos (by omega), if_pos (by omega), upd_at, if_pos rfl]; done)
          | (rw [if_neg (by omega), if_neg (by omega)]; assumption)
      · first
          | (rw [if_pos (by omega), if_neg (by omega), upd_at, if_neg c]; assumption)
          | (rw [if_neg (by omega), if_neg (by omega)]; assumption)
  all_goals
    rw [rep_ne (by omega), upd_at, if_neg (by omega)]
    assumption
theorem HR.g9 {b : Nat} {σ : Hs} {T : Nat → Int32} (h : HR b σ T) {g : Nat} (hg : g < 9) (v : Int32) : HR b (rep σ (b + 9) (upd (σ (b + 9)) g v)) (upd T (224 + 3 * g) v) := by
  have e : ∀ p f, p < 30 → f < 7 → ofT (upd T (224 + 3 * g) v) p f = ofT T p f := by
    intro p f hp hf
    simp only [ofT, upd]
    rw [if_neg (by omega)]
  obtain ⟨a1, a2, a3, a4, a5, a6, a7, a8⟩ := h
  refine ⟨?_, ?_, ?_, ?_, ?_, ?_, ?_, ?_⟩
  · intro p hp hi f f1 f6
    unfold isT at hi
    rw [e p 0 hp (by omega)] at hi
    rw [rep_ne (by omega), e p f hp (by omega)]
    exact a1 p hp hi f f1 f6
  · intro p hp hi
    unfold isT at hi
    rw [e p 0 hp (by omega)] at hi
    rw [rep_ne (by omega)]
    exact a2 p hp hi
  · intro j hj
    rw [rep_ne (by omega), upd_at, if_neg (by omega)]; exact a3 j hj
  · intro q hq
    obtain ⟨c1, c2, c3⟩ := a4 q hq
    refine ⟨?_, ?_, ?_⟩
    all_goals
      rw [rep_at, upd_at]
      by_cases c : q = g
      · subst c
        first
          | (rw [if_pos (by omega), if_pos (by omega), upd_at, if_pos rfl]; done)
          | (rw [if_neg (by omega), if_neg (by omega)]; assumption)
      · first
          | (rw [if_pos (by omega), if_neg (by omega), upd_at, if_neg c]; assumption)
          | (rw [if_neg (by omega), if_neg (by omega)]; assumption)
  all_goals
    rw [rep_ne (by omega), upd_at, if_neg (by omega)]
    assumption
theorem HR.g10 {b : Nat} {σ : Hs} {T : Nat → Int32} (h : HR b σ T) {g : Nat} (hg : g < 9) (v : Int32) : HR b (rep σ (b + 10) (upd (σ (b + 10)) g v)) (upd T (225 + 3 * g) v) := by
  have e : ∀ p f, p < 30 → f < 7 → ofT (upd T (225 + 3 * g) v) p f = ofT T p f := by
    intro p f hp hf
    simp only [ofT, upd]
    rw [if_neg (by omega)]
  obtain ⟨a1, a2, a3, a4, a5, a6, a7, a8⟩ := h
  refine ⟨?_, ?_, ?_, ?_, ?_, ?_, ?_, ?_⟩
  · intro p hp hi f f1 f6
    unfold isT at hi
    rw [e p 0 hp (by omega)] at hi
    rw [rep_ne (by omega), e p f hp (by omega)]
    exact a1 p hp hi f f1 f6
  · intro p hp hi
    unfold isT at hi
    rw [e p 0 hp (by omega)] at hi
    rw [rep_ne (by omega)]
    exact a2 p hp hi
  · intro j hj
    rw [rep_ne (by omega), upd_at, if_neg (by omega)]; exact a3 j hj
  · intro q hq
    obtain ⟨c1, c2, c3⟩ := a4 q hq
    refine ⟨?_, ?_, ?_⟩
    all_goals
      rw [rep_at, upd_at]
      by_cases c : q = g
      · subst c
        first
          | (rw [if_pos (by omega), if_pos (by omega), upd_at, if_pos rfl]; done)
          | (rw [if_neg (by omega), if_neg (by omega)]; assumption)
      · first
          | (rw [if_pos (by omega), if_neg (by omega), upd_at, if_neg c]; assumption)
          | (rw [if_neg (by omega), if_neg (by omega)]; assumption)
  all_goals
    rw [rep_ne (by omega), upd_at, if_neg (by omega)]
    assumption
theorem HR.st {b : Nat} {σ : Hs} {T : Nat → Int32} (h : HR b σ T) {k : Nat} (hk : k < 5) (v : Int32) : HR b (rep σ (b + 7) (upd (σ (b + 7)) k v)) (upd T (4 + k) v) := by
  have e : ∀ p f, p < 30 → f < 7 → ofT (upd T (4 + k) v) p f = ofT T p f := by
    intro p f hp hf
    simp only [ofT, upd]
    rw [if_neg (by omega)]
  obtain ⟨a1, a2, a3, a4, a5, a6, a7, a8⟩ := h
  refine ⟨?_, ?_, ?_, ?_, ?_, ?_, ?_, ?_⟩
  · intro p hp hi f f1 f6
    unfold isT at hi
    rw [e p 0 hp (by omega)] at hi
    rw [rep_ne (by omega), e p f hp (by omega)]
    exact a1 p hp hi f f1 f6
  · intro p hp hi
    unfold isT at hi
    rw [e p 0 hp (by omega)] at hi
    rw [rep_ne (by omega)]
    exact a2 p hp hi
  · intro j hj
    rw [rep_self, upd_at, upd_at]
    by_cases c : j = k
    · rw [if_pos c, if_pos (by omega)]
    · rw [if_neg c, if_neg (by omega)]; exact a3 j hj
  · intro g hg
    rw [rep_ne (by omega), rep_ne (by omega), rep_ne (by omega), upd_at, upd_at, upd_at, if_neg (by omega), if_neg (by omega), if_neg (by omega)]; exact a4 g hg
  all_goals
    rw [rep_ne (by omega), upd_at, if_neg (by omega)]
    assumption
/-- the gardens' numbers are held -/
def GC (T : Nat → Int32) : Prop := ∀ g, g < 9 → CA (T (224 + 3 * g)) ∧ CA (T (225 + 3 * g))
theorem GC_lg {T : Nat → Int32} (hG : GC T) {g l : Nat} (hl : l ≤ 2000000) (hour : Int32) (hg : g < 9) : GC (lgT T g hour (nI l)) := by
  have c2 : CA (moreI (T (224 + 3 * g + 1)) (if bitI (T (224 + 3 * g + 2)) hour then nI l else 0)) := by
    have e := (hG g hg).2
    rw [show 225 + 3 * g = 224 + 3 * g + 1 by omega] at e
    split
    · exact more_c e (by omega)
    · exact more_c (k := 0) e (by omega)
  intro q hq
  unfold lgT
  constructor
  · rw [upd_at, if_neg (by omega), upd_at]
    by_cases c : q = g
    · subst c
      rw [if_pos rfl]
      exact more_c (hG q hq).1 (by omega)
    · rw [if_neg (by omega)]
      exact (hG q hq).1
  · rw [upd_at]
    by_cases c : q = g
    · subst c
      rw [if_pos (by omega)]
      exact c2
    · rw [if_neg (by omega), upd_at, if_neg (by omega)]
      exact (hG q hq).2
theorem lgT_0 {T : Nat → Int32} (hG : GC T) {g : Nat} (hour : Int32) (hg : g < 9) : lgT T g hour 0 = T := by
  have e := (hG g hg).2
  rw [show 225 + 3 * g = 224 + 3 * g + 1 by omega] at e
  unfold lgT
  rw [ite_self, more_0 (hG g hg).1, more_0 e]
  funext a
  rw [upd_at]
  by_cases c : a = 224 + 3 * g + 1
  · rw [if_pos c, c]
  · rw [if_neg c, upd_at]
    by_cases c2 : a = 224 + 3 * g
    · rw [if_pos c2, c2]
    · rw [if_neg c2]
theorem laL_0 {T : Nat → Int32} (hG : GC T) (hour : Int32) {w : Nat} (hw : w < 4) : ∀ n g, g < 9 → laL hour w n T 0 g = T := by
  intro n
  induction n with
  | zero => intro g _; rfl
  | succ n ih =>
    intro g hg
    rw [laL]
    have e : (0 / 2 : Int32) = 0 := by decide +kernel
    have e2 : (0 - 0 : Int32) = 0 := by decide +kernel
    cases h : nxN g w with
    | none => simp only []; rw [e]; exact lgT_0 hG hour hg
    | some x => simp only []; rw [e, e2, lgT_0 hG hour hg]; exact ih x (nxN_lt hg hw h).1
theorem lg_hr {b : Nat} {σ : Hs} {T : Nat → Int32} (h : HR b σ T) (hG : GC T) {g l : Nat} (hl : l ≤ 2000000) (hg : g < 9) (hour : Int32) :
    HR b (if (σ (b + 8) g >>> (hour &&& 31)) &&& 1 = 0 then rep σ (b + 9) (upd (σ (b + 9)) g (moreI (T (224 + 3 * g)) (nI l))) else rep (rep σ (b + 9) (upd (σ (b + 9)) g (moreI (T (224 + 3 * g)) (nI l)))) (b + 10) (upd (σ (b + 10)) g (moreI (T (225 + 3 * g)) (nI l)))) (lgT T g hour (nI l)) := by
  have r1 := h.g9 hg (moreI (T (224 + 3 * g)) (nI l))
  have r2 := r1.g10 hg (moreI (T (225 + 3 * g)) (nI l))
  have e8 : σ (b + 8) g = T (226 + 3 * g) := (h.2.2.2.1 g hg).1
  rw [e8]
  unfold lgT
  rw [show 224 + 3 * g + 1 = 225 + 3 * g by omega, show 224 + 3 * g + 2 = 226 + 3 * g by omega]
  by_cases c : (T (226 + 3 * g) >>> (hour &&& 31)) &&& 1 = 0
  · have nb : ¬ bitI (T (226 + 3 * g)) hour := by
      unfold bitI
      rw [c]; decide
    rw [if_pos c, if_neg nb, more_0 (hG g hg).2]
    have : upd (upd T (224 + 3 * g) (moreI (T (224 + 3 * g)) (nI l))) (225 + 3 * g) (T (225 + 3 * g)) = upd T (224 + 3 * g) (moreI (T (224 + 3 * g)) (nI l)) := by
      funext a
      rw [upd_at]
      by_cases c2 : a = 225 + 3 * g
      · rw [if_pos c2, upd_at, if_neg (by omega), c2]
      · rw [if_neg c2]
    rw [this]
    exact r1
  · have nb : bitI (T (226 + 3 * g)) hour := (and_1 _).resolve_left c
    rw [if_neg c, if_pos nb]
    rw [rep_ne (by omega)] at r2
    exact r2
theorem h2_drift_l (d w m : Nat) (hw : w < 4) (hour : Int32) : ∀ n k g l σ (T : Nat → Int32) (l7 : Value), k + n = 3 → g < 9 → l ≤ 2000000 → HR 2 σ T → GC T → T 6 = nI w → ∃ σ', ru (d + 2) 20 35 [.ref 2, .int (nI m), .ref 13, .int hour, .int (nI l), .int (nI g), .int (nI k), l7] [] σ = some (none, σ') ∧ HR 2 σ' (laL hour w n T (nI l) g) ∧ GC (laL hour w n T (nI l) g) ∧ ∀ o, o ≠ 11 → o ≠ 12 → σ' o = σ o := by
  intro n
  induction n with
  | zero =>
    intro k g l σ T l7 hk hg hl h hG h6
    obtain rfl : k = 3 := by omega
    refine ⟨σ, ?_, h, hG, fun _ _ _ => rfl⟩
    simp only [s20_35]
    simp only [s20_37, s20_38, s20_139, show (3 : Int32) ≤ nI 3 from Int32.le_refl _, simprocAttr, if_true, if_false, true_and, and_true, false_and, and_false, not_false_eq_true, not_true_eq_false, gd_T, kont_i, kont_v]
  | succ n ih =>
    intro k g l σ T l7 hk hg hl h hG h6
    have k31 : k < 2147483648 := by omega
    have g31 : g < 2147483648 := by omega
    have e2 : nI l / 2 = nI (l / 2) := pk_div (d := 2) (by omega) (by decide) (by decide)
    have es : nI l - nI (l / 2) = nI (l - l / 2) := pk_sub (by omega)
    have r1 := lg_hr h hG (l := l / 2) (by omega) hg hour
    have G1 := GC_lg hG (l := l / 2) (by omega) hour hg
    have x8 : σ 10 g = T (226 + 3 * g) := (h.2.2.2.1 g hg).1
    have x9 : σ 11 g = T (224 + 3 * g) := (h.2.2.2.1 g hg).2.1
    have x10 : σ 12 g = T (225 + 3 * g) := (h.2.2.2.1 g hg).2.2
    have x7 : σ 9 2 = nI w := (h.2.2.1 2 (by omega)).trans h6
    have j9 : jmin (T (224 + 3 * g) + nI (l / 2)) 1999999999 = moreI (T (224 + 3 * g)) (nI (l / 2)) := more_j (hG g hg).1 (by omega)
    have j10 : jmin (T (225 + 3 * g) + nI (l / 2)) 1999999999 = moreI (T (225 + 3 * g)) (nI (l / 2)) := more_j (hG g hg).2 (by omega)
    have hng : ∀ σ, callD (d + 2) 110 [.int (nI g), .int (nI w)] σ = some (some (.int (nxI g w)), σ) := fun σ => k_nextGarden d g w hg hw σ
    have hig : ∀ σ, callD (d + 2) 106 [.int (nI g)] σ = some (some (.int 1), σ) := fun σ => by
      have := k_isGarden (d + 1) (nI g) σ
      rw [b2_T (gar_n hg)] at this
      exact this
    have step : ∃ σ1, ru (d + 2) 20 35 [.ref 2, .int (nI m), .ref 13, .int hour, .int (nI l), .int (nI g), .int (nI k), l7] [] σ = ru (d + 2) 20 35 [.ref 2, .int (nI m), .ref 13, .int hour, .int (nI (l - l / 2)), .int (nxI g w), .int (nI (k + 1)), .int (nI (l / 2))] [] σ1 ∧ HR 2 σ1 (lgT T g hour (nI (l / 2))) ∧ ∀ o, o ≠ 11 → o ≠ 12 → σ1 o = σ o := by
      rw [show σ (2 + 8) g = T (226 + 3 * g) from x8] at r1
      by_cases c : (T (226 + 3 * g) >>> (hour &&& 31)) &&& 1 = 0
      · rw [if_pos c] at r1
        refine ⟨_, ?_, r1, fun o o1 o2 => rep_ne o1⟩
        generalize hR : ru (d + 2) 20 35 [.ref 2, .int (nI m), .ref 13, .int hour, .int (nI (l - l / 2)), .int (nxI g w), .int (nI (k + 1)), .int (nI (l / 2))] [] _ = R
        simp only [s20_35]
        simp only [s20_37, s20_38, s20_41, s20_43, s20_46, s20_49, s20_51, s20_52, s20_53, s20_55, s20_56_o2, s20_56_o59, s20_59, s20_61, s20_62_o2, s20_62_o59, s20_65, s20_67_o11, s20_67_o68, s20_68, s20_70, s20_71, s20_73, s20_76_o11, s20_76_o68, s20_77, s20_78_o2, s20_78_o59, s20_81, s20_83_o10, s20_83_o67, s20_84, s20_85, s20_86, s20_87, s20_88, s20_91, s20_92_o2, s20_92_o59, s20_95, s20_97, s20_98_o2, s20_98_o59, s20_101, s20_103_o12, s20_103_o69, s20_104, s20_106, s20_107, s20_109, s20_112_o12, s20_112_o69, s20_113, s20_115, s20_117, s20_118, s20_120, s20_122, s20_123_o2, s20_123_o59, s20_126, s20_127_o9, s20_127_o66, s20_128, s20_131, s20_133, s20_136, le_nI_r k31, hig, z2, e2, vp_nI hg, cl_nI g31, up2_rep, rep_at, x8, x9, j9, x7, c, vp_lit, hng, es, nI_1, not_false_eq_true, simprocAttr, if_true, if_false, true_and, and_true, false_and, and_false, not_false_eq_true, not_true_eq_false, gd_T, kont_i, kont_v]
        rw [if_neg (by omega)]
        exact hR
      · rw [if_neg c] at r1
        refine ⟨_, ?_, r1, fun o o1 o2 => (rep_ne o2).trans (rep_ne o1)⟩
        generalize hR : ru (d + 2) 20 35 [.ref 2, .int (nI m), .ref 13, .int hour, .int (nI (l - l / 2)), .int (nxI g w), .int (nI (k + 1)), .int (nI (l / 2))] [] _ = R
        simp only [s20_35]
        simp only [s20_37, s20_38, s20_41, s20_43, s20_46, s20_49, s20_51, s20_52, s20_53, s20_55, s20_56_o2, s20_56_o59, s20_59, s20_61, s20_62_o2, s20_62_o59, s20_65, s20_67_o11, s20_67_o68, s20_68, s20_70, s20_71, s20_73, s20_76_o11, s20_76_o68, s20_77, s20_78_o2, s20_78_o59, s20_81, s20_83_o10, s20_83_o67, s20_84, s20_85, s20_86, s20_87, s20_88, s20_91, s20_92_o2, s20_92_o59, s20_95, s20_97, s20_98_o2, s20_98_o59, s20_101, s20_103_o12, s20_103_o69, s20_104, s20_106, s20_107, s20_109, s20_112_o12, s20_112_o69, s20_113, s20_115, s20_117, s20_118, s20_120, s20_122, s20_123_o2, s20_123_o59, s20_126, s20_127_o9, s20_127_o66, s20_128, s20_131, s20_133, s20_136, le_nI_r k31, hig, z2, e2, vp_nI hg, cl_nI g31, up2_rep, rep_at, x8, x9, x10, j9, j10, x7, c, vp_lit, hng, es, nI_1, not_false_eq_true, simprocAttr, if_true, if_false, true_and, and_true, false_and, and_false, not_false_eq_true, not_true_eq_false, gd_T, kont_i, kont_v]
        rw [if_neg (by omega)]
        exact hR
    obtain ⟨σ1, e1, r2, f1⟩ := step
    rw [e1, laL]
    have l6 : lgT T g hour (nI (l / 2)) 6 = nI w := by rw [lgT_6 (by omega)]; exact h6
    rw [e2]
    cases hx : nxN g w with
    | none =>
      refine ⟨σ1, ?_, r2, G1, f1⟩
      rw [show nxI g w = -1 by unfold nxI; rw [hx]]
      have hm : callD (d + 2) 106 [.int (-1)] σ1 = some (some (.int 0), σ1) := by
        have := k_isGarden (d + 1) (-1) σ1
        rw [b2_F (show ¬ ((0 : Int32) ≤ -1 ∧ (-1 : Int32) < 9) by decide)] at this
        exact this
      have k31 : k + 1 < 2147483648 := by omega
      simp only [s20_35]
      simp only [s20_37, s20_38, s20_41, s20_43, s20_46, s20_139, le_nI_r k31, hm, simprocAttr, if_true, if_false, true_and, and_true, false_and, and_false, not_false_eq_true, not_true_eq_false, gd_T, kont_i, kont_v]
      rw [ite_self]
    | some x =>
      simp only []
      rw [show nxI g w = nI x by unfold nxI; rw [hx], es]
      obtain ⟨σ2, e3, r3, G3, f3⟩ := ih (k + 1) x (l - l / 2) σ1 _ (.int (nI (l / 2))) (by omega) (nxN_lt hg hw hx).1 (by omega) r2 G1 l6
      exact ⟨σ2, e3, r3, G3, fun o o1 o2 => (f3 o o1 o2).trans (f1 o o1 o2)⟩
theorem h59_drift_l (d w m : Nat) (hw : w < 4) (hour : Int32) : ∀ n k g l σ (T : Nat → Int32) (l7 : Value), k + n = 3 → g < 9 → l ≤ 2000000 → HR 59 σ T → GC T → T 6 = nI w → ∃ σ', ru (d + 2) 20 35 [.ref 59, .int (nI m), .ref 13, .int hour, .int (nI l), .int (nI g), .int (nI k), l7] [] σ = some (none, σ') ∧ HR 59 σ' (laL hour w n T (nI l) g) ∧ GC (laL hour w n T (nI l) g) ∧ ∀ o, o ≠ 68 → o ≠ 69 → σ' o = σ o := by
  intro n
  induction n with
  | zero =>
    intro k g l σ T l7 hk hg hl h hG h6
    obtain rfl : k = 3 := by omega
    refine ⟨σ, ?_, h, hG, fun _ _ _ => rfl⟩
    simp only [s20_35]
    simp only [s20_37, s20_38, s20_139, show (3 : Int32) ≤ nI 3 from Int32.le_refl _, simprocAttr, if_true, if_false, true_and, and_true, false_and, and_false, not_false_eq_true, not_true_eq_false, gd_T, kont_i, kont_v]
  | succ n ih =>
    intro k g l σ T l7 hk hg hl h hG h6
    have k31 : k < 2147483648 := by omega
    have g31 : g < 2147483648 := by omega
    have e2 : nI l / 2 = nI (l / 2) := pk_div (d := 2) (by omega) (by decide) (by decide)
    have es : nI l - nI (l / 2) = nI (l - l / 2) := pk_sub (by omega)
    have r1 := lg_hr h hG (l := l / 2) (by omega) hg hour
    have G1 := GC_lg hG (l := l / 2) (by omega) hour hg
    have x8 : σ 67 g = T (226 + 3 * g) := (h.2.2.2.1 g hg).1
    have x9 : σ 68 g = T (224 + 3 * g) := (h.2.2.2.1 g hg).2.1
    have x10 : σ 69 g = T (225 + 3 * g) := (h.2.2.2.1 g hg).2.2
    have x7 : σ 66 2 = nI w := (h.2.2.1 2 (by omega)).trans h6
    have j9 : jmin (T (224 + 3 * g) + nI (l / 2)) 1999999999 = moreI (T (224 + 3 * g)) (nI (l / 2)) := more_j (hG g hg).1 (by omega)
    have j10 : jmin (T (225 + 3 * g) + nI (l / 2)) 1999999999 = moreI (T (225 + 3 * g)) (nI (l / 2)) := more_j (hG g hg).2 (by omega)
    have hng : ∀ σ, callD (d + 2) 110 [.int (nI g), .int (nI w)] σ = some (some (.int (nxI g w)), σ) := fun σ => k_nextGarden d g w hg hw σ
    have hig : ∀ σ, callD (d + 2) 106 [.int (nI g)] σ = some (some (.int 1), σ) := fun σ => by
      have := k_isGarden (d + 1) (nI g) σ
      rw [b2_T (gar_n hg)] at this
      exact this
    have step : ∃ σ1, ru (d + 2) 20 35 [.ref 59, .int (nI m), .ref 13, .int hour, .int (nI l), .int (nI g), .int (nI k), l7] [] σ = ru (d + 2) 20 35 [.ref 59, .int (nI m), .ref 13, .int hour, .int (nI (l - l / 2)), .int (nxI g w), .int (nI (k + 1)), .int (nI (l / 2))] [] σ1 ∧ HR 59 σ1 (lgT T g hour (nI (l / 2))) ∧ ∀ o, o ≠ 68 → o ≠ 69 → σ1 o = σ o := by
      rw [show σ (59 + 8) g = T (226 + 3 * g) from x8] at r1
      by_cases c : (T (226 + 3 * g) >>> (hour &&& 31)) &&& 1 = 0
      · rw [if_pos c] at r1
        refine ⟨_, ?_, r1, fun o o1 o2 => rep_ne o1⟩
        generalize hR : ru (d + 2) 20 35 [.ref 59, .int (nI m), .ref 13, .int hour, .int (nI (l - l / 2)), .int (nxI g w), .int (nI (k + 1)), .int (nI (l / 2))] [] _ = R
        simp only [s20_35]
        simp only [s20_37, s20_38, s20_41, s20_43, s20_46, s20_49, s20_51, s20_52, s20_53, s20_55, s20_56_o2, s20_56_o59, s20_59, s20_61, s20_62_o2, s20_62_o59, s20_65, s20_67_o11, s20_67_o68, s20_68, s20_70, s20_71, s20_73, s20_76_o11, s20_76_o68, s20_77, s20_78_o2, s20_78_o59, s20_81, s20_83_o10, s20_83_o67, s20_84, s20_85, s20_86, s20_87, s20_88, s20_91, s20_92_o2, s20_92_o59, s20_95, s20_97, s20_98_o2, s20_98_o59, s20_101, s20_103_o12, s20_103_o69, s20_104, s20_106, s20_107, s20_109, s20_112_o12, s20_112_o69, s20_113, s20_115, s20_117, s20_118, s20_120, s20_122, s20_123_o2, s20_123_o59, s20_126, s20_127_o9, s20_127_o66, s20_128, s20_131, s20_133, s20_136, le_nI_r k31, hig, z2, e2, vp_nI hg, cl_nI g31, up2_rep, rep_at, x8, x9, j9, x7, c, vp_lit, hng, es, nI_1, not_false_eq_true, simprocAttr, if_true, if_false, true_and, and_true, false_and, and_false, not_false_eq_true, not_true_eq_false, gd_T, kont_i, kont_v]
        rw [if_neg (by omega)]
        exact hR
      · rw [if_neg c] at r1
        refine ⟨_, ?_, r1, fun o o1 o2 => (rep_ne o2).trans (rep_ne o1)⟩
        generalize hR : ru (d + 2) 20 35 [.ref 59, .int (nI m), .ref 13, .int hour, .int (nI (l - l / 2)), .int (nxI g w), .int (nI (k + 1)), .int (nI (l / 2))] [] _ = R
        simp only [s20_35]
        simp only [s20_37, s20_38, s20_41, s20_43, s20_46, s20_49, s20_51, s20_52, s20_53, s20_55, s20_56_o2, s20_56_o59, s20_59, s20_61, s20_62_o2, s20_62_o59, s20_65, s20_67_o11, s20_67_o68, s20_68, s20_70, s20_71, s20_73, s20_76_o11, s20_76_o68, s20_77, s20_78_o2, s20_78_o59, s20_81, s20_83_o10, s20_83_o67, s20_84, s20_85, s20_86, s20_87, s20_88, s20_91, s20_92_o2, s20_92_o59, s20_95, s20_97, s20_98_o2, s20_98_o59, s20_101, s20_103_o12, s20_103_o69, s20_104, s20_106, s20_107, s20_109, s20_112_o12, s20_112_o69, s20_113, s20_115, s20_117, s20_118, s20_120, s20_122, s20_123_o2, s20_123_o59, s20_126, s20_127_o9, s20_127_o66, s20_128, s20_131, s20_133, s20_136, le_nI_r k31, hig, z2, e2, vp_nI hg, cl_nI g31, up2_rep, rep_at, x8, x9, x10, j9, j10, x7, c, vp_lit, hng, es, nI_1, not_false_eq_true, simprocAttr, if_true, if_false, true_and, and_true, false_and, and_false, not_false_eq_true, not_true_eq_false, gd_T, kont_i, kont_v]
        rw [if_neg (by omega)]
        exact hR
    obtain ⟨σ1, e1, r2, f1⟩ := step
    rw [e1, laL]
    have l6 : lgT T g hour (nI (l / 2)) 6 = nI w := by rw [lgT_6 (by omega)]; exact h6
    rw [e2]
    cases hx : nxN g w with
    | none =>
      refine ⟨σ1, ?_, r2, G1, f1⟩
      rw [show nxI g w = -1 by unfold nxI; rw [hx]]
      have hm : callD (d + 2) 106 [.int (-1)] σ1 = some (some (.int 0), σ1) := by
        have := k_isGarden (d + 1) (-1) σ1
        rw [b2_F (show ¬ ((0 : Int32) ≤ -1 ∧ (-1 : Int32) < 9) by decide)] at this
        exact this
      have k31 : k + 1 < 2147483648 := by omega
      simp only [s20_35]
      simp only [s20_37, s20_38, s20_41, s20_43, s20_46, s20_139, le_nI_r k31, hm, simprocAttr, if_true, if_false, true_and, and_true, false_and, and_false, not_false_eq_true, not_true_eq_false, gd_T, kont_i, kont_v]
      rw [ite_self]
    | some x =>
      simp only []
      rw [show nxI g w = nI x by unfold nxI; rw [hx], es]
      obtain ⟨σ2, e3, r3, G3, f3⟩ := ih (k + 1) x (l - l / 2) σ1 _ (.int (nI (l / 2))) (by omega) (nxN_lt hg hw hx).1 (by omega) r2 G1 l6
      exact ⟨σ2, e3, r3, G3, fun o o1 o2 => (f3 o o1 o2).trans (f1 o o1 o2)⟩
