/-! ===== the relation between class and model holds at the start ===== -/
theorem now_v {j : Nat} (h : j ≠ 3) (h1 : j ≠ 4) (h2 : j ≠ 5) (h3 : j ≠ 7) (h4 : j ≠ 8) : nowF j = 0 := by
  unfold nowF
  rw [upd_at, if_neg h4, upd_at, if_neg h3, upd_at, if_neg h2, upd_at, if_neg h1, upd_at, if_neg h]
theorem now_n {p : Nat} : ¬ isT nowF p := fun h => by
  unfold isT ofT at h
  rw [now_v (by omega) (by omega) (by omega) (by omega) (by omega)] at h
  exact absurd h (by decide)
theorem z_n0 : (0 : Int32) = nI 0 := rfl
theorem ini_o {o : Nat} (h : ¬ (o = 1 ∨ o = 9 ∨ o = 30 ∨ o = 38 ∨ o = 66 ∨ o = 70 ∨ o = 88 ∨ o = 92 ∨ o = 93 ∨ o = 94)) : iniS o = fun _ => 0 := by
  unfold iniS
  rw [if_neg (by omega), if_neg (by omega), if_neg (by omega), if_neg (by omega), if_neg (by omega), if_neg (by omega), if_neg (by omega), if_neg (by omega), if_neg (by omega), if_neg (by omega)]
theorem ini_0 {o : Nat} (k : Nat) (h : ¬ (o = 1 ∨ o = 9 ∨ o = 30 ∨ o = 38 ∨ o = 66 ∨ o = 70 ∨ o = 88 ∨ o = 92 ∨ o = 93 ∨ o = 94)) : iniS o k = 0 := by rw [ini_o h]
theorem ini_88 : iniS 88 = nowF := rfl
theorem ini_HR : HR 2 iniS nowF := by
  refine ⟨fun p _ h => absurd h now_n, fun p _ _ => ini_0 p (by omega), fun k hk => ?_, fun g hg => ⟨?_, ?_, ?_⟩, ?_, ?_, ?_, ?_⟩
  · match k, hk with
    | 0, _ => decide +kernel
    | 1, _ => decide +kernel
    | 2, _ => decide +kernel
    | 3, _ => decide +kernel
    | 4, _ => decide +kernel
    | _ + 5, hk => exact absurd hk (by omega)
  · rw [now_v (by omega) (by omega) (by omega) (by omega) (by omega)]; exact ini_0 g (by omega)
  · rw [now_v (by omega) (by omega) (by omega) (by omega) (by omega)]; exact ini_0 g (by omega)
  · rw [now_v (by omega) (by omega) (by omega) (by omega) (by omega)]; exact ini_0 g (by omega)
  · rw [now_v (by omega) (by omega) (by omega) (by omega) (by omega)]; exact ini_0 _ (by omega)
  · rw [now_v (by omega) (by omega) (by omega) (by omega) (by omega)]; exact ini_0 _ (by omega)
  · rw [now_v (by omega) (by omega) (by omega) (by omega) (by omega)]; exact ini_0 _ (by omega)
  · rw [now_v (by omega) (by omega) (by omega) (by omega) (by omega)]; exact ini_0 _ (by omega)
theorem ini_RW (r : Nat) (F : Nat → Int32) (h : ¬ (r = 1 ∨ r = 9 ∨ r = 30 ∨ r = 38 ∨ r = 66 ∨ r = 70 ∨ r = 88 ∨ r = 92 ∨ r = 93 ∨ r = 94)) : RW r 0 iniS F := ⟨ini_0 1 h, fun k hk => absurd hk (Nat.not_lt_zero _)⟩
theorem ini_SR : SR 1 iniS nowF := by
  refine ⟨ini_HR, fun u hu cnt hc ec => ?_, ⟨0, by omega, now_v (by omega) (by omega) (by omega) (by omega) (by omega), ini_RW _ _ (by omega)⟩, ⟨0, by omega, now_v (by omega) (by omega) (by omega) (by omega) (by omega), ini_RW _ _ (by omega), ini_RW _ _ (by omega)⟩, ⟨0, by omega, now_v (by omega) (by omega) (by omega) (by omega) (by omega), ini_RW _ _ (by omega)⟩, ?_⟩
  · rw [now_v (by omega) (by omega) (by omega) (by omega) (by omega), z_n0, nI_eq (by omega) (by omega)] at ec
    subst ec
    exact ini_RW _ _ (by omega)
  · decide +kernel
theorem CA_0 : CA 0 := ⟨0, by omega, rfl⟩
theorem ini_LW (u : Nat) (hu : u < 3) : LWT nowF u := ⟨0, by omega, now_v (by omega) (by omega) (by omega) (by omega) (by omega), Or.inl rfl⟩
theorem ini_TI : TI nowF := by
  refine ⟨⟨⟨fun p _ h => absurd h now_n, fun p _ h => absurd h now_n⟩, ⟨⟨ini_LW 0 (by omega), ini_LW 1 (by omega), ini_LW 2 (by omega)⟩, fun p _ h => absurd h now_n, ⟨4, by omega, by decide +kernel⟩, ⟨0, by omega, by decide +kernel⟩⟩, fun g hg => ⟨?_, ?_⟩, ?_, ?_⟩, fun n hn en k hk => ?_, fun n hn en k hk => ?_⟩
  · rw [now_v (by omega) (by omega) (by omega) (by omega) (by omega)]; exact CA_0
  · rw [now_v (by omega) (by omega) (by omega) (by omega) (by omega)]; exact CA_0
  · rw [now_v (by omega) (by omega) (by omega) (by omega) (by omega)]; exact CA_0
  · rw [now_v (by omega) (by omega) (by omega) (by omega) (by omega)]; exact CA_0
  · rw [now_v (by omega) (by omega) (by omega) (by omega) (by omega), z_n0, nI_eq (by omega) (by omega)] at en
    omega
  · rw [now_v (by omega) (by omega) (by omega) (by omega) (by omega), z_n0, nI_eq (by omega) (by omega)] at en
    omega
theorem ini_sN : ∀ n, sN nowF n = 0 := by
  intro n
  induction n with
  | zero => rfl
  | succ n ih =>
    rw [sN, ih, stN, if_neg now_n]
theorem ini_WB : WB iniS := by
  refine ⟨fun o ho i => ?_, fun o j ho hj => ?_⟩
  · have h : ∀ o, o < 104 → (shp o).1 = 11 → o = 8 ∨ o = 37 ∨ o = 65 := by decide +kernel
    have lt : o < 104 := by
      refine Nat.lt_of_not_le (fun q => ?_)
      unfold shp at ho
      rw [List.getD_eq_getElem?_getD, List.getElem?_eq_none (show shpT.length ≤ o from Nat.le_trans (by decide +kernel) q)] at ho
      exact absurd ho (by decide)
    rw [ini_0 i (by have := h o lt ho; omega)]
    exact Or.inl rfl
  · have lt : o < 104 := by
      refine Nat.lt_of_not_le (fun q => ?_)
      unfold shp at ho
      rw [List.getD_eq_getElem?_getD, List.getElem?_eq_none (show shpT.length ≤ o from Nat.le_trans (by decide +kernel) q)] at ho
      exact absurd ho (by decide)
    have h : ∀ o, o < 104 → (shp o).1 = 10 → ¬ (o = 1 ∨ o = 30 ∨ o = 70) := by decide +kernel
    have n1 := h o lt ho
    have s5 : ∀ j, 5 ≤ j → setF j = 0 := fun j hj => by
      unfold setF va_cpy
      rw [if_neg (by omega)]
    have m5 : ∀ j, 5 ≤ j → mosA j = 0 := fun j hj => by
      unfold mosA
      rw [upd_at, if_neg (by omega), upd_at, if_neg (by omega), upd_at, if_neg (by omega), upd_at, if_neg (by omega), upd_at, if_neg (by omega)]
    by_cases c : o = 9 ∨ o = 38 ∨ o = 66 ∨ o = 94
    · rcases c with rfl | rfl | rfl | rfl
      · exact s5 j hj
      · exact s5 j hj
      · exact s5 j hj
      · exact m5 j hj
    · by_cases c2 : o = 88
      · subst c2
        have hj : 545 ≤ j := hj
        exact now_v (by omega) (by omega) (by omega) (by omega) (by omega)
      · by_cases c3 : o = 92 ∨ o = 93
        · rcases c3 with rfl | rfl
          · have hj : 7 ≤ j := hj
            show hotA j = 0
            unfold hotA
            rw [upd_at, if_neg (by omega), upd_at, if_neg (by omega), upd_at, if_neg (by omega), upd_at, if_neg (by omega), upd_at, if_neg (by omega), upd_at, if_neg (by omega), upd_at, if_neg (by omega)]
          · have hj : 7 ≤ j := hj
            show catA j = 0
            unfold catA
            rw [upd_at, if_neg (by omega), upd_at, if_neg (by omega), upd_at, if_neg (by omega), upd_at, if_neg (by omega), upd_at, if_neg (by omega), upd_at, if_neg (by omega), upd_at, if_neg (by omega)]
        · exact ini_0 j (by omega)
theorem ini_RR : RR 0 iniS := by
  refine ⟨ini_SR, ini_TI, fun g hg => ⟨0, ?_, ?_⟩, ⟨?_, Or.inl ?_⟩, fun k _ _ => ?_, ⟨0, by omega, ?_, ?_, fun k hk => absurd hk (Nat.not_lt_zero _)⟩, fun j hj => ⟨⟨?_, Or.inl ?_⟩, 0, by omega, ?_, ?_, fun k hk => ?_⟩, ⟨⟨?_, ?_⟩, ?_⟩, ini_WB⟩
  · rw [ini_88, now_v (by omega) (by omega) (by omega) (by omega) (by omega)]; rfl
  · rw [ini_88, ini_sN]; omega
  · rw [ini_0 8 (by omega), ini_0 3 (by omega)]
  · exact ini_0 3 (by omega)
  · rw [ini_0 k (by omega), ini_0 k (by omega)]
  · exact ini_0 1 (by omega)
  · exact ini_0 19 (by omega)
  · rw [ini_0 1 (by omega), ini_0 j (by omega)]
  · exact ini_0 j (by omega)
  · exact ini_0 2 (by omega)
  · exact ini_0 j (by omega)
  · rw [ini_0 k (by omega), ini_0 _ (by omega)]
  · decide +kernel
  · decide +kernel
  · decide +kernel
