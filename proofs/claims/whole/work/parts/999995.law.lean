/-! ===== the law: from its entry ===== -/
theorem dL_0 : decode code 0 = .ok (.new 7, 3) := by decide +kernel
theorem dL_3 : decode code 3 = .ok (.dup, 1) := by decide +kernel
theorem dL_4 : decode code 4 = .ok (.invokespecial 9, 3) := by decide +kernel
theorem dL_7 : decode code 7 = .ok (.astore_n 1, 1) := by decide +kernel
theorem dL_8 : decode code 8 = .ok (.new 10, 3) := by decide +kernel
theorem dL_11 : decode code 11 = .ok (.dup, 1) := by decide +kernel
theorem dL_12 : decode code 12 = .ok (.invokespecial 12, 3) := by decide +kernel
theorem dL_15 : decode code 15 = .ok (.astore_n 2, 1) := by decide +kernel
theorem dL_16 : decode code 16 = .ok (.iconst 0, 1) := by decide +kernel
theorem dL_17 : decode code 17 = .ok (.istore_n 3, 1) := by decide +kernel
def idT : List Nat := [76, 0, 1, 2, 9, 12, 11, 10, 8, 7, 6, 5, 4, 3, 13, 14, 15, 16, 17, 18, 19, 20, 21, 22, 23, 24, 25, 26, 27, 28, 29, 30, 31, 38, 41, 40, 39, 37, 36, 35, 34, 33, 32, 42, 43, 44, 45, 46, 47, 48, 49, 50, 51, 52, 53, 54, 55, 56, 57, 58, 59, 66, 69, 68, 67, 65, 64, 63, 62, 61, 60, 70, 71, 72, 73, 74, 75, 77, 78, 79, 80, 81, 82, 83, 84, 85, 86, 87, 88, 103, 102, 101, 100, 99, 98, 97, 96, 95, 94, 93, 92, 91, 90, 89]
def posT : List Nat := [1, 2, 3, 13, 12, 11, 10, 9, 8, 4, 7, 6, 5, 14, 15, 16, 17, 18, 19, 20, 21, 22, 23, 24, 25, 26, 27, 28, 29, 30, 31, 32, 42, 41, 40, 39, 38, 37, 33, 36, 35, 34, 43, 44, 45, 46, 47, 48, 49, 50, 51, 52, 53, 54, 55, 56, 57, 58, 59, 60, 70, 69, 68, 67, 66, 65, 61, 64, 63, 62, 71, 72, 73, 74, 75, 76, 0, 77, 78, 79, 80, 81, 82, 83, 84, 85, 86, 87, 88, 103, 102, 101, 100, 99, 98, 97, 96, 95, 94, 93, 92, 91, 90, 89]
theorem id_pos : ∀ o, o < 104 → idT[posT.getD o 0]? = some o := by decide +kernel
set_option maxHeartbeats 4000000 in
set_option maxRecDepth 100000 in
theorem ini_ad (g0 : Gw) (fX fM : Nat → Nat) : (([] ++ wSmoky g0 fX) ++ wModel g0 fM).map Prod.fst = idT.map (gI g0 fX fM).1 := by
  simp only [wSmoky, wState, wHeap, wLaws, wReader, wVoices, wSheet, wRow, wModel, List.map_append, List.map_cons, List.map_nil, List.nil_append, List.cons_append]
  rfl
theorem ini_D {A : Nat → Prop} {Lw : va_W} {f : Nat → Nat} (hD : va_D A Lw) (e : Lw.map Prod.fst = idT.map f) : (∀ o, o < 104 → A (f o)) ∧ ∀ i j, i < 104 → j < 104 → f i = f j → i = j := by
  have h : ∀ o, o < 104 → ∃ q, Lw[posT.getD o 0]? = some q ∧ q.1 = f o := by
    intro o ho
    have h1 : (Lw.map Prod.fst)[posT.getD o 0]? = some (f o) := by
      rw [e, List.getElem?_map, id_pos o ho]
      rfl
    rw [List.getElem?_map] at h1
    cases hq : Lw[posT.getD o 0]? with
    | none => rw [hq] at h1; cases h1
    | some q => rw [hq] at h1; exact ⟨q, rfl, Option.some.inj h1⟩
  refine ⟨fun o ho => ?_, fun i j hi hj ee => ?_⟩
  · obtain ⟨q, h1, h2⟩ := h o ho
    rw [← h2]
    exact hD.2 _ q h1
  · obtain ⟨q, h1, h2⟩ := h i hi
    obtain ⟨r, h3, h4⟩ := h j hj
    have ep := hD.1 _ _ q r h1 h3 (by rw [h2, h4]; exact ee)
    have a1 := id_pos i hi
    rw [ep, id_pos j hj] at a1
    exact (Option.some.inj a1).symm
theorem STA_gI {g0 : Gw} {fX fM : Nat → Nat} {A : Nat → Prop} {U : State} {H : Heap} (h : STA g0 A U H) : STA (gI g0 fX fM) A U H := by
  have e : ∀ k, 104 ≤ k → (gI g0 fX fM).1 k = g0.1 k := fun k hk => by
    show (if k < 87 then fX k else if k < 104 then fM (k - 87) else g0.1 k) = _
    rw [if_neg (by omega), if_neg (by omega)]
  obtain ⟨h1, h2, h3, h4, h5, h6⟩ := h
  refine ⟨fun i hi => ?_, fun i hi => ?_, h3, h4, h5, h6⟩
  · rw [e _ (by omega)]
    exact h1 i hi
  · rw [e (110 + i) (by omega), e (122 + i) (by omega)]
    exact h2 i hi
set_option maxHeartbeats 4000000 in
set_option maxRecDepth 100000 in
/-- from the entry, for every script of at most 3072 ints, the law comes to its end with true -/
theorem whole_start {p : Program} {e : Env} {s : State} {m : MethodId} {below : List Frame} {meth : Method} {c : Code} (l : Launch) (hflags : l.flags = flags0) {b L : Nat} {xs : Nat → Int32} (hL : L ≤ 3072) (C0 : lw_At p s m meth c b L xs) : W p l e room_1 s m #[Value.ref b] below meth c s.heap [] 0 0 (lw_Z below #[Value.ref b] s) (entryFrame m ([Value.ref b] : List Value).toArray 4) := by
  obtain ⟨hx, hb, hr, hml, hown, hts, hX, hbl, hlocks, hgv⟩ := id C0
  obtain ⟨g0, hST0, hK0, hXW⟩ := G_start hgv hts
  have htg : ∀ w ∈ lw_good, w.before #[Value.ref b] s = true := fun w hw => hts w (List.mem_filter.mp hw).1
  have X : LX g0 p s m #[Value.ref b] c (fun q : Nat => s.heap.size ≤ q) := ⟨hx, hb, hml, hown, htg, hK0, hST0, hXW, fun q h => h⟩
  have hWd : WD g0 (fun q : Nat => s.heap.size ≤ q) s s.heap [] ([] : va_W) := ⟨fun k q h => by simp at h, ⟨fun i j p q h => by simp at h, fun k q h => by simp at h⟩, va_S.rf⟩
  have hl := lv_entry ([.ref b]) (n := 4) (Nat.le_of_ble_eq_true rfl)
  rw [lg_entry_eq]
  generalize (lg_sl ([.ref b]) ++ List.replicate (4 - (lg_sl ([.ref b])).length) Slot.unset).toArray = ls at hl ⊢
  have hl : lv_has ls 4 [(0, .ref b)] := hl
  refine lw_new X hWd (ci := 7) (idx := 7) (by decide) (gdW_in (i := 82) (by decide +kernel)) (gdW_in (i := 83) (by decide +kernel)) (gdW_in (i := 65) (by decide +kernel)) (Nat.le_of_ble_eq_true rfl) (Nat.le_of_ble_eq_true rfl) dL_0 (fun q0 H0 hWd => ?_)
  refine W.widen (k := 1) (n := 9) (Nat.le_of_ble_eq_true rfl) (Nat.le_of_ble_eq_true rfl) ?_
  refine lv_dup hx hb dL_3 rfl ?_
  refine lw_ctor X hWd (con_Smoky l g0 q0) (gdW_in (i := 84) (by decide +kernel)) (mem_good (i := 86) rfl rfl) (gdW_in (i := 65) (by decide +kernel)) (gdW_in (i := 85) (by decide +kernel)) rfl ⟨by decide, by decide, by decide +kernel⟩ ⟨rfl, rfl⟩ ⟨Nat.le_of_ble_eq_true rfl, Nat.le_of_ble_eq_true rfl⟩ hl.1 (Nat.le_of_ble_eq_true rfl) dL_4 ⟨Nat.le_of_ble_eq_true rfl, Nat.le_of_ble_eq_true rfl⟩ (fun fX H1 l1 hf0 hW2 => ?_)
  subst hf0
  refine W.widen (k := 87) (n := 1718) (Nat.le_of_ble_eq_true rfl) (Nat.le_of_ble_eq_true rfl) ?_
  refine lv_astore_n (lv' := [(1, .ref (fX 0)), (0, .ref b)]) hx hb dL_7 rfl hl (by decide) rfl (fun ls hl => ?_)
  refine lw_new X hW2 (ci := 8) (idx := 10) (by decide) (gdW_in (i := 902) (by decide +kernel)) (gdW_in (i := 903) (by decide +kernel)) (gdW_in (i := 75) (by decide +kernel)) (Nat.le_of_ble_eq_true rfl) (Nat.le_of_ble_eq_true rfl) dL_8 (fun q1 H2 hW3 => ?_)
  refine W.widen (k := 88) (n := 1744) (Nat.le_of_ble_eq_true rfl) (Nat.le_of_ble_eq_true rfl) ?_
  refine lv_dup hx hb dL_11 rfl ?_
  refine lw_ctor X hW3 (con_Model l g0 q1) (gdW_in (i := 904) (by decide +kernel)) (mem_good (i := 906) rfl rfl) (gdW_in (i := 75) (by decide +kernel)) (gdW_in (i := 905) (by decide +kernel)) rfl ⟨by decide, by decide, by decide +kernel⟩ ⟨rfl, rfl⟩ ⟨Nat.le_of_ble_eq_true rfl, Nat.le_of_ble_eq_true rfl⟩ hl.1 (Nat.le_of_ble_eq_true rfl) dL_12 ⟨Nat.le_of_ble_eq_true rfl, Nat.le_of_ble_eq_true rfl⟩ (fun fM H3 l3 hf1 hW4 => ?_)
  subst hf1
  refine W.widen (k := 104) (n := 3690) (Nat.le_of_ble_eq_true rfl) (Nat.le_of_ble_eq_true rfl) ?_
  refine lv_astore_n (lv' := [(2, .ref (fM 0)), (1, .ref (fX 0)), (0, .ref b)]) hx hb dL_15 rfl hl (by decide) rfl (fun ls hl => ?_)
  refine lv_iconst (v := 0) hx hb dL_16 (by decide +kernel) ?_
  refine lv_istore_n (lv' := [(3, .int 0), (2, .ref (fM 0)), (1, .ref (fX 0)), (0, .ref b)]) hx hb dL_17 rfl hl (by decide) rfl (fun ls hl => ?_)
  obtain ⟨hP, hD, hS⟩ := hW4
  obtain ⟨hin, hI⟩ := ini_D hD (ini_ad g0 fX fM)
  have hat := ini_at g0 fX fM H3 (P_r (P_l hP)) (P_r hP)
  have hPW : va_P (gI g0 fX fM).2.1 vwCl (wsW (gI g0 fX fM) iniS) H3 := fun k q hq => by
    obtain ⟨hk, rfl⟩ := wsW_in hq
    exact hat k hk
  have hAA : AA (gI g0 fX fM) s.heap.size = fun q : Nat => s.heap.size ≤ q := funext fun q => propext ⟨fun h => by
    rcases h with ⟨o, ho, rfl⟩ | h
    · exact hin o ho
    · exact h, fun h => Or.inr h⟩
  have C : LC (gI g0 fX fM) p s m #[Value.ref b] c b L xs := ⟨hx, hb, hml, hown, htg, hK0, by rw [hAA]; exact STA_gI hST0, hI, hX, hbl, by rw [hAA]; exact Nat.not_le.mpr hbl⟩
  exact lw_loop C hL hr hlocks (fun q h => by rw [hAA] at h; exact h) L 0 iniS H3 l3 ls (by omega) (by omega) ini_RR hPW (by rw [hAA]; exact hS) hl
