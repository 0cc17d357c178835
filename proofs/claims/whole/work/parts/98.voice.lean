/-! ===== the call: voice ===== -/
theorem own_in : ∀ k, k < 7 → ∀ a, a < 4 → owN k a ≤ k ∧ (owN k a, a) ∈ ([(0, 0), (0, 1), (0, 2), (0, 3), (1, 0), (1, 3), (2, 2), (3, 0), (3, 1), (4, 2), (4, 3), (5, 1), (6, 0), (6, 2)] : List (Nat × Nat)) := by decide +kernel
theorem BD_all {σ0 τ0 : Hs} {kd p : Nat} {st : Int32} (hv : VCx σ0 τ0 kd p st) (f : Nat) (ih : BQs σ0 τ0 f) {k a : Nat} (hk : k < 7) (ha : a < 4) (hr : 7 * a + k + 1 ≤ f + 1) (x : Int32) (L : List Int32) : BD σ0 τ0 f (owN k a) a x L := by
  obtain ⟨hle, h⟩ := own_in k hk a ha
  generalize owN k a = o at hle h ⊢
  simp only [List.mem_cons, Prod.mk.injEq, List.not_mem_nil, or_false] at h
  rcases h with ⟨rfl, rfl⟩ | ⟨rfl, rfl⟩ | ⟨rfl, rfl⟩ | ⟨rfl, rfl⟩ | ⟨rfl, rfl⟩ | ⟨rfl, rfl⟩ | ⟨rfl, rfl⟩ | ⟨rfl, rfl⟩ | ⟨rfl, rfl⟩ | ⟨rfl, rfl⟩ | ⟨rfl, rfl⟩ | ⟨rfl, rfl⟩ | ⟨rfl, rfl⟩ | ⟨rfl, rfl⟩
  · exact BD_10 hv f ih (by omega) x L
  · exact BD_11 hv f ih (by omega) x L
  · exact BD_12 hv f ih (by omega) x L
  · exact BD_13 hv f ih (by omega) x L
  · exact BD_20 hv f ih (by omega) x L
  · exact BD_21 hv f ih (by omega) x L
  · exact BD_30 hv f ih (by omega) x L
  · exact BD_40 hv f ih (by omega) x L
  · exact BD_41 hv f ih (by omega) x L
  · exact BD_50 hv f ih (by omega) x L
  · exact BD_51 hv f ih (by omega) x L
  · exact BD_60 hv f ih (by omega) x L
  · exact BD_70 hv f ih (by omega) x L
  · exact BD_71 hv f ih (by omega) x L
theorem BQ_all {σ0 τ0 : Hs} {kd p : Nat} {st : Int32} (hv : VCx σ0 τ0 kd p st) : ∀ f, BQs σ0 τ0 f := by
  intro f
  induction f with
  | zero =>
    intro k a hk ha hr x L pp
    omega
  | succ f ih =>
    intro k a hk ha hr x L pp
    have own : ∀ d σ, callD (d + 2) 57 [.int (nI k), .int (nI a)] σ = some (some (.int (nI (owN k a))), σ) := fun d σ => k_owner d k a hk ha σ
    have clb : ∀ d σ i1 i3, ru (d + 1) 199 3 [.ref 87, .int i1, .int (nI a), .int i3, .int (nI k)] [] σ = ru (d + 1) 199 22 [.ref 87, .int i1, .int (nI a), .int i3, .int (nI (owN k a))] [] σ := fun d σ i1 i3 => m_clb d k a hk ha i1 i3 σ
    cases pp with
    | true =>
      refine ⟨0, L, true, fun D e he hD => ?_, fun D hD => ?_⟩
      · obtain ⟨D, rfl⟩ : ∃ E, D = E + 1 := ⟨D - 1, by omega⟩
        have hp : vcS σ0 L true 73 1 = 1 := vc_p σ0 L true
        simp only [c55, s55_0, s55_1, s55_2, s55_5, s55_7, s55_8_o73, s55_11, s55_14, s55_16, s55_18, s55_21, s55_23, s55_24, s55_27, s55_28, own, hp, simprocAttr, if_true, if_false, true_and, and_true, false_and, and_false, not_false_eq_true, not_true_eq_false, gd_T, kont_i, kont_v]
      · obtain ⟨D, rfl⟩ : ∃ E, D = E + 1 := ⟨D - 1, by omega⟩
        have hp : vmS τ0 L true 87 21 = 1 := vm_p τ0 L true
        have c := clb (D + 4) (vmS τ0 L true) (nI k) x
        simp only [c199, s199_0, s199_1]
        rw [show ru (D + 5) 199 3 [.ref 87, .int (nI k), .int (nI a), .int x, .int (nI k)] [] (vmS τ0 L true) = _ from c]
        simp only [s199_22, s199_23_o87, s199_26, s199_29, s199_30, s199_33, s199_34, s199_36, s199_37, s199_38_o87, s199_41, hp, simprocAttr, if_true, if_false, true_and, and_true, false_and, and_false, not_false_eq_true, not_true_eq_false, gd_T, kont_i, kont_v]
    | false =>
      obtain ⟨v, L2, p2, hc, hm⟩ := BD_all hv f ih hk ha hr x L
      refine ⟨v, L2, p2, fun D e he hD => ?_, fun D hD => ?_⟩
      · obtain ⟨D, rfl⟩ : ∃ E, D = E + 1 := ⟨D - 1, by omega⟩
        have hp : vcS σ0 L false 73 1 = 0 := vc_p σ0 L false
        have h := hc D e (nI k) he (by omega)
        have g : ((40 : Int32) < nI e) = False := by rw [show (40 : Int32) = nI 40 from rfl, lt_nn (by omega) (by omega)]; exact eq_false (by omega)
        have o7 : owN k a < 7 := by have := (own_in k hk a ha).1; omega
        have g2 : (nI (owN k a) = -1) = False := eq_false (fun q => by
          have z := nI_pos' (show owN k a < 2147483648 by omega)
          rw [q] at z
          exact absurd z (by decide))
        simp only [c55, s55_0, s55_1, s55_2, s55_5, s55_7, s55_8_o73, s55_11, s55_14, s55_16, s55_18, s55_21, s55_23, s55_24, s55_27, s55_28, own, hp, g, g2, simprocAttr, if_true, if_false, true_and, and_true, false_and, and_false, not_false_eq_true, not_true_eq_false, gd_T, kont_i, kont_v]
        exact h
      · obtain ⟨D, rfl⟩ : ∃ E, D = E + 3 := ⟨D - 3, by omega⟩
        have hp : vmS τ0 L false 87 21 = 0 := vm_p τ0 L false
        have c := clb (D + 6) (vmS τ0 L false) (nI k) x
        have h := hm D (by omega)
        simp only [c199, s199_0, s199_1]
        rw [show ru (D + 7) 199 3 [.ref 87, .int (nI k), .int (nI a), .int x, .int (nI k)] [] (vmS τ0 L false) = _ from c]
        simp only [s199_22, s199_23_o87, s199_26, s199_29, s199_30, s199_33, s199_34, s199_36, s199_37, s199_38_o87, s199_41, hp, h, simprocAttr, if_true, if_false, true_and, and_true, false_and, and_false, not_false_eq_true, not_true_eq_false, gd_T, kont_i, kont_v]
