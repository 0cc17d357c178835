/-! ===== the law: its loop ===== -/
theorem dL_18 : decode code 18 = .ok (.iload_n 3, 1) := by decide +kernel
theorem dL_19 : decode code 19 = .ok (.aload_n 0, 1) := by decide +kernel
theorem dL_20 : decode code 20 = .ok (.arraylength, 1) := by decide +kernel
theorem dL_21 : decode code 21 = .ok (.bipush 6, 2) := by decide +kernel
theorem dL_23 : decode code 23 = .ok (.isub, 1) := by decide +kernel
theorem dL_24 : decode code 24 = .ok (.if_icmp .gt 1407, 3) := by decide +kernel
theorem dL_27 : decode code 27 = .ok (.aload_n 0, 1) := by decide +kernel
theorem dL_28 : decode code 28 = .ok (.iload_n 3, 1) := by decide +kernel
theorem dL_29 : decode code 29 = .ok (.iaload, 1) := by decide +kernel
theorem dL_30 : decode code 30 = .ok (.bipush 63, 2) := by decide +kernel
theorem dL_32 : decode code 32 = .ok (.iand, 1) := by decide +kernel
theorem dL_33 : decode code 33 = .ok (.tableswitch 1392 0 40 #[179, 232, 255, 288, 321, 354, 377, 410, 443, 476, 539, 562, 585, 608, 631, 654, 697, 730, 753, 766, 799, 842, 875, 898, 921, 954, 977, 1010, 1023, 1036, 1079, 1102, 1145, 1188, 1251, 1274, 1287, 1300, 1323, 1346, 1369], 179) := by decide +kernel
theorem dL_1425 : decode code 1425 = .ok (.iinc 3 6, 3) := by decide +kernel
theorem dL_1428 : decode code 1428 = .ok (.goto (-1410), 3) := by decide +kernel
theorem dL_1431 : decode code 1431 = .ok (.iconst 1, 1) := by decide +kernel
theorem dL_1432 : decode code 1432 = .ok (.ireturn, 1) := by decide +kernel
theorem a63 (v : Int32) : ∃ n, n < 64 ∧ v &&& 63 = nI n := by
  refine ⟨v.toBitVec.toNat % 64, Nat.mod_lt _ (by omega), ?_⟩
  apply Int32.toBitVec_inj.mp
  show _ = BitVec.ofNat 32 (v.toBitVec.toNat % 64)
  rw [Int32.toBitVec_and]
  apply BitVec.eq_of_toNat_eq
  rw [BitVec.toNat_and, show (Int32.toBitVec 63).toNat = 2 ^ 6 - 1 from rfl, Nat.and_two_pow_sub_one_eq_mod, BitVec.toNat_ofNat]
  omega
theorem lw_cmp {L j : Nat} (hL : L ≤ 3072) (hj : 6 * j ≤ L) : (Int32.ofNat L - 6 < nI (6 * j)) = ¬ (6 * j + 6 ≤ L) := by
  have e : Int32.ofNat L = nI L := rfl
  rw [e]
  by_cases c : 6 ≤ L
  · rw [show (6 : Int32) = nI 6 from rfl, pk_sub c, lt_nn (by omega) (by omega)]
    exact propext (by omega)
  · have h : ∀ L, L < 6 → nI L - 6 < 0 := by decide +kernel
    refine propext ⟨fun _ => by omega, fun _ => ?_⟩
    exact Int32.lt_of_lt_of_le (h L (by omega)) (nI_pos' (by omega))
theorem t41 : ∀ n, n < 23 → 40 < (nI (n + 41)).toInt := by decide +kernel
section LAW2
variable {p : Program} {l : Launch} {e : Env} {s : State} {m : MethodId} {args : Array Value} {below : List Frame} {meth : Method} {c : Code} {H : Heap} {locs : List Loc} {cells slots : Nat} {Q : State → Prop}
variable {pc : Nat} {ls : Array Slot} {rest : List Value} {ws wr : va_W} {A : Nat → Prop} {g : Gw} {b L j : Nat} {xs : Nat → Int32} {σ : Hs}
set_option maxHeartbeats 4000000 in
set_option maxRecDepth 100000 in
theorem lw_loop (C : LC g p s m #[Value.ref b] c b L xs) (hL : L ≤ 3072) (hr : meth.sig.returnType = ret) (hlocks : meth.locks = false) (hbase : ∀ q, AA g s.heap.size q → s.heap.size ≤ q) : ∀ (n j : Nat) (σ : Hs) (H : Heap) (locs : List Loc) (ls : Array Slot), L - 6 * j ≤ n → 6 * j ≤ L → RR j σ → va_P g.2.1 vwCl (wsW g σ) H → va_S (AA g s.heap.size) s.heap H locs → lv_has ls 4 (lvv g b j) → W p l e room_1 s m #[Value.ref b] below meth c H locs 104 3690 (lw_Z below #[Value.ref b] s) (F0 m 18 ls []) := by
  obtain ⟨hx, hb, hml, hown, hts, hK, hST, hI, hX, hbl, hbA⟩ := id C
  have head : ∀ (j : Nat) (H : Heap) (locs : List Loc) (ls : Array Slot), 6 * j ≤ L → va_S (AA g s.heap.size) s.heap H locs → lv_has ls 4 (lvv g b j) → (6 * j + 6 ≤ L → W p l e room_1 s m #[Value.ref b] below meth c H locs 104 3690 (lw_Z below #[Value.ref b] s) (F0 m 27 ls [])) → W p l e room_1 s m #[Value.ref b] below meth c H locs 104 3690 (lw_Z below #[Value.ref b] s) (F0 m 18 ls []) := by
    intro j H locs ls hjL hS hl kk
    refine lv_iload_n hx hb dL_18 rfl (lv_at hl 0 rfl) ?_
    refine lv_aload_n hx hb dL_19 rfl (lv_at hl 3 rfl) ?_
    refine va_slen hx hb hX hbl hbA hS dL_20 ?_
    refine lv_bipush (v := 6) hx hb dL_21 (by decide +kernel) ?_
    refine lv_isub hx hb dL_23 ?_
    refine lv_icmp_gt (tgt := 1431) hx hb dL_24 (by decide) (fun _ => ?_) (fun hc => ?_)
    · refine lv_iconst (v := 1) hx hb dL_1431 (by decide +kernel) ?_
      refine va_forget (fun q hq => hbase _ (hS.2.2 q hq)) ?_
      refine W.widen (k := 600000) (n := 7302250) (Nat.le_of_ble_eq_true rfl) (Nat.le_of_ble_eq_true rfl) ?_
      exact lw_ret hx hb hr hlocks dL_1432
    · rw [lw_cmp hL hjL] at hc
      exact kk (Decidable.not_not.mp hc)
  intro n
  induction n with
  | zero =>
    intro j σ H locs ls hn hjL hR hP hS hl
    exact head j H locs ls hjL hS hl (fun h => absurd h (by omega))
  | succ n ih =>
    intro j σ H locs ls hn hjL hR hP hS hl
    refine head j H locs ls hjL hS hl (fun hj => ?_)
    have kk : ∀ (σ2 : Hs) (H1 : Heap) (locs1 : List Loc), RR (j + 1) σ2 → va_P g.2.1 vwCl (wsW g σ2) H1 → va_S (AA g s.heap.size) s.heap H1 locs1 → W p l e room_1 s m #[Value.ref b] below meth c H1 locs1 104 3690 (lw_Z below #[Value.ref b] s) (F0 m 1425 ls []) := by
      intro σ2 H1 locs1 hR2 hP2 hS2
      have e6 : nI (6 * j) + Int32.ofInt 6 = nI (6 * (j + 1)) := by
        rw [show Int32.ofInt 6 = nI 6 from by decide +kernel, nI_add]
        rfl
      refine lv_iinc (v := nI (6 * (j + 1))) (lv' := lvv g b (j + 1)) hx hb dL_1425 hl (k := 0) rfl e6 (by decide) rfl (fun ls2 hl2 => ?_)
      refine lv_goto (tgt := 18) hx hb dL_1428 (by decide) ?_
      exact ih (j + 1) σ2 H1 locs1 ls2 (by omega) (by omega) hR2 hP2 hS2 hl2
    refine lv_aload_n hx hb dL_27 rfl (lv_at hl 3 rfl) ?_
    refine lv_iload_n hx hb dL_28 rfl (lv_at hl 0 rfl) ?_
    refine va_sld hx hb hX hbl hbA hS (vp_in_nI (by omega) (by omega)) dL_29 ?_
    refine lv_bipush (v := 63) hx hb dL_30 (by decide +kernel) ?_
    refine lv_iand hx hb dL_32 ?_
    obtain ⟨z, hz, ez⟩ := a63 (xs (nI (6 * j)).toNatClampNeg)
    rw [ez]
    match z, hz with
    | 0, _ => exact lv_tableIn (off := 179) (tgt := 212) hx hb dL_33 (by decide +kernel) (by decide +kernel) (by decide +kernel) (by decide) (lw_case_0 C hL hj hR hP hS hl kk)
    | 1, _ => exact lv_tableIn (off := 232) (tgt := 265) hx hb dL_33 (by decide +kernel) (by decide +kernel) (by decide +kernel) (by decide) (lw_case_1 C hL hj hR hP hS hl kk)
    | 2, _ => exact lv_tableIn (off := 255) (tgt := 288) hx hb dL_33 (by decide +kernel) (by decide +kernel) (by decide +kernel) (by decide) (lw_case_2 C hL hj hR hP hS hl kk)
    | 3, _ => exact lv_tableIn (off := 288) (tgt := 321) hx hb dL_33 (by decide +kernel) (by decide +kernel) (by decide +kernel) (by decide) (lw_case_3 C hL hj hR hP hS hl kk)
    | 4, _ => exact lv_tableIn (off := 321) (tgt := 354) hx hb dL_33 (by decide +kernel) (by decide +kernel) (by decide +kernel) (by decide) (lw_case_4 C hL hj hR hP hS hl kk)
    | 5, _ => exact lv_tableIn (off := 354) (tgt := 387) hx hb dL_33 (by decide +kernel) (by decide +kernel) (by decide +kernel) (by decide) (lw_case_5 C hL hj hR hP hS hl kk)
    | 6, _ => exact lv_tableIn (off := 377) (tgt := 410) hx hb dL_33 (by decide +kernel) (by decide +kernel) (by decide +kernel) (by decide) (lw_case_6 C hL hj hR hP hS hl kk)
    | 7, _ => exact lv_tableIn (off := 410) (tgt := 443) hx hb dL_33 (by decide +kernel) (by decide +kernel) (by decide +kernel) (by decide) (lw_case_7 C hL hj hR hP hS hl kk)
    | 8, _ => exact lv_tableIn (off := 443) (tgt := 476) hx hb dL_33 (by decide +kernel) (by decide +kernel) (by decide +kernel) (by decide) (lw_case_8 C hL hj hR hP hS hl kk)
    | 9, _ => exact lv_tableIn (off := 476) (tgt := 509) hx hb dL_33 (by decide +kernel) (by decide +kernel) (by decide +kernel) (by decide) (lw_case_9 C hL hj hR hP hS hl kk)
    | 10, _ => exact lv_tableIn (off := 539) (tgt := 572) hx hb dL_33 (by decide +kernel) (by decide +kernel) (by decide +kernel) (by decide) (lw_case_10 C hL hj hR hP hS hl kk)
    | 11, _ => exact lv_tableIn (off := 562) (tgt := 595) hx hb dL_33 (by decide +kernel) (by decide +kernel) (by decide +kernel) (by decide) (lw_case_11 C hL hj hR hP hS hl kk)
    | 12, _ => exact lv_tableIn (off := 585) (tgt := 618) hx hb dL_33 (by decide +kernel) (by decide +kernel) (by decide +kernel) (by decide) (lw_case_12 C hL hj hR hP hS hl kk)
    | 13, _ => exact lv_tableIn (off := 608) (tgt := 641) hx hb dL_33 (by decide +kernel) (by decide +kernel) (by decide +kernel) (by decide) (lw_case_13 C hL hj hR hP hS hl kk)
    | 14, _ => exact lv_tableIn (off := 631) (tgt := 664) hx hb dL_33 (by decide +kernel) (by decide +kernel) (by decide +kernel) (by decide) (lw_case_14 C hL hj hR hP hS hl kk)
    | 15, _ => exact lv_tableIn (off := 654) (tgt := 687) hx hb dL_33 (by decide +kernel) (by decide +kernel) (by decide +kernel) (by decide) (lw_case_15 C hL hj hR hP hS hl kk)
    | 16, _ => exact lv_tableIn (off := 697) (tgt := 730) hx hb dL_33 (by decide +kernel) (by decide +kernel) (by decide +kernel) (by decide) (lw_case_16 C hL hj hR hP hS hl kk)
    | 17, _ => exact lv_tableIn (off := 730) (tgt := 763) hx hb dL_33 (by decide +kernel) (by decide +kernel) (by decide +kernel) (by decide) (lw_case_17 C hL hj hR hP hS hl kk)
    | 18, _ => exact lv_tableIn (off := 753) (tgt := 786) hx hb dL_33 (by decide +kernel) (by decide +kernel) (by decide +kernel) (by decide) (lw_case_18 C hL hj hR hP hS hl kk)
    | 19, _ => exact lv_tableIn (off := 766) (tgt := 799) hx hb dL_33 (by decide +kernel) (by decide +kernel) (by decide +kernel) (by decide) (lw_case_19 C hL hj hR hP hS hl kk)
    | 20, _ => exact lv_tableIn (off := 799) (tgt := 832) hx hb dL_33 (by decide +kernel) (by decide +kernel) (by decide +kernel) (by decide) (lw_case_20 C hL hj hR hP hS hl kk)
    | 21, _ => exact lv_tableIn (off := 842) (tgt := 875) hx hb dL_33 (by decide +kernel) (by decide +kernel) (by decide +kernel) (by decide) (lw_case_21 C hL hj hR hP hS hl kk)
    | 22, _ => exact lv_tableIn (off := 875) (tgt := 908) hx hb dL_33 (by decide +kernel) (by decide +kernel) (by decide +kernel) (by decide) (lw_case_22 C hL hj hR hP hS hl kk)
    | 23, _ => exact lv_tableIn (off := 898) (tgt := 931) hx hb dL_33 (by decide +kernel) (by decide +kernel) (by decide +kernel) (by decide) (lw_case_23 C hL hj hR hP hS hl kk)
    | 24, _ => exact lv_tableIn (off := 921) (tgt := 954) hx hb dL_33 (by decide +kernel) (by decide +kernel) (by decide +kernel) (by decide) (lw_case_24 C hL hj hR hP hS hl kk)
    | 25, _ => exact lv_tableIn (off := 954) (tgt := 987) hx hb dL_33 (by decide +kernel) (by decide +kernel) (by decide +kernel) (by decide) (lw_case_25 C hL hj hR hP hS hl kk)
    | 26, _ => exact lv_tableIn (off := 977) (tgt := 1010) hx hb dL_33 (by decide +kernel) (by decide +kernel) (by decide +kernel) (by decide) (lw_case_26 C hL hj hR hP hS hl kk)
    | 27, _ => exact lv_tableIn (off := 1010) (tgt := 1043) hx hb dL_33 (by decide +kernel) (by decide +kernel) (by decide +kernel) (by decide) (lw_case_27 C hL hj hR hP hS hl kk)
    | 28, _ => exact lv_tableIn (off := 1023) (tgt := 1056) hx hb dL_33 (by decide +kernel) (by decide +kernel) (by decide +kernel) (by decide) (lw_case_28 C hL hj hR hP hS hl kk)
    | 29, _ => exact lv_tableIn (off := 1036) (tgt := 1069) hx hb dL_33 (by decide +kernel) (by decide +kernel) (by decide +kernel) (by decide) (lw_case_29 C hL hj hR hP hS hl kk)
    | 30, _ => exact lv_tableIn (off := 1079) (tgt := 1112) hx hb dL_33 (by decide +kernel) (by decide +kernel) (by decide +kernel) (by decide) (lw_case_30 C hL hj hR hP hS hl kk)
    | 31, _ => exact lv_tableIn (off := 1102) (tgt := 1135) hx hb dL_33 (by decide +kernel) (by decide +kernel) (by decide +kernel) (by decide) (lw_case_31 C hL hj hR hP hS hl kk)
    | 32, _ => exact lv_tableIn (off := 1145) (tgt := 1178) hx hb dL_33 (by decide +kernel) (by decide +kernel) (by decide +kernel) (by decide) (lw_case_32 C hL hj hR hP hS hl kk)
    | 33, _ => exact lv_tableIn (off := 1188) (tgt := 1221) hx hb dL_33 (by decide +kernel) (by decide +kernel) (by decide +kernel) (by decide) (lw_case_33 C hL hj hR hP hS hl kk)
    | 34, _ => exact lv_tableIn (off := 1251) (tgt := 1284) hx hb dL_33 (by decide +kernel) (by decide +kernel) (by decide +kernel) (by decide) (lw_case_34 C hL hj hR hP hS hl kk)
    | 35, _ => exact lv_tableIn (off := 1274) (tgt := 1307) hx hb dL_33 (by decide +kernel) (by decide +kernel) (by decide +kernel) (by decide) (lw_case_35 C hL hj hR hP hS hl kk)
    | 36, _ => exact lv_tableIn (off := 1287) (tgt := 1320) hx hb dL_33 (by decide +kernel) (by decide +kernel) (by decide +kernel) (by decide) (lw_case_36 C hL hj hR hP hS hl kk)
    | 37, _ => exact lv_tableIn (off := 1300) (tgt := 1333) hx hb dL_33 (by decide +kernel) (by decide +kernel) (by decide +kernel) (by decide) (lw_case_37 C hL hj hR hP hS hl kk)
    | 38, _ => exact lv_tableIn (off := 1323) (tgt := 1356) hx hb dL_33 (by decide +kernel) (by decide +kernel) (by decide +kernel) (by decide) (lw_case_38 C hL hj hR hP hS hl kk)
    | 39, _ => exact lv_tableIn (off := 1346) (tgt := 1379) hx hb dL_33 (by decide +kernel) (by decide +kernel) (by decide +kernel) (by decide) (lw_case_39 C hL hj hR hP hS hl kk)
    | 40, _ => exact lv_tableIn (off := 1369) (tgt := 1402) hx hb dL_33 (by decide +kernel) (by decide +kernel) (by decide +kernel) (by decide) (lw_case_40 C hL hj hR hP hS hl kk)
    | z + 41, hz => exact lv_tableOut (tgt := 1425) hx hb dL_33 (Or.inr (t41 z (by omega))) (by decide) (kk σ H locs (RR.same hR) hP hS)
end LAW2
