/-! ===== constructors: the class, the model ===== -/
theorem dI7_0 : decode cX7_init 0 = .ok (.aload_n 0, 1) := by decide +kernel
theorem dI7_1 : decode cX7_init 1 = .ok (.invokespecial 1, 3) := by decide +kernel
theorem dI7_4 : decode cX7_init 4 = .ok (.aload_n 0, 1) := by decide +kernel
theorem dI7_5 : decode cX7_init 5 = .ok (.new 7, 3) := by decide +kernel
theorem dI7_8 : decode cX7_init 8 = .ok (.dup, 1) := by decide +kernel
theorem dI7_9 : decode cX7_init 9 = .ok (.invokespecial 9, 3) := by decide +kernel
theorem dI7_12 : decode cX7_init 12 = .ok (.putfield 10, 3) := by decide +kernel
theorem dI7_15 : decode cX7_init 15 = .ok (.aload_n 0, 1) := by decide +kernel
theorem dI7_16 : decode cX7_init 16 = .ok (.new 7, 3) := by decide +kernel
theorem dI7_19 : decode cX7_init 19 = .ok (.dup, 1) := by decide +kernel
theorem dI7_20 : decode cX7_init 20 = .ok (.invokespecial 9, 3) := by decide +kernel
theorem dI7_23 : decode cX7_init 23 = .ok (.putfield 16, 3) := by decide +kernel
theorem dI7_26 : decode cX7_init 26 = .ok (.aload_n 0, 1) := by decide +kernel
theorem dI7_27 : decode cX7_init 27 = .ok (.new 19, 3) := by decide +kernel
theorem dI7_30 : decode cX7_init 30 = .ok (.dup, 1) := by decide +kernel
theorem dI7_31 : decode cX7_init 31 = .ok (.invokespecial 21, 3) := by decide +kernel
theorem dI7_34 : decode cX7_init 34 = .ok (.putfield 22, 3) := by decide +kernel
theorem dI7_37 : decode cX7_init 37 = .ok (.aload_n 0, 1) := by decide +kernel
theorem dI7_38 : decode cX7_init 38 = .ok (.new 26, 3) := by decide +kernel
theorem dI7_41 : decode cX7_init 41 = .ok (.dup, 1) := by decide +kernel
theorem dI7_42 : decode cX7_init 42 = .ok (.invokespecial 28, 3) := by decide +kernel
theorem dI7_45 : decode cX7_init 45 = .ok (.putfield 29, 3) := by decide +kernel
theorem dI7_48 : decode cX7_init 48 = .ok (.aload_n 0, 1) := by decide +kernel
theorem dI7_49 : decode cX7_init 49 = .ok (.new 33, 3) := by decide +kernel
theorem dI7_52 : decode cX7_init 52 = .ok (.dup, 1) := by decide +kernel
theorem dI7_53 : decode cX7_init 53 = .ok (.invokespecial 35, 3) := by decide +kernel
theorem dI7_56 : decode cX7_init 56 = .ok (.putfield 36, 3) := by decide +kernel
theorem dI7_59 : decode cX7_init 59 = .ok (.aload_n 0, 1) := by decide +kernel
theorem dI7_60 : decode cX7_init 60 = .ok (.iconst 4, 1) := by decide +kernel
theorem dI7_61 : decode cX7_init 61 = .ok (.anewarray 40, 3) := by decide +kernel
theorem dI7_64 : decode cX7_init 64 = .ok (.putfield 42, 3) := by decide +kernel
theorem dI7_67 : decode cX7_init 67 = .ok (.iconst 0, 1) := by decide +kernel
theorem dI7_68 : decode cX7_init 68 = .ok (.istore_n 1, 1) := by decide +kernel
theorem dI7_69 : decode cX7_init 69 = .ok (.iload_n 1, 1) := by decide +kernel
theorem dI7_70 : decode cX7_init 70 = .ok (.iconst 4, 1) := by decide +kernel
theorem dI7_71 : decode cX7_init 71 = .ok (.if_icmp .ge 22, 3) := by decide +kernel
theorem dI7_74 : decode cX7_init 74 = .ok (.aload_n 0, 1) := by decide +kernel
theorem dI7_75 : decode cX7_init 75 = .ok (.getfield 42, 3) := by decide +kernel
theorem dI7_78 : decode cX7_init 78 = .ok (.iload_n 1, 1) := by decide +kernel
theorem dI7_79 : decode cX7_init 79 = .ok (.new 40, 3) := by decide +kernel
theorem dI7_82 : decode cX7_init 82 = .ok (.dup, 1) := by decide +kernel
theorem dI7_83 : decode cX7_init 83 = .ok (.invokespecial 46, 3) := by decide +kernel
theorem dI7_86 : decode cX7_init 86 = .ok (.aastore, 1) := by decide +kernel
theorem dI7_87 : decode cX7_init 87 = .ok (.iinc 1 1, 3) := by decide +kernel
theorem dI7_90 : decode cX7_init 90 = .ok (.goto (-21), 3) := by decide +kernel
theorem dI7_93 : decode cX7_init 93 = .ok (.aload_n 0, 1) := by decide +kernel
theorem dI7_94 : decode cX7_init 94 = .ok (.bipush 7, 2) := by decide +kernel
theorem dI7_96 : decode cX7_init 96 = .ok (.newarray .int, 2) := by decide +kernel
theorem dI7_98 : decode cX7_init 98 = .ok (.putfield 47, 3) := by decide +kernel
theorem dI7_101 : decode cX7_init 101 = .ok (.aload_n 0, 1) := by decide +kernel
theorem dI7_102 : decode cX7_init 102 = .ok (.bipush 60, 2) := by decide +kernel
theorem dI7_104 : decode cX7_init 104 = .ok (.newarray .int, 2) := by decide +kernel
theorem dI7_106 : decode cX7_init 106 = .ok (.putfield 51, 3) := by decide +kernel
theorem dI7_109 : decode cX7_init 109 = .ok (.aload_n 0, 1) := by decide +kernel
theorem dI7_110 : decode cX7_init 110 = .ok (.iconst 0, 1) := by decide +kernel
theorem dI7_111 : decode cX7_init 111 = .ok (.putfield 54, 3) := by decide +kernel
theorem dI7_114 : decode cX7_init 114 = .ok (.return_, 1) := by decide +kernel
def wSmoky (g : Gw) (f : Nat → Nat) : va_W := ((((((((((([(f 76, .inl (g.2.2.1 13, 4, .inr (.inr (.inr (.inr (va_up (va_up (va_up (va_up (fun _ => none) 0 (some (f 77))) 1 (some (f 79))) 2 (some (f 81))) 3 (some (f 83))))))))] ++ [(f 0, .inr (7, [.ref (f 1), .ref (f 30), .ref (f 59), .ref (f 70), .ref (f 73), .ref (f 76), .ref (f 85), .ref (f 86), .int 0]))]) ++ wState g (fun k => f (1 + k))) ++ wState g (fun k => f (30 + k))) ++ wHeap g (fun k => f (59 + k))) ++ wReader g (fun k => f (70 + k))) ++ wVoices g (fun k => f (73 + k))) ++ wSheet g (fun k => f (77 + k))) ++ wSheet g (fun k => f (79 + k))) ++ wSheet g (fun k => f (81 + k))) ++ wSheet g (fun k => f (83 + k))) ++ [(f 85, .inl (g.2.2.1 10, 7, .inl (fun _ => 0)))]) ++ [(f 86, .inl (g.2.2.1 10, 60, .inl (fun _ => 0)))]
set_option maxHeartbeats 4000000 in
set_option maxRecDepth 100000 in
theorem con_Smoky (l : Launch) (g : Gw) (h0 : Nat) : CON l g yX7_init cX7_init 2 { frames := 4, cells := 86, slots := 1709, locals := 180 } 86 1709 (.inr (7, dfl 7)) h0 [] (wSmoky g) := by
  refine con_of (oc := 7) (by decide +kernel) rfl rfl (Nat.le_of_ble_eq_true rfl) ?_
  intro p e s m args below meth c ls X hr hlocks hl hWd
  obtain ⟨hx, hb, -⟩ := id X
  have hl : lv_has ls 2 [(0, .ref h0)] := hl
  have hWd : WD g _ s _ _ ([(h0, .inr (7, [.null, .null, .null, .null, .null, .null, .null, .null, .int 0]))]) := hWd
  refine lv_aload_n hx hb dI7_0 rfl (lv_at hl 0 rfl) ?_
  refine cr_obj X (gdW_in (i := 87) (by decide +kernel)) hl.1 dI7_1 (Nat.le_of_ble_eq_true rfl) (Nat.le_of_ble_eq_true rfl) ?_
  refine lv_aload_n hx hb dI7_4 rfl (lv_at hl 0 rfl) ?_
  refine cr_new X hWd (ci := 5) (by decide) (gdW_in (i := 90) (by decide +kernel)) (gdW_in (i := 91) (by decide +kernel)) (gdW_in (i := 66) (by decide +kernel)) (Nat.le_of_ble_eq_true rfl) (Nat.le_of_ble_eq_true rfl) dI7_5 (fun q1 Hq1 hWd => ?_)
  refine W.widen (k := 1) (n := 7) (Nat.le_of_ble_eq_true rfl) (Nat.le_of_ble_eq_true rfl) ?_
  have hWd : WD g _ s _ _ ([(h0, .inr (7, [.null, .null, .null, .null, .null, .null, .null, .null, .int 0]))] ++ [(q1, .inr (5, dfl 5))]) := hWd
  refine lv_dup hx hb dI7_8 rfl ?_
  refine cr_call X hWd (con_State l g q1) (Or.inr (List.mem_of_getElem? (i := 0) rfl)) (mem_good (i := 94) rfl rfl) (gdW_in (i := 66) (by decide +kernel)) (gdW_in (i := 93) (by decide +kernel)) rfl ⟨by decide, by decide, by decide +kernel⟩ ⟨rfl, rfl⟩ ⟨(Nat.le_of_ble_eq_true rfl), (Nat.le_of_ble_eq_true rfl)⟩ hl.1 (Nat.le_of_ble_eq_true rfl) dI7_9 ⟨(Nat.le_of_ble_eq_true rfl), (Nat.le_of_ble_eq_true rfl)⟩ rfl (fun f2 Hf2 lf2 hf hW2 => ?_)
  subst hf
  refine W.widen (k := 29) (n := 600) (Nat.le_of_ble_eq_true rfl) (Nat.le_of_ble_eq_true rfl) ?_
  have hWd : WD g _ s _ _ ([(h0, .inr (7, [.null, .null, .null, .null, .null, .null, .null, .null, .int 0]))] ++ wState g f2) := hW2
  refine cr_put X hWd 0 (ci := 7) (k := 0) rfl (by decide) (by decide) rfl (gdW_in (i := 307) (by decide +kernel)) rfl rfl (Nat.le_of_ble_eq_true rfl) dI7_12 (fun H3 lH3 hWd => ?_)
  have hWd : WD g _ s _ _ ([(h0, .inr (7, [.ref (f2 0), .null, .null, .null, .null, .null, .null, .null, .int 0]))] ++ wState g f2) := hWd
  refine lv_aload_n hx hb dI7_15 rfl (lv_at hl 0 rfl) ?_
  refine cr_new X hWd (ci := 5) (by decide) (gdW_in (i := 90) (by decide +kernel)) (gdW_in (i := 91) (by decide +kernel)) (gdW_in (i := 66) (by decide +kernel)) (Nat.le_of_ble_eq_true rfl) (Nat.le_of_ble_eq_true rfl) dI7_16 (fun q4 Hq4 hWd => ?_)
  refine W.widen (k := 30) (n := 607) (Nat.le_of_ble_eq_true rfl) (Nat.le_of_ble_eq_true rfl) ?_
  have hWd : WD g _ s _ _ (([(h0, .inr (7, [.ref (f2 0), .null, .null, .null, .null, .null, .null, .null, .int 0]))] ++ wState g f2) ++ [(q4, .inr (5, dfl 5))]) := hWd
  refine lv_dup hx hb dI7_19 rfl ?_
  refine cr_call X hWd (con_State l g q4) (Or.inr (List.mem_of_getElem? (i := 0) rfl)) (mem_good (i := 94) rfl rfl) (gdW_in (i := 66) (by decide +kernel)) (gdW_in (i := 93) (by decide +kernel)) rfl ⟨by decide, by decide, by decide +kernel⟩ ⟨rfl, rfl⟩ ⟨(Nat.le_of_ble_eq_true rfl), (Nat.le_of_ble_eq_true rfl)⟩ hl.1 (Nat.le_of_ble_eq_true rfl) dI7_20 ⟨(Nat.le_of_ble_eq_true rfl), (Nat.le_of_ble_eq_true rfl)⟩ rfl (fun f5 Hf5 lf5 hf hW2 => ?_)
  subst hf
  refine W.widen (k := 58) (n := 1200) (Nat.le_of_ble_eq_true rfl) (Nat.le_of_ble_eq_true rfl) ?_
  have hWd : WD g _ s _ _ (([(h0, .inr (7, [.ref (f2 0), .null, .null, .null, .null, .null, .null, .null, .int 0]))] ++ wState g f2) ++ wState g f5) := hW2
  refine cr_put X hWd 0 (ci := 7) (k := 1) rfl (by decide) (by decide) rfl (gdW_in (i := 308) (by decide +kernel)) rfl rfl (Nat.le_of_ble_eq_true rfl) dI7_23 (fun H6 lH6 hWd => ?_)
  have hWd : WD g _ s _ _ (([(h0, .inr (7, [.ref (f2 0), .ref (f5 0), .null, .null, .null, .null, .null, .null, .int 0]))] ++ wState g f2) ++ wState g f5) := hWd
  refine lv_aload_n hx hb dI7_26 rfl (lv_at hl 0 rfl) ?_
  refine cr_new X hWd (ci := 0) (by decide) (gdW_in (i := 233) (by decide +kernel)) (gdW_in (i := 97) (by decide +kernel)) (gdW_in (i := 67) (by decide +kernel)) (Nat.le_of_ble_eq_true rfl) (Nat.le_of_ble_eq_true rfl) dI7_27 (fun q7 Hq7 hWd => ?_)
  refine W.widen (k := 59) (n := 1214) (Nat.le_of_ble_eq_true rfl) (Nat.le_of_ble_eq_true rfl) ?_
  have hWd : WD g _ s _ _ ((([(h0, .inr (7, [.ref (f2 0), .ref (f5 0), .null, .null, .null, .null, .null, .null, .int 0]))] ++ wState g f2) ++ wState g f5) ++ [(q7, .inr (0, dfl 0))]) := hWd
  refine lv_dup hx hb dI7_30 rfl ?_
  refine cr_call X hWd (con_Heap l g q7) (Or.inl (gdW_in (i := 234) (by decide +kernel))) (mem_good (i := 100) rfl rfl) (gdW_in (i := 67) (by decide +kernel)) (gdW_in (i := 99) (by decide +kernel)) rfl ⟨by decide, by decide, by decide +kernel⟩ ⟨rfl, rfl⟩ ⟨(Nat.le_of_ble_eq_true rfl), (Nat.le_of_ble_eq_true rfl)⟩ hl.1 (Nat.le_of_ble_eq_true rfl) dI7_31 ⟨(Nat.le_of_ble_eq_true rfl), (Nat.le_of_ble_eq_true rfl)⟩ rfl (fun f8 Hf8 lf8 hf hW2 => ?_)
  subst hf
  refine W.widen (k := 69) (n := 1426) (Nat.le_of_ble_eq_true rfl) (Nat.le_of_ble_eq_true rfl) ?_
  have hWd : WD g _ s _ _ ((([(h0, .inr (7, [.ref (f2 0), .ref (f5 0), .null, .null, .null, .null, .null, .null, .int 0]))] ++ wState g f2) ++ wState g f5) ++ wHeap g f8) := hW2
  refine cr_put X hWd 0 (ci := 7) (k := 2) rfl (by decide) (by decide) rfl (gdW_in (i := 309) (by decide +kernel)) rfl rfl (Nat.le_of_ble_eq_true rfl) dI7_34 (fun H9 lH9 hWd => ?_)
  have hWd : WD g _ s _ _ ((([(h0, .inr (7, [.ref (f2 0), .ref (f5 0), .ref (f8 0), .null, .null, .null, .null, .null, .int 0]))] ++ wState g f2) ++ wState g f5) ++ wHeap g f8) := hWd
  refine lv_aload_n hx hb dI7_37 rfl (lv_at hl 0 rfl) ?_
  refine cr_new X hWd (ci := 2) (by decide) (gdW_in (i := 235) (by decide +kernel)) (gdW_in (i := 236) (by decide +kernel)) (gdW_in (i := 72) (by decide +kernel)) (Nat.le_of_ble_eq_true rfl) (Nat.le_of_ble_eq_true rfl) dI7_38 (fun q10 Hq10 hWd => ?_)
  refine W.widen (k := 70) (n := 1431) (Nat.le_of_ble_eq_true rfl) (Nat.le_of_ble_eq_true rfl) ?_
  have hWd : WD g _ s _ _ (((([(h0, .inr (7, [.ref (f2 0), .ref (f5 0), .ref (f8 0), .null, .null, .null, .null, .null, .int 0]))] ++ wState g f2) ++ wState g f5) ++ wHeap g f8) ++ [(q10, .inr (2, dfl 2))]) := hWd
  refine lv_dup hx hb dI7_41 rfl ?_
  refine cr_call X hWd (con_Reader l g q10) (Or.inr (List.mem_of_getElem? (i := 1) rfl)) (mem_good (i := 239) rfl rfl) (gdW_in (i := 72) (by decide +kernel)) (gdW_in (i := 238) (by decide +kernel)) rfl ⟨by decide, by decide, by decide +kernel⟩ ⟨rfl, rfl⟩ ⟨(Nat.le_of_ble_eq_true rfl), (Nat.le_of_ble_eq_true rfl)⟩ hl.1 (Nat.le_of_ble_eq_true rfl) dI7_42 ⟨(Nat.le_of_ble_eq_true rfl), (Nat.le_of_ble_eq_true rfl)⟩ rfl (fun f11 Hf11 lf11 hf hW2 => ?_)
  subst hf
  refine W.widen (k := 72) (n := 1493) (Nat.le_of_ble_eq_true rfl) (Nat.le_of_ble_eq_true rfl) ?_
  have hWd : WD g _ s _ _ (((([(h0, .inr (7, [.ref (f2 0), .ref (f5 0), .ref (f8 0), .null, .null, .null, .null, .null, .int 0]))] ++ wState g f2) ++ wState g f5) ++ wHeap g f8) ++ wReader g f11) := hW2
  refine cr_put X hWd 0 (ci := 7) (k := 3) rfl (by decide) (by decide) rfl (gdW_in (i := 310) (by decide +kernel)) rfl rfl (Nat.le_of_ble_eq_true rfl) dI7_45 (fun H12 lH12 hWd => ?_)
  have hWd : WD g _ s _ _ (((([(h0, .inr (7, [.ref (f2 0), .ref (f5 0), .ref (f8 0), .ref (f11 0), .null, .null, .null, .null, .int 0]))] ++ wState g f2) ++ wState g f5) ++ wHeap g f8) ++ wReader g f11) := hWd
  refine lv_aload_n hx hb dI7_48 rfl (lv_at hl 0 rfl) ?_
  refine cr_new X hWd (ci := 6) (by decide) (gdW_in (i := 262) (by decide +kernel)) (gdW_in (i := 263) (by decide +kernel)) (gdW_in (i := 73) (by decide +kernel)) (Nat.le_of_ble_eq_true rfl) (Nat.le_of_ble_eq_true rfl) dI7_49 (fun q13 Hq13 hWd => ?_)
  refine W.widen (k := 73) (n := 1498) (Nat.le_of_ble_eq_true rfl) (Nat.le_of_ble_eq_true rfl) ?_
  have hWd : WD g _ s _ _ ((((([(h0, .inr (7, [.ref (f2 0), .ref (f5 0), .ref (f8 0), .ref (f11 0), .null, .null, .null, .null, .int 0]))] ++ wState g f2) ++ wState g f5) ++ wHeap g f8) ++ wReader g f11) ++ [(q13, .inr (6, dfl 6))]) := hWd
  refine lv_dup hx hb dI7_52 rfl ?_
  refine cr_call X hWd (con_Voices l g q13) (Or.inr (List.mem_of_getElem? (i := 2) rfl)) (mem_good (i := 266) rfl rfl) (gdW_in (i := 73) (by decide +kernel)) (gdW_in (i := 265) (by decide +kernel)) rfl ⟨by decide, by decide, by decide +kernel⟩ ⟨rfl, rfl⟩ ⟨(Nat.le_of_ble_eq_true rfl), (Nat.le_of_ble_eq_true rfl)⟩ hl.1 (Nat.le_of_ble_eq_true rfl) dI7_53 ⟨(Nat.le_of_ble_eq_true rfl), (Nat.le_of_ble_eq_true rfl)⟩ rfl (fun f14 Hf14 lf14 hf hW2 => ?_)
  subst hf
  refine W.widen (k := 75) (n := 1530) (Nat.le_of_ble_eq_true rfl) (Nat.le_of_ble_eq_true rfl) ?_
  have hWd : WD g _ s _ _ ((((([(h0, .inr (7, [.ref (f2 0), .ref (f5 0), .ref (f8 0), .ref (f11 0), .null, .null, .null, .null, .int 0]))] ++ wState g f2) ++ wState g f5) ++ wHeap g f8) ++ wReader g f11) ++ wVoices g f14) := hW2
  refine cr_put X hWd 0 (ci := 7) (k := 4) rfl (by decide) (by decide) rfl (gdW_in (i := 311) (by decide +kernel)) rfl rfl (Nat.le_of_ble_eq_true rfl) dI7_56 (fun H15 lH15 hWd => ?_)
  have hWd : WD g _ s _ _ ((((([(h0, .inr (7, [.ref (f2 0), .ref (f5 0), .ref (f8 0), .ref (f11 0), .ref (f14 0), .null, .null, .null, .int 0]))] ++ wState g f2) ++ wState g f5) ++ wHeap g f8) ++ wReader g f11) ++ wVoices g f14) := hWd
  refine lv_aload_n hx hb dI7_59 rfl (lv_at hl 0 rfl) ?_
  refine lv_iconst (v := 4) hx hb dI7_60 (by decide +kernel) ?_
  refine cr_newQ X hWd (t0 := 3) (cq := g.2.2.1 13) (N := 4) rfl X.2.2.2.2.2.2.2.1.2.1 (gdW_in (i := 288) (by decide +kernel)) (by decide +kernel) (by decide +kernel) (Nat.le_of_ble_eq_true rfl) (Nat.le_of_ble_eq_true rfl) (Nat.le_of_ble_eq_true rfl) dI7_61 (fun q16 Hq16 hWd => ?_)
  refine W.widen (k := 76) (n := 1534) (Nat.le_of_ble_eq_true rfl) (Nat.le_of_ble_eq_true rfl) ?_
  have hWd : WD g _ s _ _ (((((([(h0, .inr (7, [.ref (f2 0), .ref (f5 0), .ref (f8 0), .ref (f11 0), .ref (f14 0), .null, .null, .null, .int 0]))] ++ wState g f2) ++ wState g f5) ++ wHeap g f8) ++ wReader g f11) ++ wVoices g f14) ++ [(q16, .inl (g.2.2.1 13, 4, .inr (.inr (.inr (.inr (fun _ => none))))))]) := hWd
  have hWd := WD_rot hWd
  have hWd : WD g _ s _ _ (((((([(q16, .inl (g.2.2.1 13, 4, .inr (.inr (.inr (.inr (fun _ => none))))))] ++ [(h0, .inr (7, [.ref (f2 0), .ref (f5 0), .ref (f8 0), .ref (f11 0), .ref (f14 0), .null, .null, .null, .int 0]))]) ++ wState g f2) ++ wState g f5) ++ wHeap g f8) ++ wReader g f11) ++ wVoices g f14) := hWd
  refine cr_put X hWd 1 (ci := 7) (k := 5) rfl (by decide) (by decide) rfl (gdW_in (i := 312) (by decide +kernel)) rfl rfl (Nat.le_of_ble_eq_true rfl) dI7_64 (fun H17 lH17 hWd => ?_)
  have hWd : WD g _ s _ _ (((((([(q16, .inl (g.2.2.1 13, 4, .inr (.inr (.inr (.inr (fun _ => none))))))] ++ [(h0, .inr (7, [.ref (f2 0), .ref (f5 0), .ref (f8 0), .ref (f11 0), .ref (f14 0), .ref q16, .null, .null, .int 0]))]) ++ wState g f2) ++ wState g f5) ++ wHeap g f8) ++ wReader g f11) ++ wVoices g f14) := hWd
  refine lv_iconst (v := 0) hx hb dI7_67 (by decide +kernel) ?_
  refine lv_istore_n (lv' := [(1, .int 0), (0, .ref h0)]) hx hb dI7_68 rfl hl (by decide) rfl (fun ls hl => ?_)
  refine lv_iload_n hx hb dI7_69 rfl (lv_at hl 0 rfl) ?_
  refine lv_iconst (v := 4) hx hb dI7_70 (by decide +kernel) ?_
  refine lv_icmp_ge (tgt := 93) hx hb dI7_71 (by decide) (fun c9 => absurd c9 (by decide +kernel)) (fun _ => ?_)
  refine lv_aload_n hx hb dI7_74 rfl (lv_at hl 1 rfl) ?_
  refine cr_get X hWd 1 (ci := 7) (k := 5) rfl (by decide) (by decide) (gdW_in (i := 312) (by decide +kernel)) rfl dI7_75 ?_
  refine lv_iload_n hx hb dI7_78 rfl (lv_at hl 0 rfl) ?_
  refine cr_new X hWd (ci := 4) (by decide) (gdW_in (i := 288) (by decide +kernel)) (gdW_in (i := 290) (by decide +kernel)) (gdW_in (i := 74) (by decide +kernel)) (Nat.le_of_ble_eq_true rfl) (Nat.le_of_ble_eq_true rfl) dI7_79 (fun q18 Hq18 hWd => ?_)
  refine W.widen (k := 77) (n := 1537) (Nat.le_of_ble_eq_true rfl) (Nat.le_of_ble_eq_true rfl) ?_
  have hWd : WD g _ s _ _ ((((((([(q16, .inl (g.2.2.1 13, 4, .inr (.inr (.inr (.inr (fun _ => none))))))] ++ [(h0, .inr (7, [.ref (f2 0), .ref (f5 0), .ref (f8 0), .ref (f11 0), .ref (f14 0), .ref q16, .null, .null, .int 0]))]) ++ wState g f2) ++ wState g f5) ++ wHeap g f8) ++ wReader g f11) ++ wVoices g f14) ++ [(q18, .inr (4, dfl 4))]) := hWd
  refine lv_dup hx hb dI7_82 rfl ?_
  refine cr_call X hWd (con_Sheet l g q18) (Or.inr (List.mem_of_getElem? (i := 3) rfl)) (mem_good (i := 293) rfl rfl) (gdW_in (i := 74) (by decide +kernel)) (gdW_in (i := 292) (by decide +kernel)) rfl ⟨by decide, by decide, by decide +kernel⟩ ⟨rfl, rfl⟩ ⟨(Nat.le_of_ble_eq_true rfl), (Nat.le_of_ble_eq_true rfl)⟩ hl.1 (Nat.le_of_ble_eq_true rfl) dI7_83 ⟨(Nat.le_of_ble_eq_true rfl), (Nat.le_of_ble_eq_true rfl)⟩ rfl (fun f19 Hf19 lf19 hf hW2 => ?_)
  subst hf
  refine W.widen (k := 78) (n := 1561) (Nat.le_of_ble_eq_true rfl) (Nat.le_of_ble_eq_true rfl) ?_
  have hWd : WD g _ s _ _ ((((((([(q16, .inl (g.2.2.1 13, 4, .inr (.inr (.inr (.inr (fun _ => none))))))] ++ [(h0, .inr (7, [.ref (f2 0), .ref (f5 0), .ref (f8 0), .ref (f11 0), .ref (f14 0), .ref q16, .null, .null, .int 0]))]) ++ wState g f2) ++ wState g f5) ++ wHeap g f8) ++ wReader g f11) ++ wVoices g f14) ++ wSheet g f19) := hW2
  refine cr_aast X hWd 0 3 _ (ci := 4) (cq := g.2.2.1 13) rfl rfl at_mid (by decide) (vpi (by decide +kernel)) dI7_86 (fun H20 lH20 hWd => ?_)
  have hWd : WD g _ s _ _ ((((((([(q16, .inl (g.2.2.1 13, 4, .inr (.inr (.inr (.inr (va_up (fun _ => none) 0 (some (f19 0))))))))] ++ [(h0, .inr (7, [.ref (f2 0), .ref (f5 0), .ref (f8 0), .ref (f11 0), .ref (f14 0), .ref q16, .null, .null, .int 0]))]) ++ wState g f2) ++ wState g f5) ++ wHeap g f8) ++ wReader g f11) ++ wVoices g f14) ++ wSheet g f19) := hWd
  refine lv_iinc (v := 1) (lv' := [(1, .int 1), (0, .ref h0)]) hx hb dI7_87 hl (k := 0) rfl (by decide +kernel) (by decide) rfl (fun ls hl => ?_)
  refine lv_goto (tgt := 69) hx hb dI7_90 (by decide) ?_
  refine lv_iload_n hx hb dI7_69 rfl (lv_at hl 0 rfl) ?_
  refine lv_iconst (v := 4) hx hb dI7_70 (by decide +kernel) ?_
  refine lv_icmp_ge (tgt := 93) hx hb dI7_71 (by decide) (fun c9 => absurd c9 (by decide +kernel)) (fun _ => ?_)
  refine lv_aload_n hx hb dI7_74 rfl (lv_at hl 1 rfl) ?_
  refine cr_get X hWd 1 (ci := 7) (k := 5) rfl (by decide) (by decide) (gdW_in (i := 312) (by decide +kernel)) rfl dI7_75 ?_
  refine lv_iload_n hx hb dI7_78 rfl (lv_at hl 0 rfl) ?_
  refine cr_new X hWd (ci := 4) (by decide) (gdW_in (i := 288) (by decide +kernel)) (gdW_in (i := 290) (by decide +kernel)) (gdW_in (i := 74) (by decide +kernel)) (Nat.le_of_ble_eq_true rfl) (Nat.le_of_ble_eq_true rfl) dI7_79 (fun q21 Hq21 hWd => ?_)
  refine W.widen (k := 79) (n := 1564) (Nat.le_of_ble_eq_true rfl) (Nat.le_of_ble_eq_true rfl) ?_
  have hWd : WD g _ s _ _ (((((((([(q16, .inl (g.2.2.1 13, 4, .inr (.inr (.inr (.inr (va_up (fun _ => none) 0 (some (f19 0))))))))] ++ [(h0, .inr (7, [.ref (f2 0), .ref (f5 0), .ref (f8 0), .ref (f11 0), .ref (f14 0), .ref q16, .null, .null, .int 0]))]) ++ wState g f2) ++ wState g f5) ++ wHeap g f8) ++ wReader g f11) ++ wVoices g f14) ++ wSheet g f19) ++ [(q21, .inr (4, dfl 4))]) := hWd
  refine lv_dup hx hb dI7_82 rfl ?_
  refine cr_call X hWd (con_Sheet l g q21) (Or.inr (List.mem_of_getElem? (i := 3) rfl)) (mem_good (i := 293) rfl rfl) (gdW_in (i := 74) (by decide +kernel)) (gdW_in (i := 292) (by decide +kernel)) rfl ⟨by decide, by decide, by decide +kernel⟩ ⟨rfl, rfl⟩ ⟨(Nat.le_of_ble_eq_true rfl), (Nat.le_of_ble_eq_true rfl)⟩ hl.1 (Nat.le_of_ble_eq_true rfl) dI7_83 ⟨(Nat.le_of_ble_eq_true rfl), (Nat.le_of_ble_eq_true rfl)⟩ rfl (fun f22 Hf22 lf22 hf hW2 => ?_)
  subst hf
  refine W.widen (k := 80) (n := 1588) (Nat.le_of_ble_eq_true rfl) (Nat.le_of_ble_eq_true rfl) ?_
  have hWd : WD g _ s _ _ (((((((([(q16, .inl (g.2.2.1 13, 4, .inr (.inr (.inr (.inr (va_up (fun _ => none) 0 (some (f19 0))))))))] ++ [(h0, .inr (7, [.ref (f2 0), .ref (f5 0), .ref (f8 0), .ref (f11 0), .ref (f14 0), .ref q16, .null, .null, .int 0]))]) ++ wState g f2) ++ wState g f5) ++ wHeap g f8) ++ wReader g f11) ++ wVoices g f14) ++ wSheet g f19) ++ wSheet g f22) := hW2
  refine cr_aast X hWd 0 3 _ (ci := 4) (cq := g.2.2.1 13) rfl rfl at_mid (by decide) (vpi (by decide +kernel)) dI7_86 (fun H23 lH23 hWd => ?_)
  have hWd : WD g _ s _ _ (((((((([(q16, .inl (g.2.2.1 13, 4, .inr (.inr (.inr (.inr (va_up (va_up (fun _ => none) 0 (some (f19 0))) 1 (some (f22 0))))))))] ++ [(h0, .inr (7, [.ref (f2 0), .ref (f5 0), .ref (f8 0), .ref (f11 0), .ref (f14 0), .ref q16, .null, .null, .int 0]))]) ++ wState g f2) ++ wState g f5) ++ wHeap g f8) ++ wReader g f11) ++ wVoices g f14) ++ wSheet g f19) ++ wSheet g f22) := hWd
  refine lv_iinc (v := 2) (lv' := [(1, .int 2), (0, .ref h0)]) hx hb dI7_87 hl (k := 0) rfl (by decide +kernel) (by decide) rfl (fun ls hl => ?_)
  refine lv_goto (tgt := 69) hx hb dI7_90 (by decide) ?_
  refine lv_iload_n hx hb dI7_69 rfl (lv_at hl 0 rfl) ?_
  refine lv_iconst (v := 4) hx hb dI7_70 (by decide +kernel) ?_
  refine lv_icmp_ge (tgt := 93) hx hb dI7_71 (by decide) (fun c9 => absurd c9 (by decide +kernel)) (fun _ => ?_)
  refine lv_aload_n hx hb dI7_74 rfl (lv_at hl 1 rfl) ?_
  refine cr_get X hWd 1 (ci := 7) (k := 5) rfl (by decide) (by decide) (gdW_in (i := 312) (by decide +kernel)) rfl dI7_75 ?_
  refine lv_iload_n hx hb dI7_78 rfl (lv_at hl 0 rfl) ?_
  refine cr_new X hWd (ci := 4) (by decide) (gdW_in (i := 288) (by decide +kernel)) (gdW_in (i := 290) (by decide +kernel)) (gdW_in (i := 74) (by decide +kernel)) (Nat.le_of_ble_eq_true rfl) (Nat.le_of_ble_eq_true rfl) dI7_79 (fun q24 Hq24 hWd => ?_)
  refine W.widen (k := 81) (n := 1591) (Nat.le_of_ble_eq_true rfl) (Nat.le_of_ble_eq_true rfl) ?_
  have hWd : WD g _ s _ _ ((((((((([(q16, .inl (g.2.2.1 13, 4, .inr (.inr (.inr (.inr (va_up (va_up (fun _ => none) 0 (some (f19 0))) 1 (some (f22 0))))))))] ++ [(h0, .inr (7, [.ref (f2 0), .ref (f5 0), .ref (f8 0), .ref (f11 0), .ref (f14 0), .ref q16, .null, .null, .int 0]))]) ++ wState g f2) ++ wState g f5) ++ wHeap g f8) ++ wReader g f11) ++ wVoices g f14) ++ wSheet g f19) ++ wSheet g f22) ++ [(q24, .inr (4, dfl 4))]) := hWd
  refine lv_dup hx hb dI7_82 rfl ?_
  refine cr_call X hWd (con_Sheet l g q24) (Or.inr (List.mem_of_getElem? (i := 3) rfl)) (mem_good (i := 293) rfl rfl) (gdW_in (i := 74) (by decide +kernel)) (gdW_in (i := 292) (by decide +kernel)) rfl ⟨by decide, by decide, by decide +kernel⟩ ⟨rfl, rfl⟩ ⟨(Nat.le_of_ble_eq_true rfl), (Nat.le_of_ble_eq_true rfl)⟩ hl.1 (Nat.le_of_ble_eq_true rfl) dI7_83 ⟨(Nat.le_of_ble_eq_true rfl), (Nat.le_of_ble_eq_true rfl)⟩ rfl (fun f25 Hf25 lf25 hf hW2 => ?_)
  subst hf
  refine W.widen (k := 82) (n := 1615) (Nat.le_of_ble_eq_true rfl) (Nat.le_of_ble_eq_true rfl) ?_
  have hWd : WD g _ s _ _ ((((((((([(q16, .inl (g.2.2.1 13, 4, .inr (.inr (.inr (.inr (va_up (va_up (fun _ => none) 0 (some (f19 0))) 1 (some (f22 0))))))))] ++ [(h0, .inr (7, [.ref (f2 0), .ref (f5 0), .ref (f8 0), .ref (f11 0), .ref (f14 0), .ref q16, .null, .null, .int 0]))]) ++ wState g f2) ++ wState g f5) ++ wHeap g f8) ++ wReader g f11) ++ wVoices g f14) ++ wSheet g f19) ++ wSheet g f22) ++ wSheet g f25) := hW2
  refine cr_aast X hWd 0 3 _ (ci := 4) (cq := g.2.2.1 13) rfl rfl at_mid (by decide) (vpi (by decide +kernel)) dI7_86 (fun H26 lH26 hWd => ?_)
  have hWd : WD g _ s _ _ ((((((((([(q16, .inl (g.2.2.1 13, 4, .inr (.inr (.inr (.inr (va_up (va_up (va_up (fun _ => none) 0 (some (f19 0))) 1 (some (f22 0))) 2 (some (f25 0))))))))] ++ [(h0, .inr (7, [.ref (f2 0), .ref (f5 0), .ref (f8 0), .ref (f11 0), .ref (f14 0), .ref q16, .null, .null, .int 0]))]) ++ wState g f2) ++ wState g f5) ++ wHeap g f8) ++ wReader g f11) ++ wVoices g f14) ++ wSheet g f19) ++ wSheet g f22) ++ wSheet g f25) := hWd
  refine lv_iinc (v := 3) (lv' := [(1, .int 3), (0, .ref h0)]) hx hb dI7_87 hl (k := 0) rfl (by decide +kernel) (by decide) rfl (fun ls hl => ?_)
  refine lv_goto (tgt := 69) hx hb dI7_90 (by decide) ?_
  refine lv_iload_n hx hb dI7_69 rfl (lv_at hl 0 rfl) ?_
  refine lv_iconst (v := 4) hx hb dI7_70 (by decide +kernel) ?_
  refine lv_icmp_ge (tgt := 93) hx hb dI7_71 (by decide) (fun c9 => absurd c9 (by decide +kernel)) (fun _ => ?_)
  refine lv_aload_n hx hb dI7_74 rfl (lv_at hl 1 rfl) ?_
  refine cr_get X hWd 1 (ci := 7) (k := 5) rfl (by decide) (by decide) (gdW_in (i := 312) (by decide +kernel)) rfl dI7_75 ?_
  refine lv_iload_n hx hb dI7_78 rfl (lv_at hl 0 rfl) ?_
  refine cr_new X hWd (ci := 4) (by decide) (gdW_in (i := 288) (by decide +kernel)) (gdW_in (i := 290) (by decide +kernel)) (gdW_in (i := 74) (by decide +kernel)) (Nat.le_of_ble_eq_true rfl) (Nat.le_of_ble_eq_true rfl) dI7_79 (fun q27 Hq27 hWd => ?_)
  refine W.widen (k := 83) (n := 1618) (Nat.le_of_ble_eq_true rfl) (Nat.le_of_ble_eq_true rfl) ?_
  have hWd : WD g _ s _ _ (((((((((([(q16, .inl (g.2.2.1 13, 4, .inr (.inr (.inr (.inr (va_up (va_up (va_up (fun _ => none) 0 (some (f19 0))) 1 (some (f22 0))) 2 (some (f25 0))))))))] ++ [(h0, .inr (7, [.ref (f2 0), .ref (f5 0), .ref (f8 0), .ref (f11 0), .ref (f14 0), .ref q16, .null, .null, .int 0]))]) ++ wState g f2) ++ wState g f5) ++ wHeap g f8) ++ wReader g f11) ++ wVoices g f14) ++ wSheet g f19) ++ wSheet g f22) ++ wSheet g f25) ++ [(q27, .inr (4, dfl 4))]) := hWd
  refine lv_dup hx hb dI7_82 rfl ?_
  refine cr_call X hWd (con_Sheet l g q27) (Or.inr (List.mem_of_getElem? (i := 3) rfl)) (mem_good (i := 293) rfl rfl) (gdW_in (i := 74) (by decide +kernel)) (gdW_in (i := 292) (by decide +kernel)) rfl ⟨by decide, by decide, by decide +kernel⟩ ⟨rfl, rfl⟩ ⟨(Nat.le_of_ble_eq_true rfl), (Nat.le_of_ble_eq_true rfl)⟩ hl.1 (Nat.le_of_ble_eq_true rfl) dI7_83 ⟨(Nat.le_of_ble_eq_true rfl), (Nat.le_of_ble_eq_true rfl)⟩ rfl (fun f28 Hf28 lf28 hf hW2 => ?_)
  subst hf
  refine W.widen (k := 84) (n := 1642) (Nat.le_of_ble_eq_true rfl) (Nat.le_of_ble_eq_true rfl) ?_
  have hWd : WD g _ s _ _ (((((((((([(q16, .inl (g.2.2.1 13, 4, .inr (.inr (.inr (.inr (va_up (va_up (va_up (fun _ => none) 0 (some (f19 0))) 1 (some (f22 0))) 2 (some (f25 0))))))))] ++ [(h0, .inr (7, [.ref (f2 0), .ref (f5 0), .ref (f8 0), .ref (f11 0), .ref (f14 0), .ref q16, .null, .null, .int 0]))]) ++ wState g f2) ++ wState g f5) ++ wHeap g f8) ++ wReader g f11) ++ wVoices g f14) ++ wSheet g f19) ++ wSheet g f22) ++ wSheet g f25) ++ wSheet g f28) := hW2
  refine cr_aast X hWd 0 3 _ (ci := 4) (cq := g.2.2.1 13) rfl rfl at_mid (by decide) (vpi (by decide +kernel)) dI7_86 (fun H29 lH29 hWd => ?_)
  have hWd : WD g _ s _ _ (((((((((([(q16, .inl (g.2.2.1 13, 4, .inr (.inr (.inr (.inr (va_up (va_up (va_up (va_up (fun _ => none) 0 (some (f19 0))) 1 (some (f22 0))) 2 (some (f25 0))) 3 (some (f28 0))))))))] ++ [(h0, .inr (7, [.ref (f2 0), .ref (f5 0), .ref (f8 0), .ref (f11 0), .ref (f14 0), .ref q16, .null, .null, .int 0]))]) ++ wState g f2) ++ wState g f5) ++ wHeap g f8) ++ wReader g f11) ++ wVoices g f14) ++ wSheet g f19) ++ wSheet g f22) ++ wSheet g f25) ++ wSheet g f28) := hWd
  refine lv_iinc (v := 4) (lv' := [(1, .int 4), (0, .ref h0)]) hx hb dI7_87 hl (k := 0) rfl (by decide +kernel) (by decide) rfl (fun ls hl => ?_)
  refine lv_goto (tgt := 69) hx hb dI7_90 (by decide) ?_
  refine lv_iload_n hx hb dI7_69 rfl (lv_at hl 0 rfl) ?_
  refine lv_iconst (v := 4) hx hb dI7_70 (by decide +kernel) ?_
  refine lv_icmp_ge (tgt := 93) hx hb dI7_71 (by decide) (fun _ => ?_) (fun c9 => absurd (by decide +kernel) c9)
  refine lv_aload_n hx hb dI7_93 rfl (lv_at hl 1 rfl) ?_
  refine lv_bipush (v := 7) hx hb dI7_94 (by decide +kernel) ?_
  refine cr_newI X hWd (N := 7) (by decide +kernel) (by decide +kernel) (Nat.le_of_ble_eq_true rfl) (Nat.le_of_ble_eq_true rfl) (Nat.le_of_ble_eq_true rfl) dI7_96 (fun q30 Hq30 hWd => ?_)
  refine W.widen (k := 85) (n := 1649) (Nat.le_of_ble_eq_true rfl) (Nat.le_of_ble_eq_true rfl) ?_
  have hWd : WD g _ s _ _ ((((((((((([(q16, .inl (g.2.2.1 13, 4, .inr (.inr (.inr (.inr (va_up (va_up (va_up (va_up (fun _ => none) 0 (some (f19 0))) 1 (some (f22 0))) 2 (some (f25 0))) 3 (some (f28 0))))))))] ++ [(h0, .inr (7, [.ref (f2 0), .ref (f5 0), .ref (f8 0), .ref (f11 0), .ref (f14 0), .ref q16, .null, .null, .int 0]))]) ++ wState g f2) ++ wState g f5) ++ wHeap g f8) ++ wReader g f11) ++ wVoices g f14) ++ wSheet g f19) ++ wSheet g f22) ++ wSheet g f25) ++ wSheet g f28) ++ [(q30, .inl (g.2.2.1 10, 7, .inl (fun _ => 0)))]) := hWd
  refine cr_put X hWd 1 (ci := 7) (k := 6) rfl (by decide) (by decide) rfl (gdW_in (i := 313) (by decide +kernel)) rfl rfl (Nat.le_of_ble_eq_true rfl) dI7_98 (fun H31 lH31 hWd => ?_)
  have hWd : WD g _ s _ _ ((((((((((([(q16, .inl (g.2.2.1 13, 4, .inr (.inr (.inr (.inr (va_up (va_up (va_up (va_up (fun _ => none) 0 (some (f19 0))) 1 (some (f22 0))) 2 (some (f25 0))) 3 (some (f28 0))))))))] ++ [(h0, .inr (7, [.ref (f2 0), .ref (f5 0), .ref (f8 0), .ref (f11 0), .ref (f14 0), .ref q16, .ref q30, .null, .int 0]))]) ++ wState g f2) ++ wState g f5) ++ wHeap g f8) ++ wReader g f11) ++ wVoices g f14) ++ wSheet g f19) ++ wSheet g f22) ++ wSheet g f25) ++ wSheet g f28) ++ [(q30, .inl (g.2.2.1 10, 7, .inl (fun _ => 0)))]) := hWd
  refine lv_aload_n hx hb dI7_101 rfl (lv_at hl 1 rfl) ?_
  refine lv_bipush (v := 60) hx hb dI7_102 (by decide +kernel) ?_
  refine cr_newI X hWd (N := 60) (by decide +kernel) (by decide +kernel) (Nat.le_of_ble_eq_true rfl) (Nat.le_of_ble_eq_true rfl) (Nat.le_of_ble_eq_true rfl) dI7_104 (fun q32 Hq32 hWd => ?_)
  refine W.widen (k := 86) (n := 1709) (Nat.le_of_ble_eq_true rfl) (Nat.le_of_ble_eq_true rfl) ?_
  have hWd : WD g _ s _ _ (((((((((((([(q16, .inl (g.2.2.1 13, 4, .inr (.inr (.inr (.inr (va_up (va_up (va_up (va_up (fun _ => none) 0 (some (f19 0))) 1 (some (f22 0))) 2 (some (f25 0))) 3 (some (f28 0))))))))] ++ [(h0, .inr (7, [.ref (f2 0), .ref (f5 0), .ref (f8 0), .ref (f11 0), .ref (f14 0), .ref q16, .ref q30, .null, .int 0]))]) ++ wState g f2) ++ wState g f5) ++ wHeap g f8) ++ wReader g f11) ++ wVoices g f14) ++ wSheet g f19) ++ wSheet g f22) ++ wSheet g f25) ++ wSheet g f28) ++ [(q30, .inl (g.2.2.1 10, 7, .inl (fun _ => 0)))]) ++ [(q32, .inl (g.2.2.1 10, 60, .inl (fun _ => 0)))]) := hWd
  refine cr_put X hWd 1 (ci := 7) (k := 7) rfl (by decide) (by decide) rfl (gdW_in (i := 314) (by decide +kernel)) rfl rfl (Nat.le_of_ble_eq_true rfl) dI7_106 (fun H33 lH33 hWd => ?_)
  have hWd : WD g _ s _ _ (((((((((((([(q16, .inl (g.2.2.1 13, 4, .inr (.inr (.inr (.inr (va_up (va_up (va_up (va_up (fun _ => none) 0 (some (f19 0))) 1 (some (f22 0))) 2 (some (f25 0))) 3 (some (f28 0))))))))] ++ [(h0, .inr (7, [.ref (f2 0), .ref (f5 0), .ref (f8 0), .ref (f11 0), .ref (f14 0), .ref q16, .ref q30, .ref q32, .int 0]))]) ++ wState g f2) ++ wState g f5) ++ wHeap g f8) ++ wReader g f11) ++ wVoices g f14) ++ wSheet g f19) ++ wSheet g f22) ++ wSheet g f25) ++ wSheet g f28) ++ [(q30, .inl (g.2.2.1 10, 7, .inl (fun _ => 0)))]) ++ [(q32, .inl (g.2.2.1 10, 60, .inl (fun _ => 0)))]) := hWd
  refine lv_aload_n hx hb dI7_109 rfl (lv_at hl 1 rfl) ?_
  refine lv_iconst (v := 0) hx hb dI7_110 (by decide +kernel) ?_
  refine cr_put X hWd 1 (ci := 7) (k := 8) rfl (by decide) (by decide) rfl (gdW_in (i := 315) (by decide +kernel)) rfl rfl (Nat.le_of_ble_eq_true rfl) dI7_111 (fun H34 lH34 hWd => ?_)
  have hWd : WD g _ s _ _ (((((((((((([(q16, .inl (g.2.2.1 13, 4, .inr (.inr (.inr (.inr (va_up (va_up (va_up (va_up (fun _ => none) 0 (some (f19 0))) 1 (some (f22 0))) 2 (some (f25 0))) 3 (some (f28 0))))))))] ++ [(h0, .inr (7, [.ref (f2 0), .ref (f5 0), .ref (f8 0), .ref (f11 0), .ref (f14 0), .ref q16, .ref q30, .ref q32, .int 0]))]) ++ wState g f2) ++ wState g f5) ++ wHeap g f8) ++ wReader g f11) ++ wVoices g f14) ++ wSheet g f19) ++ wSheet g f22) ++ wSheet g f25) ++ wSheet g f28) ++ [(q30, .inl (g.2.2.1 10, 7, .inl (fun _ => 0)))]) ++ [(q32, .inl (g.2.2.1 10, 60, .inl (fun _ => 0)))]) := hWd
  have hWd : WD g _ s _ _ (wSmoky g (fun o => if o < 1 then h0 else if o < 30 then f2 (o - 1) else if o < 59 then f5 (o - 30) else if o < 70 then f8 (o - 59) else if o < 73 then f11 (o - 70) else if o < 76 then f14 (o - 73) else if o < 77 then q16 else if o < 79 then f19 (o - 77) else if o < 81 then f22 (o - 79) else if o < 83 then f25 (o - 81) else if o < 85 then f28 (o - 83) else if o < 86 then q30 else q32)) := hWd
  exact W.vret hx hb hr (fun t ht hW => ⟨⟨_, rfl, rfl, by rw [ht]; exact hWd.1, hWd.2.1⟩, hWd.2.2.F ht⟩) hWd.2.2.2.2 dI7_114
