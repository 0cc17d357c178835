/-! ===== constructors: laws, reader, voices, state ===== -/
theorem dI1_0 : decode cX1_init 0 = .ok (.aload_n 0, 1) := by decide +kernel
theorem dI1_1 : decode cX1_init 1 = .ok (.invokespecial 3, 3) := by decide +kernel
theorem dI1_4 : decode cX1_init 4 = .ok (.aload_n 0, 1) := by decide +kernel
theorem dI1_5 : decode cX1_init 5 = .ok (.iconst 3, 1) := by decide +kernel
theorem dI1_6 : decode cX1_init 6 = .ok (.anewarray 9, 3) := by decide +kernel
theorem dI1_9 : decode cX1_init 9 = .ok (.putfield 11, 3) := by decide +kernel
theorem dI1_12 : decode cX1_init 12 = .ok (.aload_n 0, 1) := by decide +kernel
theorem dI1_13 : decode cX1_init 13 = .ok (.bipush 60, 2) := by decide +kernel
theorem dI1_15 : decode cX1_init 15 = .ok (.newarray .int, 2) := by decide +kernel
theorem dI1_17 : decode cX1_init 17 = .ok (.putfield 17, 3) := by decide +kernel
theorem dI1_20 : decode cX1_init 20 = .ok (.iconst 0, 1) := by decide +kernel
theorem dI1_21 : decode cX1_init 21 = .ok (.istore_n 1, 1) := by decide +kernel
theorem dI1_22 : decode cX1_init 22 = .ok (.iload_n 1, 1) := by decide +kernel
theorem dI1_23 : decode cX1_init 23 = .ok (.iconst 3, 1) := by decide +kernel
theorem dI1_24 : decode cX1_init 24 = .ok (.if_icmp .ge 24, 3) := by decide +kernel
theorem dI1_27 : decode cX1_init 27 = .ok (.aload_n 0, 1) := by decide +kernel
theorem dI1_28 : decode cX1_init 28 = .ok (.getfield 11, 3) := by decide +kernel
theorem dI1_31 : decode cX1_init 31 = .ok (.iload_n 1, 1) := by decide +kernel
theorem dI1_32 : decode cX1_init 32 = .ok (.new 9, 3) := by decide +kernel
theorem dI1_35 : decode cX1_init 35 = .ok (.dup, 1) := by decide +kernel
theorem dI1_36 : decode cX1_init 36 = .ok (.bipush 60, 2) := by decide +kernel
theorem dI1_38 : decode cX1_init 38 = .ok (.invokespecial 21, 3) := by decide +kernel
theorem dI1_41 : decode cX1_init 41 = .ok (.aastore, 1) := by decide +kernel
theorem dI1_42 : decode cX1_init 42 = .ok (.iinc 1 1, 3) := by decide +kernel
theorem dI1_45 : decode cX1_init 45 = .ok (.goto (-23), 3) := by decide +kernel
theorem dI1_48 : decode cX1_init 48 = .ok (.return_, 1) := by decide +kernel
def wLaws (g : Gw) (f : Nat → Nat) : va_W := (((([(f 0, .inr (1, [.ref (f 1), .ref (f 2)]))] ++ [(f 1, .inl (g.2.2.1 12, 3, .inr (.inr (.inr (.inr (va_up (va_up (va_up (fun _ => none) 0 (some (f 3))) 1 (some (f 5))) 2 (some (f 7))))))))]) ++ [(f 2, .inl (g.2.2.1 10, 60, .inl (fun _ => 0)))]) ++ wRow g 60 (fun k => f (3 + k))) ++ wRow g 60 (fun k => f (5 + k))) ++ wRow g 60 (fun k => f (7 + k))
set_option maxHeartbeats 4000000 in
set_option maxRecDepth 100000 in
theorem con_Laws (l : Launch) (g : Gw) (h0 : Nat) : CON l g yX1_init cX1_init 2 { frames := 2, cells := 8, slots := 249, locals := 100 } 8 249 (.inr (1, dfl 1)) h0 [] (wLaws g) := by
  refine con_of (oc := 1) (by decide +kernel) rfl rfl (Nat.le_of_ble_eq_true rfl) ?_
  intro p e s m args below meth c ls X hr hlocks hl hWd
  obtain ⟨hx, hb, -⟩ := id X
  have hl : lv_has ls 2 [(0, .ref h0)] := hl
  have hWd : WD g _ s _ _ ([(h0, .inr (1, [.null, .null]))]) := hWd
  refine lv_aload_n hx hb dI1_0 rfl (lv_at hl 0 rfl) ?_
  refine cr_obj X (gdW_in (i := 167) (by decide +kernel)) hl.1 dI1_1 (Nat.le_of_ble_eq_true rfl) (Nat.le_of_ble_eq_true rfl) ?_
  refine lv_aload_n hx hb dI1_4 rfl (lv_at hl 0 rfl) ?_
  refine lv_iconst (v := 3) hx hb dI1_5 (by decide +kernel) ?_
  refine cr_newQ X hWd (t0 := 2) (cq := g.2.2.1 12) (N := 3) rfl X.2.2.2.2.2.2.2.1.1 (gdW_in (i := 168) (by decide +kernel)) (by decide +kernel) (by decide +kernel) (Nat.le_of_ble_eq_true rfl) (Nat.le_of_ble_eq_true rfl) (Nat.le_of_ble_eq_true rfl) dI1_6 (fun q1 Hq1 hWd => ?_)
  refine W.widen (k := 1) (n := 3) (Nat.le_of_ble_eq_true rfl) (Nat.le_of_ble_eq_true rfl) ?_
  have hWd : WD g _ s _ _ ([(h0, .inr (1, [.null, .null]))] ++ [(q1, .inl (g.2.2.1 12, 3, .inr (.inr (.inr (.inr (fun _ => none))))))]) := hWd
  refine cr_put X hWd 0 (ci := 1) (k := 0) rfl (by decide) (by decide) rfl (gdW_in (i := 194) (by decide +kernel)) rfl rfl (Nat.le_of_ble_eq_true rfl) dI1_9 (fun H2 lH2 hWd => ?_)
  have hWd : WD g _ s _ _ ([(h0, .inr (1, [.ref q1, .null]))] ++ [(q1, .inl (g.2.2.1 12, 3, .inr (.inr (.inr (.inr (fun _ => none))))))]) := hWd
  refine lv_aload_n hx hb dI1_12 rfl (lv_at hl 0 rfl) ?_
  refine lv_bipush (v := 60) hx hb dI1_13 (by decide +kernel) ?_
  refine cr_newI X hWd (N := 60) (by decide +kernel) (by decide +kernel) (Nat.le_of_ble_eq_true rfl) (Nat.le_of_ble_eq_true rfl) (Nat.le_of_ble_eq_true rfl) dI1_15 (fun q3 Hq3 hWd => ?_)
  refine W.widen (k := 2) (n := 63) (Nat.le_of_ble_eq_true rfl) (Nat.le_of_ble_eq_true rfl) ?_
  have hWd : WD g _ s _ _ (([(h0, .inr (1, [.ref q1, .null]))] ++ [(q1, .inl (g.2.2.1 12, 3, .inr (.inr (.inr (.inr (fun _ => none))))))]) ++ [(q3, .inl (g.2.2.1 10, 60, .inl (fun _ => 0)))]) := hWd
  refine cr_put X hWd 0 (ci := 1) (k := 1) rfl (by decide) (by decide) rfl (gdW_in (i := 196) (by decide +kernel)) rfl rfl (Nat.le_of_ble_eq_true rfl) dI1_17 (fun H4 lH4 hWd => ?_)
  have hWd : WD g _ s _ _ (([(h0, .inr (1, [.ref q1, .ref q3]))] ++ [(q1, .inl (g.2.2.1 12, 3, .inr (.inr (.inr (.inr (fun _ => none))))))]) ++ [(q3, .inl (g.2.2.1 10, 60, .inl (fun _ => 0)))]) := hWd
  refine lv_iconst (v := 0) hx hb dI1_20 (by decide +kernel) ?_
  refine lv_istore_n (lv' := [(1, .int 0), (0, .ref h0)]) hx hb dI1_21 rfl hl (by decide) rfl (fun ls hl => ?_)
  refine lv_iload_n hx hb dI1_22 rfl (lv_at hl 0 rfl) ?_
  refine lv_iconst (v := 3) hx hb dI1_23 (by decide +kernel) ?_
  refine lv_icmp_ge (tgt := 48) hx hb dI1_24 (by decide) (fun c9 => absurd c9 (by decide +kernel)) (fun _ => ?_)
  refine lv_aload_n hx hb dI1_27 rfl (lv_at hl 1 rfl) ?_
  refine cr_get X hWd 0 (ci := 1) (k := 0) rfl (by decide) (by decide) (gdW_in (i := 194) (by decide +kernel)) rfl dI1_28 ?_
  refine lv_iload_n hx hb dI1_31 rfl (lv_at hl 0 rfl) ?_
  refine cr_new X hWd (ci := 3) (by decide) (gdW_in (i := 168) (by decide +kernel)) (gdW_in (i := 170) (by decide +kernel)) (gdW_in (i := 70) (by decide +kernel)) (Nat.le_of_ble_eq_true rfl) (Nat.le_of_ble_eq_true rfl) dI1_32 (fun q5 Hq5 hWd => ?_)
  refine W.widen (k := 3) (n := 65) (Nat.le_of_ble_eq_true rfl) (Nat.le_of_ble_eq_true rfl) ?_
  have hWd : WD g _ s _ _ ((([(h0, .inr (1, [.ref q1, .ref q3]))] ++ [(q1, .inl (g.2.2.1 12, 3, .inr (.inr (.inr (.inr (fun _ => none))))))]) ++ [(q3, .inl (g.2.2.1 10, 60, .inl (fun _ => 0)))]) ++ [(q5, .inr (3, dfl 3))]) := hWd
  refine lv_dup hx hb dI1_35 rfl ?_
  refine lv_bipush (v := 60) hx hb dI1_36 (by decide +kernel) ?_
  refine cr_call X hWd (con_Row l g 60 60 (by decide +kernel) (by decide +kernel) (Nat.le_of_ble_eq_true rfl) q5) (Or.inl (gdW_in (i := 171) (by decide +kernel))) (mem_good (i := 173) rfl rfl) (gdW_in (i := 70) (by decide +kernel)) (gdW_in (i := 172) (by decide +kernel)) rfl ⟨by decide, by decide, by decide +kernel⟩ ⟨rfl, rfl⟩ ⟨(Nat.le_of_ble_eq_true rfl), (Nat.le_of_ble_eq_true rfl)⟩ hl.1 (Nat.le_of_ble_eq_true rfl) dI1_38 ⟨(Nat.le_of_ble_eq_true rfl), (Nat.le_of_ble_eq_true rfl)⟩ rfl (fun f6 Hf6 lf6 hf hW2 => ?_)
  subst hf
  refine W.widen (k := 4) (n := 125) (Nat.le_of_ble_eq_true rfl) (Nat.le_of_ble_eq_true rfl) ?_
  have hWd : WD g _ s _ _ ((([(h0, .inr (1, [.ref q1, .ref q3]))] ++ [(q1, .inl (g.2.2.1 12, 3, .inr (.inr (.inr (.inr (fun _ => none))))))]) ++ [(q3, .inl (g.2.2.1 10, 60, .inl (fun _ => 0)))]) ++ wRow g 60 f6) := hW2
  refine cr_aast X hWd 1 2 _ (ci := 3) (cq := g.2.2.1 12) rfl rfl at_mid (by decide) (vpi (by decide +kernel)) dI1_41 (fun H7 lH7 hWd => ?_)
  have hWd : WD g _ s _ _ ((([(h0, .inr (1, [.ref q1, .ref q3]))] ++ [(q1, .inl (g.2.2.1 12, 3, .inr (.inr (.inr (.inr (va_up (fun _ => none) 0 (some (f6 0))))))))]) ++ [(q3, .inl (g.2.2.1 10, 60, .inl (fun _ => 0)))]) ++ wRow g 60 f6) := hWd
  refine lv_iinc (v := 1) (lv' := [(1, .int 1), (0, .ref h0)]) hx hb dI1_42 hl (k := 0) rfl (by decide +kernel) (by decide) rfl (fun ls hl => ?_)
  refine lv_goto (tgt := 22) hx hb dI1_45 (by decide) ?_
  refine lv_iload_n hx hb dI1_22 rfl (lv_at hl 0 rfl) ?_
  refine lv_iconst (v := 3) hx hb dI1_23 (by decide +kernel) ?_
  refine lv_icmp_ge (tgt := 48) hx hb dI1_24 (by decide) (fun c9 => absurd c9 (by decide +kernel)) (fun _ => ?_)
  refine lv_aload_n hx hb dI1_27 rfl (lv_at hl 1 rfl) ?_
  refine cr_get X hWd 0 (ci := 1) (k := 0) rfl (by decide) (by decide) (gdW_in (i := 194) (by decide +kernel)) rfl dI1_28 ?_
  refine lv_iload_n hx hb dI1_31 rfl (lv_at hl 0 rfl) ?_
  refine cr_new X hWd (ci := 3) (by decide) (gdW_in (i := 168) (by decide +kernel)) (gdW_in (i := 170) (by decide +kernel)) (gdW_in (i := 70) (by decide +kernel)) (Nat.le_of_ble_eq_true rfl) (Nat.le_of_ble_eq_true rfl) dI1_32 (fun q8 Hq8 hWd => ?_)
  refine W.widen (k := 5) (n := 127) (Nat.le_of_ble_eq_true rfl) (Nat.le_of_ble_eq_true rfl) ?_
  have hWd : WD g _ s _ _ (((([(h0, .inr (1, [.ref q1, .ref q3]))] ++ [(q1, .inl (g.2.2.1 12, 3, .inr (.inr (.inr (.inr (va_up (fun _ => none) 0 (some (f6 0))))))))]) ++ [(q3, .inl (g.2.2.1 10, 60, .inl (fun _ => 0)))]) ++ wRow g 60 f6) ++ [(q8, .inr (3, dfl 3))]) := hWd
  refine lv_dup hx hb dI1_35 rfl ?_
  refine lv_bipush (v := 60) hx hb dI1_36 (by decide +kernel) ?_
  refine cr_call X hWd (con_Row l g 60 60 (by decide +kernel) (by decide +kernel) (Nat.le_of_ble_eq_true rfl) q8) (Or.inl (gdW_in (i := 171) (by decide +kernel))) (mem_good (i := 173) rfl rfl) (gdW_in (i := 70) (by decide +kernel)) (gdW_in (i := 172) (by decide +kernel)) rfl ⟨by decide, by decide, by decide +kernel⟩ ⟨rfl, rfl⟩ ⟨(Nat.le_of_ble_eq_true rfl), (Nat.le_of_ble_eq_true rfl)⟩ hl.1 (Nat.le_of_ble_eq_true rfl) dI1_38 ⟨(Nat.le_of_ble_eq_true rfl), (Nat.le_of_ble_eq_true rfl)⟩ rfl (fun f9 Hf9 lf9 hf hW2 => ?_)
  subst hf
  refine W.widen (k := 6) (n := 187) (Nat.le_of_ble_eq_true rfl) (Nat.le_of_ble_eq_true rfl) ?_
  have hWd : WD g _ s _ _ (((([(h0, .inr (1, [.ref q1, .ref q3]))] ++ [(q1, .inl (g.2.2.1 12, 3, .inr (.inr (.inr (.inr (va_up (fun _ => none) 0 (some (f6 0))))))))]) ++ [(q3, .inl (g.2.2.1 10, 60, .inl (fun _ => 0)))]) ++ wRow g 60 f6) ++ wRow g 60 f9) := hW2
  refine cr_aast X hWd 1 2 _ (ci := 3) (cq := g.2.2.1 12) rfl rfl at_mid (by decide) (vpi (by decide +kernel)) dI1_41 (fun H10 lH10 hWd => ?_)
  have hWd : WD g _ s _ _ (((([(h0, .inr (1, [.ref q1, .ref q3]))] ++ [(q1, .inl (g.2.2.1 12, 3, .inr (.inr (.inr (.inr (va_up (va_up (fun _ => none) 0 (some (f6 0))) 1 (some (f9 0))))))))]) ++ [(q3, .inl (g.2.2.1 10, 60, .inl (fun _ => 0)))]) ++ wRow g 60 f6) ++ wRow g 60 f9) := hWd
  refine lv_iinc (v := 2) (lv' := [(1, .int 2), (0, .ref h0)]) hx hb dI1_42 hl (k := 0) rfl (by decide +kernel) (by decide) rfl (fun ls hl => ?_)
  refine lv_goto (tgt := 22) hx hb dI1_45 (by decide) ?_
  refine lv_iload_n hx hb dI1_22 rfl (lv_at hl 0 rfl) ?_
  refine lv_iconst (v := 3) hx hb dI1_23 (by decide +kernel) ?_
  refine lv_icmp_ge (tgt := 48) hx hb dI1_24 (by decide) (fun c9 => absurd c9 (by decide +kernel)) (fun _ => ?_)
  refine lv_aload_n hx hb dI1_27 rfl (lv_at hl 1 rfl) ?_
  refine cr_get X hWd 0 (ci := 1) (k := 0) rfl (by decide) (by decide) (gdW_in (i := 194) (by decide +kernel)) rfl dI1_28 ?_
  refine lv_iload_n hx hb dI1_31 rfl (lv_at hl 0 rfl) ?_
  refine cr_new X hWd (ci := 3) (by decide) (gdW_in (i := 168) (by decide +kernel)) (gdW_in (i := 170) (by decide +kernel)) (gdW_in (i := 70) (by decide +kernel)) (Nat.le_of_ble_eq_true rfl) (Nat.le_of_ble_eq_true rfl) dI1_32 (fun q11 Hq11 hWd => ?_)
  refine W.widen (k := 7) (n := 189) (Nat.le_of_ble_eq_true rfl) (Nat.le_of_ble_eq_true rfl) ?_
  have hWd : WD g _ s _ _ ((((([(h0, .inr (1, [.ref q1, .ref q3]))] ++ [(q1, .inl (g.2.2.1 12, 3, .inr (.inr (.inr (.inr (va_up (va_up (fun _ => none) 0 (some (f6 0))) 1 (some (f9 0))))))))]) ++ [(q3, .inl (g.2.2.1 10, 60, .inl (fun _ => 0)))]) ++ wRow g 60 f6) ++ wRow g 60 f9) ++ [(q11, .inr (3, dfl 3))]) := hWd
  refine lv_dup hx hb dI1_35 rfl ?_
  refine lv_bipush (v := 60) hx hb dI1_36 (by decide +kernel) ?_
  refine cr_call X hWd (con_Row l g 60 60 (by decide +kernel) (by decide +kernel) (Nat.le_of_ble_eq_true rfl) q11) (Or.inl (gdW_in (i := 171) (by decide +kernel))) (mem_good (i := 173) rfl rfl) (gdW_in (i := 70) (by decide +kernel)) (gdW_in (i := 172) (by decide +kernel)) rfl ⟨by decide, by decide, by decide +kernel⟩ ⟨rfl, rfl⟩ ⟨(Nat.le_of_ble_eq_true rfl), (Nat.le_of_ble_eq_true rfl)⟩ hl.1 (Nat.le_of_ble_eq_true rfl) dI1_38 ⟨(Nat.le_of_ble_eq_true rfl), (Nat.le_of_ble_eq_true rfl)⟩ rfl (fun f12 Hf12 lf12 hf hW2 => ?_)
  subst hf
  refine W.widen (k := 8) (n := 249) (Nat.le_of_ble_eq_true rfl) (Nat.le_of_ble_eq_true rfl) ?_
  have hWd : WD g _ s _ _ ((((([(h0, .inr (1, [.ref q1, .ref q3]))] ++ [(q1, .inl (g.2.2.1 12, 3, .inr (.inr (.inr (.inr (va_up (va_up (fun _ => none) 0 (some (f6 0))) 1 (some (f9 0))))))))]) ++ [(q3, .inl (g.2.2.1 10, 60, .inl (fun _ => 0)))]) ++ wRow g 60 f6) ++ wRow g 60 f9) ++ wRow g 60 f12) := hW2
  refine cr_aast X hWd 1 2 _ (ci := 3) (cq := g.2.2.1 12) rfl rfl at_mid (by decide) (vpi (by decide +kernel)) dI1_41 (fun H13 lH13 hWd => ?_)
  have hWd : WD g _ s _ _ ((((([(h0, .inr (1, [.ref q1, .ref q3]))] ++ [(q1, .inl (g.2.2.1 12, 3, .inr (.inr (.inr (.inr (va_up (va_up (va_up (fun _ => none) 0 (some (f6 0))) 1 (some (f9 0))) 2 (some (f12 0))))))))]) ++ [(q3, .inl (g.2.2.1 10, 60, .inl (fun _ => 0)))]) ++ wRow g 60 f6) ++ wRow g 60 f9) ++ wRow g 60 f12) := hWd
  refine lv_iinc (v := 3) (lv' := [(1, .int 3), (0, .ref h0)]) hx hb dI1_42 hl (k := 0) rfl (by decide +kernel) (by decide) rfl (fun ls hl => ?_)
  refine lv_goto (tgt := 22) hx hb dI1_45 (by decide) ?_
  refine lv_iload_n hx hb dI1_22 rfl (lv_at hl 0 rfl) ?_
  refine lv_iconst (v := 3) hx hb dI1_23 (by decide +kernel) ?_
  refine lv_icmp_ge (tgt := 48) hx hb dI1_24 (by decide) (fun _ => ?_) (fun c9 => absurd (by decide +kernel) c9)
  have hWd : WD g _ s _ _ (wLaws g (fun o => if o < 1 then h0 else if o < 2 then q1 else if o < 3 then q3 else if o < 5 then f6 (o - 3) else if o < 7 then f9 (o - 5) else f12 (o - 7))) := hWd
  exact W.vret hx hb hr (fun t ht hW => ⟨⟨_, rfl, rfl, by rw [ht]; exact hWd.1, hWd.2.1⟩, hWd.2.2.F ht⟩) hWd.2.2.2.2 dI1_48
theorem dI2_0 : decode cX2_init 0 = .ok (.aload_n 0, 1) := by decide +kernel
theorem dI2_1 : decode cX2_init 1 = .ok (.invokespecial 3, 3) := by decide +kernel
theorem dI2_4 : decode cX2_init 4 = .ok (.aload_n 0, 1) := by decide +kernel
theorem dI2_5 : decode cX2_init 5 = .ok (.new 9, 3) := by decide +kernel
theorem dI2_8 : decode cX2_init 8 = .ok (.dup, 1) := by decide +kernel
theorem dI2_9 : decode cX2_init 9 = .ok (.bipush 60, 2) := by decide +kernel
theorem dI2_11 : decode cX2_init 11 = .ok (.invokespecial 11, 3) := by decide +kernel
theorem dI2_14 : decode cX2_init 14 = .ok (.putfield 14, 3) := by decide +kernel
theorem dI2_17 : decode cX2_init 17 = .ok (.aload_n 0, 1) := by decide +kernel
theorem dI2_18 : decode cX2_init 18 = .ok (.aload_n 0, 1) := by decide +kernel
theorem dI2_19 : decode cX2_init 19 = .ok (.getfield 14, 3) := by decide +kernel
theorem dI2_22 : decode cX2_init 22 = .ok (.putfield 20, 3) := by decide +kernel
theorem dI2_25 : decode cX2_init 25 = .ok (.aload_n 0, 1) := by decide +kernel
theorem dI2_26 : decode cX2_init 26 = .ok (.ldc 23, 2) := by decide +kernel
theorem dI2_28 : decode cX2_init 28 = .ok (.putfield 25, 3) := by decide +kernel
theorem dI2_31 : decode cX2_init 31 = .ok (.aload_n 0, 1) := by decide +kernel
theorem dI2_32 : decode cX2_init 32 = .ok (.iconst 0, 1) := by decide +kernel
theorem dI2_33 : decode cX2_init 33 = .ok (.putfield 29, 3) := by decide +kernel
theorem dI2_36 : decode cX2_init 36 = .ok (.aload_n 0, 1) := by decide +kernel
theorem dI2_37 : decode cX2_init 37 = .ok (.iconst 0, 1) := by decide +kernel
theorem dI2_38 : decode cX2_init 38 = .ok (.putfield 33, 3) := by decide +kernel
theorem dI2_41 : decode cX2_init 41 = .ok (.return_, 1) := by decide +kernel
def wReader (g : Gw) (f : Nat → Nat) : va_W := [(f 0, .inr (2, [.ref (f 1), .ref (f 1), .ref (g.1 (110 + 0)), .int 0, .int 0]))] ++ wRow g 60 (fun k => f (1 + k))
set_option maxHeartbeats 4000000 in
set_option maxRecDepth 100000 in
theorem con_Reader (l : Launch) (g : Gw) (h0 : Nat) : CON l g yX2_init cX2_init 1 { frames := 2, cells := 2, slots := 62, locals := 100 } 2 62 (.inr (2, dfl 2)) h0 [] (wReader g) := by
  refine con_of (oc := 2) (by decide +kernel) rfl rfl (Nat.le_of_ble_eq_true rfl) ?_
  intro p e s m args below meth c ls X hr hlocks hl hWd
  obtain ⟨hx, hb, -⟩ := id X
  have hl : lv_has ls 1 [(0, .ref h0)] := hl
  have hWd : WD g _ s _ _ ([(h0, .inr (2, [.null, .null, .null, .int 0, .int 0]))]) := hWd
  refine lv_aload_n hx hb dI2_0 rfl (lv_at hl 0 rfl) ?_
  refine cr_obj X (gdW_in (i := 240) (by decide +kernel)) hl.1 dI2_1 (Nat.le_of_ble_eq_true rfl) (Nat.le_of_ble_eq_true rfl) ?_
  refine lv_aload_n hx hb dI2_4 rfl (lv_at hl 0 rfl) ?_
  refine cr_new X hWd (ci := 3) (by decide) (gdW_in (i := 241) (by decide +kernel)) (gdW_in (i := 170) (by decide +kernel)) (gdW_in (i := 70) (by decide +kernel)) (Nat.le_of_ble_eq_true rfl) (Nat.le_of_ble_eq_true rfl) dI2_5 (fun q1 Hq1 hWd => ?_)
  refine W.widen (k := 1) (n := 2) (Nat.le_of_ble_eq_true rfl) (Nat.le_of_ble_eq_true rfl) ?_
  have hWd : WD g _ s _ _ ([(h0, .inr (2, [.null, .null, .null, .int 0, .int 0]))] ++ [(q1, .inr (3, dfl 3))]) := hWd
  refine lv_dup hx hb dI2_8 rfl ?_
  refine lv_bipush (v := 60) hx hb dI2_9 (by decide +kernel) ?_
  refine cr_call X hWd (con_Row l g 60 60 (by decide +kernel) (by decide +kernel) (Nat.le_of_ble_eq_true rfl) q1) (Or.inl (gdW_in (i := 242) (by decide +kernel))) (mem_good (i := 173) rfl rfl) (gdW_in (i := 70) (by decide +kernel)) (gdW_in (i := 172) (by decide +kernel)) rfl ⟨by decide, by decide, by decide +kernel⟩ ⟨rfl, rfl⟩ ⟨(Nat.le_of_ble_eq_true rfl), (Nat.le_of_ble_eq_true rfl)⟩ hl.1 (Nat.le_of_ble_eq_true rfl) dI2_11 ⟨(Nat.le_of_ble_eq_true rfl), (Nat.le_of_ble_eq_true rfl)⟩ rfl (fun f2 Hf2 lf2 hf hW2 => ?_)
  subst hf
  refine W.widen (k := 2) (n := 62) (Nat.le_of_ble_eq_true rfl) (Nat.le_of_ble_eq_true rfl) ?_
  have hWd : WD g _ s _ _ ([(h0, .inr (2, [.null, .null, .null, .int 0, .int 0]))] ++ wRow g 60 f2) := hW2
  refine cr_put X hWd 0 (ci := 2) (k := 0) rfl (by decide) (by decide) rfl (gdW_in (i := 244) (by decide +kernel)) rfl rfl (Nat.le_of_ble_eq_true rfl) dI2_14 (fun H3 lH3 hWd => ?_)
  have hWd : WD g _ s _ _ ([(h0, .inr (2, [.ref (f2 0), .null, .null, .int 0, .int 0]))] ++ wRow g 60 f2) := hWd
  refine lv_aload_n hx hb dI2_17 rfl (lv_at hl 0 rfl) ?_
  refine lv_aload_n hx hb dI2_18 rfl (lv_at hl 0 rfl) ?_
  refine cr_get X hWd 0 (ci := 2) (k := 0) rfl (by decide) (by decide) (gdW_in (i := 244) (by decide +kernel)) rfl dI2_19 ?_
  refine cr_put X hWd 0 (ci := 2) (k := 1) rfl (by decide) (by decide) rfl (gdW_in (i := 246) (by decide +kernel)) rfl rfl (Nat.le_of_ble_eq_true rfl) dI2_22 (fun H4 lH4 hWd => ?_)
  have hWd : WD g _ s _ _ ([(h0, .inr (2, [.ref (f2 0), .ref (f2 0), .null, .int 0, .int 0]))] ++ wRow g 60 f2) := hWd
  refine lv_aload_n hx hb dI2_25 rfl (lv_at hl 0 rfl) ?_
  refine cr_ldc X hWd 0 (by omega) rfl rfl dI2_26 ?_
  refine cr_put X hWd 0 (ci := 2) (k := 2) rfl (by decide) (by decide) rfl (gdW_in (i := 247) (by decide +kernel)) rfl rfl (Nat.le_of_ble_eq_true rfl) dI2_28 (fun H5 lH5 hWd => ?_)
  have hWd : WD g _ s _ _ ([(h0, .inr (2, [.ref (f2 0), .ref (f2 0), .ref (g.1 (110 + 0)), .int 0, .int 0]))] ++ wRow g 60 f2) := hWd
  refine lv_aload_n hx hb dI2_31 rfl (lv_at hl 0 rfl) ?_
  refine lv_iconst (v := 0) hx hb dI2_32 (by decide +kernel) ?_
  refine cr_put X hWd 0 (ci := 2) (k := 3) rfl (by decide) (by decide) rfl (gdW_in (i := 248) (by decide +kernel)) rfl rfl (Nat.le_of_ble_eq_true rfl) dI2_33 (fun H6 lH6 hWd => ?_)
  have hWd : WD g _ s _ _ ([(h0, .inr (2, [.ref (f2 0), .ref (f2 0), .ref (g.1 (110 + 0)), .int 0, .int 0]))] ++ wRow g 60 f2) := hWd
  refine lv_aload_n hx hb dI2_36 rfl (lv_at hl 0 rfl) ?_
  refine lv_iconst (v := 0) hx hb dI2_37 (by decide +kernel) ?_
  refine cr_put X hWd 0 (ci := 2) (k := 4) rfl (by decide) (by decide) rfl (gdW_in (i := 249) (by decide +kernel)) rfl rfl (Nat.le_of_ble_eq_true rfl) dI2_38 (fun H7 lH7 hWd => ?_)
  have hWd : WD g _ s _ _ ([(h0, .inr (2, [.ref (f2 0), .ref (f2 0), .ref (g.1 (110 + 0)), .int 0, .int 0]))] ++ wRow g 60 f2) := hWd
  have hWd : WD g _ s _ _ (wReader g (fun o => if o < 1 then h0 else f2 (o - 1))) := hWd
  exact W.vret hx hb hr (fun t ht hW => ⟨⟨_, rfl, rfl, by rw [ht]; exact hWd.1, hWd.2.1⟩, hWd.2.2.F ht⟩) hWd.2.2.2.2 dI2_41
theorem dI6_0 : decode cX6_init 0 = .ok (.aload_n 0, 1) := by decide +kernel
theorem dI6_1 : decode cX6_init 1 = .ok (.invokespecial 3, 3) := by decide +kernel
theorem dI6_4 : decode cX6_init 4 = .ok (.aload_n 0, 1) := by decide +kernel
theorem dI6_5 : decode cX6_init 5 = .ok (.new 9, 3) := by decide +kernel
theorem dI6_8 : decode cX6_init 8 = .ok (.dup, 1) := by decide +kernel
theorem dI6_9 : decode cX6_init 9 = .ok (.bipush 30, 2) := by decide +kernel
theorem dI6_11 : decode cX6_init 11 = .ok (.invokespecial 11, 3) := by decide +kernel
theorem dI6_14 : decode cX6_init 14 = .ok (.putfield 14, 3) := by decide +kernel
theorem dI6_17 : decode cX6_init 17 = .ok (.aload_n 0, 1) := by decide +kernel
theorem dI6_18 : decode cX6_init 18 = .ok (.iconst 0, 1) := by decide +kernel
theorem dI6_19 : decode cX6_init 19 = .ok (.putfield 20, 3) := by decide +kernel
theorem dI6_22 : decode cX6_init 22 = .ok (.aload_n 0, 1) := by decide +kernel
theorem dI6_23 : decode cX6_init 23 = .ok (.iconst 0, 1) := by decide +kernel
theorem dI6_24 : decode cX6_init 24 = .ok (.putfield 24, 3) := by decide +kernel
theorem dI6_27 : decode cX6_init 27 = .ok (.aload_n 0, 1) := by decide +kernel
theorem dI6_28 : decode cX6_init 28 = .ok (.iconst 0, 1) := by decide +kernel
theorem dI6_29 : decode cX6_init 29 = .ok (.putfield 28, 3) := by decide +kernel
theorem dI6_32 : decode cX6_init 32 = .ok (.aload_n 0, 1) := by decide +kernel
theorem dI6_33 : decode cX6_init 33 = .ok (.iconst 0, 1) := by decide +kernel
theorem dI6_34 : decode cX6_init 34 = .ok (.putfield 31, 3) := by decide +kernel
theorem dI6_37 : decode cX6_init 37 = .ok (.return_, 1) := by decide +kernel
def wVoices (g : Gw) (f : Nat → Nat) : va_W := [(f 0, .inr (6, [.ref (f 1), .int 0, .int 0, .int 0, .int 0]))] ++ wRow g 30 (fun k => f (1 + k))
set_option maxHeartbeats 4000000 in
set_option maxRecDepth 100000 in
theorem con_Voices (l : Launch) (g : Gw) (h0 : Nat) : CON l g yX6_init cX6_init 1 { frames := 2, cells := 2, slots := 32, locals := 100 } 2 32 (.inr (6, dfl 6)) h0 [] (wVoices g) := by
  refine con_of (oc := 6) (by decide +kernel) rfl rfl (Nat.le_of_ble_eq_true rfl) ?_
  intro p e s m args below meth c ls X hr hlocks hl hWd
  obtain ⟨hx, hb, -⟩ := id X
  have hl : lv_has ls 1 [(0, .ref h0)] := hl
  have hWd : WD g _ s _ _ ([(h0, .inr (6, [.null, .int 0, .int 0, .int 0, .int 0]))]) := hWd
  refine lv_aload_n hx hb dI6_0 rfl (lv_at hl 0 rfl) ?_
  refine cr_obj X (gdW_in (i := 267) (by decide +kernel)) hl.1 dI6_1 (Nat.le_of_ble_eq_true rfl) (Nat.le_of_ble_eq_true rfl) ?_
  refine lv_aload_n hx hb dI6_4 rfl (lv_at hl 0 rfl) ?_
  refine cr_new X hWd (ci := 3) (by decide) (gdW_in (i := 268) (by decide +kernel)) (gdW_in (i := 170) (by decide +kernel)) (gdW_in (i := 70) (by decide +kernel)) (Nat.le_of_ble_eq_true rfl) (Nat.le_of_ble_eq_true rfl) dI6_5 (fun q1 Hq1 hWd => ?_)
  refine W.widen (k := 1) (n := 2) (Nat.le_of_ble_eq_true rfl) (Nat.le_of_ble_eq_true rfl) ?_
  have hWd : WD g _ s _ _ ([(h0, .inr (6, [.null, .int 0, .int 0, .int 0, .int 0]))] ++ [(q1, .inr (3, dfl 3))]) := hWd
  refine lv_dup hx hb dI6_8 rfl ?_
  refine lv_bipush (v := 30) hx hb dI6_9 (by decide +kernel) ?_
  refine cr_call X hWd (con_Row l g 30 30 (by decide +kernel) (by decide +kernel) (Nat.le_of_ble_eq_true rfl) q1) (Or.inl (gdW_in (i := 269) (by decide +kernel))) (mem_good (i := 173) rfl rfl) (gdW_in (i := 70) (by decide +kernel)) (gdW_in (i := 172) (by decide +kernel)) rfl ⟨by decide, by decide, by decide +kernel⟩ ⟨rfl, rfl⟩ ⟨(Nat.le_of_ble_eq_true rfl), (Nat.le_of_ble_eq_true rfl)⟩ hl.1 (Nat.le_of_ble_eq_true rfl) dI6_11 ⟨(Nat.le_of_ble_eq_true rfl), (Nat.le_of_ble_eq_true rfl)⟩ rfl (fun f2 Hf2 lf2 hf hW2 => ?_)
  subst hf
  refine W.widen (k := 2) (n := 32) (Nat.le_of_ble_eq_true rfl) (Nat.le_of_ble_eq_true rfl) ?_
  have hWd : WD g _ s _ _ ([(h0, .inr (6, [.null, .int 0, .int 0, .int 0, .int 0]))] ++ wRow g 30 f2) := hW2
  refine cr_put X hWd 0 (ci := 6) (k := 0) rfl (by decide) (by decide) rfl (gdW_in (i := 270) (by decide +kernel)) rfl rfl (Nat.le_of_ble_eq_true rfl) dI6_14 (fun H3 lH3 hWd => ?_)
  have hWd : WD g _ s _ _ ([(h0, .inr (6, [.ref (f2 0), .int 0, .int 0, .int 0, .int 0]))] ++ wRow g 30 f2) := hWd
  refine lv_aload_n hx hb dI6_17 rfl (lv_at hl 0 rfl) ?_
  refine lv_iconst (v := 0) hx hb dI6_18 (by decide +kernel) ?_
  refine cr_put X hWd 0 (ci := 6) (k := 1) rfl (by decide) (by decide) rfl (gdW_in (i := 272) (by decide +kernel)) rfl rfl (Nat.le_of_ble_eq_true rfl) dI6_19 (fun H4 lH4 hWd => ?_)
  have hWd : WD g _ s _ _ ([(h0, .inr (6, [.ref (f2 0), .int 0, .int 0, .int 0, .int 0]))] ++ wRow g 30 f2) := hWd
  refine lv_aload_n hx hb dI6_22 rfl (lv_at hl 0 rfl) ?_
  refine lv_iconst (v := 0) hx hb dI6_23 (by decide +kernel) ?_
  refine cr_put X hWd 0 (ci := 6) (k := 2) rfl (by decide) (by decide) rfl (gdW_in (i := 274) (by decide +kernel)) rfl rfl (Nat.le_of_ble_eq_true rfl) dI6_24 (fun H5 lH5 hWd => ?_)
  have hWd : WD g _ s _ _ ([(h0, .inr (6, [.ref (f2 0), .int 0, .int 0, .int 0, .int 0]))] ++ wRow g 30 f2) := hWd
  refine lv_aload_n hx hb dI6_27 rfl (lv_at hl 0 rfl) ?_
  refine lv_iconst (v := 0) hx hb dI6_28 (by decide +kernel) ?_
  refine cr_put X hWd 0 (ci := 6) (k := 3) rfl (by decide) (by decide) rfl (gdW_in (i := 275) (by decide +kernel)) rfl rfl (Nat.le_of_ble_eq_true rfl) dI6_29 (fun H6 lH6 hWd => ?_)
  have hWd : WD g _ s _ _ ([(h0, .inr (6, [.ref (f2 0), .int 0, .int 0, .int 0, .int 0]))] ++ wRow g 30 f2) := hWd
  refine lv_aload_n hx hb dI6_32 rfl (lv_at hl 0 rfl) ?_
  refine lv_iconst (v := 0) hx hb dI6_33 (by decide +kernel) ?_
  refine cr_put X hWd 0 (ci := 6) (k := 4) rfl (by decide) (by decide) rfl (gdW_in (i := 276) (by decide +kernel)) rfl rfl (Nat.le_of_ble_eq_true rfl) dI6_34 (fun H7 lH7 hWd => ?_)
  have hWd : WD g _ s _ _ ([(h0, .inr (6, [.ref (f2 0), .int 0, .int 0, .int 0, .int 0]))] ++ wRow g 30 f2) := hWd
  have hWd : WD g _ s _ _ (wVoices g (fun o => if o < 1 then h0 else f2 (o - 1))) := hWd
  exact W.vret hx hb hr (fun t ht hW => ⟨⟨_, rfl, rfl, by rw [ht]; exact hWd.1, hWd.2.1⟩, hWd.2.2.F ht⟩) hWd.2.2.2.2 dI6_37
theorem dI5_0 : decode cX5_init 0 = .ok (.aload_n 0, 1) := by decide +kernel
theorem dI5_1 : decode cX5_init 1 = .ok (.invokespecial 3, 3) := by decide +kernel
theorem dI5_4 : decode cX5_init 4 = .ok (.aload_n 0, 1) := by decide +kernel
theorem dI5_5 : decode cX5_init 5 = .ok (.new 9, 3) := by decide +kernel
theorem dI5_8 : decode cX5_init 8 = .ok (.dup, 1) := by decide +kernel
theorem dI5_9 : decode cX5_init 9 = .ok (.invokespecial 11, 3) := by decide +kernel
theorem dI5_12 : decode cX5_init 12 = .ok (.putfield 12, 3) := by decide +kernel
theorem dI5_15 : decode cX5_init 15 = .ok (.aload_n 0, 1) := by decide +kernel
theorem dI5_16 : decode cX5_init 16 = .ok (.new 18, 3) := by decide +kernel
theorem dI5_19 : decode cX5_init 19 = .ok (.dup, 1) := by decide +kernel
theorem dI5_20 : decode cX5_init 20 = .ok (.invokespecial 20, 3) := by decide +kernel
theorem dI5_23 : decode cX5_init 23 = .ok (.putfield 21, 3) := by decide +kernel
theorem dI5_26 : decode cX5_init 26 = .ok (.aload_n 0, 1) := by decide +kernel
theorem dI5_27 : decode cX5_init 27 = .ok (.new 25, 3) := by decide +kernel
theorem dI5_30 : decode cX5_init 30 = .ok (.dup, 1) := by decide +kernel
theorem dI5_31 : decode cX5_init 31 = .ok (.bipush 60, 2) := by decide +kernel
theorem dI5_33 : decode cX5_init 33 = .ok (.invokespecial 27, 3) := by decide +kernel
theorem dI5_36 : decode cX5_init 36 = .ok (.putfield 30, 3) := by decide +kernel
theorem dI5_39 : decode cX5_init 39 = .ok (.aload_n 0, 1) := by decide +kernel
theorem dI5_40 : decode cX5_init 40 = .ok (.new 25, 3) := by decide +kernel
theorem dI5_43 : decode cX5_init 43 = .ok (.dup, 1) := by decide +kernel
theorem dI5_44 : decode cX5_init 44 = .ok (.bipush 12, 2) := by decide +kernel
theorem dI5_46 : decode cX5_init 46 = .ok (.invokespecial 27, 3) := by decide +kernel
theorem dI5_49 : decode cX5_init 49 = .ok (.putfield 34, 3) := by decide +kernel
theorem dI5_52 : decode cX5_init 52 = .ok (.aload_n 0, 1) := by decide +kernel
theorem dI5_53 : decode cX5_init 53 = .ok (.new 25, 3) := by decide +kernel
theorem dI5_56 : decode cX5_init 56 = .ok (.dup, 1) := by decide +kernel
theorem dI5_57 : decode cX5_init 57 = .ok (.bipush 12, 2) := by decide +kernel
theorem dI5_59 : decode cX5_init 59 = .ok (.invokespecial 27, 3) := by decide +kernel
theorem dI5_62 : decode cX5_init 62 = .ok (.putfield 37, 3) := by decide +kernel
theorem dI5_65 : decode cX5_init 65 = .ok (.aload_n 0, 1) := by decide +kernel
theorem dI5_66 : decode cX5_init 66 = .ok (.new 25, 3) := by decide +kernel
theorem dI5_69 : decode cX5_init 69 = .ok (.dup, 1) := by decide +kernel
theorem dI5_70 : decode cX5_init 70 = .ok (.bipush 24, 2) := by decide +kernel
theorem dI5_72 : decode cX5_init 72 = .ok (.invokespecial 27, 3) := by decide +kernel
theorem dI5_75 : decode cX5_init 75 = .ok (.putfield 40, 3) := by decide +kernel
theorem dI5_78 : decode cX5_init 78 = .ok (.aload_n 0, 1) := by decide +kernel
theorem dI5_79 : decode cX5_init 79 = .ok (.iconst 1, 1) := by decide +kernel
theorem dI5_80 : decode cX5_init 80 = .ok (.putfield 43, 3) := by decide +kernel
theorem dI5_83 : decode cX5_init 83 = .ok (.return_, 1) := by decide +kernel
def wState (g : Gw) (f : Nat → Nat) : va_W := ((((([(f 0, .inr (5, [.ref (f 1), .ref (f 12), .ref (f 21), .ref (f 23), .ref (f 25), .ref (f 27), .int 1]))] ++ wHeap g (fun k => f (1 + k))) ++ wLaws g (fun k => f (12 + k))) ++ wRow g 60 (fun k => f (21 + k))) ++ wRow g 12 (fun k => f (23 + k))) ++ wRow g 12 (fun k => f (25 + k))) ++ wRow g 24 (fun k => f (27 + k))
set_option maxHeartbeats 4000000 in
set_option maxRecDepth 100000 in
theorem con_State (l : Launch) (g : Gw) (h0 : Nat) : CON l g yX5_init cX5_init 1 { frames := 3, cells := 28, slots := 593, locals := 140 } 28 593 (.inr (5, dfl 5)) h0 [] (wState g) := by
  refine con_of (oc := 5) (by decide +kernel) rfl rfl (Nat.le_of_ble_eq_true rfl) ?_
  intro p e s m args below meth c ls X hr hlocks hl hWd
  obtain ⟨hx, hb, -⟩ := id X
  have hl : lv_has ls 1 [(0, .ref h0)] := hl
  have hWd : WD g _ s _ _ ([(h0, .inr (5, [.null, .null, .null, .null, .null, .null, .int 0]))]) := hWd
  refine lv_aload_n hx hb dI5_0 rfl (lv_at hl 0 rfl) ?_
  refine cr_obj X (gdW_in (i := 95) (by decide +kernel)) hl.1 dI5_1 (Nat.le_of_ble_eq_true rfl) (Nat.le_of_ble_eq_true rfl) ?_
  refine lv_aload_n hx hb dI5_4 rfl (lv_at hl 0 rfl) ?_
  refine cr_new X hWd (ci := 0) (by decide) (gdW_in (i := 96) (by decide +kernel)) (gdW_in (i := 97) (by decide +kernel)) (gdW_in (i := 67) (by decide +kernel)) (Nat.le_of_ble_eq_true rfl) (Nat.le_of_ble_eq_true rfl) dI5_5 (fun q1 Hq1 hWd => ?_)
  refine W.widen (k := 1) (n := 14) (Nat.le_of_ble_eq_true rfl) (Nat.le_of_ble_eq_true rfl) ?_
  have hWd : WD g _ s _ _ ([(h0, .inr (5, [.null, .null, .null, .null, .null, .null, .int 0]))] ++ [(q1, .inr (0, dfl 0))]) := hWd
  refine lv_dup hx hb dI5_8 rfl ?_
  refine cr_call X hWd (con_Heap l g q1) (Or.inl (gdW_in (i := 98) (by decide +kernel))) (mem_good (i := 100) rfl rfl) (gdW_in (i := 67) (by decide +kernel)) (gdW_in (i := 99) (by decide +kernel)) rfl ⟨by decide, by decide, by decide +kernel⟩ ⟨rfl, rfl⟩ ⟨(Nat.le_of_ble_eq_true rfl), (Nat.le_of_ble_eq_true rfl)⟩ hl.1 (Nat.le_of_ble_eq_true rfl) dI5_9 ⟨(Nat.le_of_ble_eq_true rfl), (Nat.le_of_ble_eq_true rfl)⟩ rfl (fun f2 Hf2 lf2 hf hW2 => ?_)
  subst hf
  refine W.widen (k := 11) (n := 226) (Nat.le_of_ble_eq_true rfl) (Nat.le_of_ble_eq_true rfl) ?_
  have hWd : WD g _ s _ _ ([(h0, .inr (5, [.null, .null, .null, .null, .null, .null, .int 0]))] ++ wHeap g f2) := hW2
  refine cr_put X hWd 0 (ci := 5) (k := 0) rfl (by decide) (by decide) rfl (gdW_in (i := 204) (by decide +kernel)) rfl rfl (Nat.le_of_ble_eq_true rfl) dI5_12 (fun H3 lH3 hWd => ?_)
  have hWd : WD g _ s _ _ ([(h0, .inr (5, [.ref (f2 0), .null, .null, .null, .null, .null, .int 0]))] ++ wHeap g f2) := hWd
  refine lv_aload_n hx hb dI5_15 rfl (lv_at hl 0 rfl) ?_
  refine cr_new X hWd (ci := 1) (by decide) (gdW_in (i := 162) (by decide +kernel)) (gdW_in (i := 163) (by decide +kernel)) (gdW_in (i := 69) (by decide +kernel)) (Nat.le_of_ble_eq_true rfl) (Nat.le_of_ble_eq_true rfl) dI5_16 (fun q4 Hq4 hWd => ?_)
  refine W.widen (k := 12) (n := 228) (Nat.le_of_ble_eq_true rfl) (Nat.le_of_ble_eq_true rfl) ?_
  have hWd : WD g _ s _ _ (([(h0, .inr (5, [.ref (f2 0), .null, .null, .null, .null, .null, .int 0]))] ++ wHeap g f2) ++ [(q4, .inr (1, dfl 1))]) := hWd
  refine lv_dup hx hb dI5_19 rfl ?_
  refine cr_call X hWd (con_Laws l g q4) (Or.inl (gdW_in (i := 164) (by decide +kernel))) (mem_good (i := 166) rfl rfl) (gdW_in (i := 69) (by decide +kernel)) (gdW_in (i := 165) (by decide +kernel)) rfl ⟨by decide, by decide, by decide +kernel⟩ ⟨rfl, rfl⟩ ⟨(Nat.le_of_ble_eq_true rfl), (Nat.le_of_ble_eq_true rfl)⟩ hl.1 (Nat.le_of_ble_eq_true rfl) dI5_20 ⟨(Nat.le_of_ble_eq_true rfl), (Nat.le_of_ble_eq_true rfl)⟩ rfl (fun f5 Hf5 lf5 hf hW2 => ?_)
  subst hf
  refine W.widen (k := 20) (n := 477) (Nat.le_of_ble_eq_true rfl) (Nat.le_of_ble_eq_true rfl) ?_
  have hWd : WD g _ s _ _ (([(h0, .inr (5, [.ref (f2 0), .null, .null, .null, .null, .null, .int 0]))] ++ wHeap g f2) ++ wLaws g f5) := hW2
  refine cr_put X hWd 0 (ci := 5) (k := 1) rfl (by decide) (by decide) rfl (gdW_in (i := 206) (by decide +kernel)) rfl rfl (Nat.le_of_ble_eq_true rfl) dI5_23 (fun H6 lH6 hWd => ?_)
  have hWd : WD g _ s _ _ (([(h0, .inr (5, [.ref (f2 0), .ref (f5 0), .null, .null, .null, .null, .int 0]))] ++ wHeap g f2) ++ wLaws g f5) := hWd
  refine lv_aload_n hx hb dI5_26 rfl (lv_at hl 0 rfl) ?_
  refine cr_new X hWd (ci := 3) (by decide) (gdW_in (i := 202) (by decide +kernel)) (gdW_in (i := 170) (by decide +kernel)) (gdW_in (i := 70) (by decide +kernel)) (Nat.le_of_ble_eq_true rfl) (Nat.le_of_ble_eq_true rfl) dI5_27 (fun q7 Hq7 hWd => ?_)
  refine W.widen (k := 21) (n := 479) (Nat.le_of_ble_eq_true rfl) (Nat.le_of_ble_eq_true rfl) ?_
  have hWd : WD g _ s _ _ ((([(h0, .inr (5, [.ref (f2 0), .ref (f5 0), .null, .null, .null, .null, .int 0]))] ++ wHeap g f2) ++ wLaws g f5) ++ [(q7, .inr (3, dfl 3))]) := hWd
  refine lv_dup hx hb dI5_30 rfl ?_
  refine lv_bipush (v := 60) hx hb dI5_31 (by decide +kernel) ?_
  refine cr_call X hWd (con_Row l g 60 60 (by decide +kernel) (by decide +kernel) (Nat.le_of_ble_eq_true rfl) q7) (Or.inl (gdW_in (i := 203) (by decide +kernel))) (mem_good (i := 173) rfl rfl) (gdW_in (i := 70) (by decide +kernel)) (gdW_in (i := 172) (by decide +kernel)) rfl ⟨by decide, by decide, by decide +kernel⟩ ⟨rfl, rfl⟩ ⟨(Nat.le_of_ble_eq_true rfl), (Nat.le_of_ble_eq_true rfl)⟩ hl.1 (Nat.le_of_ble_eq_true rfl) dI5_33 ⟨(Nat.le_of_ble_eq_true rfl), (Nat.le_of_ble_eq_true rfl)⟩ rfl (fun f8 Hf8 lf8 hf hW2 => ?_)
  subst hf
  refine W.widen (k := 22) (n := 539) (Nat.le_of_ble_eq_true rfl) (Nat.le_of_ble_eq_true rfl) ?_
  have hWd : WD g _ s _ _ ((([(h0, .inr (5, [.ref (f2 0), .ref (f5 0), .null, .null, .null, .null, .int 0]))] ++ wHeap g f2) ++ wLaws g f5) ++ wRow g 60 f8) := hW2
  refine cr_put X hWd 0 (ci := 5) (k := 2) rfl (by decide) (by decide) rfl (gdW_in (i := 208) (by decide +kernel)) rfl rfl (Nat.le_of_ble_eq_true rfl) dI5_36 (fun H9 lH9 hWd => ?_)
  have hWd : WD g _ s _ _ ((([(h0, .inr (5, [.ref (f2 0), .ref (f5 0), .ref (f8 0), .null, .null, .null, .int 0]))] ++ wHeap g f2) ++ wLaws g f5) ++ wRow g 60 f8) := hWd
  refine lv_aload_n hx hb dI5_39 rfl (lv_at hl 0 rfl) ?_
  refine cr_new X hWd (ci := 3) (by decide) (gdW_in (i := 202) (by decide +kernel)) (gdW_in (i := 170) (by decide +kernel)) (gdW_in (i := 70) (by decide +kernel)) (Nat.le_of_ble_eq_true rfl) (Nat.le_of_ble_eq_true rfl) dI5_40 (fun q10 Hq10 hWd => ?_)
  refine W.widen (k := 23) (n := 541) (Nat.le_of_ble_eq_true rfl) (Nat.le_of_ble_eq_true rfl) ?_
  have hWd : WD g _ s _ _ (((([(h0, .inr (5, [.ref (f2 0), .ref (f5 0), .ref (f8 0), .null, .null, .null, .int 0]))] ++ wHeap g f2) ++ wLaws g f5) ++ wRow g 60 f8) ++ [(q10, .inr (3, dfl 3))]) := hWd
  refine lv_dup hx hb dI5_43 rfl ?_
  refine lv_bipush (v := 12) hx hb dI5_44 (by decide +kernel) ?_
  refine cr_call X hWd (con_Row l g 12 12 (by decide +kernel) (by decide +kernel) (Nat.le_of_ble_eq_true rfl) q10) (Or.inl (gdW_in (i := 203) (by decide +kernel))) (mem_good (i := 173) rfl rfl) (gdW_in (i := 70) (by decide +kernel)) (gdW_in (i := 172) (by decide +kernel)) rfl ⟨by decide, by decide, by decide +kernel⟩ ⟨rfl, rfl⟩ ⟨(Nat.le_of_ble_eq_true rfl), (Nat.le_of_ble_eq_true rfl)⟩ hl.1 (Nat.le_of_ble_eq_true rfl) dI5_46 ⟨(Nat.le_of_ble_eq_true rfl), (Nat.le_of_ble_eq_true rfl)⟩ rfl (fun f11 Hf11 lf11 hf hW2 => ?_)
  subst hf
  refine W.widen (k := 24) (n := 553) (Nat.le_of_ble_eq_true rfl) (Nat.le_of_ble_eq_true rfl) ?_
  have hWd : WD g _ s _ _ (((([(h0, .inr (5, [.ref (f2 0), .ref (f5 0), .ref (f8 0), .null, .null, .null, .int 0]))] ++ wHeap g f2) ++ wLaws g f5) ++ wRow g 60 f8) ++ wRow g 12 f11) := hW2
  refine cr_put X hWd 0 (ci := 5) (k := 3) rfl (by decide) (by decide) rfl (gdW_in (i := 210) (by decide +kernel)) rfl rfl (Nat.le_of_ble_eq_true rfl) dI5_49 (fun H12 lH12 hWd => ?_)
  have hWd : WD g _ s _ _ (((([(h0, .inr (5, [.ref (f2 0), .ref (f5 0), .ref (f8 0), .ref (f11 0), .null, .null, .int 0]))] ++ wHeap g f2) ++ wLaws g f5) ++ wRow g 60 f8) ++ wRow g 12 f11) := hWd
  refine lv_aload_n hx hb dI5_52 rfl (lv_at hl 0 rfl) ?_
  refine cr_new X hWd (ci := 3) (by decide) (gdW_in (i := 202) (by decide +kernel)) (gdW_in (i := 170) (by decide +kernel)) (gdW_in (i := 70) (by decide +kernel)) (Nat.le_of_ble_eq_true rfl) (Nat.le_of_ble_eq_true rfl) dI5_53 (fun q13 Hq13 hWd => ?_)
  refine W.widen (k := 25) (n := 555) (Nat.le_of_ble_eq_true rfl) (Nat.le_of_ble_eq_true rfl) ?_
  have hWd : WD g _ s _ _ ((((([(h0, .inr (5, [.ref (f2 0), .ref (f5 0), .ref (f8 0), .ref (f11 0), .null, .null, .int 0]))] ++ wHeap g f2) ++ wLaws g f5) ++ wRow g 60 f8) ++ wRow g 12 f11) ++ [(q13, .inr (3, dfl 3))]) := hWd
  refine lv_dup hx hb dI5_56 rfl ?_
  refine lv_bipush (v := 12) hx hb dI5_57 (by decide +kernel) ?_
  refine cr_call X hWd (con_Row l g 12 12 (by decide +kernel) (by decide +kernel) (Nat.le_of_ble_eq_true rfl) q13) (Or.inl (gdW_in (i := 203) (by decide +kernel))) (mem_good (i := 173) rfl rfl) (gdW_in (i := 70) (by decide +kernel)) (gdW_in (i := 172) (by decide +kernel)) rfl ⟨by decide, by decide, by decide +kernel⟩ ⟨rfl, rfl⟩ ⟨(Nat.le_of_ble_eq_true rfl), (Nat.le_of_ble_eq_true rfl)⟩ hl.1 (Nat.le_of_ble_eq_true rfl) dI5_59 ⟨(Nat.le_of_ble_eq_true rfl), (Nat.le_of_ble_eq_true rfl)⟩ rfl (fun f14 Hf14 lf14 hf hW2 => ?_)
  subst hf
  refine W.widen (k := 26) (n := 567) (Nat.le_of_ble_eq_true rfl) (Nat.le_of_ble_eq_true rfl) ?_
  have hWd : WD g _ s _ _ ((((([(h0, .inr (5, [.ref (f2 0), .ref (f5 0), .ref (f8 0), .ref (f11 0), .null, .null, .int 0]))] ++ wHeap g f2) ++ wLaws g f5) ++ wRow g 60 f8) ++ wRow g 12 f11) ++ wRow g 12 f14) := hW2
  refine cr_put X hWd 0 (ci := 5) (k := 4) rfl (by decide) (by decide) rfl (gdW_in (i := 212) (by decide +kernel)) rfl rfl (Nat.le_of_ble_eq_true rfl) dI5_62 (fun H15 lH15 hWd => ?_)
  have hWd : WD g _ s _ _ ((((([(h0, .inr (5, [.ref (f2 0), .ref (f5 0), .ref (f8 0), .ref (f11 0), .ref (f14 0), .null, .int 0]))] ++ wHeap g f2) ++ wLaws g f5) ++ wRow g 60 f8) ++ wRow g 12 f11) ++ wRow g 12 f14) := hWd
  refine lv_aload_n hx hb dI5_65 rfl (lv_at hl 0 rfl) ?_
  refine cr_new X hWd (ci := 3) (by decide) (gdW_in (i := 202) (by decide +kernel)) (gdW_in (i := 170) (by decide +kernel)) (gdW_in (i := 70) (by decide +kernel)) (Nat.le_of_ble_eq_true rfl) (Nat.le_of_ble_eq_true rfl) dI5_66 (fun q16 Hq16 hWd => ?_)
  refine W.widen (k := 27) (n := 569) (Nat.le_of_ble_eq_true rfl) (Nat.le_of_ble_eq_true rfl) ?_
  have hWd : WD g _ s _ _ (((((([(h0, .inr (5, [.ref (f2 0), .ref (f5 0), .ref (f8 0), .ref (f11 0), .ref (f14 0), .null, .int 0]))] ++ wHeap g f2) ++ wLaws g f5) ++ wRow g 60 f8) ++ wRow g 12 f11) ++ wRow g 12 f14) ++ [(q16, .inr (3, dfl 3))]) := hWd
  refine lv_dup hx hb dI5_69 rfl ?_
  refine lv_bipush (v := 24) hx hb dI5_70 (by decide +kernel) ?_
  refine cr_call X hWd (con_Row l g 24 24 (by decide +kernel) (by decide +kernel) (Nat.le_of_ble_eq_true rfl) q16) (Or.inl (gdW_in (i := 203) (by decide +kernel))) (mem_good (i := 173) rfl rfl) (gdW_in (i := 70) (by decide +kernel)) (gdW_in (i := 172) (by decide +kernel)) rfl ⟨by decide, by decide, by decide +kernel⟩ ⟨rfl, rfl⟩ ⟨(Nat.le_of_ble_eq_true rfl), (Nat.le_of_ble_eq_true rfl)⟩ hl.1 (Nat.le_of_ble_eq_true rfl) dI5_72 ⟨(Nat.le_of_ble_eq_true rfl), (Nat.le_of_ble_eq_true rfl)⟩ rfl (fun f17 Hf17 lf17 hf hW2 => ?_)
  subst hf
  refine W.widen (k := 28) (n := 593) (Nat.le_of_ble_eq_true rfl) (Nat.le_of_ble_eq_true rfl) ?_
  have hWd : WD g _ s _ _ (((((([(h0, .inr (5, [.ref (f2 0), .ref (f5 0), .ref (f8 0), .ref (f11 0), .ref (f14 0), .null, .int 0]))] ++ wHeap g f2) ++ wLaws g f5) ++ wRow g 60 f8) ++ wRow g 12 f11) ++ wRow g 12 f14) ++ wRow g 24 f17) := hW2
  refine cr_put X hWd 0 (ci := 5) (k := 5) rfl (by decide) (by decide) rfl (gdW_in (i := 214) (by decide +kernel)) rfl rfl (Nat.le_of_ble_eq_true rfl) dI5_75 (fun H18 lH18 hWd => ?_)
  have hWd : WD g _ s _ _ (((((([(h0, .inr (5, [.ref (f2 0), .ref (f5 0), .ref (f8 0), .ref (f11 0), .ref (f14 0), .ref (f17 0), .int 0]))] ++ wHeap g f2) ++ wLaws g f5) ++ wRow g 60 f8) ++ wRow g 12 f11) ++ wRow g 12 f14) ++ wRow g 24 f17) := hWd
  refine lv_aload_n hx hb dI5_78 rfl (lv_at hl 0 rfl) ?_
  refine lv_iconst (v := 1) hx hb dI5_79 (by decide +kernel) ?_
  refine cr_put X hWd 0 (ci := 5) (k := 6) rfl (by decide) (by decide) rfl (gdW_in (i := 216) (by decide +kernel)) rfl rfl (Nat.le_of_ble_eq_true rfl) dI5_80 (fun H19 lH19 hWd => ?_)
  have hWd : WD g _ s _ _ (((((([(h0, .inr (5, [.ref (f2 0), .ref (f5 0), .ref (f8 0), .ref (f11 0), .ref (f14 0), .ref (f17 0), .int 1]))] ++ wHeap g f2) ++ wLaws g f5) ++ wRow g 60 f8) ++ wRow g 12 f11) ++ wRow g 12 f14) ++ wRow g 24 f17) := hWd
  have hWd : WD g _ s _ _ (wState g (fun o => if o < 1 then h0 else if o < 12 then f2 (o - 1) else if o < 21 then f5 (o - 12) else if o < 23 then f8 (o - 21) else if o < 25 then f11 (o - 23) else if o < 27 then f14 (o - 25) else f17 (o - 27))) := hWd
  exact W.vret hx hb hr (fun t ht hW => ⟨⟨_, rfl, rfl, by rw [ht]; exact hWd.1, hWd.2.1⟩, hWd.2.2.F ht⟩) hWd.2.2.2.2 dI5_83
