-- 185: Model.bothered()J
theorem t185_0 : decode (mb 185) 0 = .ok (.lconst 0, 1) := by decide +kernel
theorem s185_0 (d : Nat) (l0 : Value) (l1 : Value) (l2 : Value) (l3 : Value) (σ : Hs) : ru d 185 0 [l0, l1, l2, l3] [] σ = ru d 185 1 [l0, l1, l2, l3] [.long 0] σ := q_lconst t185_0 (by decide +kernel)
theorem t185_1 : decode (mb 185) 1 = .ok (.lstore_n 1, 1) := by decide +kernel
theorem s185_1 (d : Nat) (a0 : Nat) (l1 : Value) (l2 : Value) (l3 : Value) (x : Int64) (σ : Hs) : ru d 185 1 [.ref a0, l1, l2, l3] [.long x] σ = ru d 185 2 [.ref a0, .long x, uu, l3] [] σ := q_lstore_n t185_1 ⟨Nat.le_of_ble_eq_true rfl, rfl⟩ rfl
theorem t185_2 : decode (mb 185) 2 = .ok (.iconst 0, 1) := by decide +kernel
theorem s185_2 (d : Nat) (l0 : Value) (l1 : Value) (l2 : Value) (l3 : Value) (σ : Hs) : ru d 185 2 [l0, l1, l2, l3] [] σ = ru d 185 3 [l0, l1, l2, l3] [.int 0] σ := q_iconst t185_2 (by decide +kernel)
theorem t185_3 : decode (mb 185) 3 = .ok (.istore_n 3, 1) := by decide +kernel
theorem s185_3 (d : Nat) (l0 : Value) (l1 : Value) (l3 : Value) (x : Int32) (σ : Hs) : ru d 185 3 [l0, l1, uu, l3] [.int x] σ = ru d 185 4 [l0, l1, uu, .int x] [] σ := q_istore_n t185_3 ⟨Nat.le_of_ble_eq_true rfl, rfl⟩ rfl
theorem t185_4 : decode (mb 185) 4 = .ok (.iload_n 3, 1) := by decide +kernel
theorem s185_4 (d : Nat) (l0 : Value) (l1 : Value) (l2 : Value) (i3 : Int32) (σ : Hs) : ru d 185 4 [l0, l1, l2, .int i3] [] σ = ru d 185 5 [l0, l1, l2, .int i3] [.int i3] σ := q_iload_n t185_4 rfl
theorem t185_5 : decode (mb 185) 5 = .ok (.bipush 9, 2) := by decide +kernel
theorem s185_5 (d : Nat) (l0 : Value) (l1 : Value) (l2 : Value) (l3 : Value) (w0 : Value) (σ : Hs) : ru d 185 5 [l0, l1, l2, l3] [w0] σ = ru d 185 7 [l0, l1, l2, l3] [.int 9, w0] σ := q_bipush t185_5 (by decide +kernel)
theorem t185_7 : decode (mb 185) 7 = .ok (.if_icmp .ge 27, 3) := by decide +kernel
theorem s185_7 (d : Nat) (l0 : Value) (l1 : Value) (l2 : Value) (l3 : Value) (x y : Int32) (σ : Hs) : ru d 185 7 [l0, l1, l2, l3] [.int y, .int x] σ = if y ≤ x then ru d 185 34 [l0, l1, l2, l3] [] σ else ru d 185 10 [l0, l1, l2, l3] [] σ := q_ic_ge t185_7 (by decide +kernel)
theorem t185_10 : decode (mb 185) 10 = .ok (.lload_n 1, 1) := by decide +kernel
theorem s185_10 (d : Nat) (l0 : Value) (j1 : Int64) (l2 : Value) (l3 : Value) (σ : Hs) : ru d 185 10 [l0, .long j1, l2, l3] [] σ = ru d 185 11 [l0, .long j1, l2, l3] [.long j1] σ := q_lload_n t185_10 rfl
theorem t185_11 : decode (mb 185) 11 = .ok (.aload_n 0, 1) := by decide +kernel
theorem s185_11 (d : Nat) (a0 : Nat) (l1 : Value) (l2 : Value) (l3 : Value) (w0 : Value) (σ : Hs) : ru d 185 11 [.ref a0, l1, l2, l3] [w0] σ = ru d 185 12 [.ref a0, l1, l2, l3] [.ref a0, w0] σ := q_aload_n t185_11 rfl
theorem t185_12 : decode (mb 185) 12 = .ok (.getfield 9, 3) := by decide +kernel
theorem s185_12_o87 (d : Nat) (l0 : Value) (l1 : Value) (l2 : Value) (l3 : Value) (w0 : Value) (σ : Hs) : ru d 185 12 [l0, l1, l2, l3] [.ref 87, w0] σ = ru d 185 15 [l0, l1, l2, l3] [.ref 88, w0] σ := q_getf t185_12 mo185 F8_9 rfl rfl
theorem t185_15 : decode (mb 185) 15 = .ok (.sipush 224, 3) := by decide +kernel
theorem s185_15 (d : Nat) (l0 : Value) (l1 : Value) (l2 : Value) (l3 : Value) (w0 w1 : Value) (σ : Hs) : ru d 185 15 [l0, l1, l2, l3] [w0, w1] σ = ru d 185 18 [l0, l1, l2, l3] [.int 224, w0, w1] σ := q_sipush t185_15 (by decide +kernel)
theorem t185_18 : decode (mb 185) 18 = .ok (.iconst 3, 1) := by decide +kernel
theorem s185_18 (d : Nat) (l0 : Value) (l1 : Value) (l2 : Value) (l3 : Value) (w0 w1 w2 : Value) (σ : Hs) : ru d 185 18 [l0, l1, l2, l3] [w0, w1, w2] σ = ru d 185 19 [l0, l1, l2, l3] [.int 3, w0, w1, w2] σ := q_iconst t185_18 (by decide +kernel)
theorem t185_19 : decode (mb 185) 19 = .ok (.iload_n 3, 1) := by decide +kernel
theorem s185_19 (d : Nat) (l0 : Value) (l1 : Value) (l2 : Value) (i3 : Int32) (w0 w1 w2 w3 : Value) (σ : Hs) : ru d 185 19 [l0, l1, l2, .int i3] [w0, w1, w2, w3] σ = ru d 185 20 [l0, l1, l2, .int i3] [.int i3, w0, w1, w2, w3] σ := q_iload_n t185_19 rfl
theorem t185_20 : decode (mb 185) 20 = .ok (.imul, 1) := by decide +kernel
theorem s185_20 (d : Nat) (l0 : Value) (l1 : Value) (l2 : Value) (l3 : Value) (x y : Int32) (w0 w1 w2 : Value) (σ : Hs) : ru d 185 20 [l0, l1, l2, l3] [.int y, .int x, w0, w1, w2] σ = ru d 185 21 [l0, l1, l2, l3] [.int (x * y), w0, w1, w2] σ := q_imul t185_20
theorem t185_21 : decode (mb 185) 21 = .ok (.iadd, 1) := by decide +kernel
theorem s185_21 (d : Nat) (l0 : Value) (l1 : Value) (l2 : Value) (l3 : Value) (x y : Int32) (w0 w1 : Value) (σ : Hs) : ru d 185 21 [l0, l1, l2, l3] [.int y, .int x, w0, w1] σ = ru d 185 22 [l0, l1, l2, l3] [.int (x + y), w0, w1] σ := q_iadd t185_21
theorem t185_22 : decode (mb 185) 22 = .ok (.iconst 1, 1) := by decide +kernel
theorem s185_22 (d : Nat) (l0 : Value) (l1 : Value) (l2 : Value) (l3 : Value) (w0 w1 w2 : Value) (σ : Hs) : ru d 185 22 [l0, l1, l2, l3] [w0, w1, w2] σ = ru d 185 23 [l0, l1, l2, l3] [.int 1, w0, w1, w2] σ := q_iconst t185_22 (by decide +kernel)
theorem t185_23 : decode (mb 185) 23 = .ok (.iadd, 1) := by decide +kernel
theorem s185_23 (d : Nat) (l0 : Value) (l1 : Value) (l2 : Value) (l3 : Value) (x y : Int32) (w0 w1 : Value) (σ : Hs) : ru d 185 23 [l0, l1, l2, l3] [.int y, .int x, w0, w1] σ = ru d 185 24 [l0, l1, l2, l3] [.int (x + y), w0, w1] σ := q_iadd t185_23
theorem t185_24 : decode (mb 185) 24 = .ok (.iaload, 1) := by decide +kernel
theorem s185_24_o88 (d : Nat) (l0 : Value) (l1 : Value) (l2 : Value) (l3 : Value) (i : Int32) (w0 : Value) (σ : Hs) : ru d 185 24 [l0, l1, l2, l3] [.int i, .ref 88, w0] σ = gd (vp_in i 545) (ru d 185 25 [l0, l1, l2, l3] [.int (σ 88 i.toNatClampNeg), w0] σ) := q_iald t185_24 rfl (by decide +kernel) rfl
theorem t185_25 : decode (mb 185) 25 = .ok (.i2l, 1) := by decide +kernel
theorem s185_25 (d : Nat) (l0 : Value) (l1 : Value) (l2 : Value) (l3 : Value) (x : Int32) (w0 : Value) (σ : Hs) : ru d 185 25 [l0, l1, l2, l3] [.int x, w0] σ = ru d 185 26 [l0, l1, l2, l3] [.long x.toInt64, w0] σ := q_i2l t185_25
theorem t185_26 : decode (mb 185) 26 = .ok (.ladd, 1) := by decide +kernel
theorem s185_26 (d : Nat) (l0 : Value) (l1 : Value) (l2 : Value) (l3 : Value) (x y : Int64) (σ : Hs) : ru d 185 26 [l0, l1, l2, l3] [.long y, .long x] σ = ru d 185 27 [l0, l1, l2, l3] [.long (x + y)] σ := q_ladd t185_26
theorem t185_27 : decode (mb 185) 27 = .ok (.lstore_n 1, 1) := by decide +kernel
theorem s185_27 (d : Nat) (a0 : Nat) (l1 : Value) (l2 : Value) (l3 : Value) (x : Int64) (σ : Hs) : ru d 185 27 [.ref a0, l1, l2, l3] [.long x] σ = ru d 185 28 [.ref a0, .long x, uu, l3] [] σ := q_lstore_n t185_27 ⟨Nat.le_of_ble_eq_true rfl, rfl⟩ rfl
theorem t185_28 : decode (mb 185) 28 = .ok (.iinc 3 1, 3) := by decide +kernel
theorem s185_28 (d : Nat) (l0 : Value) (l1 : Value) (i3 : Int32) (σ : Hs) : ru d 185 28 [l0, l1, uu, .int i3] [] σ = ru d 185 31 [l0, l1, uu, .int (i3 + 1)] [] σ := q_iinc t185_28 ⟨Nat.le_of_ble_eq_true rfl, rfl⟩ rfl (by decide +kernel) rfl
theorem t185_31 : decode (mb 185) 31 = .ok (.goto (-27), 3) := by decide +kernel
theorem s185_31 (d : Nat) (l0 : Value) (l1 : Value) (l2 : Value) (l3 : Value) (σ : Hs) : ru d 185 31 [l0, l1, l2, l3] [] σ = ru d 185 4 [l0, l1, l2, l3] [] σ := q_goto t185_31 (by decide +kernel)
theorem t185_34 : decode (mb 185) 34 = .ok (.lload_n 1, 1) := by decide +kernel
theorem s185_34 (d : Nat) (l0 : Value) (j1 : Int64) (l2 : Value) (l3 : Value) (σ : Hs) : ru d 185 34 [l0, .long j1, l2, l3] [] σ = ru d 185 35 [l0, .long j1, l2, l3] [.long j1] σ := q_lload_n t185_34 rfl
theorem t185_35 : decode (mb 185) 35 = .ok (.lreturn, 1) := by decide +kernel
theorem s185_35 (d : Nat) (l0 : Value) (l1 : Value) (l2 : Value) (l3 : Value) (x : Int64) (σ : Hs) : ru d 185 35 [l0, l1, l2, l3] [.long x] σ = some (some (.long x), σ) := q_lret t185_35 mr185
theorem c185 (d : Nat) (x0 : Nat) (σ : Hs) : callD (d + 1) 185 [.ref x0] σ = ru d 185 0 [.ref x0, uu, uu, uu] [] σ := callD_ru ml185 rfl rfl (Nat.le_of_ble_eq_true rfl)
-- 186: Model.hour(II)I
theorem t186_0 : decode (mb 186) 0 = .ok (.iload_n 1, 1) := by decide +kernel
theorem s186_0 (d : Nat) (l0 : Value) (i1 : Int32) (l2 : Value) (l3 : Value) (l4 : Value) (l5 : Value) (l6 : Value) (l7 : Value) (l8 : Value) (σ : Hs) : ru d 186 0 [l0, .int i1, l2, l3, l4, l5, l6, l7, l8] [] σ = ru d 186 1 [l0, .int i1, l2, l3, l4, l5, l6, l7, l8] [.int i1] σ := q_iload_n t186_0 rfl
theorem t186_1 : decode (mb 186) 1 = .ok (.invokestatic 113, 3) := by decide +kernel
theorem s186_1 (d : Nat) (l0 : Value) (l1 : Value) (l2 : Value) (l3 : Value) (l4 : Value) (l5 : Value) (l6 : Value) (l7 : Value) (l8 : Value) (v0 : Value) (σ : Hs) : ru d 186 1 [l0, l1, l2, l3, l4, l5, l6, l7, l8] [v0] σ = kont (callD d 121 [v0] σ) d 186 4 [l0, l1, l2, l3, l4, l5, l6, l7, l8] [] := q_invs t186_1 mo186 (by decide +kernel) K8_113 mj121 (Nat.le_of_ble_eq_true rfl) rfl rfl (Nat.le_of_ble_eq_true rfl)
theorem t186_4 : decode (mb 186) 4 = .ok (.ifCond .eq 10, 3) := by decide +kernel
theorem s186_4 (d : Nat) (l0 : Value) (l1 : Value) (l2 : Value) (l3 : Value) (l4 : Value) (l5 : Value) (l6 : Value) (l7 : Value) (l8 : Value) (x : Int32) (σ : Hs) : ru d 186 4 [l0, l1, l2, l3, l4, l5, l6, l7, l8] [.int x] σ = if x = 0 then ru d 186 14 [l0, l1, l2, l3, l4, l5, l6, l7, l8] [] σ else ru d 186 7 [l0, l1, l2, l3, l4, l5, l6, l7, l8] [] σ := q_if_eq t186_4 (by decide +kernel)
theorem t186_7 : decode (mb 186) 7 = .ok (.iload_n 2, 1) := by decide +kernel
theorem s186_7 (d : Nat) (l0 : Value) (l1 : Value) (i2 : Int32) (l3 : Value) (l4 : Value) (l5 : Value) (l6 : Value) (l7 : Value) (l8 : Value) (σ : Hs) : ru d 186 7 [l0, l1, .int i2, l3, l4, l5, l6, l7, l8] [] σ = ru d 186 8 [l0, l1, .int i2, l3, l4, l5, l6, l7, l8] [.int i2] σ := q_iload_n t186_7 rfl
theorem t186_8 : decode (mb 186) 8 = .ok (.invokestatic 284, 3) := by decide +kernel
theorem s186_8 (d : Nat) (l0 : Value) (l1 : Value) (l2 : Value) (l3 : Value) (l4 : Value) (l5 : Value) (l6 : Value) (l7 : Value) (l8 : Value) (v0 : Value) (σ : Hs) : ru d 186 8 [l0, l1, l2, l3, l4, l5, l6, l7, l8] [v0] σ = kont (callD d 182 [v0] σ) d 186 11 [l0, l1, l2, l3, l4, l5, l6, l7, l8] [] := q_invs t186_8 mo186 (by decide +kernel) K8_284 mj182 (Nat.le_of_ble_eq_true rfl) rfl rfl (Nat.le_of_ble_eq_true rfl)
theorem t186_11 : decode (mb 186) 11 = .ok (.ifCond .ne 10, 3) := by decide +kernel
theorem s186_11 (d : Nat) (l0 : Value) (l1 : Value) (l2 : Value) (l3 : Value) (l4 : Value) (l5 : Value) (l6 : Value) (l7 : Value) (l8 : Value) (x : Int32) (σ : Hs) : ru d 186 11 [l0, l1, l2, l3, l4, l5, l6, l7, l8] [.int x] σ = if x = 0 then ru d 186 14 [l0, l1, l2, l3, l4, l5, l6, l7, l8] [] σ else ru d 186 21 [l0, l1, l2, l3, l4, l5, l6, l7, l8] [] σ := q_if_ne t186_11 (by decide +kernel)
theorem t186_14 : decode (mb 186) 14 = .ok (.aload_n 0, 1) := by decide +kernel
theorem s186_14 (d : Nat) (a0 : Nat) (l1 : Value) (l2 : Value) (l3 : Value) (l4 : Value) (l5 : Value) (l6 : Value) (l7 : Value) (l8 : Value) (σ : Hs) : ru d 186 14 [.ref a0, l1, l2, l3, l4, l5, l6, l7, l8] [] σ = ru d 186 15 [.ref a0, l1, l2, l3, l4, l5, l6, l7, l8] [.ref a0] σ := q_aload_n t186_14 rfl
theorem t186_15 : decode (mb 186) 15 = .ok (.ldc 104, 2) := by decide +kernel
theorem s186_15 (d : Nat) (l0 : Value) (l1 : Value) (l2 : Value) (l3 : Value) (l4 : Value) (l5 : Value) (l6 : Value) (l7 : Value) (l8 : Value) (w0 : Value) (σ : Hs) : ru d 186 15 [l0, l1, l2, l3, l4, l5, l6, l7, l8] [w0] σ = ru d 186 17 [l0, l1, l2, l3, l4, l5, l6, l7, l8] [.int (-1000001), w0] σ := q_ldc t186_15 mo186 C8_104
theorem t186_17 : decode (mb 186) 17 = .ok (.invokevirtual 105, 3) := by decide +kernel
theorem s186_17_o87 (d : Nat) (l0 : Value) (l1 : Value) (l2 : Value) (l3 : Value) (l4 : Value) (l5 : Value) (l6 : Value) (l7 : Value) (l8 : Value) (v1 : Value) (σ : Hs) : ru d 186 17 [l0, l1, l2, l3, l4, l5, l6, l7, l8] [v1, .ref 87] σ = kont (callD d 112 [.ref 87, v1] σ) d 186 20 [l0, l1, l2, l3, l4, l5, l6, l7, l8] [] := q_invv t186_17 mo186 K8_105 mj112 rfl rfl rfl rfl (Nat.le_of_ble_eq_true rfl)
theorem t186_20 : decode (mb 186) 20 = .ok (.ireturn, 1) := by decide +kernel
theorem s186_20 (d : Nat) (l0 : Value) (l1 : Value) (l2 : Value) (l3 : Value) (l4 : Value) (l5 : Value) (l6 : Value) (l7 : Value) (l8 : Value) (x : Int32) (σ : Hs) : ru d 186 20 [l0, l1, l2, l3, l4, l5, l6, l7, l8] [.int x] σ = some (some (.int x), σ) := q_ireti t186_20 mr186
theorem t186_21 : decode (mb 186) 21 = .ok (.aload_n 0, 1) := by decide +kernel
theorem s186_21 (d : Nat) (a0 : Nat) (l1 : Value) (l2 : Value) (l3 : Value) (l4 : Value) (l5 : Value) (l6 : Value) (l7 : Value) (l8 : Value) (σ : Hs) : ru d 186 21 [.ref a0, l1, l2, l3, l4, l5, l6, l7, l8] [] σ = ru d 186 22 [.ref a0, l1, l2, l3, l4, l5, l6, l7, l8] [.ref a0] σ := q_aload_n t186_21 rfl
theorem t186_22 : decode (mb 186) 22 = .ok (.iload_n 1, 1) := by decide +kernel
theorem s186_22 (d : Nat) (l0 : Value) (i1 : Int32) (l2 : Value) (l3 : Value) (l4 : Value) (l5 : Value) (l6 : Value) (l7 : Value) (l8 : Value) (w0 : Value) (σ : Hs) : ru d 186 22 [l0, .int i1, l2, l3, l4, l5, l6, l7, l8] [w0] σ = ru d 186 23 [l0, .int i1, l2, l3, l4, l5, l6, l7, l8] [.int i1, w0] σ := q_iload_n t186_22 rfl
theorem t186_23 : decode (mb 186) 23 = .ok (.invokevirtual 88, 3) := by decide +kernel
theorem s186_23_o87 (d : Nat) (l0 : Value) (l1 : Value) (l2 : Value) (l3 : Value) (l4 : Value) (l5 : Value) (l6 : Value) (l7 : Value) (l8 : Value) (v1 : Value) (σ : Hs) : ru d 186 23 [l0, l1, l2, l3, l4, l5, l6, l7, l8] [v1, .ref 87] σ = kont (callD d 122 [.ref 87, v1] σ) d 186 26 [l0, l1, l2, l3, l4, l5, l6, l7, l8] [] := q_invv t186_23 mo186 K8_88 mj122 rfl rfl rfl rfl (Nat.le_of_ble_eq_true rfl)
theorem t186_26 : decode (mb 186) 26 = .ok (.ifCond .ne 10, 3) := by decide +kernel
theorem s186_26 (d : Nat) (l0 : Value) (l1 : Value) (l2 : Value) (l3 : Value) (l4 : Value) (l5 : Value) (l6 : Value) (l7 : Value) (l8 : Value) (x : Int32) (σ : Hs) : ru d 186 26 [l0, l1, l2, l3, l4, l5, l6, l7, l8] [.int x] σ = if x = 0 then ru d 186 29 [l0, l1, l2, l3, l4, l5, l6, l7, l8] [] σ else ru d 186 36 [l0, l1, l2, l3, l4, l5, l6, l7, l8] [] σ := q_if_ne t186_26 (by decide +kernel)
theorem t186_29 : decode (mb 186) 29 = .ok (.aload_n 0, 1) := by decide +kernel
theorem s186_29 (d : Nat) (a0 : Nat) (l1 : Value) (l2 : Value) (l3 : Value) (l4 : Value) (l5 : Value) (l6 : Value) (l7 : Value) (l8 : Value) (σ : Hs) : ru d 186 29 [.ref a0, l1, l2, l3, l4, l5, l6, l7, l8] [] σ = ru d 186 30 [.ref a0, l1, l2, l3, l4, l5, l6, l7, l8] [.ref a0] σ := q_aload_n t186_29 rfl
theorem t186_30 : decode (mb 186) 30 = .ok (.ldc 116, 2) := by decide +kernel
theorem s186_30 (d : Nat) (l0 : Value) (l1 : Value) (l2 : Value) (l3 : Value) (l4 : Value) (l5 : Value) (l6 : Value) (l7 : Value) (l8 : Value) (w0 : Value) (σ : Hs) : ru d 186 30 [l0, l1, l2, l3, l4, l5, l6, l7, l8] [w0] σ = ru d 186 32 [l0, l1, l2, l3, l4, l5, l6, l7, l8] [.int (-1000002), w0] σ := q_ldc t186_30 mo186 C8_116
theorem t186_32 : decode (mb 186) 32 = .ok (.invokevirtual 105, 3) := by decide +kernel
theorem s186_32_o87 (d : Nat) (l0 : Value) (l1 : Value) (l2 : Value) (l3 : Value) (l4 : Value) (l5 : Value) (l6 : Value) (l7 : Value) (l8 : Value) (v1 : Value) (σ : Hs) : ru d 186 32 [l0, l1, l2, l3, l4, l5, l6, l7, l8] [v1, .ref 87] σ = kont (callD d 112 [.ref 87, v1] σ) d 186 35 [l0, l1, l2, l3, l4, l5, l6, l7, l8] [] := q_invv t186_32 mo186 K8_105 mj112 rfl rfl rfl rfl (Nat.le_of_ble_eq_true rfl)
theorem t186_35 : decode (mb 186) 35 = .ok (.ireturn, 1) := by decide +kernel
theorem s186_35 (d : Nat) (l0 : Value) (l1 : Value) (l2 : Value) (l3 : Value) (l4 : Value) (l5 : Value) (l6 : Value) (l7 : Value) (l8 : Value) (x : Int32) (σ : Hs) : ru d 186 35 [l0, l1, l2, l3, l4, l5, l6, l7, l8] [.int x] σ = some (some (.int x), σ) := q_ireti t186_35 mr186
theorem t186_36 : decode (mb 186) 36 = .ok (.aload_n 0, 1) := by decide +kernel
theorem s186_36 (d : Nat) (a0 : Nat) (l1 : Value) (l2 : Value) (l3 : Value) (l4 : Value) (l5 : Value) (l6 : Value) (l7 : Value) (l8 : Value) (σ : Hs) : ru d 186 36 [.ref a0, l1, l2, l3, l4, l5, l6, l7, l8] [] σ = ru d 186 37 [.ref a0, l1, l2, l3, l4, l5, l6, l7, l8] [.ref a0] σ := q_aload_n t186_36 rfl
theorem t186_37 : decode (mb 186) 37 = .ok (.getfield 9, 3) := by decide +kernel
theorem s186_37_o87 (d : Nat) (l0 : Value) (l1 : Value) (l2 : Value) (l3 : Value) (l4 : Value) (l5 : Value) (l6 : Value) (l7 : Value) (l8 : Value) (σ : Hs) : ru d 186 37 [l0, l1, l2, l3, l4, l5, l6, l7, l8] [.ref 87] σ = ru d 186 40 [l0, l1, l2, l3, l4, l5, l6, l7, l8] [.ref 88] σ := q_getf t186_37 mo186 F8_9 rfl rfl
theorem t186_40 : decode (mb 186) 40 = .ok (.aload_n 0, 1) := by decide +kernel
theorem s186_40 (d : Nat) (a0 : Nat) (l1 : Value) (l2 : Value) (l3 : Value) (l4 : Value) (l5 : Value) (l6 : Value) (l7 : Value) (l8 : Value) (w0 : Value) (σ : Hs) : ru d 186 40 [.ref a0, l1, l2, l3, l4, l5, l6, l7, l8] [w0] σ = ru d 186 41 [.ref a0, l1, l2, l3, l4, l5, l6, l7, l8] [.ref a0, w0] σ := q_aload_n t186_40 rfl
theorem t186_41 : decode (mb 186) 41 = .ok (.getfield 16, 3) := by decide +kernel
theorem s186_41_o87 (d : Nat) (l0 : Value) (l1 : Value) (l2 : Value) (l3 : Value) (l4 : Value) (l5 : Value) (l6 : Value) (l7 : Value) (l8 : Value) (w0 : Value) (σ : Hs) : ru d 186 41 [l0, l1, l2, l3, l4, l5, l6, l7, l8] [.ref 87, w0] σ = ru d 186 44 [l0, l1, l2, l3, l4, l5, l6, l7, l8] [.ref 90, w0] σ := q_getf t186_41 mo186 F8_16 rfl rfl
theorem t186_44 : decode (mb 186) 44 = .ok (.invokestatic 77, 3) := by decide +kernel
theorem s186_44 (d : Nat) (l0 : Value) (l1 : Value) (l2 : Value) (l3 : Value) (l4 : Value) (l5 : Value) (l6 : Value) (l7 : Value) (l8 : Value) (v0 v1 : Value) (σ : Hs) : ru d 186 44 [l0, l1, l2, l3, l4, l5, l6, l7, l8] [v1, v0] σ = kont (callD d 116 [v0, v1] σ) d 186 47 [l0, l1, l2, l3, l4, l5, l6, l7, l8] [] := q_invs t186_44 mo186 (by decide +kernel) K8_77 mj116 (Nat.le_of_ble_eq_true rfl) rfl rfl (Nat.le_of_ble_eq_true rfl)
theorem t186_47 : decode (mb 186) 47 = .ok (.iconst (-1), 1) := by decide +kernel
theorem s186_47 (d : Nat) (l0 : Value) (l1 : Value) (l2 : Value) (l3 : Value) (l4 : Value) (l5 : Value) (l6 : Value) (l7 : Value) (l8 : Value) (σ : Hs) : ru d 186 47 [l0, l1, l2, l3, l4, l5, l6, l7, l8] [] σ = ru d 186 48 [l0, l1, l2, l3, l4, l5, l6, l7, l8] [.int (-1)] σ := q_iconst t186_47 (by decide +kernel)
theorem t186_48 : decode (mb 186) 48 = .ok (.istore_n 3, 1) := by decide +kernel
theorem s186_48 (d : Nat) (l0 : Value) (l1 : Value) (i2 : Int32) (l3 : Value) (l4 : Value) (l5 : Value) (l6 : Value) (l7 : Value) (l8 : Value) (x : Int32) (σ : Hs) : ru d 186 48 [l0, l1, .int i2, l3, l4, l5, l6, l7, l8] [.int x] σ = ru d 186 49 [l0, l1, .int i2, .int x, l4, l5, l6, l7, l8] [] σ := q_istore_n t186_48 ⟨Nat.le_of_ble_eq_true rfl, rfl⟩ rfl
theorem t186_49 : decode (mb 186) 49 = .ok (.lconst 0, 1) := by decide +kernel
theorem s186_49 (d : Nat) (l0 : Value) (l1 : Value) (l2 : Value) (l3 : Value) (l4 : Value) (l5 : Value) (l6 : Value) (l7 : Value) (l8 : Value) (σ : Hs) : ru d 186 49 [l0, l1, l2, l3, l4, l5, l6, l7, l8] [] σ = ru d 186 50 [l0, l1, l2, l3, l4, l5, l6, l7, l8] [.long 0] σ := q_lconst t186_49 (by decide +kernel)
theorem t186_50 : decode (mb 186) 50 = .ok (.lstore 4, 2) := by decide +kernel
theorem s186_50 (d : Nat) (l0 : Value) (l1 : Value) (l2 : Value) (i3 : Int32) (l4 : Value) (l5 : Value) (l6 : Value) (l7 : Value) (l8 : Value) (x : Int64) (σ : Hs) : ru d 186 50 [l0, l1, l2, .int i3, l4, l5, l6, l7, l8] [.long x] σ = ru d 186 52 [l0, l1, l2, .int i3, .long x, uu, l6, l7, l8] [] σ := q_lstore t186_50 ⟨Nat.le_of_ble_eq_true rfl, rfl⟩ rfl
theorem t186_52 : decode (mb 186) 52 = .ok (.iconst 0, 1) := by decide +kernel
theorem s186_52 (d : Nat) (l0 : Value) (l1 : Value) (l2 : Value) (l3 : Value) (l4 : Value) (l5 : Value) (l6 : Value) (l7 : Value) (l8 : Value) (σ : Hs) : ru d 186 52 [l0, l1, l2, l3, l4, l5, l6, l7, l8] [] σ = ru d 186 53 [l0, l1, l2, l3, l4, l5, l6, l7, l8] [.int 0] σ := q_iconst t186_52 (by decide +kernel)
theorem t186_53 : decode (mb 186) 53 = .ok (.istore 6, 2) := by decide +kernel
theorem s186_53 (d : Nat) (l0 : Value) (l1 : Value) (l2 : Value) (l3 : Value) (l4 : Value) (l6 : Value) (l7 : Value) (l8 : Value) (x : Int32) (σ : Hs) : ru d 186 53 [l0, l1, l2, l3, l4, uu, l6, l7, l8] [.int x] σ = ru d 186 55 [l0, l1, l2, l3, l4, uu, .int x, l7, l8] [] σ := q_istore t186_53 ⟨Nat.le_of_ble_eq_true rfl, rfl⟩ rfl
theorem t186_55 : decode (mb 186) 55 = .ok (.iload 6, 2) := by decide +kernel
theorem s186_55 (d : Nat) (l0 : Value) (l1 : Value) (l2 : Value) (l3 : Value) (l4 : Value) (l5 : Value) (i6 : Int32) (l7 : Value) (l8 : Value) (σ : Hs) : ru d 186 55 [l0, l1, l2, l3, l4, l5, .int i6, l7, l8] [] σ = ru d 186 57 [l0, l1, l2, l3, l4, l5, .int i6, l7, l8] [.int i6] σ := q_iload t186_55 rfl
theorem t186_57 : decode (mb 186) 57 = .ok (.bipush 24, 2) := by decide +kernel
theorem s186_57 (d : Nat) (l0 : Value) (l1 : Value) (l2 : Value) (l3 : Value) (l4 : Value) (l5 : Value) (l6 : Value) (l7 : Value) (l8 : Value) (w0 : Value) (σ : Hs) : ru d 186 57 [l0, l1, l2, l3, l4, l5, l6, l7, l8] [w0] σ = ru d 186 59 [l0, l1, l2, l3, l4, l5, l6, l7, l8] [.int 24, w0] σ := q_bipush t186_57 (by decide +kernel)
theorem t186_59 : decode (mb 186) 59 = .ok (.if_icmp .ge 66, 3) := by decide +kernel
theorem s186_59 (d : Nat) (l0 : Value) (l1 : Value) (l2 : Value) (l3 : Value) (l4 : Value) (l5 : Value) (l6 : Value) (l7 : Value) (l8 : Value) (x y : Int32) (σ : Hs) : ru d 186 59 [l0, l1, l2, l3, l4, l5, l6, l7, l8] [.int y, .int x] σ = if y ≤ x then ru d 186 125 [l0, l1, l2, l3, l4, l5, l6, l7, l8] [] σ else ru d 186 62 [l0, l1, l2, l3, l4, l5, l6, l7, l8] [] σ := q_ic_ge t186_59 (by decide +kernel)
theorem t186_62 : decode (mb 186) 62 = .ok (.aload_n 0, 1) := by decide +kernel
theorem s186_62 (d : Nat) (a0 : Nat) (l1 : Value) (l2 : Value) (l3 : Value) (l4 : Value) (l5 : Value) (l6 : Value) (l7 : Value) (l8 : Value) (σ : Hs) : ru d 186 62 [.ref a0, l1, l2, l3, l4, l5, l6, l7, l8] [] σ = ru d 186 63 [.ref a0, l1, l2, l3, l4, l5, l6, l7, l8] [.ref a0] σ := q_aload_n t186_62 rfl
theorem t186_63 : decode (mb 186) 63 = .ok (.getfield 9, 3) := by decide +kernel
theorem s186_63_o87 (d : Nat) (l0 : Value) (l1 : Value) (l2 : Value) (l3 : Value) (l4 : Value) (l5 : Value) (l6 : Value) (l7 : Value) (l8 : Value) (σ : Hs) : ru d 186 63 [l0, l1, l2, l3, l4, l5, l6, l7, l8] [.ref 87] σ = ru d 186 66 [l0, l1, l2, l3, l4, l5, l6, l7, l8] [.ref 88] σ := q_getf t186_63 mo186 F8_9 rfl rfl
theorem t186_66 : decode (mb 186) 66 = .ok (.iconst 4, 1) := by decide +kernel
theorem s186_66 (d : Nat) (l0 : Value) (l1 : Value) (l2 : Value) (l3 : Value) (l4 : Value) (l5 : Value) (l6 : Value) (l7 : Value) (l8 : Value) (w0 : Value) (σ : Hs) : ru d 186 66 [l0, l1, l2, l3, l4, l5, l6, l7, l8] [w0] σ = ru d 186 67 [l0, l1, l2, l3, l4, l5, l6, l7, l8] [.int 4, w0] σ := q_iconst t186_66 (by decide +kernel)
theorem t186_67 : decode (mb 186) 67 = .ok (.bipush 60, 2) := by decide +kernel
theorem s186_67 (d : Nat) (l0 : Value) (l1 : Value) (l2 : Value) (l3 : Value) (l4 : Value) (l5 : Value) (l6 : Value) (l7 : Value) (l8 : Value) (w0 w1 : Value) (σ : Hs) : ru d 186 67 [l0, l1, l2, l3, l4, l5, l6, l7, l8] [w0, w1] σ = ru d 186 69 [l0, l1, l2, l3, l4, l5, l6, l7, l8] [.int 60, w0, w1] σ := q_bipush t186_67 (by decide +kernel)
theorem t186_69 : decode (mb 186) 69 = .ok (.iload 6, 2) := by decide +kernel
theorem s186_69 (d : Nat) (l0 : Value) (l1 : Value) (l2 : Value) (l3 : Value) (l4 : Value) (l5 : Value) (i6 : Int32) (l7 : Value) (l8 : Value) (w0 w1 w2 : Value) (σ : Hs) : ru d 186 69 [l0, l1, l2, l3, l4, l5, .int i6, l7, l8] [w0, w1, w2] σ = ru d 186 71 [l0, l1, l2, l3, l4, l5, .int i6, l7, l8] [.int i6, w0, w1, w2] σ := q_iload t186_69 rfl
theorem t186_71 : decode (mb 186) 71 = .ok (.imul, 1) := by decide +kernel
theorem s186_71 (d : Nat) (l0 : Value) (l1 : Value) (l2 : Value) (l3 : Value) (l4 : Value) (l5 : Value) (l6 : Value) (l7 : Value) (l8 : Value) (x y : Int32) (w0 w1 : Value) (σ : Hs) : ru d 186 71 [l0, l1, l2, l3, l4, l5, l6, l7, l8] [.int y, .int x, w0, w1] σ = ru d 186 72 [l0, l1, l2, l3, l4, l5, l6, l7, l8] [.int (x * y), w0, w1] σ := q_imul t186_71
theorem t186_72 : decode (mb 186) 72 = .ok (.iastore, 1) := by decide +kernel
theorem s186_72_o88 (d : Nat) (l0 : Value) (l1 : Value) (l2 : Value) (l3 : Value) (l4 : Value) (l5 : Value) (l6 : Value) (l7 : Value) (l8 : Value) (i x : Int32) (σ : Hs) : ru d 186 72 [l0, l1, l2, l3, l4, l5, l6, l7, l8] [.int x, .int i, .ref 88] σ = gd (vp_in i 545) (ru d 186 73 [l0, l1, l2, l3, l4, l5, l6, l7, l8] [] (up2 σ 88 i.toNatClampNeg x)) := q_iast t186_72 (by decide +kernel) rfl rfl
theorem t186_73 : decode (mb 186) 73 = .ok (.aload_n 0, 1) := by decide +kernel
theorem s186_73 (d : Nat) (a0 : Nat) (l1 : Value) (l2 : Value) (l3 : Value) (l4 : Value) (l5 : Value) (l6 : Value) (l7 : Value) (l8 : Value) (σ : Hs) : ru d 186 73 [.ref a0, l1, l2, l3, l4, l5, l6, l7, l8] [] σ = ru d 186 74 [.ref a0, l1, l2, l3, l4, l5, l6, l7, l8] [.ref a0] σ := q_aload_n t186_73 rfl
theorem t186_74 : decode (mb 186) 74 = .ok (.iload_n 1, 1) := by decide +kernel
theorem s186_74 (d : Nat) (l0 : Value) (i1 : Int32) (l2 : Value) (l3 : Value) (l4 : Value) (l5 : Value) (l6 : Value) (l7 : Value) (l8 : Value) (w0 : Value) (σ : Hs) : ru d 186 74 [l0, .int i1, l2, l3, l4, l5, l6, l7, l8] [w0] σ = ru d 186 75 [l0, .int i1, l2, l3, l4, l5, l6, l7, l8] [.int i1, w0] σ := q_iload_n t186_74 rfl
theorem t186_75 : decode (mb 186) 75 = .ok (.invokevirtual 150, 3) := by decide +kernel
theorem s186_75_o87 (d : Nat) (l0 : Value) (l1 : Value) (l2 : Value) (l3 : Value) (l4 : Value) (l5 : Value) (l6 : Value) (l7 : Value) (l8 : Value) (v1 : Value) (σ : Hs) : ru d 186 75 [l0, l1, l2, l3, l4, l5, l6, l7, l8] [v1, .ref 87] σ = kont (callD d 139 [.ref 87, v1] σ) d 186 78 [l0, l1, l2, l3, l4, l5, l6, l7, l8] [] := q_invv t186_75 mo186 K8_150 mj139 rfl rfl rfl rfl (Nat.le_of_ble_eq_true rfl)
theorem t186_78 : decode (mb 186) 78 = .ok (.aload_n 0, 1) := by decide +kernel
theorem s186_78 (d : Nat) (a0 : Nat) (l1 : Value) (l2 : Value) (l3 : Value) (l4 : Value) (l5 : Value) (l6 : Value) (l7 : Value) (l8 : Value) (σ : Hs) : ru d 186 78 [.ref a0, l1, l2, l3, l4, l5, l6, l7, l8] [] σ = ru d 186 79 [.ref a0, l1, l2, l3, l4, l5, l6, l7, l8] [.ref a0] σ := q_aload_n t186_78 rfl
theorem t186_79 : decode (mb 186) 79 = .ok (.iload_n 2, 1) := by decide +kernel
theorem s186_79 (d : Nat) (l0 : Value) (l1 : Value) (i2 : Int32) (l3 : Value) (l4 : Value) (l5 : Value) (l6 : Value) (l7 : Value) (l8 : Value) (w0 : Value) (σ : Hs) : ru d 186 79 [l0, l1, .int i2, l3, l4, l5, l6, l7, l8] [w0] σ = ru d 186 80 [l0, l1, .int i2, l3, l4, l5, l6, l7, l8] [.int i2, w0] σ := q_iload_n t186_79 rfl
theorem t186_80 : decode (mb 186) 80 = .ok (.invokevirtual 271, 3) := by decide +kernel
theorem s186_80_o87 (d : Nat) (l0 : Value) (l1 : Value) (l2 : Value) (l3 : Value) (l4 : Value) (l5 : Value) (l6 : Value) (l7 : Value) (l8 : Value) (v1 : Value) (σ : Hs) : ru d 186 80 [l0, l1, l2, l3, l4, l5, l6, l7, l8] [v1, .ref 87] σ = kont (callD d 171 [.ref 87, v1] σ) d 186 83 [l0, l1, l2, l3, l4, l5, l6, l7, l8] [] := q_invv t186_80 mo186 K8_271 mj171 rfl rfl rfl rfl (Nat.le_of_ble_eq_true rfl)
theorem t186_83 : decode (mb 186) 83 = .ok (.aload_n 0, 1) := by decide +kernel
theorem s186_83 (d : Nat) (a0 : Nat) (l1 : Value) (l2 : Value) (l3 : Value) (l4 : Value) (l5 : Value) (l6 : Value) (l7 : Value) (l8 : Value) (σ : Hs) : ru d 186 83 [.ref a0, l1, l2, l3, l4, l5, l6, l7, l8] [] σ = ru d 186 84 [.ref a0, l1, l2, l3, l4, l5, l6, l7, l8] [.ref a0] σ := q_aload_n t186_83 rfl
theorem t186_84 : decode (mb 186) 84 = .ok (.invokevirtual 290, 3) := by decide +kernel
theorem s186_84_o87 (d : Nat) (l0 : Value) (l1 : Value) (l2 : Value) (l3 : Value) (l4 : Value) (l5 : Value) (l6 : Value) (l7 : Value) (l8 : Value) (σ : Hs) : ru d 186 84 [l0, l1, l2, l3, l4, l5, l6, l7, l8] [.ref 87] σ = kont (callD d 185 [.ref 87] σ) d 186 87 [l0, l1, l2, l3, l4, l5, l6, l7, l8] [] := q_invv t186_84 mo186 K8_290 mj185 rfl rfl rfl rfl (Nat.le_of_ble_eq_true rfl)
theorem t186_87 : decode (mb 186) 87 = .ok (.lstore 7, 2) := by decide +kernel
theorem s186_87 (d : Nat) (l0 : Value) (l1 : Value) (l2 : Value) (l3 : Value) (l4 : Value) (l5 : Value) (i6 : Int32) (l7 : Value) (l8 : Value) (x : Int64) (σ : Hs) : ru d 186 87 [l0, l1, l2, l3, l4, l5, .int i6, l7, l8] [.long x] σ = ru d 186 89 [l0, l1, l2, l3, l4, l5, .int i6, .long x, uu] [] σ := q_lstore t186_87 ⟨Nat.le_of_ble_eq_true rfl, rfl⟩ rfl
theorem t186_89 : decode (mb 186) 89 = .ok (.aload_n 0, 1) := by decide +kernel
theorem s186_89 (d : Nat) (a0 : Nat) (l1 : Value) (l2 : Value) (l3 : Value) (l4 : Value) (l5 : Value) (l6 : Value) (l7 : Value) (l8 : Value) (σ : Hs) : ru d 186 89 [.ref a0, l1, l2, l3, l4, l5, l6, l7, l8] [] σ = ru d 186 90 [.ref a0, l1, l2, l3, l4, l5, l6, l7, l8] [.ref a0] σ := q_aload_n t186_89 rfl
theorem t186_90 : decode (mb 186) 90 = .ok (.getfield 16, 3) := by decide +kernel
theorem s186_90_o87 (d : Nat) (l0 : Value) (l1 : Value) (l2 : Value) (l3 : Value) (l4 : Value) (l5 : Value) (l6 : Value) (l7 : Value) (l8 : Value) (σ : Hs) : ru d 186 90 [l0, l1, l2, l3, l4, l5, l6, l7, l8] [.ref 87] σ = ru d 186 93 [l0, l1, l2, l3, l4, l5, l6, l7, l8] [.ref 90] σ := q_getf t186_90 mo186 F8_16 rfl rfl
theorem t186_93 : decode (mb 186) 93 = .ok (.aload_n 0, 1) := by decide +kernel
theorem s186_93 (d : Nat) (a0 : Nat) (l1 : Value) (l2 : Value) (l3 : Value) (l4 : Value) (l5 : Value) (l6 : Value) (l7 : Value) (l8 : Value) (w0 : Value) (σ : Hs) : ru d 186 93 [.ref a0, l1, l2, l3, l4, l5, l6, l7, l8] [w0] σ = ru d 186 94 [.ref a0, l1, l2, l3, l4, l5, l6, l7, l8] [.ref a0, w0] σ := q_aload_n t186_93 rfl
theorem t186_94 : decode (mb 186) 94 = .ok (.getfield 9, 3) := by decide +kernel
theorem s186_94_o87 (d : Nat) (l0 : Value) (l1 : Value) (l2 : Value) (l3 : Value) (l4 : Value) (l5 : Value) (l6 : Value) (l7 : Value) (l8 : Value) (w0 : Value) (σ : Hs) : ru d 186 94 [l0, l1, l2, l3, l4, l5, l6, l7, l8] [.ref 87, w0] σ = ru d 186 97 [l0, l1, l2, l3, l4, l5, l6, l7, l8] [.ref 88, w0] σ := q_getf t186_94 mo186 F8_9 rfl rfl
theorem t186_97 : decode (mb 186) 97 = .ok (.invokestatic 77, 3) := by decide +kernel
theorem s186_97 (d : Nat) (l0 : Value) (l1 : Value) (l2 : Value) (l3 : Value) (l4 : Value) (l5 : Value) (l6 : Value) (l7 : Value) (l8 : Value) (v0 v1 : Value) (σ : Hs) : ru d 186 97 [l0, l1, l2, l3, l4, l5, l6, l7, l8] [v1, v0] σ = kont (callD d 116 [v0, v1] σ) d 186 100 [l0, l1, l2, l3, l4, l5, l6, l7, l8] [] := q_invs t186_97 mo186 (by decide +kernel) K8_77 mj116 (Nat.le_of_ble_eq_true rfl) rfl rfl (Nat.le_of_ble_eq_true rfl)
theorem t186_100 : decode (mb 186) 100 = .ok (.iload_n 3, 1) := by decide +kernel
theorem s186_100 (d : Nat) (l0 : Value) (l1 : Value) (l2 : Value) (i3 : Int32) (l4 : Value) (l5 : Value) (l6 : Value) (l7 : Value) (l8 : Value) (σ : Hs) : ru d 186 100 [l0, l1, l2, .int i3, l4, l5, l6, l7, l8] [] σ = ru d 186 101 [l0, l1, l2, .int i3, l4, l5, l6, l7, l8] [.int i3] σ := q_iload_n t186_100 rfl
theorem t186_101 : decode (mb 186) 101 = .ok (.ifCond .lt 11, 3) := by decide +kernel
theorem s186_101 (d : Nat) (l0 : Value) (l1 : Value) (l2 : Value) (l3 : Value) (l4 : Value) (l5 : Value) (l6 : Value) (l7 : Value) (l8 : Value) (x : Int32) (σ : Hs) : ru d 186 101 [l0, l1, l2, l3, l4, l5, l6, l7, l8] [.int x] σ = if x < 0 then ru d 186 112 [l0, l1, l2, l3, l4, l5, l6, l7, l8] [] σ else ru d 186 104 [l0, l1, l2, l3, l4, l5, l6, l7, l8] [] σ := q_if_lt t186_101 (by decide +kernel)
theorem t186_104 : decode (mb 186) 104 = .ok (.lload 7, 2) := by decide +kernel
theorem s186_104 (d : Nat) (l0 : Value) (l1 : Value) (l2 : Value) (l3 : Value) (l4 : Value) (l5 : Value) (l6 : Value) (j7 : Int64) (l8 : Value) (σ : Hs) : ru d 186 104 [l0, l1, l2, l3, l4, l5, l6, .long j7, l8] [] σ = ru d 186 106 [l0, l1, l2, l3, l4, l5, l6, .long j7, l8] [.long j7] σ := q_lload t186_104 rfl
theorem t186_106 : decode (mb 186) 106 = .ok (.lload 4, 2) := by decide +kernel
theorem s186_106 (d : Nat) (l0 : Value) (l1 : Value) (l2 : Value) (l3 : Value) (j4 : Int64) (l5 : Value) (l6 : Value) (l7 : Value) (l8 : Value) (w0 : Value) (σ : Hs) : ru d 186 106 [l0, l1, l2, l3, .long j4, l5, l6, l7, l8] [w0] σ = ru d 186 108 [l0, l1, l2, l3, .long j4, l5, l6, l7, l8] [.long j4, w0] σ := q_lload t186_106 rfl
theorem t186_108 : decode (mb 186) 108 = .ok (.lcmp, 1) := by decide +kernel
theorem s186_108 (d : Nat) (l0 : Value) (l1 : Value) (l2 : Value) (l3 : Value) (l4 : Value) (l5 : Value) (l6 : Value) (l7 : Value) (l8 : Value) (x y : Int64) (σ : Hs) : ru d 186 108 [l0, l1, l2, l3, l4, l5, l6, l7, l8] [.long y, .long x] σ = ru d 186 109 [l0, l1, l2, l3, l4, l5, l6, l7, l8] [.int (lg_cmp x y)] σ := q_lcmp t186_108
theorem t186_109 : decode (mb 186) 109 = .ok (.ifCond .ge 10, 3) := by decide +kernel
theorem s186_109 (d : Nat) (l0 : Value) (l1 : Value) (l2 : Value) (l3 : Value) (l4 : Value) (l5 : Value) (l6 : Value) (l7 : Value) (l8 : Value) (x : Int32) (σ : Hs) : ru d 186 109 [l0, l1, l2, l3, l4, l5, l6, l7, l8] [.int x] σ = if 0 ≤ x then ru d 186 119 [l0, l1, l2, l3, l4, l5, l6, l7, l8] [] σ else ru d 186 112 [l0, l1, l2, l3, l4, l5, l6, l7, l8] [] σ := q_if_ge t186_109 (by decide +kernel)
theorem t186_112 : decode (mb 186) 112 = .ok (.iload 6, 2) := by decide +kernel
theorem s186_112 (d : Nat) (l0 : Value) (l1 : Value) (l2 : Value) (l3 : Value) (l4 : Value) (l5 : Value) (i6 : Int32) (l7 : Value) (l8 : Value) (σ : Hs) : ru d 186 112 [l0, l1, l2, l3, l4, l5, .int i6, l7, l8] [] σ = ru d 186 114 [l0, l1, l2, l3, l4, l5, .int i6, l7, l8] [.int i6] σ := q_iload t186_112 rfl
theorem t186_114 : decode (mb 186) 114 = .ok (.istore_n 3, 1) := by decide +kernel
theorem s186_114 (d : Nat) (l0 : Value) (l1 : Value) (i2 : Int32) (l3 : Value) (l4 : Value) (l5 : Value) (l6 : Value) (l7 : Value) (l8 : Value) (x : Int32) (σ : Hs) : ru d 186 114 [l0, l1, .int i2, l3, l4, l5, l6, l7, l8] [.int x] σ = ru d 186 115 [l0, l1, .int i2, .int x, l4, l5, l6, l7, l8] [] σ := q_istore_n t186_114 ⟨Nat.le_of_ble_eq_true rfl, rfl⟩ rfl
theorem t186_115 : decode (mb 186) 115 = .ok (.lload 7, 2) := by decide +kernel
theorem s186_115 (d : Nat) (l0 : Value) (l1 : Value) (l2 : Value) (l3 : Value) (l4 : Value) (l5 : Value) (l6 : Value) (j7 : Int64) (l8 : Value) (σ : Hs) : ru d 186 115 [l0, l1, l2, l3, l4, l5, l6, .long j7, l8] [] σ = ru d 186 117 [l0, l1, l2, l3, l4, l5, l6, .long j7, l8] [.long j7] σ := q_lload t186_115 rfl
theorem t186_117 : decode (mb 186) 117 = .ok (.lstore 4, 2) := by decide +kernel
theorem s186_117 (d : Nat) (l0 : Value) (l1 : Value) (l2 : Value) (i3 : Int32) (l4 : Value) (l5 : Value) (l6 : Value) (l7 : Value) (l8 : Value) (x : Int64) (σ : Hs) : ru d 186 117 [l0, l1, l2, .int i3, l4, l5, l6, l7, l8] [.long x] σ = ru d 186 119 [l0, l1, l2, .int i3, .long x, uu, l6, l7, l8] [] σ := q_lstore t186_117 ⟨Nat.le_of_ble_eq_true rfl, rfl⟩ rfl
theorem t186_119 : decode (mb 186) 119 = .ok (.iinc 6 1, 3) := by decide +kernel
theorem s186_119 (d : Nat) (l0 : Value) (l1 : Value) (l2 : Value) (l3 : Value) (l4 : Value) (i6 : Int32) (l7 : Value) (l8 : Value) (σ : Hs) : ru d 186 119 [l0, l1, l2, l3, l4, uu, .int i6, l7, l8] [] σ = ru d 186 122 [l0, l1, l2, l3, l4, uu, .int (i6 + 1), l7, l8] [] σ := q_iinc t186_119 ⟨Nat.le_of_ble_eq_true rfl, rfl⟩ rfl (by decide +kernel) rfl
theorem t186_122 : decode (mb 186) 122 = .ok (.goto (-67), 3) := by decide +kernel
theorem s186_122 (d : Nat) (l0 : Value) (l1 : Value) (l2 : Value) (l3 : Value) (l4 : Value) (l5 : Value) (l6 : Value) (l7 : Value) (l8 : Value) (σ : Hs) : ru d 186 122 [l0, l1, l2, l3, l4, l5, l6, l7, l8] [] σ = ru d 186 55 [l0, l1, l2, l3, l4, l5, l6, l7, l8] [] σ := q_goto t186_122 (by decide +kernel)
theorem t186_125 : decode (mb 186) 125 = .ok (.iload_n 3, 1) := by decide +kernel
theorem s186_125 (d : Nat) (l0 : Value) (l1 : Value) (l2 : Value) (i3 : Int32) (l4 : Value) (l5 : Value) (l6 : Value) (l7 : Value) (l8 : Value) (σ : Hs) : ru d 186 125 [l0, l1, l2, .int i3, l4, l5, l6, l7, l8] [] σ = ru d 186 126 [l0, l1, l2, .int i3, l4, l5, l6, l7, l8] [.int i3] σ := q_iload_n t186_125 rfl
theorem t186_126 : decode (mb 186) 126 = .ok (.ireturn, 1) := by decide +kernel
theorem s186_126 (d : Nat) (l0 : Value) (l1 : Value) (l2 : Value) (l3 : Value) (l4 : Value) (l5 : Value) (l6 : Value) (l7 : Value) (l8 : Value) (x : Int32) (σ : Hs) : ru d 186 126 [l0, l1, l2, l3, l4, l5, l6, l7, l8] [.int x] σ = some (some (.int x), σ) := q_ireti t186_126 mr186
theorem c186 (d : Nat) (x0 : Nat) (x1 : Int32) (x2 : Int32) (σ : Hs) : callD (d + 1) 186 [.ref x0, .int x1, .int x2] σ = ru d 186 0 [.ref x0, .int x1, .int x2, uu, uu, uu, uu, uu, uu] [] σ := callD_ru ml186 rfl rfl (Nat.le_of_ble_eq_true rfl)
-- 187: Model.spot(I)I
theorem t187_0 : decode (mb 187) 0 = .ok (.iload_n 1, 1) := by decide +kernel
theorem s187_0 (d : Nat) (l0 : Value) (i1 : Int32) (l2 : Value) (l3 : Value) (l4 : Value) (l5 : Value) (σ : Hs) : ru d 187 0 [l0, .int i1, l2, l3, l4, l5] [] σ = ru d 187 1 [l0, .int i1, l2, l3, l4, l5] [.int i1] σ := q_iload_n t187_0 rfl
theorem t187_1 : decode (mb 187) 1 = .ok (.invokestatic 284, 3) := by decide +kernel
theorem s187_1 (d : Nat) (l0 : Value) (l1 : Value) (l2 : Value) (l3 : Value) (l4 : Value) (l5 : Value) (v0 : Value) (σ : Hs) : ru d 187 1 [l0, l1, l2, l3, l4, l5] [v0] σ = kont (callD d 182 [v0] σ) d 187 4 [l0, l1, l2, l3, l4, l5] [] := q_invs t187_1 mo187 (by decide +kernel) K8_284 mj182 (Nat.le_of_ble_eq_true rfl) rfl rfl (Nat.le_of_ble_eq_true rfl)
theorem t187_4 : decode (mb 187) 4 = .ok (.ifCond .ne 10, 3) := by decide +kernel
theorem s187_4 (d : Nat) (l0 : Value) (l1 : Value) (l2 : Value) (l3 : Value) (l4 : Value) (l5 : Value) (x : Int32) (σ : Hs) : ru d 187 4 [l0, l1, l2, l3, l4, l5] [.int x] σ = if x = 0 then ru d 187 7 [l0, l1, l2, l3, l4, l5] [] σ else ru d 187 14 [l0, l1, l2, l3, l4, l5] [] σ := q_if_ne t187_4 (by decide +kernel)
theorem t187_7 : decode (mb 187) 7 = .ok (.aload_n 0, 1) := by decide +kernel
theorem s187_7 (d : Nat) (a0 : Nat) (l1 : Value) (l2 : Value) (l3 : Value) (l4 : Value) (l5 : Value) (σ : Hs) : ru d 187 7 [.ref a0, l1, l2, l3, l4, l5] [] σ = ru d 187 8 [.ref a0, l1, l2, l3, l4, l5] [.ref a0] σ := q_aload_n t187_7 rfl
theorem t187_8 : decode (mb 187) 8 = .ok (.ldc 104, 2) := by decide +kernel
theorem s187_8 (d : Nat) (l0 : Value) (l1 : Value) (l2 : Value) (l3 : Value) (l4 : Value) (l5 : Value) (w0 : Value) (σ : Hs) : ru d 187 8 [l0, l1, l2, l3, l4, l5] [w0] σ = ru d 187 10 [l0, l1, l2, l3, l4, l5] [.int (-1000001), w0] σ := q_ldc t187_8 mo187 C8_104
theorem t187_10 : decode (mb 187) 10 = .ok (.invokevirtual 105, 3) := by decide +kernel
theorem s187_10_o87 (d : Nat) (l0 : Value) (l1 : Value) (l2 : Value) (l3 : Value) (l4 : Value) (l5 : Value) (v1 : Value) (σ : Hs) : ru d 187 10 [l0, l1, l2, l3, l4, l5] [v1, .ref 87] σ = kont (callD d 112 [.ref 87, v1] σ) d 187 13 [l0, l1, l2, l3, l4, l5] [] := q_invv t187_10 mo187 K8_105 mj112 rfl rfl rfl rfl (Nat.le_of_ble_eq_true rfl)
theorem t187_13 : decode (mb 187) 13 = .ok (.ireturn, 1) := by decide +kernel
theorem s187_13 (d : Nat) (l0 : Value) (l1 : Value) (l2 : Value) (l3 : Value) (l4 : Value) (l5 : Value) (x : Int32) (σ : Hs) : ru d 187 13 [l0, l1, l2, l3, l4, l5] [.int x] σ = some (some (.int x), σ) := q_ireti t187_13 mr187
theorem t187_14 : decode (mb 187) 14 = .ok (.aload_n 0, 1) := by decide +kernel
theorem s187_14 (d : Nat) (a0 : Nat) (l1 : Value) (l2 : Value) (l3 : Value) (l4 : Value) (l5 : Value) (σ : Hs) : ru d 187 14 [.ref a0, l1, l2, l3, l4, l5] [] σ = ru d 187 15 [.ref a0, l1, l2, l3, l4, l5] [.ref a0] σ := q_aload_n t187_14 rfl
theorem t187_15 : decode (mb 187) 15 = .ok (.getfield 9, 3) := by decide +kernel
theorem s187_15_o87 (d : Nat) (l0 : Value) (l1 : Value) (l2 : Value) (l3 : Value) (l4 : Value) (l5 : Value) (σ : Hs) : ru d 187 15 [l0, l1, l2, l3, l4, l5] [.ref 87] σ = ru d 187 18 [l0, l1, l2, l3, l4, l5] [.ref 88] σ := q_getf t187_15 mo187 F8_9 rfl rfl
theorem t187_18 : decode (mb 187) 18 = .ok (.aload_n 0, 1) := by decide +kernel
theorem s187_18 (d : Nat) (a0 : Nat) (l1 : Value) (l2 : Value) (l3 : Value) (l4 : Value) (l5 : Value) (w0 : Value) (σ : Hs) : ru d 187 18 [.ref a0, l1, l2, l3, l4, l5] [w0] σ = ru d 187 19 [.ref a0, l1, l2, l3, l4, l5] [.ref a0, w0] σ := q_aload_n t187_18 rfl
theorem t187_19 : decode (mb 187) 19 = .ok (.getfield 16, 3) := by decide +kernel
theorem s187_19_o87 (d : Nat) (l0 : Value) (l1 : Value) (l2 : Value) (l3 : Value) (l4 : Value) (l5 : Value) (w0 : Value) (σ : Hs) : ru d 187 19 [l0, l1, l2, l3, l4, l5] [.ref 87, w0] σ = ru d 187 22 [l0, l1, l2, l3, l4, l5] [.ref 90, w0] σ := q_getf t187_19 mo187 F8_16 rfl rfl
theorem t187_22 : decode (mb 187) 22 = .ok (.invokestatic 77, 3) := by decide +kernel
theorem s187_22 (d : Nat) (l0 : Value) (l1 : Value) (l2 : Value) (l3 : Value) (l4 : Value) (l5 : Value) (v0 v1 : Value) (σ : Hs) : ru d 187 22 [l0, l1, l2, l3, l4, l5] [v1, v0] σ = kont (callD d 116 [v0, v1] σ) d 187 25 [l0, l1, l2, l3, l4, l5] [] := q_invs t187_22 mo187 (by decide +kernel) K8_77 mj116 (Nat.le_of_ble_eq_true rfl) rfl rfl (Nat.le_of_ble_eq_true rfl)
theorem t187_25 : decode (mb 187) 25 = .ok (.iconst (-1), 1) := by decide +kernel
theorem s187_25 (d : Nat) (l0 : Value) (l1 : Value) (l2 : Value) (l3 : Value) (l4 : Value) (l5 : Value) (σ : Hs) : ru d 187 25 [l0, l1, l2, l3, l4, l5] [] σ = ru d 187 26 [l0, l1, l2, l3, l4, l5] [.int (-1)] σ := q_iconst t187_25 (by decide +kernel)
theorem t187_26 : decode (mb 187) 26 = .ok (.istore_n 2, 1) := by decide +kernel
theorem s187_26 (d : Nat) (l0 : Value) (i1 : Int32) (l2 : Value) (l3 : Value) (l4 : Value) (l5 : Value) (x : Int32) (σ : Hs) : ru d 187 26 [l0, .int i1, l2, l3, l4, l5] [.int x] σ = ru d 187 27 [l0, .int i1, .int x, l3, l4, l5] [] σ := q_istore_n t187_26 ⟨Nat.le_of_ble_eq_true rfl, rfl⟩ rfl
theorem t187_27 : decode (mb 187) 27 = .ok (.iconst 0, 1) := by decide +kernel
theorem s187_27 (d : Nat) (l0 : Value) (l1 : Value) (l2 : Value) (l3 : Value) (l4 : Value) (l5 : Value) (σ : Hs) : ru d 187 27 [l0, l1, l2, l3, l4, l5] [] σ = ru d 187 28 [l0, l1, l2, l3, l4, l5] [.int 0] σ := q_iconst t187_27 (by decide +kernel)
theorem t187_28 : decode (mb 187) 28 = .ok (.istore_n 3, 1) := by decide +kernel
theorem s187_28 (d : Nat) (l0 : Value) (l1 : Value) (i2 : Int32) (l3 : Value) (l4 : Value) (l5 : Value) (x : Int32) (σ : Hs) : ru d 187 28 [l0, l1, .int i2, l3, l4, l5] [.int x] σ = ru d 187 29 [l0, l1, .int i2, .int x, l4, l5] [] σ := q_istore_n t187_28 ⟨Nat.le_of_ble_eq_true rfl, rfl⟩ rfl
theorem t187_29 : decode (mb 187) 29 = .ok (.iconst 0, 1) := by decide +kernel
theorem s187_29 (d : Nat) (l0 : Value) (l1 : Value) (l2 : Value) (l3 : Value) (l4 : Value) (l5 : Value) (σ : Hs) : ru d 187 29 [l0, l1, l2, l3, l4, l5] [] σ = ru d 187 30 [l0, l1, l2, l3, l4, l5] [.int 0] σ := q_iconst t187_29 (by decide +kernel)
theorem t187_30 : decode (mb 187) 30 = .ok (.istore 4, 2) := by decide +kernel
theorem s187_30 (d : Nat) (l0 : Value) (l1 : Value) (l2 : Value) (i3 : Int32) (l4 : Value) (l5 : Value) (x : Int32) (σ : Hs) : ru d 187 30 [l0, l1, l2, .int i3, l4, l5] [.int x] σ = ru d 187 32 [l0, l1, l2, .int i3, .int x, l5] [] σ := q_istore t187_30 ⟨Nat.le_of_ble_eq_true rfl, rfl⟩ rfl
theorem t187_32 : decode (mb 187) 32 = .ok (.iload 4, 2) := by decide +kernel
theorem s187_32 (d : Nat) (l0 : Value) (l1 : Value) (l2 : Value) (l3 : Value) (i4 : Int32) (l5 : Value) (σ : Hs) : ru d 187 32 [l0, l1, l2, l3, .int i4, l5] [] σ = ru d 187 34 [l0, l1, l2, l3, .int i4, l5] [.int i4] σ := q_iload t187_32 rfl
theorem t187_34 : decode (mb 187) 34 = .ok (.bipush 30, 2) := by decide +kernel
theorem s187_34 (d : Nat) (l0 : Value) (l1 : Value) (l2 : Value) (l3 : Value) (l4 : Value) (l5 : Value) (w0 : Value) (σ : Hs) : ru d 187 34 [l0, l1, l2, l3, l4, l5] [w0] σ = ru d 187 36 [l0, l1, l2, l3, l4, l5] [.int 30, w0] σ := q_bipush t187_34 (by decide +kernel)
theorem t187_36 : decode (mb 187) 36 = .ok (.if_icmp .ge 58, 3) := by decide +kernel
theorem s187_36 (d : Nat) (l0 : Value) (l1 : Value) (l2 : Value) (l3 : Value) (l4 : Value) (l5 : Value) (x y : Int32) (σ : Hs) : ru d 187 36 [l0, l1, l2, l3, l4, l5] [.int y, .int x] σ = if y ≤ x then ru d 187 94 [l0, l1, l2, l3, l4, l5] [] σ else ru d 187 39 [l0, l1, l2, l3, l4, l5] [] σ := q_ic_ge t187_36 (by decide +kernel)
theorem t187_39 : decode (mb 187) 39 = .ok (.aload_n 0, 1) := by decide +kernel
theorem s187_39 (d : Nat) (a0 : Nat) (l1 : Value) (l2 : Value) (l3 : Value) (l4 : Value) (l5 : Value) (σ : Hs) : ru d 187 39 [.ref a0, l1, l2, l3, l4, l5] [] σ = ru d 187 40 [.ref a0, l1, l2, l3, l4, l5] [.ref a0] σ := q_aload_n t187_39 rfl
theorem t187_40 : decode (mb 187) 40 = .ok (.iload 4, 2) := by decide +kernel
theorem s187_40 (d : Nat) (l0 : Value) (l1 : Value) (l2 : Value) (l3 : Value) (i4 : Int32) (l5 : Value) (w0 : Value) (σ : Hs) : ru d 187 40 [l0, l1, l2, l3, .int i4, l5] [w0] σ = ru d 187 42 [l0, l1, l2, l3, .int i4, l5] [.int i4, w0] σ := q_iload t187_40 rfl
theorem t187_42 : decode (mb 187) 42 = .ok (.invokevirtual 88, 3) := by decide +kernel
theorem s187_42_o87 (d : Nat) (l0 : Value) (l1 : Value) (l2 : Value) (l3 : Value) (l4 : Value) (l5 : Value) (v1 : Value) (σ : Hs) : ru d 187 42 [l0, l1, l2, l3, l4, l5] [v1, .ref 87] σ = kont (callD d 122 [.ref 87, v1] σ) d 187 45 [l0, l1, l2, l3, l4, l5] [] := q_invv t187_42 mo187 K8_88 mj122 rfl rfl rfl rfl (Nat.le_of_ble_eq_true rfl)
theorem t187_45 : decode (mb 187) 45 = .ok (.ifCond .eq 43, 3) := by decide +kernel
theorem s187_45 (d : Nat) (l0 : Value) (l1 : Value) (l2 : Value) (l3 : Value) (l4 : Value) (l5 : Value) (x : Int32) (σ : Hs) : ru d 187 45 [l0, l1, l2, l3, l4, l5] [.int x] σ = if x = 0 then ru d 187 88 [l0, l1, l2, l3, l4, l5] [] σ else ru d 187 48 [l0, l1, l2, l3, l4, l5] [] σ := q_if_eq t187_45 (by decide +kernel)
theorem t187_48 : decode (mb 187) 48 = .ok (.aload_n 0, 1) := by decide +kernel
theorem s187_48 (d : Nat) (a0 : Nat) (l1 : Value) (l2 : Value) (l3 : Value) (l4 : Value) (l5 : Value) (σ : Hs) : ru d 187 48 [.ref a0, l1, l2, l3, l4, l5] [] σ = ru d 187 49 [.ref a0, l1, l2, l3, l4, l5] [.ref a0] σ := q_aload_n t187_48 rfl
theorem t187_49 : decode (mb 187) 49 = .ok (.iload 4, 2) := by decide +kernel
theorem s187_49 (d : Nat) (l0 : Value) (l1 : Value) (l2 : Value) (l3 : Value) (i4 : Int32) (l5 : Value) (w0 : Value) (σ : Hs) : ru d 187 49 [l0, l1, l2, l3, .int i4, l5] [w0] σ = ru d 187 51 [l0, l1, l2, l3, .int i4, l5] [.int i4, w0] σ := q_iload t187_49 rfl
theorem t187_51 : decode (mb 187) 51 = .ok (.invokevirtual 150, 3) := by decide +kernel
theorem s187_51_o87 (d : Nat) (l0 : Value) (l1 : Value) (l2 : Value) (l3 : Value) (l4 : Value) (l5 : Value) (v1 : Value) (σ : Hs) : ru d 187 51 [l0, l1, l2, l3, l4, l5] [v1, .ref 87] σ = kont (callD d 139 [.ref 87, v1] σ) d 187 54 [l0, l1, l2, l3, l4, l5] [] := q_invv t187_51 mo187 K8_150 mj139 rfl rfl rfl rfl (Nat.le_of_ble_eq_true rfl)
theorem t187_54 : decode (mb 187) 54 = .ok (.aload_n 0, 1) := by decide +kernel
theorem s187_54 (d : Nat) (a0 : Nat) (l1 : Value) (l2 : Value) (l3 : Value) (l4 : Value) (l5 : Value) (σ : Hs) : ru d 187 54 [.ref a0, l1, l2, l3, l4, l5] [] σ = ru d 187 55 [.ref a0, l1, l2, l3, l4, l5] [.ref a0] σ := q_aload_n t187_54 rfl
theorem t187_55 : decode (mb 187) 55 = .ok (.iload_n 1, 1) := by decide +kernel
theorem s187_55 (d : Nat) (l0 : Value) (i1 : Int32) (l2 : Value) (l3 : Value) (l4 : Value) (l5 : Value) (w0 : Value) (σ : Hs) : ru d 187 55 [l0, .int i1, l2, l3, l4, l5] [w0] σ = ru d 187 56 [l0, .int i1, l2, l3, l4, l5] [.int i1, w0] σ := q_iload_n t187_55 rfl
theorem t187_56 : decode (mb 187) 56 = .ok (.invokevirtual 271, 3) := by decide +kernel
theorem s187_56_o87 (d : Nat) (l0 : Value) (l1 : Value) (l2 : Value) (l3 : Value) (l4 : Value) (l5 : Value) (v1 : Value) (σ : Hs) : ru d 187 56 [l0, l1, l2, l3, l4, l5] [v1, .ref 87] σ = kont (callD d 171 [.ref 87, v1] σ) d 187 59 [l0, l1, l2, l3, l4, l5] [] := q_invv t187_56 mo187 K8_271 mj171 rfl rfl rfl rfl (Nat.le_of_ble_eq_true rfl)
theorem t187_59 : decode (mb 187) 59 = .ok (.aload_n 0, 1) := by decide +kernel
theorem s187_59 (d : Nat) (a0 : Nat) (l1 : Value) (l2 : Value) (l3 : Value) (l4 : Value) (l5 : Value) (σ : Hs) : ru d 187 59 [.ref a0, l1, l2, l3, l4, l5] [] σ = ru d 187 60 [.ref a0, l1, l2, l3, l4, l5] [.ref a0] σ := q_aload_n t187_59 rfl
theorem t187_60 : decode (mb 187) 60 = .ok (.aload_n 0, 1) := by decide +kernel
theorem s187_60 (d : Nat) (a0 : Nat) (l1 : Value) (l2 : Value) (l3 : Value) (l4 : Value) (l5 : Value) (w0 : Value) (σ : Hs) : ru d 187 60 [.ref a0, l1, l2, l3, l4, l5] [w0] σ = ru d 187 61 [.ref a0, l1, l2, l3, l4, l5] [.ref a0, w0] σ := q_aload_n t187_60 rfl
theorem t187_61 : decode (mb 187) 61 = .ok (.getfield 9, 3) := by decide +kernel
theorem s187_61_o87 (d : Nat) (l0 : Value) (l1 : Value) (l2 : Value) (l3 : Value) (l4 : Value) (l5 : Value) (w0 : Value) (σ : Hs) : ru d 187 61 [l0, l1, l2, l3, l4, l5] [.ref 87, w0] σ = ru d 187 64 [l0, l1, l2, l3, l4, l5] [.ref 88, w0] σ := q_getf t187_61 mo187 F8_9 rfl rfl
theorem t187_64 : decode (mb 187) 64 = .ok (.bipush 11, 2) := by decide +kernel
theorem s187_64 (d : Nat) (l0 : Value) (l1 : Value) (l2 : Value) (l3 : Value) (l4 : Value) (l5 : Value) (w0 w1 : Value) (σ : Hs) : ru d 187 64 [l0, l1, l2, l3, l4, l5] [w0, w1] σ = ru d 187 66 [l0, l1, l2, l3, l4, l5] [.int 11, w0, w1] σ := q_bipush t187_64 (by decide +kernel)
theorem t187_66 : decode (mb 187) 66 = .ok (.iaload, 1) := by decide +kernel
theorem s187_66_o88 (d : Nat) (l0 : Value) (l1 : Value) (l2 : Value) (l3 : Value) (l4 : Value) (l5 : Value) (i : Int32) (w0 : Value) (σ : Hs) : ru d 187 66 [l0, l1, l2, l3, l4, l5] [.int i, .ref 88, w0] σ = gd (vp_in i 545) (ru d 187 67 [l0, l1, l2, l3, l4, l5] [.int (σ 88 i.toNatClampNeg), w0] σ) := q_iald t187_66 rfl (by decide +kernel) rfl
theorem t187_67 : decode (mb 187) 67 = .ok (.invokevirtual 287, 3) := by decide +kernel
theorem s187_67_o87 (d : Nat) (l0 : Value) (l1 : Value) (l2 : Value) (l3 : Value) (l4 : Value) (l5 : Value) (v1 : Value) (σ : Hs) : ru d 187 67 [l0, l1, l2, l3, l4, l5] [v1, .ref 87] σ = kont (callD d 118 [.ref 87, v1] σ) d 187 70 [l0, l1, l2, l3, l4, l5] [] := q_invv t187_67 mo187 K8_287 mj118 rfl rfl rfl rfl (Nat.le_of_ble_eq_true rfl)
theorem t187_70 : decode (mb 187) 70 = .ok (.istore 5, 2) := by decide +kernel
theorem s187_70 (d : Nat) (l0 : Value) (l1 : Value) (l2 : Value) (l3 : Value) (i4 : Int32) (l5 : Value) (x : Int32) (σ : Hs) : ru d 187 70 [l0, l1, l2, l3, .int i4, l5] [.int x] σ = ru d 187 72 [l0, l1, l2, l3, .int i4, .int x] [] σ := q_istore t187_70 ⟨Nat.le_of_ble_eq_true rfl, rfl⟩ rfl
theorem t187_72 : decode (mb 187) 72 = .ok (.iload_n 2, 1) := by decide +kernel
theorem s187_72 (d : Nat) (l0 : Value) (l1 : Value) (i2 : Int32) (l3 : Value) (l4 : Value) (l5 : Value) (σ : Hs) : ru d 187 72 [l0, l1, .int i2, l3, l4, l5] [] σ = ru d 187 73 [l0, l1, .int i2, l3, l4, l5] [.int i2] σ := q_iload_n t187_72 rfl
theorem t187_73 : decode (mb 187) 73 = .ok (.ifCond .lt 9, 3) := by decide +kernel
theorem s187_73 (d : Nat) (l0 : Value) (l1 : Value) (l2 : Value) (l3 : Value) (l4 : Value) (l5 : Value) (x : Int32) (σ : Hs) : ru d 187 73 [l0, l1, l2, l3, l4, l5] [.int x] σ = if x < 0 then ru d 187 82 [l0, l1, l2, l3, l4, l5] [] σ else ru d 187 76 [l0, l1, l2, l3, l4, l5] [] σ := q_if_lt t187_73 (by decide +kernel)
theorem t187_76 : decode (mb 187) 76 = .ok (.iload 5, 2) := by decide +kernel
theorem s187_76 (d : Nat) (l0 : Value) (l1 : Value) (l2 : Value) (l3 : Value) (l4 : Value) (i5 : Int32) (σ : Hs) : ru d 187 76 [l0, l1, l2, l3, l4, .int i5] [] σ = ru d 187 78 [l0, l1, l2, l3, l4, .int i5] [.int i5] σ := q_iload t187_76 rfl
theorem t187_78 : decode (mb 187) 78 = .ok (.iload_n 3, 1) := by decide +kernel
theorem s187_78 (d : Nat) (l0 : Value) (l1 : Value) (l2 : Value) (i3 : Int32) (l4 : Value) (l5 : Value) (w0 : Value) (σ : Hs) : ru d 187 78 [l0, l1, l2, .int i3, l4, l5] [w0] σ = ru d 187 79 [l0, l1, l2, .int i3, l4, l5] [.int i3, w0] σ := q_iload_n t187_78 rfl
theorem t187_79 : decode (mb 187) 79 = .ok (.if_icmp .le 9, 3) := by decide +kernel
theorem s187_79 (d : Nat) (l0 : Value) (l1 : Value) (l2 : Value) (l3 : Value) (l4 : Value) (l5 : Value) (x y : Int32) (σ : Hs) : ru d 187 79 [l0, l1, l2, l3, l4, l5] [.int y, .int x] σ = if x ≤ y then ru d 187 88 [l0, l1, l2, l3, l4, l5] [] σ else ru d 187 82 [l0, l1, l2, l3, l4, l5] [] σ := q_ic_le t187_79 (by decide +kernel)
theorem t187_82 : decode (mb 187) 82 = .ok (.iload 4, 2) := by decide +kernel
theorem s187_82 (d : Nat) (l0 : Value) (l1 : Value) (l2 : Value) (l3 : Value) (i4 : Int32) (l5 : Value) (σ : Hs) : ru d 187 82 [l0, l1, l2, l3, .int i4, l5] [] σ = ru d 187 84 [l0, l1, l2, l3, .int i4, l5] [.int i4] σ := q_iload t187_82 rfl
theorem t187_84 : decode (mb 187) 84 = .ok (.istore_n 2, 1) := by decide +kernel
theorem s187_84 (d : Nat) (l0 : Value) (i1 : Int32) (l2 : Value) (l3 : Value) (l4 : Value) (l5 : Value) (x : Int32) (σ : Hs) : ru d 187 84 [l0, .int i1, l2, l3, l4, l5] [.int x] σ = ru d 187 85 [l0, .int i1, .int x, l3, l4, l5] [] σ := q_istore_n t187_84 ⟨Nat.le_of_ble_eq_true rfl, rfl⟩ rfl
theorem t187_85 : decode (mb 187) 85 = .ok (.iload 5, 2) := by decide +kernel
theorem s187_85 (d : Nat) (l0 : Value) (l1 : Value) (l2 : Value) (l3 : Value) (l4 : Value) (i5 : Int32) (σ : Hs) : ru d 187 85 [l0, l1, l2, l3, l4, .int i5] [] σ = ru d 187 87 [l0, l1, l2, l3, l4, .int i5] [.int i5] σ := q_iload t187_85 rfl
theorem t187_87 : decode (mb 187) 87 = .ok (.istore_n 3, 1) := by decide +kernel
theorem s187_87 (d : Nat) (l0 : Value) (l1 : Value) (i2 : Int32) (l3 : Value) (l4 : Value) (l5 : Value) (x : Int32) (σ : Hs) : ru d 187 87 [l0, l1, .int i2, l3, l4, l5] [.int x] σ = ru d 187 88 [l0, l1, .int i2, .int x, l4, l5] [] σ := q_istore_n t187_87 ⟨Nat.le_of_ble_eq_true rfl, rfl⟩ rfl
theorem t187_88 : decode (mb 187) 88 = .ok (.iinc 4 1, 3) := by decide +kernel
theorem s187_88 (d : Nat) (l0 : Value) (l1 : Value) (l2 : Value) (i3 : Int32) (i4 : Int32) (l5 : Value) (σ : Hs) : ru d 187 88 [l0, l1, l2, .int i3, .int i4, l5] [] σ = ru d 187 91 [l0, l1, l2, .int i3, .int (i4 + 1), l5] [] σ := q_iinc t187_88 ⟨Nat.le_of_ble_eq_true rfl, rfl⟩ rfl (by decide +kernel) rfl
theorem t187_91 : decode (mb 187) 91 = .ok (.goto (-59), 3) := by decide +kernel
theorem s187_91 (d : Nat) (l0 : Value) (l1 : Value) (l2 : Value) (l3 : Value) (l4 : Value) (l5 : Value) (σ : Hs) : ru d 187 91 [l0, l1, l2, l3, l4, l5] [] σ = ru d 187 32 [l0, l1, l2, l3, l4, l5] [] σ := q_goto t187_91 (by decide +kernel)
theorem t187_94 : decode (mb 187) 94 = .ok (.iload_n 2, 1) := by decide +kernel
theorem s187_94 (d : Nat) (l0 : Value) (l1 : Value) (i2 : Int32) (l3 : Value) (l4 : Value) (l5 : Value) (σ : Hs) : ru d 187 94 [l0, l1, .int i2, l3, l4, l5] [] σ = ru d 187 95 [l0, l1, .int i2, l3, l4, l5] [.int i2] σ := q_iload_n t187_94 rfl
theorem t187_95 : decode (mb 187) 95 = .ok (.ifCond .ge 12, 3) := by decide +kernel
theorem s187_95 (d : Nat) (l0 : Value) (l1 : Value) (l2 : Value) (l3 : Value) (l4 : Value) (l5 : Value) (x : Int32) (σ : Hs) : ru d 187 95 [l0, l1, l2, l3, l4, l5] [.int x] σ = if 0 ≤ x then ru d 187 107 [l0, l1, l2, l3, l4, l5] [] σ else ru d 187 98 [l0, l1, l2, l3, l4, l5] [] σ := q_if_ge t187_95 (by decide +kernel)
theorem t187_98 : decode (mb 187) 98 = .ok (.aload_n 0, 1) := by decide +kernel
theorem s187_98 (d : Nat) (a0 : Nat) (l1 : Value) (l2 : Value) (l3 : Value) (l4 : Value) (l5 : Value) (σ : Hs) : ru d 187 98 [.ref a0, l1, l2, l3, l4, l5] [] σ = ru d 187 99 [.ref a0, l1, l2, l3, l4, l5] [.ref a0] σ := q_aload_n t187_98 rfl
theorem t187_99 : decode (mb 187) 99 = .ok (.ldc 116, 2) := by decide +kernel
theorem s187_99 (d : Nat) (l0 : Value) (l1 : Value) (l2 : Value) (l3 : Value) (l4 : Value) (l5 : Value) (w0 : Value) (σ : Hs) : ru d 187 99 [l0, l1, l2, l3, l4, l5] [w0] σ = ru d 187 101 [l0, l1, l2, l3, l4, l5] [.int (-1000002), w0] σ := q_ldc t187_99 mo187 C8_116
theorem t187_101 : decode (mb 187) 101 = .ok (.invokevirtual 105, 3) := by decide +kernel
theorem s187_101_o87 (d : Nat) (l0 : Value) (l1 : Value) (l2 : Value) (l3 : Value) (l4 : Value) (l5 : Value) (v1 : Value) (σ : Hs) : ru d 187 101 [l0, l1, l2, l3, l4, l5] [v1, .ref 87] σ = kont (callD d 112 [.ref 87, v1] σ) d 187 104 [l0, l1, l2, l3, l4, l5] [] := q_invv t187_101 mo187 K8_105 mj112 rfl rfl rfl rfl (Nat.le_of_ble_eq_true rfl)
theorem t187_104 : decode (mb 187) 104 = .ok (.goto 4, 3) := by decide +kernel
theorem s187_104 (d : Nat) (l0 : Value) (l1 : Value) (l2 : Value) (l3 : Value) (l4 : Value) (l5 : Value) (w0 : Value) (σ : Hs) : ru d 187 104 [l0, l1, l2, l3, l4, l5] [w0] σ = ru d 187 108 [l0, l1, l2, l3, l4, l5] [w0] σ := q_goto t187_104 (by decide +kernel)
theorem t187_107 : decode (mb 187) 107 = .ok (.iload_n 2, 1) := by decide +kernel
theorem s187_107 (d : Nat) (l0 : Value) (l1 : Value) (i2 : Int32) (l3 : Value) (l4 : Value) (l5 : Value) (σ : Hs) : ru d 187 107 [l0, l1, .int i2, l3, l4, l5] [] σ = ru d 187 108 [l0, l1, .int i2, l3, l4, l5] [.int i2] σ := q_iload_n t187_107 rfl
theorem t187_108 : decode (mb 187) 108 = .ok (.ireturn, 1) := by decide +kernel
theorem s187_108 (d : Nat) (l0 : Value) (l1 : Value) (l2 : Value) (l3 : Value) (l4 : Value) (l5 : Value) (x : Int32) (σ : Hs) : ru d 187 108 [l0, l1, l2, l3, l4, l5] [.int x] σ = some (some (.int x), σ) := q_ireti t187_108 mr187
theorem c187 (d : Nat) (x0 : Nat) (x1 : Int32) (σ : Hs) : callD (d + 1) 187 [.ref x0, .int x1] σ = ru d 187 0 [.ref x0, .int x1, uu, uu, uu, uu] [] σ := callD_ru ml187 rfl rfl (Nat.le_of_ble_eq_true rfl)
-- 188: Model.out(I)I
theorem t188_0 : decode (mb 188) 0 = .ok (.iload_n 1, 1) := by decide +kernel
theorem s188_0 (d : Nat) (l0 : Value) (i1 : Int32) (l2 : Value) (l3 : Value) (σ : Hs) : ru d 188 0 [l0, .int i1, l2, l3] [] σ = ru d 188 1 [l0, .int i1, l2, l3] [.int i1] σ := q_iload_n t188_0 rfl
theorem t188_1 : decode (mb 188) 1 = .ok (.invokestatic 284, 3) := by decide +kernel
theorem s188_1 (d : Nat) (l0 : Value) (l1 : Value) (l2 : Value) (l3 : Value) (v0 : Value) (σ : Hs) : ru d 188 1 [l0, l1, l2, l3] [v0] σ = kont (callD d 182 [v0] σ) d 188 4 [l0, l1, l2, l3] [] := q_invs t188_1 mo188 (by decide +kernel) K8_284 mj182 (Nat.le_of_ble_eq_true rfl) rfl rfl (Nat.le_of_ble_eq_true rfl)
theorem t188_4 : decode (mb 188) 4 = .ok (.ifCond .ne 10, 3) := by decide +kernel
theorem s188_4 (d : Nat) (l0 : Value) (l1 : Value) (l2 : Value) (l3 : Value) (x : Int32) (σ : Hs) : ru d 188 4 [l0, l1, l2, l3] [.int x] σ = if x = 0 then ru d 188 7 [l0, l1, l2, l3] [] σ else ru d 188 14 [l0, l1, l2, l3] [] σ := q_if_ne t188_4 (by decide +kernel)
theorem t188_7 : decode (mb 188) 7 = .ok (.aload_n 0, 1) := by decide +kernel
theorem s188_7 (d : Nat) (a0 : Nat) (l1 : Value) (l2 : Value) (l3 : Value) (σ : Hs) : ru d 188 7 [.ref a0, l1, l2, l3] [] σ = ru d 188 8 [.ref a0, l1, l2, l3] [.ref a0] σ := q_aload_n t188_7 rfl
theorem t188_8 : decode (mb 188) 8 = .ok (.ldc 104, 2) := by decide +kernel
theorem s188_8 (d : Nat) (l0 : Value) (l1 : Value) (l2 : Value) (l3 : Value) (w0 : Value) (σ : Hs) : ru d 188 8 [l0, l1, l2, l3] [w0] σ = ru d 188 10 [l0, l1, l2, l3] [.int (-1000001), w0] σ := q_ldc t188_8 mo188 C8_104
theorem t188_10 : decode (mb 188) 10 = .ok (.invokevirtual 105, 3) := by decide +kernel
theorem s188_10_o87 (d : Nat) (l0 : Value) (l1 : Value) (l2 : Value) (l3 : Value) (v1 : Value) (σ : Hs) : ru d 188 10 [l0, l1, l2, l3] [v1, .ref 87] σ = kont (callD d 112 [.ref 87, v1] σ) d 188 13 [l0, l1, l2, l3] [] := q_invv t188_10 mo188 K8_105 mj112 rfl rfl rfl rfl (Nat.le_of_ble_eq_true rfl)
theorem t188_13 : decode (mb 188) 13 = .ok (.ireturn, 1) := by decide +kernel
theorem s188_13 (d : Nat) (l0 : Value) (l1 : Value) (l2 : Value) (l3 : Value) (x : Int32) (σ : Hs) : ru d 188 13 [l0, l1, l2, l3] [.int x] σ = some (some (.int x), σ) := q_ireti t188_13 mr188
theorem t188_14 : decode (mb 188) 14 = .ok (.aload_n 0, 1) := by decide +kernel
theorem s188_14 (d : Nat) (a0 : Nat) (l1 : Value) (l2 : Value) (l3 : Value) (σ : Hs) : ru d 188 14 [.ref a0, l1, l2, l3] [] σ = ru d 188 15 [.ref a0, l1, l2, l3] [.ref a0] σ := q_aload_n t188_14 rfl
theorem t188_15 : decode (mb 188) 15 = .ok (.getfield 9, 3) := by decide +kernel
theorem s188_15_o87 (d : Nat) (l0 : Value) (l1 : Value) (l2 : Value) (l3 : Value) (σ : Hs) : ru d 188 15 [l0, l1, l2, l3] [.ref 87] σ = ru d 188 18 [l0, l1, l2, l3] [.ref 88] σ := q_getf t188_15 mo188 F8_9 rfl rfl
theorem t188_18 : decode (mb 188) 18 = .ok (.aload_n 0, 1) := by decide +kernel
theorem s188_18 (d : Nat) (a0 : Nat) (l1 : Value) (l2 : Value) (l3 : Value) (w0 : Value) (σ : Hs) : ru d 188 18 [.ref a0, l1, l2, l3] [w0] σ = ru d 188 19 [.ref a0, l1, l2, l3] [.ref a0, w0] σ := q_aload_n t188_18 rfl
theorem t188_19 : decode (mb 188) 19 = .ok (.getfield 16, 3) := by decide +kernel
theorem s188_19_o87 (d : Nat) (l0 : Value) (l1 : Value) (l2 : Value) (l3 : Value) (w0 : Value) (σ : Hs) : ru d 188 19 [l0, l1, l2, l3] [.ref 87, w0] σ = ru d 188 22 [l0, l1, l2, l3] [.ref 90, w0] σ := q_getf t188_19 mo188 F8_16 rfl rfl
theorem t188_22 : decode (mb 188) 22 = .ok (.invokestatic 77, 3) := by decide +kernel
theorem s188_22 (d : Nat) (l0 : Value) (l1 : Value) (l2 : Value) (l3 : Value) (v0 v1 : Value) (σ : Hs) : ru d 188 22 [l0, l1, l2, l3] [v1, v0] σ = kont (callD d 116 [v0, v1] σ) d 188 25 [l0, l1, l2, l3] [] := q_invs t188_22 mo188 (by decide +kernel) K8_77 mj116 (Nat.le_of_ble_eq_true rfl) rfl rfl (Nat.le_of_ble_eq_true rfl)
theorem t188_25 : decode (mb 188) 25 = .ok (.iconst 0, 1) := by decide +kernel
theorem s188_25 (d : Nat) (l0 : Value) (l1 : Value) (l2 : Value) (l3 : Value) (σ : Hs) : ru d 188 25 [l0, l1, l2, l3] [] σ = ru d 188 26 [l0, l1, l2, l3] [.int 0] σ := q_iconst t188_25 (by decide +kernel)
theorem t188_26 : decode (mb 188) 26 = .ok (.istore_n 2, 1) := by decide +kernel
theorem s188_26 (d : Nat) (l0 : Value) (i1 : Int32) (l2 : Value) (l3 : Value) (x : Int32) (σ : Hs) : ru d 188 26 [l0, .int i1, l2, l3] [.int x] σ = ru d 188 27 [l0, .int i1, .int x, l3] [] σ := q_istore_n t188_26 ⟨Nat.le_of_ble_eq_true rfl, rfl⟩ rfl
theorem t188_27 : decode (mb 188) 27 = .ok (.iload_n 2, 1) := by decide +kernel
theorem s188_27 (d : Nat) (l0 : Value) (l1 : Value) (i2 : Int32) (l3 : Value) (σ : Hs) : ru d 188 27 [l0, l1, .int i2, l3] [] σ = ru d 188 28 [l0, l1, .int i2, l3] [.int i2] σ := q_iload_n t188_27 rfl
theorem t188_28 : decode (mb 188) 28 = .ok (.sipush 950, 3) := by decide +kernel
theorem s188_28 (d : Nat) (l0 : Value) (l1 : Value) (l2 : Value) (l3 : Value) (w0 : Value) (σ : Hs) : ru d 188 28 [l0, l1, l2, l3] [w0] σ = ru d 188 31 [l0, l1, l2, l3] [.int 950, w0] σ := q_sipush t188_28 (by decide +kernel)
theorem t188_31 : decode (mb 188) 31 = .ok (.if_icmp .gt 67, 3) := by decide +kernel
theorem s188_31 (d : Nat) (l0 : Value) (l1 : Value) (l2 : Value) (l3 : Value) (x y : Int32) (σ : Hs) : ru d 188 31 [l0, l1, l2, l3] [.int y, .int x] σ = if y < x then ru d 188 98 [l0, l1, l2, l3] [] σ else ru d 188 34 [l0, l1, l2, l3] [] σ := q_ic_gt t188_31 (by decide +kernel)
theorem t188_34 : decode (mb 188) 34 = .ok (.iconst 0, 1) := by decide +kernel
theorem s188_34 (d : Nat) (l0 : Value) (l1 : Value) (l2 : Value) (l3 : Value) (σ : Hs) : ru d 188 34 [l0, l1, l2, l3] [] σ = ru d 188 35 [l0, l1, l2, l3] [.int 0] σ := q_iconst t188_34 (by decide +kernel)
theorem t188_35 : decode (mb 188) 35 = .ok (.istore_n 3, 1) := by decide +kernel
theorem s188_35 (d : Nat) (l0 : Value) (l1 : Value) (i2 : Int32) (l3 : Value) (x : Int32) (σ : Hs) : ru d 188 35 [l0, l1, .int i2, l3] [.int x] σ = ru d 188 36 [l0, l1, .int i2, .int x] [] σ := q_istore_n t188_35 ⟨Nat.le_of_ble_eq_true rfl, rfl⟩ rfl
theorem t188_36 : decode (mb 188) 36 = .ok (.iload_n 3, 1) := by decide +kernel
theorem s188_36 (d : Nat) (l0 : Value) (l1 : Value) (l2 : Value) (i3 : Int32) (σ : Hs) : ru d 188 36 [l0, l1, l2, .int i3] [] σ = ru d 188 37 [l0, l1, l2, .int i3] [.int i3] σ := q_iload_n t188_36 rfl
theorem t188_37 : decode (mb 188) 37 = .ok (.bipush 30, 2) := by decide +kernel
theorem s188_37 (d : Nat) (l0 : Value) (l1 : Value) (l2 : Value) (l3 : Value) (w0 : Value) (σ : Hs) : ru d 188 37 [l0, l1, l2, l3] [w0] σ = ru d 188 39 [l0, l1, l2, l3] [.int 30, w0] σ := q_bipush t188_37 (by decide +kernel)
theorem t188_39 : decode (mb 188) 39 = .ok (.if_icmp .ge 31, 3) := by decide +kernel
theorem s188_39 (d : Nat) (l0 : Value) (l1 : Value) (l2 : Value) (l3 : Value) (x y : Int32) (σ : Hs) : ru d 188 39 [l0, l1, l2, l3] [.int y, .int x] σ = if y ≤ x then ru d 188 70 [l0, l1, l2, l3] [] σ else ru d 188 42 [l0, l1, l2, l3] [] σ := q_ic_ge t188_39 (by decide +kernel)
theorem t188_42 : decode (mb 188) 42 = .ok (.aload_n 0, 1) := by decide +kernel
theorem s188_42 (d : Nat) (a0 : Nat) (l1 : Value) (l2 : Value) (l3 : Value) (σ : Hs) : ru d 188 42 [.ref a0, l1, l2, l3] [] σ = ru d 188 43 [.ref a0, l1, l2, l3] [.ref a0] σ := q_aload_n t188_42 rfl
theorem t188_43 : decode (mb 188) 43 = .ok (.iload_n 3, 1) := by decide +kernel
theorem s188_43 (d : Nat) (l0 : Value) (l1 : Value) (l2 : Value) (i3 : Int32) (w0 : Value) (σ : Hs) : ru d 188 43 [l0, l1, l2, .int i3] [w0] σ = ru d 188 44 [l0, l1, l2, .int i3] [.int i3, w0] σ := q_iload_n t188_43 rfl
theorem t188_44 : decode (mb 188) 44 = .ok (.invokevirtual 88, 3) := by decide +kernel
theorem s188_44_o87 (d : Nat) (l0 : Value) (l1 : Value) (l2 : Value) (l3 : Value) (v1 : Value) (σ : Hs) : ru d 188 44 [l0, l1, l2, l3] [v1, .ref 87] σ = kont (callD d 122 [.ref 87, v1] σ) d 188 47 [l0, l1, l2, l3] [] := q_invv t188_44 mo188 K8_88 mj122 rfl rfl rfl rfl (Nat.le_of_ble_eq_true rfl)
theorem t188_47 : decode (mb 188) 47 = .ok (.ifCond .eq 17, 3) := by decide +kernel
theorem s188_47 (d : Nat) (l0 : Value) (l1 : Value) (l2 : Value) (l3 : Value) (x : Int32) (σ : Hs) : ru d 188 47 [l0, l1, l2, l3] [.int x] σ = if x = 0 then ru d 188 64 [l0, l1, l2, l3] [] σ else ru d 188 50 [l0, l1, l2, l3] [] σ := q_if_eq t188_47 (by decide +kernel)
theorem t188_50 : decode (mb 188) 50 = .ok (.aload_n 0, 1) := by decide +kernel
theorem s188_50 (d : Nat) (a0 : Nat) (l1 : Value) (l2 : Value) (l3 : Value) (σ : Hs) : ru d 188 50 [.ref a0, l1, l2, l3] [] σ = ru d 188 51 [.ref a0, l1, l2, l3] [.ref a0] σ := q_aload_n t188_50 rfl
theorem t188_51 : decode (mb 188) 51 = .ok (.iload_n 3, 1) := by decide +kernel
theorem s188_51 (d : Nat) (l0 : Value) (l1 : Value) (l2 : Value) (i3 : Int32) (w0 : Value) (σ : Hs) : ru d 188 51 [l0, l1, l2, .int i3] [w0] σ = ru d 188 52 [l0, l1, l2, .int i3] [.int i3, w0] σ := q_iload_n t188_51 rfl
theorem t188_52 : decode (mb 188) 52 = .ok (.invokevirtual 142, 3) := by decide +kernel
theorem s188_52_o87 (d : Nat) (l0 : Value) (l1 : Value) (l2 : Value) (l3 : Value) (v1 : Value) (σ : Hs) : ru d 188 52 [l0, l1, l2, l3] [v1, .ref 87] σ = kont (callD d 123 [.ref 87, v1] σ) d 188 55 [l0, l1, l2, l3] [] := q_invv t188_52 mo188 K8_142 mj123 rfl rfl rfl rfl (Nat.le_of_ble_eq_true rfl)
theorem t188_55 : decode (mb 188) 55 = .ok (.ifCond .eq 9, 3) := by decide +kernel
theorem s188_55 (d : Nat) (l0 : Value) (l1 : Value) (l2 : Value) (l3 : Value) (x : Int32) (σ : Hs) : ru d 188 55 [l0, l1, l2, l3] [.int x] σ = if x = 0 then ru d 188 64 [l0, l1, l2, l3] [] σ else ru d 188 58 [l0, l1, l2, l3] [] σ := q_if_eq t188_55 (by decide +kernel)
theorem t188_58 : decode (mb 188) 58 = .ok (.aload_n 0, 1) := by decide +kernel
theorem s188_58 (d : Nat) (a0 : Nat) (l1 : Value) (l2 : Value) (l3 : Value) (σ : Hs) : ru d 188 58 [.ref a0, l1, l2, l3] [] σ = ru d 188 59 [.ref a0, l1, l2, l3] [.ref a0] σ := q_aload_n t188_58 rfl
theorem t188_59 : decode (mb 188) 59 = .ok (.iload_n 3, 1) := by decide +kernel
theorem s188_59 (d : Nat) (l0 : Value) (l1 : Value) (l2 : Value) (i3 : Int32) (w0 : Value) (σ : Hs) : ru d 188 59 [l0, l1, l2, .int i3] [w0] σ = ru d 188 60 [l0, l1, l2, .int i3] [.int i3, w0] σ := q_iload_n t188_59 rfl
theorem t188_60 : decode (mb 188) 60 = .ok (.iload_n 2, 1) := by decide +kernel
theorem s188_60 (d : Nat) (l0 : Value) (l1 : Value) (i2 : Int32) (l3 : Value) (w0 w1 : Value) (σ : Hs) : ru d 188 60 [l0, l1, .int i2, l3] [w0, w1] σ = ru d 188 61 [l0, l1, .int i2, l3] [.int i2, w0, w1] σ := q_iload_n t188_60 rfl
theorem t188_61 : decode (mb 188) 61 = .ok (.invokevirtual 153, 3) := by decide +kernel
theorem s188_61_o87 (d : Nat) (l0 : Value) (l1 : Value) (l2 : Value) (l3 : Value) (v1 v2 : Value) (σ : Hs) : ru d 188 61 [l0, l1, l2, l3] [v2, v1, .ref 87] σ = kont (callD d 141 [.ref 87, v1, v2] σ) d 188 64 [l0, l1, l2, l3] [] := q_invv t188_61 mo188 K8_153 mj141 rfl rfl rfl rfl (Nat.le_of_ble_eq_true rfl)
theorem t188_64 : decode (mb 188) 64 = .ok (.iinc 3 1, 3) := by decide +kernel
theorem s188_64 (d : Nat) (l0 : Value) (l1 : Value) (i2 : Int32) (i3 : Int32) (σ : Hs) : ru d 188 64 [l0, l1, .int i2, .int i3] [] σ = ru d 188 67 [l0, l1, .int i2, .int (i3 + 1)] [] σ := q_iinc t188_64 ⟨Nat.le_of_ble_eq_true rfl, rfl⟩ rfl (by decide +kernel) rfl
theorem t188_67 : decode (mb 188) 67 = .ok (.goto (-31), 3) := by decide +kernel
theorem s188_67 (d : Nat) (l0 : Value) (l1 : Value) (l2 : Value) (l3 : Value) (σ : Hs) : ru d 188 67 [l0, l1, l2, l3] [] σ = ru d 188 36 [l0, l1, l2, l3] [] σ := q_goto t188_67 (by decide +kernel)
theorem t188_70 : decode (mb 188) 70 = .ok (.aload_n 0, 1) := by decide +kernel
theorem s188_70 (d : Nat) (a0 : Nat) (l1 : Value) (l2 : Value) (l3 : Value) (σ : Hs) : ru d 188 70 [.ref a0, l1, l2, l3] [] σ = ru d 188 71 [.ref a0, l1, l2, l3] [.ref a0] σ := q_aload_n t188_70 rfl
theorem t188_71 : decode (mb 188) 71 = .ok (.iload_n 1, 1) := by decide +kernel
theorem s188_71 (d : Nat) (l0 : Value) (i1 : Int32) (l2 : Value) (l3 : Value) (w0 : Value) (σ : Hs) : ru d 188 71 [l0, .int i1, l2, l3] [w0] σ = ru d 188 72 [l0, .int i1, l2, l3] [.int i1, w0] σ := q_iload_n t188_71 rfl
theorem t188_72 : decode (mb 188) 72 = .ok (.invokevirtual 271, 3) := by decide +kernel
theorem s188_72_o87 (d : Nat) (l0 : Value) (l1 : Value) (l2 : Value) (l3 : Value) (v1 : Value) (σ : Hs) : ru d 188 72 [l0, l1, l2, l3] [v1, .ref 87] σ = kont (callD d 171 [.ref 87, v1] σ) d 188 75 [l0, l1, l2, l3] [] := q_invv t188_72 mo188 K8_271 mj171 rfl rfl rfl rfl (Nat.le_of_ble_eq_true rfl)
theorem t188_75 : decode (mb 188) 75 = .ok (.aload_n 0, 1) := by decide +kernel
theorem s188_75 (d : Nat) (a0 : Nat) (l1 : Value) (l2 : Value) (l3 : Value) (σ : Hs) : ru d 188 75 [.ref a0, l1, l2, l3] [] σ = ru d 188 76 [.ref a0, l1, l2, l3] [.ref a0] σ := q_aload_n t188_75 rfl
theorem t188_76 : decode (mb 188) 76 = .ok (.aload_n 0, 1) := by decide +kernel
theorem s188_76 (d : Nat) (a0 : Nat) (l1 : Value) (l2 : Value) (l3 : Value) (w0 : Value) (σ : Hs) : ru d 188 76 [.ref a0, l1, l2, l3] [w0] σ = ru d 188 77 [.ref a0, l1, l2, l3] [.ref a0, w0] σ := q_aload_n t188_76 rfl
theorem t188_77 : decode (mb 188) 77 = .ok (.bipush 6, 2) := by decide +kernel
theorem s188_77 (d : Nat) (l0 : Value) (l1 : Value) (l2 : Value) (l3 : Value) (w0 w1 : Value) (σ : Hs) : ru d 188 77 [l0, l1, l2, l3] [w0, w1] σ = ru d 188 79 [l0, l1, l2, l3] [.int 6, w0, w1] σ := q_bipush t188_77 (by decide +kernel)
theorem t188_79 : decode (mb 188) 79 = .ok (.invokevirtual 221, 3) := by decide +kernel
theorem s188_79_o87 (d : Nat) (l0 : Value) (l1 : Value) (l2 : Value) (l3 : Value) (v1 : Value) (w0 : Nat) (σ : Hs) : ru d 188 79 [l0, l1, l2, l3] [v1, .ref 87, .ref w0] σ = kont (callD d 160 [.ref 87, v1] σ) d 188 82 [l0, l1, l2, l3] [.ref w0] := q_invv t188_79 mo188 K8_221 mj160 rfl rfl rfl rfl (Nat.le_of_ble_eq_true rfl)
theorem t188_82 : decode (mb 188) 82 = .ok (.invokevirtual 287, 3) := by decide +kernel
theorem s188_82_o87 (d : Nat) (l0 : Value) (l1 : Value) (l2 : Value) (l3 : Value) (v1 : Value) (σ : Hs) : ru d 188 82 [l0, l1, l2, l3] [v1, .ref 87] σ = kont (callD d 118 [.ref 87, v1] σ) d 188 85 [l0, l1, l2, l3] [] := q_invv t188_82 mo188 K8_287 mj118 rfl rfl rfl rfl (Nat.le_of_ble_eq_true rfl)
theorem t188_85 : decode (mb 188) 85 = .ok (.istore_n 3, 1) := by decide +kernel
theorem s188_85 (d : Nat) (l0 : Value) (l1 : Value) (i2 : Int32) (l3 : Value) (x : Int32) (σ : Hs) : ru d 188 85 [l0, l1, .int i2, l3] [.int x] σ = ru d 188 86 [l0, l1, .int i2, .int x] [] σ := q_istore_n t188_85 ⟨Nat.le_of_ble_eq_true rfl, rfl⟩ rfl
theorem t188_86 : decode (mb 188) 86 = .ok (.iload_n 3, 1) := by decide +kernel
theorem s188_86 (d : Nat) (l0 : Value) (l1 : Value) (l2 : Value) (i3 : Int32) (σ : Hs) : ru d 188 86 [l0, l1, l2, .int i3] [] σ = ru d 188 87 [l0, l1, l2, .int i3] [.int i3] σ := q_iload_n t188_86 rfl
theorem t188_87 : decode (mb 188) 87 = .ok (.ifCond .ne 5, 3) := by decide +kernel
theorem s188_87 (d : Nat) (l0 : Value) (l1 : Value) (l2 : Value) (l3 : Value) (x : Int32) (σ : Hs) : ru d 188 87 [l0, l1, l2, l3] [.int x] σ = if x = 0 then ru d 188 90 [l0, l1, l2, l3] [] σ else ru d 188 92 [l0, l1, l2, l3] [] σ := q_if_ne t188_87 (by decide +kernel)
theorem t188_90 : decode (mb 188) 90 = .ok (.iload_n 2, 1) := by decide +kernel
theorem s188_90 (d : Nat) (l0 : Value) (l1 : Value) (i2 : Int32) (l3 : Value) (σ : Hs) : ru d 188 90 [l0, l1, .int i2, l3] [] σ = ru d 188 91 [l0, l1, .int i2, l3] [.int i2] σ := q_iload_n t188_90 rfl
theorem t188_91 : decode (mb 188) 91 = .ok (.ireturn, 1) := by decide +kernel
theorem s188_91 (d : Nat) (l0 : Value) (l1 : Value) (l2 : Value) (l3 : Value) (x : Int32) (σ : Hs) : ru d 188 91 [l0, l1, l2, l3] [.int x] σ = some (some (.int x), σ) := q_ireti t188_91 mr188
theorem t188_92 : decode (mb 188) 92 = .ok (.iinc 2 50, 3) := by decide +kernel
theorem s188_92 (d : Nat) (l0 : Value) (i1 : Int32) (i2 : Int32) (l3 : Value) (σ : Hs) : ru d 188 92 [l0, .int i1, .int i2, l3] [] σ = ru d 188 95 [l0, .int i1, .int (i2 + 50), l3] [] σ := q_iinc t188_92 ⟨Nat.le_of_ble_eq_true rfl, rfl⟩ rfl (by decide +kernel) rfl
theorem t188_95 : decode (mb 188) 95 = .ok (.goto (-68), 3) := by decide +kernel
theorem s188_95 (d : Nat) (l0 : Value) (l1 : Value) (l2 : Value) (l3 : Value) (σ : Hs) : ru d 188 95 [l0, l1, l2, l3] [] σ = ru d 188 27 [l0, l1, l2, l3] [] σ := q_goto t188_95 (by decide +kernel)
theorem t188_98 : decode (mb 188) 98 = .ok (.aload_n 0, 1) := by decide +kernel
theorem s188_98 (d : Nat) (a0 : Nat) (l1 : Value) (l2 : Value) (l3 : Value) (σ : Hs) : ru d 188 98 [.ref a0, l1, l2, l3] [] σ = ru d 188 99 [.ref a0, l1, l2, l3] [.ref a0] σ := q_aload_n t188_98 rfl
theorem t188_99 : decode (mb 188) 99 = .ok (.ldc 116, 2) := by decide +kernel
theorem s188_99 (d : Nat) (l0 : Value) (l1 : Value) (l2 : Value) (l3 : Value) (w0 : Value) (σ : Hs) : ru d 188 99 [l0, l1, l2, l3] [w0] σ = ru d 188 101 [l0, l1, l2, l3] [.int (-1000002), w0] σ := q_ldc t188_99 mo188 C8_116
theorem t188_101 : decode (mb 188) 101 = .ok (.invokevirtual 105, 3) := by decide +kernel
theorem s188_101_o87 (d : Nat) (l0 : Value) (l1 : Value) (l2 : Value) (l3 : Value) (v1 : Value) (σ : Hs) : ru d 188 101 [l0, l1, l2, l3] [v1, .ref 87] σ = kont (callD d 112 [.ref 87, v1] σ) d 188 104 [l0, l1, l2, l3] [] := q_invv t188_101 mo188 K8_105 mj112 rfl rfl rfl rfl (Nat.le_of_ble_eq_true rfl)
theorem t188_104 : decode (mb 188) 104 = .ok (.ireturn, 1) := by decide +kernel
theorem s188_104 (d : Nat) (l0 : Value) (l1 : Value) (l2 : Value) (l3 : Value) (x : Int32) (σ : Hs) : ru d 188 104 [l0, l1, l2, l3] [.int x] σ = some (some (.int x), σ) := q_ireti t188_104 mr188
theorem c188 (d : Nat) (x0 : Nat) (x1 : Int32) (σ : Hs) : callD (d + 1) 188 [.ref x0, .int x1] σ = ru d 188 0 [.ref x0, .int x1, uu, uu] [] σ := callD_ru ml188 rfl rfl (Nat.le_of_ble_eq_true rfl)
-- 189: Model.catches(II)I
theorem t189_0 : decode (mb 189) 0 = .ok (.iload_n 1, 1) := by decide +kernel
theorem s189_0 (d : Nat) (l0 : Value) (i1 : Int32) (l2 : Value) (l3 : Value) (l4 : Value) (σ : Hs) : ru d 189 0 [l0, .int i1, l2, l3, l4] [] σ = ru d 189 1 [l0, .int i1, l2, l3, l4] [.int i1] σ := q_iload_n t189_0 rfl
theorem t189_1 : decode (mb 189) 1 = .ok (.invokestatic 113, 3) := by decide +kernel
theorem s189_1 (d : Nat) (l0 : Value) (l1 : Value) (l2 : Value) (l3 : Value) (l4 : Value) (v0 : Value) (σ : Hs) : ru d 189 1 [l0, l1, l2, l3, l4] [v0] σ = kont (callD d 121 [v0] σ) d 189 4 [l0, l1, l2, l3, l4] [] := q_invs t189_1 mo189 (by decide +kernel) K8_113 mj121 (Nat.le_of_ble_eq_true rfl) rfl rfl (Nat.le_of_ble_eq_true rfl)
theorem t189_4 : decode (mb 189) 4 = .ok (.ifCond .eq 10, 3) := by decide +kernel
theorem s189_4 (d : Nat) (l0 : Value) (l1 : Value) (l2 : Value) (l3 : Value) (l4 : Value) (x : Int32) (σ : Hs) : ru d 189 4 [l0, l1, l2, l3, l4] [.int x] σ = if x = 0 then ru d 189 14 [l0, l1, l2, l3, l4] [] σ else ru d 189 7 [l0, l1, l2, l3, l4] [] σ := q_if_eq t189_4 (by decide +kernel)
theorem t189_7 : decode (mb 189) 7 = .ok (.iload_n 2, 1) := by decide +kernel
theorem s189_7 (d : Nat) (l0 : Value) (l1 : Value) (i2 : Int32) (l3 : Value) (l4 : Value) (σ : Hs) : ru d 189 7 [l0, l1, .int i2, l3, l4] [] σ = ru d 189 8 [l0, l1, .int i2, l3, l4] [.int i2] σ := q_iload_n t189_7 rfl
theorem t189_8 : decode (mb 189) 8 = .ok (.invokestatic 284, 3) := by decide +kernel
theorem s189_8 (d : Nat) (l0 : Value) (l1 : Value) (l2 : Value) (l3 : Value) (l4 : Value) (v0 : Value) (σ : Hs) : ru d 189 8 [l0, l1, l2, l3, l4] [v0] σ = kont (callD d 182 [v0] σ) d 189 11 [l0, l1, l2, l3, l4] [] := q_invs t189_8 mo189 (by decide +kernel) K8_284 mj182 (Nat.le_of_ble_eq_true rfl) rfl rfl (Nat.le_of_ble_eq_true rfl)
theorem t189_11 : decode (mb 189) 11 = .ok (.ifCond .ne 10, 3) := by decide +kernel
theorem s189_11 (d : Nat) (l0 : Value) (l1 : Value) (l2 : Value) (l3 : Value) (l4 : Value) (x : Int32) (σ : Hs) : ru d 189 11 [l0, l1, l2, l3, l4] [.int x] σ = if x = 0 then ru d 189 14 [l0, l1, l2, l3, l4] [] σ else ru d 189 21 [l0, l1, l2, l3, l4] [] σ := q_if_ne t189_11 (by decide +kernel)
theorem t189_14 : decode (mb 189) 14 = .ok (.aload_n 0, 1) := by decide +kernel
theorem s189_14 (d : Nat) (a0 : Nat) (l1 : Value) (l2 : Value) (l3 : Value) (l4 : Value) (σ : Hs) : ru d 189 14 [.ref a0, l1, l2, l3, l4] [] σ = ru d 189 15 [.ref a0, l1, l2, l3, l4] [.ref a0] σ := q_aload_n t189_14 rfl
theorem t189_15 : decode (mb 189) 15 = .ok (.ldc 104, 2) := by decide +kernel
theorem s189_15 (d : Nat) (l0 : Value) (l1 : Value) (l2 : Value) (l3 : Value) (l4 : Value) (w0 : Value) (σ : Hs) : ru d 189 15 [l0, l1, l2, l3, l4] [w0] σ = ru d 189 17 [l0, l1, l2, l3, l4] [.int (-1000001), w0] σ := q_ldc t189_15 mo189 C8_104
theorem t189_17 : decode (mb 189) 17 = .ok (.invokevirtual 105, 3) := by decide +kernel
theorem s189_17_o87 (d : Nat) (l0 : Value) (l1 : Value) (l2 : Value) (l3 : Value) (l4 : Value) (v1 : Value) (σ : Hs) : ru d 189 17 [l0, l1, l2, l3, l4] [v1, .ref 87] σ = kont (callD d 112 [.ref 87, v1] σ) d 189 20 [l0, l1, l2, l3, l4] [] := q_invv t189_17 mo189 K8_105 mj112 rfl rfl rfl rfl (Nat.le_of_ble_eq_true rfl)
theorem t189_20 : decode (mb 189) 20 = .ok (.ireturn, 1) := by decide +kernel
theorem s189_20 (d : Nat) (l0 : Value) (l1 : Value) (l2 : Value) (l3 : Value) (l4 : Value) (x : Int32) (σ : Hs) : ru d 189 20 [l0, l1, l2, l3, l4] [.int x] σ = some (some (.int x), σ) := q_ireti t189_20 mr189
theorem t189_21 : decode (mb 189) 21 = .ok (.aload_n 0, 1) := by decide +kernel
theorem s189_21 (d : Nat) (a0 : Nat) (l1 : Value) (l2 : Value) (l3 : Value) (l4 : Value) (σ : Hs) : ru d 189 21 [.ref a0, l1, l2, l3, l4] [] σ = ru d 189 22 [.ref a0, l1, l2, l3, l4] [.ref a0] σ := q_aload_n t189_21 rfl
theorem t189_22 : decode (mb 189) 22 = .ok (.getfield 9, 3) := by decide +kernel
theorem s189_22_o87 (d : Nat) (l0 : Value) (l1 : Value) (l2 : Value) (l3 : Value) (l4 : Value) (σ : Hs) : ru d 189 22 [l0, l1, l2, l3, l4] [.ref 87] σ = ru d 189 25 [l0, l1, l2, l3, l4] [.ref 88] σ := q_getf t189_22 mo189 F8_9 rfl rfl
theorem t189_25 : decode (mb 189) 25 = .ok (.aload_n 0, 1) := by decide +kernel
theorem s189_25 (d : Nat) (a0 : Nat) (l1 : Value) (l2 : Value) (l3 : Value) (l4 : Value) (w0 : Value) (σ : Hs) : ru d 189 25 [.ref a0, l1, l2, l3, l4] [w0] σ = ru d 189 26 [.ref a0, l1, l2, l3, l4] [.ref a0, w0] σ := q_aload_n t189_25 rfl
theorem t189_26 : decode (mb 189) 26 = .ok (.getfield 16, 3) := by decide +kernel
theorem s189_26_o87 (d : Nat) (l0 : Value) (l1 : Value) (l2 : Value) (l3 : Value) (l4 : Value) (w0 : Value) (σ : Hs) : ru d 189 26 [l0, l1, l2, l3, l4] [.ref 87, w0] σ = ru d 189 29 [l0, l1, l2, l3, l4] [.ref 90, w0] σ := q_getf t189_26 mo189 F8_16 rfl rfl
theorem t189_29 : decode (mb 189) 29 = .ok (.invokestatic 77, 3) := by decide +kernel
theorem s189_29 (d : Nat) (l0 : Value) (l1 : Value) (l2 : Value) (l3 : Value) (l4 : Value) (v0 v1 : Value) (σ : Hs) : ru d 189 29 [l0, l1, l2, l3, l4] [v1, v0] σ = kont (callD d 116 [v0, v1] σ) d 189 32 [l0, l1, l2, l3, l4] [] := q_invs t189_29 mo189 (by decide +kernel) K8_77 mj116 (Nat.le_of_ble_eq_true rfl) rfl rfl (Nat.le_of_ble_eq_true rfl)
theorem t189_32 : decode (mb 189) 32 = .ok (.iconst 0, 1) := by decide +kernel
theorem s189_32 (d : Nat) (l0 : Value) (l1 : Value) (l2 : Value) (l3 : Value) (l4 : Value) (σ : Hs) : ru d 189 32 [l0, l1, l2, l3, l4] [] σ = ru d 189 33 [l0, l1, l2, l3, l4] [.int 0] σ := q_iconst t189_32 (by decide +kernel)
theorem t189_33 : decode (mb 189) 33 = .ok (.istore_n 3, 1) := by decide +kernel
theorem s189_33 (d : Nat) (l0 : Value) (l1 : Value) (i2 : Int32) (l3 : Value) (l4 : Value) (x : Int32) (σ : Hs) : ru d 189 33 [l0, l1, .int i2, l3, l4] [.int x] σ = ru d 189 34 [l0, l1, .int i2, .int x, l4] [] σ := q_istore_n t189_33 ⟨Nat.le_of_ble_eq_true rfl, rfl⟩ rfl
theorem t189_34 : decode (mb 189) 34 = .ok (.iload_n 3, 1) := by decide +kernel
theorem s189_34 (d : Nat) (l0 : Value) (l1 : Value) (l2 : Value) (i3 : Int32) (l4 : Value) (σ : Hs) : ru d 189 34 [l0, l1, l2, .int i3, l4] [] σ = ru d 189 35 [l0, l1, l2, .int i3, l4] [.int i3] σ := q_iload_n t189_34 rfl
theorem t189_35 : decode (mb 189) 35 = .ok (.iload_n 2, 1) := by decide +kernel
theorem s189_35 (d : Nat) (l0 : Value) (l1 : Value) (i2 : Int32) (l3 : Value) (l4 : Value) (w0 : Value) (σ : Hs) : ru d 189 35 [l0, l1, .int i2, l3, l4] [w0] σ = ru d 189 36 [l0, l1, .int i2, l3, l4] [.int i2, w0] σ := q_iload_n t189_35 rfl
theorem t189_36 : decode (mb 189) 36 = .ok (.if_icmp .ge 29, 3) := by decide +kernel
theorem s189_36 (d : Nat) (l0 : Value) (l1 : Value) (l2 : Value) (l3 : Value) (l4 : Value) (x y : Int32) (σ : Hs) : ru d 189 36 [l0, l1, l2, l3, l4] [.int y, .int x] σ = if y ≤ x then ru d 189 65 [l0, l1, l2, l3, l4] [] σ else ru d 189 39 [l0, l1, l2, l3, l4] [] σ := q_ic_ge t189_36 (by decide +kernel)
theorem t189_39 : decode (mb 189) 39 = .ok (.aload_n 0, 1) := by decide +kernel
theorem s189_39 (d : Nat) (a0 : Nat) (l1 : Value) (l2 : Value) (l3 : Value) (l4 : Value) (σ : Hs) : ru d 189 39 [.ref a0, l1, l2, l3, l4] [] σ = ru d 189 40 [.ref a0, l1, l2, l3, l4] [.ref a0] σ := q_aload_n t189_39 rfl
theorem t189_40 : decode (mb 189) 40 = .ok (.iload_n 1, 1) := by decide +kernel
theorem s189_40 (d : Nat) (l0 : Value) (i1 : Int32) (l2 : Value) (l3 : Value) (l4 : Value) (w0 : Value) (σ : Hs) : ru d 189 40 [l0, .int i1, l2, l3, l4] [w0] σ = ru d 189 41 [l0, .int i1, l2, l3, l4] [.int i1, w0] σ := q_iload_n t189_40 rfl
theorem t189_41 : decode (mb 189) 41 = .ok (.invokevirtual 88, 3) := by decide +kernel
theorem s189_41_o87 (d : Nat) (l0 : Value) (l1 : Value) (l2 : Value) (l3 : Value) (l4 : Value) (v1 : Value) (σ : Hs) : ru d 189 41 [l0, l1, l2, l3, l4] [v1, .ref 87] σ = kont (callD d 122 [.ref 87, v1] σ) d 189 44 [l0, l1, l2, l3, l4] [] := q_invv t189_41 mo189 K8_88 mj122 rfl rfl rfl rfl (Nat.le_of_ble_eq_true rfl)
theorem t189_44 : decode (mb 189) 44 = .ok (.ifCond .eq 11, 3) := by decide +kernel
theorem s189_44 (d : Nat) (l0 : Value) (l1 : Value) (l2 : Value) (l3 : Value) (l4 : Value) (x : Int32) (σ : Hs) : ru d 189 44 [l0, l1, l2, l3, l4] [.int x] σ = if x = 0 then ru d 189 55 [l0, l1, l2, l3, l4] [] σ else ru d 189 47 [l0, l1, l2, l3, l4] [] σ := q_if_eq t189_44 (by decide +kernel)
theorem t189_47 : decode (mb 189) 47 = .ok (.aload_n 0, 1) := by decide +kernel
theorem s189_47 (d : Nat) (a0 : Nat) (l1 : Value) (l2 : Value) (l3 : Value) (l4 : Value) (σ : Hs) : ru d 189 47 [.ref a0, l1, l2, l3, l4] [] σ = ru d 189 48 [.ref a0, l1, l2, l3, l4] [.ref a0] σ := q_aload_n t189_47 rfl
theorem t189_48 : decode (mb 189) 48 = .ok (.iload_n 1, 1) := by decide +kernel
theorem s189_48 (d : Nat) (l0 : Value) (i1 : Int32) (l2 : Value) (l3 : Value) (l4 : Value) (w0 : Value) (σ : Hs) : ru d 189 48 [l0, .int i1, l2, l3, l4] [w0] σ = ru d 189 49 [l0, .int i1, l2, l3, l4] [.int i1, w0] σ := q_iload_n t189_48 rfl
theorem t189_49 : decode (mb 189) 49 = .ok (.invokevirtual 142, 3) := by decide +kernel
theorem s189_49_o87 (d : Nat) (l0 : Value) (l1 : Value) (l2 : Value) (l3 : Value) (l4 : Value) (v1 : Value) (σ : Hs) : ru d 189 49 [l0, l1, l2, l3, l4] [v1, .ref 87] σ = kont (callD d 123 [.ref 87, v1] σ) d 189 52 [l0, l1, l2, l3, l4] [] := q_invv t189_49 mo189 K8_142 mj123 rfl rfl rfl rfl (Nat.le_of_ble_eq_true rfl)
theorem t189_52 : decode (mb 189) 52 = .ok (.ifCond .ne 13, 3) := by decide +kernel
theorem s189_52 (d : Nat) (l0 : Value) (l1 : Value) (l2 : Value) (l3 : Value) (l4 : Value) (x : Int32) (σ : Hs) : ru d 189 52 [l0, l1, l2, l3, l4] [.int x] σ = if x = 0 then ru d 189 55 [l0, l1, l2, l3, l4] [] σ else ru d 189 65 [l0, l1, l2, l3, l4] [] σ := q_if_ne t189_52 (by decide +kernel)
theorem t189_55 : decode (mb 189) 55 = .ok (.aload_n 0, 1) := by decide +kernel
theorem s189_55 (d : Nat) (a0 : Nat) (l1 : Value) (l2 : Value) (l3 : Value) (l4 : Value) (σ : Hs) : ru d 189 55 [.ref a0, l1, l2, l3, l4] [] σ = ru d 189 56 [.ref a0, l1, l2, l3, l4] [.ref a0] σ := q_aload_n t189_55 rfl
theorem t189_56 : decode (mb 189) 56 = .ok (.invokevirtual 264, 3) := by decide +kernel
theorem s189_56_o87 (d : Nat) (l0 : Value) (l1 : Value) (l2 : Value) (l3 : Value) (l4 : Value) (σ : Hs) : ru d 189 56 [l0, l1, l2, l3, l4] [.ref 87] σ = kont (callD d 170 [.ref 87] σ) d 189 59 [l0, l1, l2, l3, l4] [] := q_invv t189_56 mo189 K8_264 mj170 rfl rfl rfl rfl (Nat.le_of_ble_eq_true rfl)
theorem t189_59 : decode (mb 189) 59 = .ok (.iinc 3 1, 3) := by decide +kernel
theorem s189_59 (d : Nat) (l0 : Value) (l1 : Value) (i2 : Int32) (i3 : Int32) (l4 : Value) (σ : Hs) : ru d 189 59 [l0, l1, .int i2, .int i3, l4] [] σ = ru d 189 62 [l0, l1, .int i2, .int (i3 + 1), l4] [] σ := q_iinc t189_59 ⟨Nat.le_of_ble_eq_true rfl, rfl⟩ rfl (by decide +kernel) rfl
theorem t189_62 : decode (mb 189) 62 = .ok (.goto (-28), 3) := by decide +kernel
theorem s189_62 (d : Nat) (l0 : Value) (l1 : Value) (l2 : Value) (l3 : Value) (l4 : Value) (σ : Hs) : ru d 189 62 [l0, l1, l2, l3, l4] [] σ = ru d 189 34 [l0, l1, l2, l3, l4] [] σ := q_goto t189_62 (by decide +kernel)
theorem t189_65 : decode (mb 189) 65 = .ok (.aload_n 0, 1) := by decide +kernel
theorem s189_65 (d : Nat) (a0 : Nat) (l1 : Value) (l2 : Value) (l3 : Value) (l4 : Value) (σ : Hs) : ru d 189 65 [.ref a0, l1, l2, l3, l4] [] σ = ru d 189 66 [.ref a0, l1, l2, l3, l4] [.ref a0] σ := q_aload_n t189_65 rfl
theorem t189_66 : decode (mb 189) 66 = .ok (.iload_n 1, 1) := by decide +kernel
theorem s189_66 (d : Nat) (l0 : Value) (i1 : Int32) (l2 : Value) (l3 : Value) (l4 : Value) (w0 : Value) (σ : Hs) : ru d 189 66 [l0, .int i1, l2, l3, l4] [w0] σ = ru d 189 67 [l0, .int i1, l2, l3, l4] [.int i1, w0] σ := q_iload_n t189_66 rfl
theorem t189_67 : decode (mb 189) 67 = .ok (.invokevirtual 88, 3) := by decide +kernel
theorem s189_67_o87 (d : Nat) (l0 : Value) (l1 : Value) (l2 : Value) (l3 : Value) (l4 : Value) (v1 : Value) (σ : Hs) : ru d 189 67 [l0, l1, l2, l3, l4] [v1, .ref 87] σ = kont (callD d 122 [.ref 87, v1] σ) d 189 70 [l0, l1, l2, l3, l4] [] := q_invv t189_67 mo189 K8_88 mj122 rfl rfl rfl rfl (Nat.le_of_ble_eq_true rfl)
theorem t189_70 : decode (mb 189) 70 = .ok (.ifCond .eq 15, 3) := by decide +kernel
theorem s189_70 (d : Nat) (l0 : Value) (l1 : Value) (l2 : Value) (l3 : Value) (l4 : Value) (x : Int32) (σ : Hs) : ru d 189 70 [l0, l1, l2, l3, l4] [.int x] σ = if x = 0 then ru d 189 85 [l0, l1, l2, l3, l4] [] σ else ru d 189 73 [l0, l1, l2, l3, l4] [] σ := q_if_eq t189_70 (by decide +kernel)
theorem t189_73 : decode (mb 189) 73 = .ok (.aload_n 0, 1) := by decide +kernel
theorem s189_73 (d : Nat) (a0 : Nat) (l1 : Value) (l2 : Value) (l3 : Value) (l4 : Value) (σ : Hs) : ru d 189 73 [.ref a0, l1, l2, l3, l4] [] σ = ru d 189 74 [.ref a0, l1, l2, l3, l4] [.ref a0] σ := q_aload_n t189_73 rfl
theorem t189_74 : decode (mb 189) 74 = .ok (.iload_n 1, 1) := by decide +kernel
theorem s189_74 (d : Nat) (l0 : Value) (i1 : Int32) (l2 : Value) (l3 : Value) (l4 : Value) (w0 : Value) (σ : Hs) : ru d 189 74 [l0, .int i1, l2, l3, l4] [w0] σ = ru d 189 75 [l0, .int i1, l2, l3, l4] [.int i1, w0] σ := q_iload_n t189_74 rfl
theorem t189_75 : decode (mb 189) 75 = .ok (.invokevirtual 142, 3) := by decide +kernel
theorem s189_75_o87 (d : Nat) (l0 : Value) (l1 : Value) (l2 : Value) (l3 : Value) (l4 : Value) (v1 : Value) (σ : Hs) : ru d 189 75 [l0, l1, l2, l3, l4] [v1, .ref 87] σ = kont (callD d 123 [.ref 87, v1] σ) d 189 78 [l0, l1, l2, l3, l4] [] := q_invv t189_75 mo189 K8_142 mj123 rfl rfl rfl rfl (Nat.le_of_ble_eq_true rfl)
theorem t189_78 : decode (mb 189) 78 = .ok (.ifCond .eq 7, 3) := by decide +kernel
theorem s189_78 (d : Nat) (l0 : Value) (l1 : Value) (l2 : Value) (l3 : Value) (l4 : Value) (x : Int32) (σ : Hs) : ru d 189 78 [l0, l1, l2, l3, l4] [.int x] σ = if x = 0 then ru d 189 85 [l0, l1, l2, l3, l4] [] σ else ru d 189 81 [l0, l1, l2, l3, l4] [] σ := q_if_eq t189_78 (by decide +kernel)
theorem t189_81 : decode (mb 189) 81 = .ok (.iconst 1, 1) := by decide +kernel
theorem s189_81 (d : Nat) (l0 : Value) (l1 : Value) (l2 : Value) (l3 : Value) (l4 : Value) (σ : Hs) : ru d 189 81 [l0, l1, l2, l3, l4] [] σ = ru d 189 82 [l0, l1, l2, l3, l4] [.int 1] σ := q_iconst t189_81 (by decide +kernel)
theorem t189_82 : decode (mb 189) 82 = .ok (.goto 4, 3) := by decide +kernel
theorem s189_82 (d : Nat) (l0 : Value) (l1 : Value) (l2 : Value) (l3 : Value) (l4 : Value) (w0 : Value) (σ : Hs) : ru d 189 82 [l0, l1, l2, l3, l4] [w0] σ = ru d 189 86 [l0, l1, l2, l3, l4] [w0] σ := q_goto t189_82 (by decide +kernel)
theorem t189_85 : decode (mb 189) 85 = .ok (.iconst 0, 1) := by decide +kernel
theorem s189_85 (d : Nat) (l0 : Value) (l1 : Value) (l2 : Value) (l3 : Value) (l4 : Value) (σ : Hs) : ru d 189 85 [l0, l1, l2, l3, l4] [] σ = ru d 189 86 [l0, l1, l2, l3, l4] [.int 0] σ := q_iconst t189_85 (by decide +kernel)
theorem t189_86 : decode (mb 189) 86 = .ok (.istore 4, 2) := by decide +kernel
theorem s189_86 (d : Nat) (l0 : Value) (l1 : Value) (l2 : Value) (i3 : Int32) (l4 : Value) (x : Int32) (σ : Hs) : ru d 189 86 [l0, l1, l2, .int i3, l4] [.int x] σ = ru d 189 88 [l0, l1, l2, .int i3, .int x] [] σ := q_istore t189_86 ⟨Nat.le_of_ble_eq_true rfl, rfl⟩ rfl
theorem t189_88 : decode (mb 189) 88 = .ok (.aload_n 0, 1) := by decide +kernel
theorem s189_88 (d : Nat) (a0 : Nat) (l1 : Value) (l2 : Value) (l3 : Value) (l4 : Value) (σ : Hs) : ru d 189 88 [.ref a0, l1, l2, l3, l4] [] σ = ru d 189 89 [.ref a0, l1, l2, l3, l4] [.ref a0] σ := q_aload_n t189_88 rfl
theorem t189_89 : decode (mb 189) 89 = .ok (.getfield 16, 3) := by decide +kernel
theorem s189_89_o87 (d : Nat) (l0 : Value) (l1 : Value) (l2 : Value) (l3 : Value) (l4 : Value) (σ : Hs) : ru d 189 89 [l0, l1, l2, l3, l4] [.ref 87] σ = ru d 189 92 [l0, l1, l2, l3, l4] [.ref 90] σ := q_getf t189_89 mo189 F8_16 rfl rfl
theorem t189_92 : decode (mb 189) 92 = .ok (.aload_n 0, 1) := by decide +kernel
theorem s189_92 (d : Nat) (a0 : Nat) (l1 : Value) (l2 : Value) (l3 : Value) (l4 : Value) (w0 : Value) (σ : Hs) : ru d 189 92 [.ref a0, l1, l2, l3, l4] [w0] σ = ru d 189 93 [.ref a0, l1, l2, l3, l4] [.ref a0, w0] σ := q_aload_n t189_92 rfl
theorem t189_93 : decode (mb 189) 93 = .ok (.getfield 9, 3) := by decide +kernel
theorem s189_93_o87 (d : Nat) (l0 : Value) (l1 : Value) (l2 : Value) (l3 : Value) (l4 : Value) (w0 : Value) (σ : Hs) : ru d 189 93 [l0, l1, l2, l3, l4] [.ref 87, w0] σ = ru d 189 96 [l0, l1, l2, l3, l4] [.ref 88, w0] σ := q_getf t189_93 mo189 F8_9 rfl rfl
theorem t189_96 : decode (mb 189) 96 = .ok (.invokestatic 77, 3) := by decide +kernel
theorem s189_96 (d : Nat) (l0 : Value) (l1 : Value) (l2 : Value) (l3 : Value) (l4 : Value) (v0 v1 : Value) (σ : Hs) : ru d 189 96 [l0, l1, l2, l3, l4] [v1, v0] σ = kont (callD d 116 [v0, v1] σ) d 189 99 [l0, l1, l2, l3, l4] [] := q_invs t189_96 mo189 (by decide +kernel) K8_77 mj116 (Nat.le_of_ble_eq_true rfl) rfl rfl (Nat.le_of_ble_eq_true rfl)
theorem t189_99 : decode (mb 189) 99 = .ok (.iload 4, 2) := by decide +kernel
theorem s189_99 (d : Nat) (l0 : Value) (l1 : Value) (l2 : Value) (l3 : Value) (i4 : Int32) (σ : Hs) : ru d 189 99 [l0, l1, l2, l3, .int i4] [] σ = ru d 189 101 [l0, l1, l2, l3, .int i4] [.int i4] σ := q_iload t189_99 rfl
theorem t189_101 : decode (mb 189) 101 = .ok (.ifCond .eq 7, 3) := by decide +kernel
theorem s189_101 (d : Nat) (l0 : Value) (l1 : Value) (l2 : Value) (l3 : Value) (l4 : Value) (x : Int32) (σ : Hs) : ru d 189 101 [l0, l1, l2, l3, l4] [.int x] σ = if x = 0 then ru d 189 108 [l0, l1, l2, l3, l4] [] σ else ru d 189 104 [l0, l1, l2, l3, l4] [] σ := q_if_eq t189_101 (by decide +kernel)
theorem t189_104 : decode (mb 189) 104 = .ok (.iload_n 3, 1) := by decide +kernel
theorem s189_104 (d : Nat) (l0 : Value) (l1 : Value) (l2 : Value) (i3 : Int32) (l4 : Value) (σ : Hs) : ru d 189 104 [l0, l1, l2, .int i3, l4] [] σ = ru d 189 105 [l0, l1, l2, .int i3, l4] [.int i3] σ := q_iload_n t189_104 rfl
theorem t189_105 : decode (mb 189) 105 = .ok (.goto 9, 3) := by decide +kernel
theorem s189_105 (d : Nat) (l0 : Value) (l1 : Value) (l2 : Value) (l3 : Value) (l4 : Value) (w0 : Value) (σ : Hs) : ru d 189 105 [l0, l1, l2, l3, l4] [w0] σ = ru d 189 114 [l0, l1, l2, l3, l4] [w0] σ := q_goto t189_105 (by decide +kernel)
theorem t189_108 : decode (mb 189) 108 = .ok (.aload_n 0, 1) := by decide +kernel
theorem s189_108 (d : Nat) (a0 : Nat) (l1 : Value) (l2 : Value) (l3 : Value) (l4 : Value) (σ : Hs) : ru d 189 108 [.ref a0, l1, l2, l3, l4] [] σ = ru d 189 109 [.ref a0, l1, l2, l3, l4] [.ref a0] σ := q_aload_n t189_108 rfl
theorem t189_109 : decode (mb 189) 109 = .ok (.ldc 116, 2) := by decide +kernel
theorem s189_109 (d : Nat) (l0 : Value) (l1 : Value) (l2 : Value) (l3 : Value) (l4 : Value) (w0 : Value) (σ : Hs) : ru d 189 109 [l0, l1, l2, l3, l4] [w0] σ = ru d 189 111 [l0, l1, l2, l3, l4] [.int (-1000002), w0] σ := q_ldc t189_109 mo189 C8_116
theorem t189_111 : decode (mb 189) 111 = .ok (.invokevirtual 105, 3) := by decide +kernel
theorem s189_111_o87 (d : Nat) (l0 : Value) (l1 : Value) (l2 : Value) (l3 : Value) (l4 : Value) (v1 : Value) (σ : Hs) : ru d 189 111 [l0, l1, l2, l3, l4] [v1, .ref 87] σ = kont (callD d 112 [.ref 87, v1] σ) d 189 114 [l0, l1, l2, l3, l4] [] := q_invv t189_111 mo189 K8_105 mj112 rfl rfl rfl rfl (Nat.le_of_ble_eq_true rfl)
theorem t189_114 : decode (mb 189) 114 = .ok (.ireturn, 1) := by decide +kernel
theorem s189_114 (d : Nat) (l0 : Value) (l1 : Value) (l2 : Value) (l3 : Value) (l4 : Value) (x : Int32) (σ : Hs) : ru d 189 114 [l0, l1, l2, l3, l4] [.int x] σ = some (some (.int x), σ) := q_ireti t189_114 mr189
theorem c189 (d : Nat) (x0 : Nat) (x1 : Int32) (x2 : Int32) (σ : Hs) : callD (d + 1) 189 [.ref x0, .int x1, .int x2] σ = ru d 189 0 [.ref x0, .int x1, .int x2, uu, uu] [] σ := callD_ru ml189 rfl rfl (Nat.le_of_ble_eq_true rfl)
-- 190: Model.reach(I)I
theorem t190_0 : decode (mb 190) 0 = .ok (.iload_n 1, 1) := by decide +kernel
theorem s190_0 (d : Nat) (l0 : Value) (i1 : Int32) (l2 : Value) (l3 : Value) (l4 : Value) (l5 : Value) (l6 : Value) (σ : Hs) : ru d 190 0 [l0, .int i1, l2, l3, l4, l5, l6] [] σ = ru d 190 1 [l0, .int i1, l2, l3, l4, l5, l6] [.int i1] σ := q_iload_n t190_0 rfl
theorem t190_1 : decode (mb 190) 1 = .ok (.invokestatic 113, 3) := by decide +kernel
theorem s190_1 (d : Nat) (l0 : Value) (l1 : Value) (l2 : Value) (l3 : Value) (l4 : Value) (l5 : Value) (l6 : Value) (v0 : Value) (σ : Hs) : ru d 190 1 [l0, l1, l2, l3, l4, l5, l6] [v0] σ = kont (callD d 121 [v0] σ) d 190 4 [l0, l1, l2, l3, l4, l5, l6] [] := q_invs t190_1 mo190 (by decide +kernel) K8_113 mj121 (Nat.le_of_ble_eq_true rfl) rfl rfl (Nat.le_of_ble_eq_true rfl)
theorem t190_4 : decode (mb 190) 4 = .ok (.ifCond .ne 10, 3) := by decide +kernel
theorem s190_4 (d : Nat) (l0 : Value) (l1 : Value) (l2 : Value) (l3 : Value) (l4 : Value) (l5 : Value) (l6 : Value) (x : Int32) (σ : Hs) : ru d 190 4 [l0, l1, l2, l3, l4, l5, l6] [.int x] σ = if x = 0 then ru d 190 7 [l0, l1, l2, l3, l4, l5, l6] [] σ else ru d 190 14 [l0, l1, l2, l3, l4, l5, l6] [] σ := q_if_ne t190_4 (by decide +kernel)
theorem t190_7 : decode (mb 190) 7 = .ok (.aload_n 0, 1) := by decide +kernel
theorem s190_7 (d : Nat) (a0 : Nat) (l1 : Value) (l2 : Value) (l3 : Value) (l4 : Value) (l5 : Value) (l6 : Value) (σ : Hs) : ru d 190 7 [.ref a0, l1, l2, l3, l4, l5, l6] [] σ = ru d 190 8 [.ref a0, l1, l2, l3, l4, l5, l6] [.ref a0] σ := q_aload_n t190_7 rfl
theorem t190_8 : decode (mb 190) 8 = .ok (.ldc 104, 2) := by decide +kernel
theorem s190_8 (d : Nat) (l0 : Value) (l1 : Value) (l2 : Value) (l3 : Value) (l4 : Value) (l5 : Value) (l6 : Value) (w0 : Value) (σ : Hs) : ru d 190 8 [l0, l1, l2, l3, l4, l5, l6] [w0] σ = ru d 190 10 [l0, l1, l2, l3, l4, l5, l6] [.int (-1000001), w0] σ := q_ldc t190_8 mo190 C8_104
theorem t190_10 : decode (mb 190) 10 = .ok (.invokevirtual 105, 3) := by decide +kernel
theorem s190_10_o87 (d : Nat) (l0 : Value) (l1 : Value) (l2 : Value) (l3 : Value) (l4 : Value) (l5 : Value) (l6 : Value) (v1 : Value) (σ : Hs) : ru d 190 10 [l0, l1, l2, l3, l4, l5, l6] [v1, .ref 87] σ = kont (callD d 112 [.ref 87, v1] σ) d 190 13 [l0, l1, l2, l3, l4, l5, l6] [] := q_invv t190_10 mo190 K8_105 mj112 rfl rfl rfl rfl (Nat.le_of_ble_eq_true rfl)
theorem t190_13 : decode (mb 190) 13 = .ok (.ireturn, 1) := by decide +kernel
theorem s190_13 (d : Nat) (l0 : Value) (l1 : Value) (l2 : Value) (l3 : Value) (l4 : Value) (l5 : Value) (l6 : Value) (x : Int32) (σ : Hs) : ru d 190 13 [l0, l1, l2, l3, l4, l5, l6] [.int x] σ = some (some (.int x), σ) := q_ireti t190_13 mr190
theorem t190_14 : decode (mb 190) 14 = .ok (.aload_n 0, 1) := by decide +kernel
theorem s190_14 (d : Nat) (a0 : Nat) (l1 : Value) (l2 : Value) (l3 : Value) (l4 : Value) (l5 : Value) (l6 : Value) (σ : Hs) : ru d 190 14 [.ref a0, l1, l2, l3, l4, l5, l6] [] σ = ru d 190 15 [.ref a0, l1, l2, l3, l4, l5, l6] [.ref a0] σ := q_aload_n t190_14 rfl
theorem t190_15 : decode (mb 190) 15 = .ok (.iload_n 1, 1) := by decide +kernel
theorem s190_15 (d : Nat) (l0 : Value) (i1 : Int32) (l2 : Value) (l3 : Value) (l4 : Value) (l5 : Value) (l6 : Value) (w0 : Value) (σ : Hs) : ru d 190 15 [l0, .int i1, l2, l3, l4, l5, l6] [w0] σ = ru d 190 16 [l0, .int i1, l2, l3, l4, l5, l6] [.int i1, w0] σ := q_iload_n t190_15 rfl
theorem t190_16 : decode (mb 190) 16 = .ok (.invokevirtual 88, 3) := by decide +kernel
theorem s190_16_o87 (d : Nat) (l0 : Value) (l1 : Value) (l2 : Value) (l3 : Value) (l4 : Value) (l5 : Value) (l6 : Value) (v1 : Value) (σ : Hs) : ru d 190 16 [l0, l1, l2, l3, l4, l5, l6] [v1, .ref 87] σ = kont (callD d 122 [.ref 87, v1] σ) d 190 19 [l0, l1, l2, l3, l4, l5, l6] [] := q_invv t190_16 mo190 K8_88 mj122 rfl rfl rfl rfl (Nat.le_of_ble_eq_true rfl)
theorem t190_19 : decode (mb 190) 19 = .ok (.ifCond .ne 10, 3) := by decide +kernel
theorem s190_19 (d : Nat) (l0 : Value) (l1 : Value) (l2 : Value) (l3 : Value) (l4 : Value) (l5 : Value) (l6 : Value) (x : Int32) (σ : Hs) : ru d 190 19 [l0, l1, l2, l3, l4, l5, l6] [.int x] σ = if x = 0 then ru d 190 22 [l0, l1, l2, l3, l4, l5, l6] [] σ else ru d 190 29 [l0, l1, l2, l3, l4, l5, l6] [] σ := q_if_ne t190_19 (by decide +kernel)
theorem t190_22 : decode (mb 190) 22 = .ok (.aload_n 0, 1) := by decide +kernel
theorem s190_22 (d : Nat) (a0 : Nat) (l1 : Value) (l2 : Value) (l3 : Value) (l4 : Value) (l5 : Value) (l6 : Value) (σ : Hs) : ru d 190 22 [.ref a0, l1, l2, l3, l4, l5, l6] [] σ = ru d 190 23 [.ref a0, l1, l2, l3, l4, l5, l6] [.ref a0] σ := q_aload_n t190_22 rfl
theorem t190_23 : decode (mb 190) 23 = .ok (.ldc 116, 2) := by decide +kernel
theorem s190_23 (d : Nat) (l0 : Value) (l1 : Value) (l2 : Value) (l3 : Value) (l4 : Value) (l5 : Value) (l6 : Value) (w0 : Value) (σ : Hs) : ru d 190 23 [l0, l1, l2, l3, l4, l5, l6] [w0] σ = ru d 190 25 [l0, l1, l2, l3, l4, l5, l6] [.int (-1000002), w0] σ := q_ldc t190_23 mo190 C8_116
theorem t190_25 : decode (mb 190) 25 = .ok (.invokevirtual 105, 3) := by decide +kernel
theorem s190_25_o87 (d : Nat) (l0 : Value) (l1 : Value) (l2 : Value) (l3 : Value) (l4 : Value) (l5 : Value) (l6 : Value) (v1 : Value) (σ : Hs) : ru d 190 25 [l0, l1, l2, l3, l4, l5, l6] [v1, .ref 87] σ = kont (callD d 112 [.ref 87, v1] σ) d 190 28 [l0, l1, l2, l3, l4, l5, l6] [] := q_invv t190_25 mo190 K8_105 mj112 rfl rfl rfl rfl (Nat.le_of_ble_eq_true rfl)
theorem t190_28 : decode (mb 190) 28 = .ok (.ireturn, 1) := by decide +kernel
theorem s190_28 (d : Nat) (l0 : Value) (l1 : Value) (l2 : Value) (l3 : Value) (l4 : Value) (l5 : Value) (l6 : Value) (x : Int32) (σ : Hs) : ru d 190 28 [l0, l1, l2, l3, l4, l5, l6] [.int x] σ = some (some (.int x), σ) := q_ireti t190_28 mr190
theorem t190_29 : decode (mb 190) 29 = .ok (.iconst 1, 1) := by decide +kernel
theorem s190_29 (d : Nat) (l0 : Value) (l1 : Value) (l2 : Value) (l3 : Value) (l4 : Value) (l5 : Value) (l6 : Value) (σ : Hs) : ru d 190 29 [l0, l1, l2, l3, l4, l5, l6] [] σ = ru d 190 30 [l0, l1, l2, l3, l4, l5, l6] [.int 1] σ := q_iconst t190_29 (by decide +kernel)
theorem t190_30 : decode (mb 190) 30 = .ok (.iload_n 1, 1) := by decide +kernel
theorem s190_30 (d : Nat) (l0 : Value) (i1 : Int32) (l2 : Value) (l3 : Value) (l4 : Value) (l5 : Value) (l6 : Value) (w0 : Value) (σ : Hs) : ru d 190 30 [l0, .int i1, l2, l3, l4, l5, l6] [w0] σ = ru d 190 31 [l0, .int i1, l2, l3, l4, l5, l6] [.int i1, w0] σ := q_iload_n t190_30 rfl
theorem t190_31 : decode (mb 190) 31 = .ok (.ishl, 1) := by decide +kernel
theorem s190_31 (d : Nat) (l0 : Value) (l1 : Value) (l2 : Value) (l3 : Value) (l4 : Value) (l5 : Value) (l6 : Value) (x y : Int32) (σ : Hs) : ru d 190 31 [l0, l1, l2, l3, l4, l5, l6] [.int y, .int x] σ = ru d 190 32 [l0, l1, l2, l3, l4, l5, l6] [.int (x <<< (y &&& 31))] σ := q_ishl t190_31
theorem t190_32 : decode (mb 190) 32 = .ok (.istore_n 2, 1) := by decide +kernel
theorem s190_32 (d : Nat) (l0 : Value) (i1 : Int32) (l2 : Value) (l3 : Value) (l4 : Value) (l5 : Value) (l6 : Value) (x : Int32) (σ : Hs) : ru d 190 32 [l0, .int i1, l2, l3, l4, l5, l6] [.int x] σ = ru d 190 33 [l0, .int i1, .int x, l3, l4, l5, l6] [] σ := q_istore_n t190_32 ⟨Nat.le_of_ble_eq_true rfl, rfl⟩ rfl
theorem t190_33 : decode (mb 190) 33 = .ok (.iconst 0, 1) := by decide +kernel
theorem s190_33 (d : Nat) (l0 : Value) (l1 : Value) (l2 : Value) (l3 : Value) (l4 : Value) (l5 : Value) (l6 : Value) (σ : Hs) : ru d 190 33 [l0, l1, l2, l3, l4, l5, l6] [] σ = ru d 190 34 [l0, l1, l2, l3, l4, l5, l6] [.int 0] σ := q_iconst t190_33 (by decide +kernel)
theorem t190_34 : decode (mb 190) 34 = .ok (.istore_n 3, 1) := by decide +kernel
theorem s190_34 (d : Nat) (l0 : Value) (l1 : Value) (i2 : Int32) (l3 : Value) (l4 : Value) (l5 : Value) (l6 : Value) (x : Int32) (σ : Hs) : ru d 190 34 [l0, l1, .int i2, l3, l4, l5, l6] [.int x] σ = ru d 190 35 [l0, l1, .int i2, .int x, l4, l5, l6] [] σ := q_istore_n t190_34 ⟨Nat.le_of_ble_eq_true rfl, rfl⟩ rfl
theorem t190_35 : decode (mb 190) 35 = .ok (.iload_n 2, 1) := by decide +kernel
theorem s190_35 (d : Nat) (l0 : Value) (l1 : Value) (i2 : Int32) (l3 : Value) (l4 : Value) (l5 : Value) (l6 : Value) (σ : Hs) : ru d 190 35 [l0, l1, .int i2, l3, l4, l5, l6] [] σ = ru d 190 36 [l0, l1, .int i2, l3, l4, l5, l6] [.int i2] σ := q_iload_n t190_35 rfl
theorem t190_36 : decode (mb 190) 36 = .ok (.iload_n 3, 1) := by decide +kernel
theorem s190_36 (d : Nat) (l0 : Value) (l1 : Value) (l2 : Value) (i3 : Int32) (l4 : Value) (l5 : Value) (l6 : Value) (w0 : Value) (σ : Hs) : ru d 190 36 [l0, l1, l2, .int i3, l4, l5, l6] [w0] σ = ru d 190 37 [l0, l1, l2, .int i3, l4, l5, l6] [.int i3, w0] σ := q_iload_n t190_36 rfl
theorem t190_37 : decode (mb 190) 37 = .ok (.if_icmp .eq 82, 3) := by decide +kernel
theorem s190_37 (d : Nat) (l0 : Value) (l1 : Value) (l2 : Value) (l3 : Value) (l4 : Value) (l5 : Value) (l6 : Value) (x y : Int32) (σ : Hs) : ru d 190 37 [l0, l1, l2, l3, l4, l5, l6] [.int y, .int x] σ = if x = y then ru d 190 119 [l0, l1, l2, l3, l4, l5, l6] [] σ else ru d 190 40 [l0, l1, l2, l3, l4, l5, l6] [] σ := q_ic_eq t190_37 (by decide +kernel)
theorem t190_40 : decode (mb 190) 40 = .ok (.iload_n 2, 1) := by decide +kernel
theorem s190_40 (d : Nat) (l0 : Value) (l1 : Value) (i2 : Int32) (l3 : Value) (l4 : Value) (l5 : Value) (l6 : Value) (σ : Hs) : ru d 190 40 [l0, l1, .int i2, l3, l4, l5, l6] [] σ = ru d 190 41 [l0, l1, .int i2, l3, l4, l5, l6] [.int i2] σ := q_iload_n t190_40 rfl
theorem t190_41 : decode (mb 190) 41 = .ok (.istore_n 3, 1) := by decide +kernel
theorem s190_41 (d : Nat) (l0 : Value) (l1 : Value) (i2 : Int32) (l3 : Value) (l4 : Value) (l5 : Value) (l6 : Value) (x : Int32) (σ : Hs) : ru d 190 41 [l0, l1, .int i2, l3, l4, l5, l6] [.int x] σ = ru d 190 42 [l0, l1, .int i2, .int x, l4, l5, l6] [] σ := q_istore_n t190_41 ⟨Nat.le_of_ble_eq_true rfl, rfl⟩ rfl
theorem t190_42 : decode (mb 190) 42 = .ok (.iconst 0, 1) := by decide +kernel
theorem s190_42 (d : Nat) (l0 : Value) (l1 : Value) (l2 : Value) (l3 : Value) (l4 : Value) (l5 : Value) (l6 : Value) (σ : Hs) : ru d 190 42 [l0, l1, l2, l3, l4, l5, l6] [] σ = ru d 190 43 [l0, l1, l2, l3, l4, l5, l6] [.int 0] σ := q_iconst t190_42 (by decide +kernel)
theorem t190_43 : decode (mb 190) 43 = .ok (.istore 4, 2) := by decide +kernel
theorem s190_43 (d : Nat) (l0 : Value) (l1 : Value) (l2 : Value) (i3 : Int32) (l4 : Value) (l5 : Value) (l6 : Value) (x : Int32) (σ : Hs) : ru d 190 43 [l0, l1, l2, .int i3, l4, l5, l6] [.int x] σ = ru d 190 45 [l0, l1, l2, .int i3, .int x, l5, l6] [] σ := q_istore t190_43 ⟨Nat.le_of_ble_eq_true rfl, rfl⟩ rfl
theorem t190_45 : decode (mb 190) 45 = .ok (.iload 4, 2) := by decide +kernel
theorem s190_45 (d : Nat) (l0 : Value) (l1 : Value) (l2 : Value) (l3 : Value) (i4 : Int32) (l5 : Value) (l6 : Value) (σ : Hs) : ru d 190 45 [l0, l1, l2, l3, .int i4, l5, l6] [] σ = ru d 190 47 [l0, l1, l2, l3, .int i4, l5, l6] [.int i4] σ := q_iload t190_45 rfl
theorem t190_47 : decode (mb 190) 47 = .ok (.bipush 30, 2) := by decide +kernel
theorem s190_47 (d : Nat) (l0 : Value) (l1 : Value) (l2 : Value) (l3 : Value) (l4 : Value) (l5 : Value) (l6 : Value) (w0 : Value) (σ : Hs) : ru d 190 47 [l0, l1, l2, l3, l4, l5, l6] [w0] σ = ru d 190 49 [l0, l1, l2, l3, l4, l5, l6] [.int 30, w0] σ := q_bipush t190_47 (by decide +kernel)
theorem t190_49 : decode (mb 190) 49 = .ok (.if_icmp .ge 67, 3) := by decide +kernel
theorem s190_49 (d : Nat) (l0 : Value) (l1 : Value) (l2 : Value) (l3 : Value) (l4 : Value) (l5 : Value) (l6 : Value) (x y : Int32) (σ : Hs) : ru d 190 49 [l0, l1, l2, l3, l4, l5, l6] [.int y, .int x] σ = if y ≤ x then ru d 190 116 [l0, l1, l2, l3, l4, l5, l6] [] σ else ru d 190 52 [l0, l1, l2, l3, l4, l5, l6] [] σ := q_ic_ge t190_49 (by decide +kernel)
theorem t190_52 : decode (mb 190) 52 = .ok (.iconst 0, 1) := by decide +kernel
theorem s190_52 (d : Nat) (l0 : Value) (l1 : Value) (l2 : Value) (l3 : Value) (l4 : Value) (l5 : Value) (l6 : Value) (σ : Hs) : ru d 190 52 [l0, l1, l2, l3, l4, l5, l6] [] σ = ru d 190 53 [l0, l1, l2, l3, l4, l5, l6] [.int 0] σ := q_iconst t190_52 (by decide +kernel)
theorem t190_53 : decode (mb 190) 53 = .ok (.istore 5, 2) := by decide +kernel
theorem s190_53 (d : Nat) (l0 : Value) (l1 : Value) (l2 : Value) (l3 : Value) (i4 : Int32) (l5 : Value) (l6 : Value) (x : Int32) (σ : Hs) : ru d 190 53 [l0, l1, l2, l3, .int i4, l5, l6] [.int x] σ = ru d 190 55 [l0, l1, l2, l3, .int i4, .int x, l6] [] σ := q_istore t190_53 ⟨Nat.le_of_ble_eq_true rfl, rfl⟩ rfl
theorem t190_55 : decode (mb 190) 55 = .ok (.iload 5, 2) := by decide +kernel
theorem s190_55 (d : Nat) (l0 : Value) (l1 : Value) (l2 : Value) (l3 : Value) (l4 : Value) (i5 : Int32) (l6 : Value) (σ : Hs) : ru d 190 55 [l0, l1, l2, l3, l4, .int i5, l6] [] σ = ru d 190 57 [l0, l1, l2, l3, l4, .int i5, l6] [.int i5] σ := q_iload t190_55 rfl
theorem t190_57 : decode (mb 190) 57 = .ok (.iconst 4, 1) := by decide +kernel
theorem s190_57 (d : Nat) (l0 : Value) (l1 : Value) (l2 : Value) (l3 : Value) (l4 : Value) (l5 : Value) (l6 : Value) (w0 : Value) (σ : Hs) : ru d 190 57 [l0, l1, l2, l3, l4, l5, l6] [w0] σ = ru d 190 58 [l0, l1, l2, l3, l4, l5, l6] [.int 4, w0] σ := q_iconst t190_57 (by decide +kernel)
theorem t190_58 : decode (mb 190) 58 = .ok (.if_icmp .ge 52, 3) := by decide +kernel
theorem s190_58 (d : Nat) (l0 : Value) (l1 : Value) (l2 : Value) (l3 : Value) (l4 : Value) (l5 : Value) (l6 : Value) (x y : Int32) (σ : Hs) : ru d 190 58 [l0, l1, l2, l3, l4, l5, l6] [.int y, .int x] σ = if y ≤ x then ru d 190 110 [l0, l1, l2, l3, l4, l5, l6] [] σ else ru d 190 61 [l0, l1, l2, l3, l4, l5, l6] [] σ := q_ic_ge t190_58 (by decide +kernel)
theorem t190_61 : decode (mb 190) 61 = .ok (.iload_n 3, 1) := by decide +kernel
theorem s190_61 (d : Nat) (l0 : Value) (l1 : Value) (l2 : Value) (i3 : Int32) (l4 : Value) (l5 : Value) (l6 : Value) (σ : Hs) : ru d 190 61 [l0, l1, l2, .int i3, l4, l5, l6] [] σ = ru d 190 62 [l0, l1, l2, .int i3, l4, l5, l6] [.int i3] σ := q_iload_n t190_61 rfl
theorem t190_62 : decode (mb 190) 62 = .ok (.iload 4, 2) := by decide +kernel
theorem s190_62 (d : Nat) (l0 : Value) (l1 : Value) (l2 : Value) (l3 : Value) (i4 : Int32) (l5 : Value) (l6 : Value) (w0 : Value) (σ : Hs) : ru d 190 62 [l0, l1, l2, l3, .int i4, l5, l6] [w0] σ = ru d 190 64 [l0, l1, l2, l3, .int i4, l5, l6] [.int i4, w0] σ := q_iload t190_62 rfl
theorem t190_64 : decode (mb 190) 64 = .ok (.invokestatic 249, 3) := by decide +kernel
theorem s190_64 (d : Nat) (l0 : Value) (l1 : Value) (l2 : Value) (l3 : Value) (l4 : Value) (l5 : Value) (l6 : Value) (v0 v1 : Value) (σ : Hs) : ru d 190 64 [l0, l1, l2, l3, l4, l5, l6] [v1, v0] σ = kont (callD d 114 [v0, v1] σ) d 190 67 [l0, l1, l2, l3, l4, l5, l6] [] := q_invs t190_64 mo190 (by decide +kernel) K8_249 mj114 (Nat.le_of_ble_eq_true rfl) rfl rfl (Nat.le_of_ble_eq_true rfl)
theorem t190_67 : decode (mb 190) 67 = .ok (.ifCond .eq 43, 3) := by decide +kernel
theorem s190_67 (d : Nat) (l0 : Value) (l1 : Value) (l2 : Value) (l3 : Value) (l4 : Value) (l5 : Value) (l6 : Value) (x : Int32) (σ : Hs) : ru d 190 67 [l0, l1, l2, l3, l4, l5, l6] [.int x] σ = if x = 0 then ru d 190 110 [l0, l1, l2, l3, l4, l5, l6] [] σ else ru d 190 70 [l0, l1, l2, l3, l4, l5, l6] [] σ := q_if_eq t190_67 (by decide +kernel)
theorem t190_70 : decode (mb 190) 70 = .ok (.iload 4, 2) := by decide +kernel
theorem s190_70 (d : Nat) (l0 : Value) (l1 : Value) (l2 : Value) (l3 : Value) (i4 : Int32) (l5 : Value) (l6 : Value) (σ : Hs) : ru d 190 70 [l0, l1, l2, l3, .int i4, l5, l6] [] σ = ru d 190 72 [l0, l1, l2, l3, .int i4, l5, l6] [.int i4] σ := q_iload t190_70 rfl
theorem t190_72 : decode (mb 190) 72 = .ok (.iload 5, 2) := by decide +kernel
theorem s190_72 (d : Nat) (l0 : Value) (l1 : Value) (l2 : Value) (l3 : Value) (l4 : Value) (i5 : Int32) (l6 : Value) (w0 : Value) (σ : Hs) : ru d 190 72 [l0, l1, l2, l3, l4, .int i5, l6] [w0] σ = ru d 190 74 [l0, l1, l2, l3, l4, .int i5, l6] [.int i5, w0] σ := q_iload t190_72 rfl
theorem t190_74 : decode (mb 190) 74 = .ok (.invokestatic 121, 3) := by decide +kernel
theorem s190_74 (d : Nat) (l0 : Value) (l1 : Value) (l2 : Value) (l3 : Value) (l4 : Value) (l5 : Value) (l6 : Value) (v0 v1 : Value) (σ : Hs) : ru d 190 74 [l0, l1, l2, l3, l4, l5, l6] [v1, v0] σ = kont (callD d 130 [v0, v1] σ) d 190 77 [l0, l1, l2, l3, l4, l5, l6] [] := q_invs t190_74 mo190 (by decide +kernel) K8_121 mj130 (Nat.le_of_ble_eq_true rfl) rfl rfl (Nat.le_of_ble_eq_true rfl)
theorem t190_77 : decode (mb 190) 77 = .ok (.istore 6, 2) := by decide +kernel
theorem s190_77 (d : Nat) (l0 : Value) (l1 : Value) (l2 : Value) (l3 : Value) (l4 : Value) (i5 : Int32) (l6 : Value) (x : Int32) (σ : Hs) : ru d 190 77 [l0, l1, l2, l3, l4, .int i5, l6] [.int x] σ = ru d 190 79 [l0, l1, l2, l3, l4, .int i5, .int x] [] σ := q_istore t190_77 ⟨Nat.le_of_ble_eq_true rfl, rfl⟩ rfl
theorem t190_79 : decode (mb 190) 79 = .ok (.iload_n 2, 1) := by decide +kernel
theorem s190_79 (d : Nat) (l0 : Value) (l1 : Value) (i2 : Int32) (l3 : Value) (l4 : Value) (l5 : Value) (l6 : Value) (σ : Hs) : ru d 190 79 [l0, l1, .int i2, l3, l4, l5, l6] [] σ = ru d 190 80 [l0, l1, .int i2, l3, l4, l5, l6] [.int i2] σ := q_iload_n t190_79 rfl
theorem t190_80 : decode (mb 190) 80 = .ok (.iload 6, 2) := by decide +kernel
theorem s190_80 (d : Nat) (l0 : Value) (l1 : Value) (l2 : Value) (l3 : Value) (l4 : Value) (l5 : Value) (i6 : Int32) (w0 : Value) (σ : Hs) : ru d 190 80 [l0, l1, l2, l3, l4, l5, .int i6] [w0] σ = ru d 190 82 [l0, l1, l2, l3, l4, l5, .int i6] [.int i6, w0] σ := q_iload t190_80 rfl
theorem t190_82 : decode (mb 190) 82 = .ok (.ifCond .lt 19, 3) := by decide +kernel
theorem s190_82 (d : Nat) (l0 : Value) (l1 : Value) (l2 : Value) (l3 : Value) (l4 : Value) (l5 : Value) (l6 : Value) (x : Int32) (w0 : Value) (σ : Hs) : ru d 190 82 [l0, l1, l2, l3, l4, l5, l6] [.int x, w0] σ = if x < 0 then ru d 190 101 [l0, l1, l2, l3, l4, l5, l6] [w0] σ else ru d 190 85 [l0, l1, l2, l3, l4, l5, l6] [w0] σ := q_if_lt t190_82 (by decide +kernel)
theorem t190_85 : decode (mb 190) 85 = .ok (.aload_n 0, 1) := by decide +kernel
theorem s190_85 (d : Nat) (a0 : Nat) (l1 : Value) (l2 : Value) (l3 : Value) (l4 : Value) (l5 : Value) (l6 : Value) (w0 : Value) (σ : Hs) : ru d 190 85 [.ref a0, l1, l2, l3, l4, l5, l6] [w0] σ = ru d 190 86 [.ref a0, l1, l2, l3, l4, l5, l6] [.ref a0, w0] σ := q_aload_n t190_85 rfl
theorem t190_86 : decode (mb 190) 86 = .ok (.iload 6, 2) := by decide +kernel
theorem s190_86 (d : Nat) (l0 : Value) (l1 : Value) (l2 : Value) (l3 : Value) (l4 : Value) (l5 : Value) (i6 : Int32) (w0 w1 : Value) (σ : Hs) : ru d 190 86 [l0, l1, l2, l3, l4, l5, .int i6] [w0, w1] σ = ru d 190 88 [l0, l1, l2, l3, l4, l5, .int i6] [.int i6, w0, w1] σ := q_iload t190_86 rfl
theorem t190_88 : decode (mb 190) 88 = .ok (.invokevirtual 88, 3) := by decide +kernel
theorem s190_88_o87 (d : Nat) (l0 : Value) (l1 : Value) (l2 : Value) (l3 : Value) (l4 : Value) (l5 : Value) (l6 : Value) (v1 : Value) (w0 : Int32) (σ : Hs) : ru d 190 88 [l0, l1, l2, l3, l4, l5, l6] [v1, .ref 87, .int w0] σ = kont (callD d 122 [.ref 87, v1] σ) d 190 91 [l0, l1, l2, l3, l4, l5, l6] [.int w0] := q_invv t190_88 mo190 K8_88 mj122 rfl rfl rfl rfl (Nat.le_of_ble_eq_true rfl)
theorem t190_91 : decode (mb 190) 91 = .ok (.ifCond .eq 10, 3) := by decide +kernel
theorem s190_91 (d : Nat) (l0 : Value) (l1 : Value) (l2 : Value) (l3 : Value) (l4 : Value) (l5 : Value) (l6 : Value) (x : Int32) (w0 : Value) (σ : Hs) : ru d 190 91 [l0, l1, l2, l3, l4, l5, l6] [.int x, w0] σ = if x = 0 then ru d 190 101 [l0, l1, l2, l3, l4, l5, l6] [w0] σ else ru d 190 94 [l0, l1, l2, l3, l4, l5, l6] [w0] σ := q_if_eq t190_91 (by decide +kernel)
theorem t190_94 : decode (mb 190) 94 = .ok (.iconst 1, 1) := by decide +kernel
theorem s190_94 (d : Nat) (l0 : Value) (l1 : Value) (l2 : Value) (l3 : Value) (l4 : Value) (l5 : Value) (l6 : Value) (w0 : Value) (σ : Hs) : ru d 190 94 [l0, l1, l2, l3, l4, l5, l6] [w0] σ = ru d 190 95 [l0, l1, l2, l3, l4, l5, l6] [.int 1, w0] σ := q_iconst t190_94 (by decide +kernel)
theorem t190_95 : decode (mb 190) 95 = .ok (.iload 6, 2) := by decide +kernel
theorem s190_95 (d : Nat) (l0 : Value) (l1 : Value) (l2 : Value) (l3 : Value) (l4 : Value) (l5 : Value) (i6 : Int32) (w0 w1 : Value) (σ : Hs) : ru d 190 95 [l0, l1, l2, l3, l4, l5, .int i6] [w0, w1] σ = ru d 190 97 [l0, l1, l2, l3, l4, l5, .int i6] [.int i6, w0, w1] σ := q_iload t190_95 rfl
theorem t190_97 : decode (mb 190) 97 = .ok (.ishl, 1) := by decide +kernel
theorem s190_97 (d : Nat) (l0 : Value) (l1 : Value) (l2 : Value) (l3 : Value) (l4 : Value) (l5 : Value) (l6 : Value) (x y : Int32) (w0 : Value) (σ : Hs) : ru d 190 97 [l0, l1, l2, l3, l4, l5, l6] [.int y, .int x, w0] σ = ru d 190 98 [l0, l1, l2, l3, l4, l5, l6] [.int (x <<< (y &&& 31)), w0] σ := q_ishl t190_97
theorem t190_98 : decode (mb 190) 98 = .ok (.goto 4, 3) := by decide +kernel
theorem s190_98 (d : Nat) (l0 : Value) (l1 : Value) (l2 : Value) (l3 : Value) (l4 : Value) (l5 : Value) (l6 : Value) (w0 w1 : Value) (σ : Hs) : ru d 190 98 [l0, l1, l2, l3, l4, l5, l6] [w0, w1] σ = ru d 190 102 [l0, l1, l2, l3, l4, l5, l6] [w0, w1] σ := q_goto t190_98 (by decide +kernel)
theorem t190_101 : decode (mb 190) 101 = .ok (.iconst 0, 1) := by decide +kernel
theorem s190_101 (d : Nat) (l0 : Value) (l1 : Value) (l2 : Value) (l3 : Value) (l4 : Value) (l5 : Value) (l6 : Value) (w0 : Value) (σ : Hs) : ru d 190 101 [l0, l1, l2, l3, l4, l5, l6] [w0] σ = ru d 190 102 [l0, l1, l2, l3, l4, l5, l6] [.int 0, w0] σ := q_iconst t190_101 (by decide +kernel)
theorem t190_102 : decode (mb 190) 102 = .ok (.ior, 1) := by decide +kernel
theorem s190_102 (d : Nat) (l0 : Value) (l1 : Value) (l2 : Value) (l3 : Value) (l4 : Value) (l5 : Value) (l6 : Value) (x y : Int32) (σ : Hs) : ru d 190 102 [l0, l1, l2, l3, l4, l5, l6] [.int y, .int x] σ = ru d 190 103 [l0, l1, l2, l3, l4, l5, l6] [.int (x ||| y)] σ := q_ior t190_102
theorem t190_103 : decode (mb 190) 103 = .ok (.istore_n 2, 1) := by decide +kernel
theorem s190_103 (d : Nat) (l0 : Value) (i1 : Int32) (l2 : Value) (l3 : Value) (l4 : Value) (l5 : Value) (l6 : Value) (x : Int32) (σ : Hs) : ru d 190 103 [l0, .int i1, l2, l3, l4, l5, l6] [.int x] σ = ru d 190 104 [l0, .int i1, .int x, l3, l4, l5, l6] [] σ := q_istore_n t190_103 ⟨Nat.le_of_ble_eq_true rfl, rfl⟩ rfl
theorem t190_104 : decode (mb 190) 104 = .ok (.iinc 5 1, 3) := by decide +kernel
theorem s190_104 (d : Nat) (l0 : Value) (l1 : Value) (l2 : Value) (l3 : Value) (i4 : Int32) (i5 : Int32) (l6 : Value) (σ : Hs) : ru d 190 104 [l0, l1, l2, l3, .int i4, .int i5, l6] [] σ = ru d 190 107 [l0, l1, l2, l3, .int i4, .int (i5 + 1), l6] [] σ := q_iinc t190_104 ⟨Nat.le_of_ble_eq_true rfl, rfl⟩ rfl (by decide +kernel) rfl
theorem t190_107 : decode (mb 190) 107 = .ok (.goto (-52), 3) := by decide +kernel
theorem s190_107 (d : Nat) (l0 : Value) (l1 : Value) (l2 : Value) (l3 : Value) (l4 : Value) (l5 : Value) (l6 : Value) (σ : Hs) : ru d 190 107 [l0, l1, l2, l3, l4, l5, l6] [] σ = ru d 190 55 [l0, l1, l2, l3, l4, l5, l6] [] σ := q_goto t190_107 (by decide +kernel)
theorem t190_110 : decode (mb 190) 110 = .ok (.iinc 4 1, 3) := by decide +kernel
theorem s190_110 (d : Nat) (l0 : Value) (l1 : Value) (l2 : Value) (i3 : Int32) (i4 : Int32) (l5 : Value) (l6 : Value) (σ : Hs) : ru d 190 110 [l0, l1, l2, .int i3, .int i4, l5, l6] [] σ = ru d 190 113 [l0, l1, l2, .int i3, .int (i4 + 1), l5, l6] [] σ := q_iinc t190_110 ⟨Nat.le_of_ble_eq_true rfl, rfl⟩ rfl (by decide +kernel) rfl
theorem t190_113 : decode (mb 190) 113 = .ok (.goto (-68), 3) := by decide +kernel
theorem s190_113 (d : Nat) (l0 : Value) (l1 : Value) (l2 : Value) (l3 : Value) (l4 : Value) (l5 : Value) (l6 : Value) (σ : Hs) : ru d 190 113 [l0, l1, l2, l3, l4, l5, l6] [] σ = ru d 190 45 [l0, l1, l2, l3, l4, l5, l6] [] σ := q_goto t190_113 (by decide +kernel)
theorem t190_116 : decode (mb 190) 116 = .ok (.goto (-81), 3) := by decide +kernel
theorem s190_116 (d : Nat) (l0 : Value) (l1 : Value) (l2 : Value) (l3 : Value) (l4 : Value) (l5 : Value) (l6 : Value) (σ : Hs) : ru d 190 116 [l0, l1, l2, l3, l4, l5, l6] [] σ = ru d 190 35 [l0, l1, l2, l3, l4, l5, l6] [] σ := q_goto t190_116 (by decide +kernel)
theorem t190_119 : decode (mb 190) 119 = .ok (.iload_n 2, 1) := by decide +kernel
theorem s190_119 (d : Nat) (l0 : Value) (l1 : Value) (i2 : Int32) (l3 : Value) (l4 : Value) (l5 : Value) (l6 : Value) (σ : Hs) : ru d 190 119 [l0, l1, .int i2, l3, l4, l5, l6] [] σ = ru d 190 120 [l0, l1, .int i2, l3, l4, l5, l6] [.int i2] σ := q_iload_n t190_119 rfl
theorem t190_120 : decode (mb 190) 120 = .ok (.invokestatic 294, 3) := by decide +kernel
theorem s190_120 (d : Nat) (l0 : Value) (l1 : Value) (l2 : Value) (l3 : Value) (l4 : Value) (l5 : Value) (l6 : Value) (v0 : Value) (σ : Hs) : ru d 190 120 [l0, l1, l2, l3, l4, l5, l6] [v0] σ = kont (callD d 191 [v0] σ) d 190 123 [l0, l1, l2, l3, l4, l5, l6] [] := q_invs t190_120 mo190 (by decide +kernel) K8_294 mj191 (Nat.le_of_ble_eq_true rfl) rfl rfl (Nat.le_of_ble_eq_true rfl)
theorem t190_123 : decode (mb 190) 123 = .ok (.ireturn, 1) := by decide +kernel
theorem s190_123 (d : Nat) (l0 : Value) (l1 : Value) (l2 : Value) (l3 : Value) (l4 : Value) (l5 : Value) (l6 : Value) (x : Int32) (σ : Hs) : ru d 190 123 [l0, l1, l2, l3, l4, l5, l6] [.int x] σ = some (some (.int x), σ) := q_ireti t190_123 mr190
theorem c190 (d : Nat) (x0 : Nat) (x1 : Int32) (σ : Hs) : callD (d + 1) 190 [.ref x0, .int x1] σ = ru d 190 0 [.ref x0, .int x1, uu, uu, uu, uu, uu] [] σ := callD_ru ml190 rfl rfl (Nat.le_of_ble_eq_true rfl)
-- 191: Model.bits(I)I
theorem t191_0 : decode (mb 191) 0 = .ok (.iconst 0, 1) := by decide +kernel
theorem s191_0 (d : Nat) (l0 : Value) (l1 : Value) (l2 : Value) (σ : Hs) : ru d 191 0 [l0, l1, l2] [] σ = ru d 191 1 [l0, l1, l2] [.int 0] σ := q_iconst t191_0 (by decide +kernel)
theorem t191_1 : decode (mb 191) 1 = .ok (.istore_n 1, 1) := by decide +kernel
theorem s191_1 (d : Nat) (i0 : Int32) (l1 : Value) (l2 : Value) (x : Int32) (σ : Hs) : ru d 191 1 [.int i0, l1, l2] [.int x] σ = ru d 191 2 [.int i0, .int x, l2] [] σ := q_istore_n t191_1 ⟨Nat.le_of_ble_eq_true rfl, rfl⟩ rfl
theorem t191_2 : decode (mb 191) 2 = .ok (.iload_n 0, 1) := by decide +kernel
theorem s191_2 (d : Nat) (i0 : Int32) (l1 : Value) (l2 : Value) (σ : Hs) : ru d 191 2 [.int i0, l1, l2] [] σ = ru d 191 3 [.int i0, l1, l2] [.int i0] σ := q_iload_n t191_2 rfl
theorem t191_3 : decode (mb 191) 3 = .ok (.istore_n 2, 1) := by decide +kernel
theorem s191_3 (d : Nat) (l0 : Value) (i1 : Int32) (l2 : Value) (x : Int32) (σ : Hs) : ru d 191 3 [l0, .int i1, l2] [.int x] σ = ru d 191 4 [l0, .int i1, .int x] [] σ := q_istore_n t191_3 ⟨Nat.le_of_ble_eq_true rfl, rfl⟩ rfl
theorem t191_4 : decode (mb 191) 4 = .ok (.iload_n 2, 1) := by decide +kernel
theorem s191_4 (d : Nat) (l0 : Value) (l1 : Value) (i2 : Int32) (σ : Hs) : ru d 191 4 [l0, l1, .int i2] [] σ = ru d 191 5 [l0, l1, .int i2] [.int i2] σ := q_iload_n t191_4 rfl
theorem t191_5 : decode (mb 191) 5 = .ok (.ifCond .eq 15, 3) := by decide +kernel
theorem s191_5 (d : Nat) (l0 : Value) (l1 : Value) (l2 : Value) (x : Int32) (σ : Hs) : ru d 191 5 [l0, l1, l2] [.int x] σ = if x = 0 then ru d 191 20 [l0, l1, l2] [] σ else ru d 191 8 [l0, l1, l2] [] σ := q_if_eq t191_5 (by decide +kernel)
theorem t191_8 : decode (mb 191) 8 = .ok (.iinc 1 1, 3) := by decide +kernel
theorem s191_8 (d : Nat) (i0 : Int32) (i1 : Int32) (l2 : Value) (σ : Hs) : ru d 191 8 [.int i0, .int i1, l2] [] σ = ru d 191 11 [.int i0, .int (i1 + 1), l2] [] σ := q_iinc t191_8 ⟨Nat.le_of_ble_eq_true rfl, rfl⟩ rfl (by decide +kernel) rfl
theorem t191_11 : decode (mb 191) 11 = .ok (.iload_n 2, 1) := by decide +kernel
theorem s191_11 (d : Nat) (l0 : Value) (l1 : Value) (i2 : Int32) (σ : Hs) : ru d 191 11 [l0, l1, .int i2] [] σ = ru d 191 12 [l0, l1, .int i2] [.int i2] σ := q_iload_n t191_11 rfl
theorem t191_12 : decode (mb 191) 12 = .ok (.iload_n 2, 1) := by decide +kernel
theorem s191_12 (d : Nat) (l0 : Value) (l1 : Value) (i2 : Int32) (w0 : Value) (σ : Hs) : ru d 191 12 [l0, l1, .int i2] [w0] σ = ru d 191 13 [l0, l1, .int i2] [.int i2, w0] σ := q_iload_n t191_12 rfl
theorem t191_13 : decode (mb 191) 13 = .ok (.iconst 1, 1) := by decide +kernel
theorem s191_13 (d : Nat) (l0 : Value) (l1 : Value) (l2 : Value) (w0 w1 : Value) (σ : Hs) : ru d 191 13 [l0, l1, l2] [w0, w1] σ = ru d 191 14 [l0, l1, l2] [.int 1, w0, w1] σ := q_iconst t191_13 (by decide +kernel)
theorem t191_14 : decode (mb 191) 14 = .ok (.isub, 1) := by decide +kernel
theorem s191_14 (d : Nat) (l0 : Value) (l1 : Value) (l2 : Value) (x y : Int32) (w0 : Value) (σ : Hs) : ru d 191 14 [l0, l1, l2] [.int y, .int x, w0] σ = ru d 191 15 [l0, l1, l2] [.int (x - y), w0] σ := q_isub t191_14
theorem t191_15 : decode (mb 191) 15 = .ok (.iand, 1) := by decide +kernel
theorem s191_15 (d : Nat) (l0 : Value) (l1 : Value) (l2 : Value) (x y : Int32) (σ : Hs) : ru d 191 15 [l0, l1, l2] [.int y, .int x] σ = ru d 191 16 [l0, l1, l2] [.int (x &&& y)] σ := q_iand t191_15
theorem t191_16 : decode (mb 191) 16 = .ok (.istore_n 2, 1) := by decide +kernel
theorem s191_16 (d : Nat) (l0 : Value) (i1 : Int32) (l2 : Value) (x : Int32) (σ : Hs) : ru d 191 16 [l0, .int i1, l2] [.int x] σ = ru d 191 17 [l0, .int i1, .int x] [] σ := q_istore_n t191_16 ⟨Nat.le_of_ble_eq_true rfl, rfl⟩ rfl
theorem t191_17 : decode (mb 191) 17 = .ok (.goto (-13), 3) := by decide +kernel
theorem s191_17 (d : Nat) (l0 : Value) (l1 : Value) (l2 : Value) (σ : Hs) : ru d 191 17 [l0, l1, l2] [] σ = ru d 191 4 [l0, l1, l2] [] σ := q_goto t191_17 (by decide +kernel)
theorem t191_20 : decode (mb 191) 20 = .ok (.iload_n 1, 1) := by decide +kernel
theorem s191_20 (d : Nat) (l0 : Value) (i1 : Int32) (l2 : Value) (σ : Hs) : ru d 191 20 [l0, .int i1, l2] [] σ = ru d 191 21 [l0, .int i1, l2] [.int i1] σ := q_iload_n t191_20 rfl
theorem t191_21 : decode (mb 191) 21 = .ok (.ireturn, 1) := by decide +kernel
theorem s191_21 (d : Nat) (l0 : Value) (l1 : Value) (l2 : Value) (x : Int32) (σ : Hs) : ru d 191 21 [l0, l1, l2] [.int x] σ = some (some (.int x), σ) := q_ireti t191_21 mr191
theorem c191 (d : Nat) (x0 : Int32) (σ : Hs) : callD (d + 1) 191 [.int x0] σ = ru d 191 0 [.int x0, uu, uu] [] σ := callD_ru ml191 rfl rfl (Nat.le_of_ble_eq_true rfl)
-- 192: Model.report(II)I
theorem t192_0 : decode (mb 192) 0 = .ok (.iload_n 1, 1) := by decide +kernel
theorem s192_0 (d : Nat) (l0 : Value) (i1 : Int32) (l2 : Value) (l3 : Value) (σ : Hs) : ru d 192 0 [l0, .int i1, l2, l3] [] σ = ru d 192 1 [l0, .int i1, l2, l3] [.int i1] σ := q_iload_n t192_0 rfl
theorem t192_1 : decode (mb 192) 1 = .ok (.invokestatic 278, 3) := by decide +kernel
theorem s192_1 (d : Nat) (l0 : Value) (l1 : Value) (l2 : Value) (l3 : Value) (v0 : Value) (σ : Hs) : ru d 192 1 [l0, l1, l2, l3] [v0] σ = kont (callD d 177 [v0] σ) d 192 4 [l0, l1, l2, l3] [] := q_invs t192_1 mo192 (by decide +kernel) K8_278 mj177 (Nat.le_of_ble_eq_true rfl) rfl rfl (Nat.le_of_ble_eq_true rfl)
theorem t192_4 : decode (mb 192) 4 = .ok (.ifCond .eq 12, 3) := by decide +kernel
theorem s192_4 (d : Nat) (l0 : Value) (l1 : Value) (l2 : Value) (l3 : Value) (x : Int32) (σ : Hs) : ru d 192 4 [l0, l1, l2, l3] [.int x] σ = if x = 0 then ru d 192 16 [l0, l1, l2, l3] [] σ else ru d 192 7 [l0, l1, l2, l3] [] σ := q_if_eq t192_4 (by decide +kernel)
theorem t192_7 : decode (mb 192) 7 = .ok (.iload_n 2, 1) := by decide +kernel
theorem s192_7 (d : Nat) (l0 : Value) (l1 : Value) (i2 : Int32) (l3 : Value) (σ : Hs) : ru d 192 7 [l0, l1, .int i2, l3] [] σ = ru d 192 8 [l0, l1, .int i2, l3] [.int i2] σ := q_iload_n t192_7 rfl
theorem t192_8 : decode (mb 192) 8 = .ok (.iconst 0, 1) := by decide +kernel
theorem s192_8 (d : Nat) (l0 : Value) (l1 : Value) (l2 : Value) (l3 : Value) (w0 : Value) (σ : Hs) : ru d 192 8 [l0, l1, l2, l3] [w0] σ = ru d 192 9 [l0, l1, l2, l3] [.int 0, w0] σ := q_iconst t192_8 (by decide +kernel)
theorem t192_9 : decode (mb 192) 9 = .ok (.iconst 3, 1) := by decide +kernel
theorem s192_9 (d : Nat) (l0 : Value) (l1 : Value) (l2 : Value) (l3 : Value) (w0 w1 : Value) (σ : Hs) : ru d 192 9 [l0, l1, l2, l3] [w0, w1] σ = ru d 192 10 [l0, l1, l2, l3] [.int 3, w0, w1] σ := q_iconst t192_9 (by decide +kernel)
theorem t192_10 : decode (mb 192) 10 = .ok (.invokestatic 81, 3) := by decide +kernel
theorem s192_10 (d : Nat) (l0 : Value) (l1 : Value) (l2 : Value) (l3 : Value) (v0 v1 v2 : Value) (σ : Hs) : ru d 192 10 [l0, l1, l2, l3] [v2, v1, v0] σ = kont (callD d 113 [v0, v1, v2] σ) d 192 13 [l0, l1, l2, l3] [] := q_invs t192_10 mo192 (by decide +kernel) K8_81 mj113 (Nat.le_of_ble_eq_true rfl) rfl rfl (Nat.le_of_ble_eq_true rfl)
theorem t192_13 : decode (mb 192) 13 = .ok (.ifCond .ne 10, 3) := by decide +kernel
theorem s192_13 (d : Nat) (l0 : Value) (l1 : Value) (l2 : Value) (l3 : Value) (x : Int32) (σ : Hs) : ru d 192 13 [l0, l1, l2, l3] [.int x] σ = if x = 0 then ru d 192 16 [l0, l1, l2, l3] [] σ else ru d 192 23 [l0, l1, l2, l3] [] σ := q_if_ne t192_13 (by decide +kernel)
theorem t192_16 : decode (mb 192) 16 = .ok (.aload_n 0, 1) := by decide +kernel
theorem s192_16 (d : Nat) (a0 : Nat) (l1 : Value) (l2 : Value) (l3 : Value) (σ : Hs) : ru d 192 16 [.ref a0, l1, l2, l3] [] σ = ru d 192 17 [.ref a0, l1, l2, l3] [.ref a0] σ := q_aload_n t192_16 rfl
theorem t192_17 : decode (mb 192) 17 = .ok (.ldc 104, 2) := by decide +kernel
theorem s192_17 (d : Nat) (l0 : Value) (l1 : Value) (l2 : Value) (l3 : Value) (w0 : Value) (σ : Hs) : ru d 192 17 [l0, l1, l2, l3] [w0] σ = ru d 192 19 [l0, l1, l2, l3] [.int (-1000001), w0] σ := q_ldc t192_17 mo192 C8_104
theorem t192_19 : decode (mb 192) 19 = .ok (.invokevirtual 105, 3) := by decide +kernel
theorem s192_19_o87 (d : Nat) (l0 : Value) (l1 : Value) (l2 : Value) (l3 : Value) (v1 : Value) (σ : Hs) : ru d 192 19 [l0, l1, l2, l3] [v1, .ref 87] σ = kont (callD d 112 [.ref 87, v1] σ) d 192 22 [l0, l1, l2, l3] [] := q_invv t192_19 mo192 K8_105 mj112 rfl rfl rfl rfl (Nat.le_of_ble_eq_true rfl)
theorem t192_22 : decode (mb 192) 22 = .ok (.ireturn, 1) := by decide +kernel
theorem s192_22 (d : Nat) (l0 : Value) (l1 : Value) (l2 : Value) (l3 : Value) (x : Int32) (σ : Hs) : ru d 192 22 [l0, l1, l2, l3] [.int x] σ = some (some (.int x), σ) := q_ireti t192_22 mr192
theorem t192_23 : decode (mb 192) 23 = .ok (.aload_n 0, 1) := by decide +kernel
theorem s192_23 (d : Nat) (a0 : Nat) (l1 : Value) (l2 : Value) (l3 : Value) (σ : Hs) : ru d 192 23 [.ref a0, l1, l2, l3] [] σ = ru d 192 24 [.ref a0, l1, l2, l3] [.ref a0] σ := q_aload_n t192_23 rfl
theorem t192_24 : decode (mb 192) 24 = .ok (.getfield 9, 3) := by decide +kernel
theorem s192_24_o87 (d : Nat) (l0 : Value) (l1 : Value) (l2 : Value) (l3 : Value) (σ : Hs) : ru d 192 24 [l0, l1, l2, l3] [.ref 87] σ = ru d 192 27 [l0, l1, l2, l3] [.ref 88] σ := q_getf t192_24 mo192 F8_9 rfl rfl
theorem t192_27 : decode (mb 192) 27 = .ok (.bipush 13, 2) := by decide +kernel
theorem s192_27 (d : Nat) (l0 : Value) (l1 : Value) (l2 : Value) (l3 : Value) (w0 : Value) (σ : Hs) : ru d 192 27 [l0, l1, l2, l3] [w0] σ = ru d 192 29 [l0, l1, l2, l3] [.int 13, w0] σ := q_bipush t192_27 (by decide +kernel)
theorem t192_29 : decode (mb 192) 29 = .ok (.iaload, 1) := by decide +kernel
theorem s192_29_o88 (d : Nat) (l0 : Value) (l1 : Value) (l2 : Value) (l3 : Value) (i : Int32) (σ : Hs) : ru d 192 29 [l0, l1, l2, l3] [.int i, .ref 88] σ = gd (vp_in i 545) (ru d 192 30 [l0, l1, l2, l3] [.int (σ 88 i.toNatClampNeg)] σ) := q_iald t192_29 rfl (by decide +kernel) rfl
theorem t192_30 : decode (mb 192) 30 = .ok (.istore_n 3, 1) := by decide +kernel
theorem s192_30 (d : Nat) (l0 : Value) (l1 : Value) (i2 : Int32) (l3 : Value) (x : Int32) (σ : Hs) : ru d 192 30 [l0, l1, .int i2, l3] [.int x] σ = ru d 192 31 [l0, l1, .int i2, .int x] [] σ := q_istore_n t192_30 ⟨Nat.le_of_ble_eq_true rfl, rfl⟩ rfl
theorem t192_31 : decode (mb 192) 31 = .ok (.iload_n 3, 1) := by decide +kernel
theorem s192_31 (d : Nat) (l0 : Value) (l1 : Value) (l2 : Value) (i3 : Int32) (σ : Hs) : ru d 192 31 [l0, l1, l2, .int i3] [] σ = ru d 192 32 [l0, l1, l2, .int i3] [.int i3] σ := q_iload_n t192_31 rfl
theorem t192_32 : decode (mb 192) 32 = .ok (.bipush 12, 2) := by decide +kernel
theorem s192_32 (d : Nat) (l0 : Value) (l1 : Value) (l2 : Value) (l3 : Value) (w0 : Value) (σ : Hs) : ru d 192 32 [l0, l1, l2, l3] [w0] σ = ru d 192 34 [l0, l1, l2, l3] [.int 12, w0] σ := q_bipush t192_32 (by decide +kernel)
theorem t192_34 : decode (mb 192) 34 = .ok (.if_icmp .ne 10, 3) := by decide +kernel
theorem s192_34 (d : Nat) (l0 : Value) (l1 : Value) (l2 : Value) (l3 : Value) (x y : Int32) (σ : Hs) : ru d 192 34 [l0, l1, l2, l3] [.int y, .int x] σ = if x = y then ru d 192 37 [l0, l1, l2, l3] [] σ else ru d 192 44 [l0, l1, l2, l3] [] σ := q_ic_ne t192_34 (by decide +kernel)
theorem t192_37 : decode (mb 192) 37 = .ok (.aload_n 0, 1) := by decide +kernel
theorem s192_37 (d : Nat) (a0 : Nat) (l1 : Value) (l2 : Value) (l3 : Value) (σ : Hs) : ru d 192 37 [.ref a0, l1, l2, l3] [] σ = ru d 192 38 [.ref a0, l1, l2, l3] [.ref a0] σ := q_aload_n t192_37 rfl
theorem t192_38 : decode (mb 192) 38 = .ok (.ldc 108, 2) := by decide +kernel
theorem s192_38 (d : Nat) (l0 : Value) (l1 : Value) (l2 : Value) (l3 : Value) (w0 : Value) (σ : Hs) : ru d 192 38 [l0, l1, l2, l3] [w0] σ = ru d 192 40 [l0, l1, l2, l3] [.int (-1000004), w0] σ := q_ldc t192_38 mo192 C8_108
theorem t192_40 : decode (mb 192) 40 = .ok (.invokevirtual 105, 3) := by decide +kernel
theorem s192_40_o87 (d : Nat) (l0 : Value) (l1 : Value) (l2 : Value) (l3 : Value) (v1 : Value) (σ : Hs) : ru d 192 40 [l0, l1, l2, l3] [v1, .ref 87] σ = kont (callD d 112 [.ref 87, v1] σ) d 192 43 [l0, l1, l2, l3] [] := q_invv t192_40 mo192 K8_105 mj112 rfl rfl rfl rfl (Nat.le_of_ble_eq_true rfl)
theorem t192_43 : decode (mb 192) 43 = .ok (.ireturn, 1) := by decide +kernel
theorem s192_43 (d : Nat) (l0 : Value) (l1 : Value) (l2 : Value) (l3 : Value) (x : Int32) (σ : Hs) : ru d 192 43 [l0, l1, l2, l3] [.int x] σ = some (some (.int x), σ) := q_ireti t192_43 mr192
theorem t192_44 : decode (mb 192) 44 = .ok (.aload_n 0, 1) := by decide +kernel
theorem s192_44 (d : Nat) (a0 : Nat) (l1 : Value) (l2 : Value) (l3 : Value) (σ : Hs) : ru d 192 44 [.ref a0, l1, l2, l3] [] σ = ru d 192 45 [.ref a0, l1, l2, l3] [.ref a0] σ := q_aload_n t192_44 rfl
theorem t192_45 : decode (mb 192) 45 = .ok (.getfield 9, 3) := by decide +kernel
theorem s192_45_o87 (d : Nat) (l0 : Value) (l1 : Value) (l2 : Value) (l3 : Value) (σ : Hs) : ru d 192 45 [l0, l1, l2, l3] [.ref 87] σ = ru d 192 48 [l0, l1, l2, l3] [.ref 88] σ := q_getf t192_45 mo192 F8_9 rfl rfl
theorem t192_48 : decode (mb 192) 48 = .ok (.sipush 251, 3) := by decide +kernel
theorem s192_48 (d : Nat) (l0 : Value) (l1 : Value) (l2 : Value) (l3 : Value) (w0 : Value) (σ : Hs) : ru d 192 48 [l0, l1, l2, l3] [w0] σ = ru d 192 51 [l0, l1, l2, l3] [.int 251, w0] σ := q_sipush t192_48 (by decide +kernel)
theorem t192_51 : decode (mb 192) 51 = .ok (.iconst 2, 1) := by decide +kernel
theorem s192_51 (d : Nat) (l0 : Value) (l1 : Value) (l2 : Value) (l3 : Value) (w0 w1 : Value) (σ : Hs) : ru d 192 51 [l0, l1, l2, l3] [w0, w1] σ = ru d 192 52 [l0, l1, l2, l3] [.int 2, w0, w1] σ := q_iconst t192_51 (by decide +kernel)
theorem t192_52 : decode (mb 192) 52 = .ok (.iload_n 3, 1) := by decide +kernel
theorem s192_52 (d : Nat) (l0 : Value) (l1 : Value) (l2 : Value) (i3 : Int32) (w0 w1 w2 : Value) (σ : Hs) : ru d 192 52 [l0, l1, l2, .int i3] [w0, w1, w2] σ = ru d 192 53 [l0, l1, l2, .int i3] [.int i3, w0, w1, w2] σ := q_iload_n t192_52 rfl
theorem t192_53 : decode (mb 192) 53 = .ok (.imul, 1) := by decide +kernel
theorem s192_53 (d : Nat) (l0 : Value) (l1 : Value) (l2 : Value) (l3 : Value) (x y : Int32) (w0 w1 : Value) (σ : Hs) : ru d 192 53 [l0, l1, l2, l3] [.int y, .int x, w0, w1] σ = ru d 192 54 [l0, l1, l2, l3] [.int (x * y), w0, w1] σ := q_imul t192_53
theorem t192_54 : decode (mb 192) 54 = .ok (.iadd, 1) := by decide +kernel
theorem s192_54 (d : Nat) (l0 : Value) (l1 : Value) (l2 : Value) (l3 : Value) (x y : Int32) (w0 : Value) (σ : Hs) : ru d 192 54 [l0, l1, l2, l3] [.int y, .int x, w0] σ = ru d 192 55 [l0, l1, l2, l3] [.int (x + y), w0] σ := q_iadd t192_54
theorem t192_55 : decode (mb 192) 55 = .ok (.iload_n 1, 1) := by decide +kernel
theorem s192_55 (d : Nat) (l0 : Value) (i1 : Int32) (l2 : Value) (l3 : Value) (w0 w1 : Value) (σ : Hs) : ru d 192 55 [l0, .int i1, l2, l3] [w0, w1] σ = ru d 192 56 [l0, .int i1, l2, l3] [.int i1, w0, w1] σ := q_iload_n t192_55 rfl
theorem t192_56 : decode (mb 192) 56 = .ok (.iastore, 1) := by decide +kernel
theorem s192_56_o88 (d : Nat) (l0 : Value) (l1 : Value) (l2 : Value) (l3 : Value) (i x : Int32) (σ : Hs) : ru d 192 56 [l0, l1, l2, l3] [.int x, .int i, .ref 88] σ = gd (vp_in i 545) (ru d 192 57 [l0, l1, l2, l3] [] (up2 σ 88 i.toNatClampNeg x)) := q_iast t192_56 (by decide +kernel) rfl rfl
theorem t192_57 : decode (mb 192) 57 = .ok (.aload_n 0, 1) := by decide +kernel
theorem s192_57 (d : Nat) (a0 : Nat) (l1 : Value) (l2 : Value) (l3 : Value) (σ : Hs) : ru d 192 57 [.ref a0, l1, l2, l3] [] σ = ru d 192 58 [.ref a0, l1, l2, l3] [.ref a0] σ := q_aload_n t192_57 rfl
theorem t192_58 : decode (mb 192) 58 = .ok (.getfield 9, 3) := by decide +kernel
theorem s192_58_o87 (d : Nat) (l0 : Value) (l1 : Value) (l2 : Value) (l3 : Value) (σ : Hs) : ru d 192 58 [l0, l1, l2, l3] [.ref 87] σ = ru d 192 61 [l0, l1, l2, l3] [.ref 88] σ := q_getf t192_58 mo192 F8_9 rfl rfl
theorem t192_61 : decode (mb 192) 61 = .ok (.sipush 251, 3) := by decide +kernel
theorem s192_61 (d : Nat) (l0 : Value) (l1 : Value) (l2 : Value) (l3 : Value) (w0 : Value) (σ : Hs) : ru d 192 61 [l0, l1, l2, l3] [w0] σ = ru d 192 64 [l0, l1, l2, l3] [.int 251, w0] σ := q_sipush t192_61 (by decide +kernel)
theorem t192_64 : decode (mb 192) 64 = .ok (.iconst 2, 1) := by decide +kernel
theorem s192_64 (d : Nat) (l0 : Value) (l1 : Value) (l2 : Value) (l3 : Value) (w0 w1 : Value) (σ : Hs) : ru d 192 64 [l0, l1, l2, l3] [w0, w1] σ = ru d 192 65 [l0, l1, l2, l3] [.int 2, w0, w1] σ := q_iconst t192_64 (by decide +kernel)
theorem t192_65 : decode (mb 192) 65 = .ok (.iload_n 3, 1) := by decide +kernel
theorem s192_65 (d : Nat) (l0 : Value) (l1 : Value) (l2 : Value) (i3 : Int32) (w0 w1 w2 : Value) (σ : Hs) : ru d 192 65 [l0, l1, l2, .int i3] [w0, w1, w2] σ = ru d 192 66 [l0, l1, l2, .int i3] [.int i3, w0, w1, w2] σ := q_iload_n t192_65 rfl
theorem t192_66 : decode (mb 192) 66 = .ok (.imul, 1) := by decide +kernel
theorem s192_66 (d : Nat) (l0 : Value) (l1 : Value) (l2 : Value) (l3 : Value) (x y : Int32) (w0 w1 : Value) (σ : Hs) : ru d 192 66 [l0, l1, l2, l3] [.int y, .int x, w0, w1] σ = ru d 192 67 [l0, l1, l2, l3] [.int (x * y), w0, w1] σ := q_imul t192_66
theorem t192_67 : decode (mb 192) 67 = .ok (.iadd, 1) := by decide +kernel
theorem s192_67 (d : Nat) (l0 : Value) (l1 : Value) (l2 : Value) (l3 : Value) (x y : Int32) (w0 : Value) (σ : Hs) : ru d 192 67 [l0, l1, l2, l3] [.int y, .int x, w0] σ = ru d 192 68 [l0, l1, l2, l3] [.int (x + y), w0] σ := q_iadd t192_67
theorem t192_68 : decode (mb 192) 68 = .ok (.iconst 1, 1) := by decide +kernel
theorem s192_68 (d : Nat) (l0 : Value) (l1 : Value) (l2 : Value) (l3 : Value) (w0 w1 : Value) (σ : Hs) : ru d 192 68 [l0, l1, l2, l3] [w0, w1] σ = ru d 192 69 [l0, l1, l2, l3] [.int 1, w0, w1] σ := q_iconst t192_68 (by decide +kernel)
theorem t192_69 : decode (mb 192) 69 = .ok (.iadd, 1) := by decide +kernel
theorem s192_69 (d : Nat) (l0 : Value) (l1 : Value) (l2 : Value) (l3 : Value) (x y : Int32) (w0 : Value) (σ : Hs) : ru d 192 69 [l0, l1, l2, l3] [.int y, .int x, w0] σ = ru d 192 70 [l0, l1, l2, l3] [.int (x + y), w0] σ := q_iadd t192_69
theorem t192_70 : decode (mb 192) 70 = .ok (.iload_n 2, 1) := by decide +kernel
theorem s192_70 (d : Nat) (l0 : Value) (l1 : Value) (i2 : Int32) (l3 : Value) (w0 w1 : Value) (σ : Hs) : ru d 192 70 [l0, l1, .int i2, l3] [w0, w1] σ = ru d 192 71 [l0, l1, .int i2, l3] [.int i2, w0, w1] σ := q_iload_n t192_70 rfl
theorem t192_71 : decode (mb 192) 71 = .ok (.iastore, 1) := by decide +kernel
theorem s192_71_o88 (d : Nat) (l0 : Value) (l1 : Value) (l2 : Value) (l3 : Value) (i x : Int32) (σ : Hs) : ru d 192 71 [l0, l1, l2, l3] [.int x, .int i, .ref 88] σ = gd (vp_in i 545) (ru d 192 72 [l0, l1, l2, l3] [] (up2 σ 88 i.toNatClampNeg x)) := q_iast t192_71 (by decide +kernel) rfl rfl
theorem t192_72 : decode (mb 192) 72 = .ok (.aload_n 0, 1) := by decide +kernel
theorem s192_72 (d : Nat) (a0 : Nat) (l1 : Value) (l2 : Value) (l3 : Value) (σ : Hs) : ru d 192 72 [.ref a0, l1, l2, l3] [] σ = ru d 192 73 [.ref a0, l1, l2, l3] [.ref a0] σ := q_aload_n t192_72 rfl
theorem t192_73 : decode (mb 192) 73 = .ok (.getfield 9, 3) := by decide +kernel
theorem s192_73_o87 (d : Nat) (l0 : Value) (l1 : Value) (l2 : Value) (l3 : Value) (σ : Hs) : ru d 192 73 [l0, l1, l2, l3] [.ref 87] σ = ru d 192 76 [l0, l1, l2, l3] [.ref 88] σ := q_getf t192_73 mo192 F8_9 rfl rfl
theorem t192_76 : decode (mb 192) 76 = .ok (.bipush 13, 2) := by decide +kernel
theorem s192_76 (d : Nat) (l0 : Value) (l1 : Value) (l2 : Value) (l3 : Value) (w0 : Value) (σ : Hs) : ru d 192 76 [l0, l1, l2, l3] [w0] σ = ru d 192 78 [l0, l1, l2, l3] [.int 13, w0] σ := q_bipush t192_76 (by decide +kernel)
theorem t192_78 : decode (mb 192) 78 = .ok (.dup2, 1) := by decide +kernel
theorem s192_78 (d : Nat) (l0 : Value) (l1 : Value) (l2 : Value) (l3 : Value) (x0 : Int32) (x1 : Nat) (σ : Hs) : ru d 192 78 [l0, l1, l2, l3] [.int x0, .ref x1] σ = ru d 192 79 [l0, l1, l2, l3] [.int x0, .ref x1, .int x0, .ref x1] σ := q_dup2 t192_78 rfl rfl
theorem t192_79 : decode (mb 192) 79 = .ok (.iaload, 1) := by decide +kernel
theorem s192_79_o88 (d : Nat) (l0 : Value) (l1 : Value) (l2 : Value) (l3 : Value) (i : Int32) (w0 w1 : Value) (σ : Hs) : ru d 192 79 [l0, l1, l2, l3] [.int i, .ref 88, w0, w1] σ = gd (vp_in i 545) (ru d 192 80 [l0, l1, l2, l3] [.int (σ 88 i.toNatClampNeg), w0, w1] σ) := q_iald t192_79 rfl (by decide +kernel) rfl
theorem t192_80 : decode (mb 192) 80 = .ok (.iconst 1, 1) := by decide +kernel
theorem s192_80 (d : Nat) (l0 : Value) (l1 : Value) (l2 : Value) (l3 : Value) (w0 w1 w2 : Value) (σ : Hs) : ru d 192 80 [l0, l1, l2, l3] [w0, w1, w2] σ = ru d 192 81 [l0, l1, l2, l3] [.int 1, w0, w1, w2] σ := q_iconst t192_80 (by decide +kernel)
theorem t192_81 : decode (mb 192) 81 = .ok (.iadd, 1) := by decide +kernel
theorem s192_81 (d : Nat) (l0 : Value) (l1 : Value) (l2 : Value) (l3 : Value) (x y : Int32) (w0 w1 : Value) (σ : Hs) : ru d 192 81 [l0, l1, l2, l3] [.int y, .int x, w0, w1] σ = ru d 192 82 [l0, l1, l2, l3] [.int (x + y), w0, w1] σ := q_iadd t192_81
theorem t192_82 : decode (mb 192) 82 = .ok (.iastore, 1) := by decide +kernel
theorem s192_82_o88 (d : Nat) (l0 : Value) (l1 : Value) (l2 : Value) (l3 : Value) (i x : Int32) (σ : Hs) : ru d 192 82 [l0, l1, l2, l3] [.int x, .int i, .ref 88] σ = gd (vp_in i 545) (ru d 192 83 [l0, l1, l2, l3] [] (up2 σ 88 i.toNatClampNeg x)) := q_iast t192_82 (by decide +kernel) rfl rfl
theorem t192_83 : decode (mb 192) 83 = .ok (.iload_n 3, 1) := by decide +kernel
theorem s192_83 (d : Nat) (l0 : Value) (l1 : Value) (l2 : Value) (i3 : Int32) (σ : Hs) : ru d 192 83 [l0, l1, l2, .int i3] [] σ = ru d 192 84 [l0, l1, l2, .int i3] [.int i3] σ := q_iload_n t192_83 rfl
theorem t192_84 : decode (mb 192) 84 = .ok (.ireturn, 1) := by decide +kernel
theorem s192_84 (d : Nat) (l0 : Value) (l1 : Value) (l2 : Value) (l3 : Value) (x : Int32) (σ : Hs) : ru d 192 84 [l0, l1, l2, l3] [.int x] σ = some (some (.int x), σ) := q_ireti t192_84 mr192
theorem c192 (d : Nat) (x0 : Nat) (x1 : Int32) (x2 : Int32) (σ : Hs) : callD (d + 1) 192 [.ref x0, .int x1, .int x2] σ = ru d 192 0 [.ref x0, .int x1, .int x2, uu] [] σ := callD_ru ml192 rfl rfl (Nat.le_of_ble_eq_true rfl)
-- 193: Model.from(I)I
theorem t193_0 : decode (mb 193) 0 = .ok (.iconst 0, 1) := by decide +kernel
theorem s193_0 (d : Nat) (l0 : Value) (l1 : Value) (l2 : Value) (l3 : Value) (l4 : Value) (σ : Hs) : ru d 193 0 [l0, l1, l2, l3, l4] [] σ = ru d 193 1 [l0, l1, l2, l3, l4] [.int 0] σ := q_iconst t193_0 (by decide +kernel)
theorem t193_1 : decode (mb 193) 1 = .ok (.istore_n 2, 1) := by decide +kernel
theorem s193_1 (d : Nat) (l0 : Value) (i1 : Int32) (l2 : Value) (l3 : Value) (l4 : Value) (x : Int32) (σ : Hs) : ru d 193 1 [l0, .int i1, l2, l3, l4] [.int x] σ = ru d 193 2 [l0, .int i1, .int x, l3, l4] [] σ := q_istore_n t193_1 ⟨Nat.le_of_ble_eq_true rfl, rfl⟩ rfl
theorem t193_2 : decode (mb 193) 2 = .ok (.iconst 0, 1) := by decide +kernel
theorem s193_2 (d : Nat) (l0 : Value) (l1 : Value) (l2 : Value) (l3 : Value) (l4 : Value) (σ : Hs) : ru d 193 2 [l0, l1, l2, l3, l4] [] σ = ru d 193 3 [l0, l1, l2, l3, l4] [.int 0] σ := q_iconst t193_2 (by decide +kernel)
theorem t193_3 : decode (mb 193) 3 = .ok (.istore_n 3, 1) := by decide +kernel
theorem s193_3 (d : Nat) (l0 : Value) (l1 : Value) (i2 : Int32) (l3 : Value) (l4 : Value) (x : Int32) (σ : Hs) : ru d 193 3 [l0, l1, .int i2, l3, l4] [.int x] σ = ru d 193 4 [l0, l1, .int i2, .int x, l4] [] σ := q_istore_n t193_3 ⟨Nat.le_of_ble_eq_true rfl, rfl⟩ rfl
theorem t193_4 : decode (mb 193) 4 = .ok (.iload_n 3, 1) := by decide +kernel
theorem s193_4 (d : Nat) (l0 : Value) (l1 : Value) (l2 : Value) (i3 : Int32) (l4 : Value) (σ : Hs) : ru d 193 4 [l0, l1, l2, .int i3, l4] [] σ = ru d 193 5 [l0, l1, l2, .int i3, l4] [.int i3] σ := q_iload_n t193_4 rfl
theorem t193_5 : decode (mb 193) 5 = .ok (.bipush 9, 2) := by decide +kernel
theorem s193_5 (d : Nat) (l0 : Value) (l1 : Value) (l2 : Value) (l3 : Value) (l4 : Value) (w0 : Value) (σ : Hs) : ru d 193 5 [l0, l1, l2, l3, l4] [w0] σ = ru d 193 7 [l0, l1, l2, l3, l4] [.int 9, w0] σ := q_bipush t193_5 (by decide +kernel)
theorem t193_7 : decode (mb 193) 7 = .ok (.if_icmp .ge 73, 3) := by decide +kernel
theorem s193_7 (d : Nat) (l0 : Value) (l1 : Value) (l2 : Value) (l3 : Value) (l4 : Value) (x y : Int32) (σ : Hs) : ru d 193 7 [l0, l1, l2, l3, l4] [.int y, .int x] σ = if y ≤ x then ru d 193 80 [l0, l1, l2, l3, l4] [] σ else ru d 193 10 [l0, l1, l2, l3, l4] [] σ := q_ic_ge t193_7 (by decide +kernel)
theorem t193_10 : decode (mb 193) 10 = .ok (.iload_n 3, 1) := by decide +kernel
theorem s193_10 (d : Nat) (l0 : Value) (l1 : Value) (l2 : Value) (i3 : Int32) (l4 : Value) (σ : Hs) : ru d 193 10 [l0, l1, l2, .int i3, l4] [] σ = ru d 193 11 [l0, l1, l2, .int i3, l4] [.int i3] σ := q_iload_n t193_10 rfl
theorem t193_11 : decode (mb 193) 11 = .ok (.istore 4, 2) := by decide +kernel
theorem s193_11 (d : Nat) (l0 : Value) (l1 : Value) (l2 : Value) (i3 : Int32) (l4 : Value) (x : Int32) (σ : Hs) : ru d 193 11 [l0, l1, l2, .int i3, l4] [.int x] σ = ru d 193 13 [l0, l1, l2, .int i3, .int x] [] σ := q_istore t193_11 ⟨Nat.le_of_ble_eq_true rfl, rfl⟩ rfl
theorem t193_13 : decode (mb 193) 13 = .ok (.iload 4, 2) := by decide +kernel
theorem s193_13 (d : Nat) (l0 : Value) (l1 : Value) (l2 : Value) (l3 : Value) (i4 : Int32) (σ : Hs) : ru d 193 13 [l0, l1, l2, l3, .int i4] [] σ = ru d 193 15 [l0, l1, l2, l3, .int i4] [.int i4] σ := q_iload t193_13 rfl
theorem t193_15 : decode (mb 193) 15 = .ok (.ifCond .lt 44, 3) := by decide +kernel
theorem s193_15 (d : Nat) (l0 : Value) (l1 : Value) (l2 : Value) (l3 : Value) (l4 : Value) (x : Int32) (σ : Hs) : ru d 193 15 [l0, l1, l2, l3, l4] [.int x] σ = if x < 0 then ru d 193 59 [l0, l1, l2, l3, l4] [] σ else ru d 193 18 [l0, l1, l2, l3, l4] [] σ := q_if_lt t193_15 (by decide +kernel)
theorem t193_18 : decode (mb 193) 18 = .ok (.iload 4, 2) := by decide +kernel
theorem s193_18 (d : Nat) (l0 : Value) (l1 : Value) (l2 : Value) (l3 : Value) (i4 : Int32) (σ : Hs) : ru d 193 18 [l0, l1, l2, l3, .int i4] [] σ = ru d 193 20 [l0, l1, l2, l3, .int i4] [.int i4] σ := q_iload t193_18 rfl
theorem t193_20 : decode (mb 193) 20 = .ok (.aload_n 0, 1) := by decide +kernel
theorem s193_20 (d : Nat) (a0 : Nat) (l1 : Value) (l2 : Value) (l3 : Value) (l4 : Value) (w0 : Value) (σ : Hs) : ru d 193 20 [.ref a0, l1, l2, l3, l4] [w0] σ = ru d 193 21 [.ref a0, l1, l2, l3, l4] [.ref a0, w0] σ := q_aload_n t193_20 rfl
theorem t193_21 : decode (mb 193) 21 = .ok (.getfield 9, 3) := by decide +kernel
theorem s193_21_o87 (d : Nat) (l0 : Value) (l1 : Value) (l2 : Value) (l3 : Value) (l4 : Value) (w0 : Value) (σ : Hs) : ru d 193 21 [l0, l1, l2, l3, l4] [.ref 87, w0] σ = ru d 193 24 [l0, l1, l2, l3, l4] [.ref 88, w0] σ := q_getf t193_21 mo193 F8_9 rfl rfl
theorem t193_24 : decode (mb 193) 24 = .ok (.sipush 251, 3) := by decide +kernel
theorem s193_24 (d : Nat) (l0 : Value) (l1 : Value) (l2 : Value) (l3 : Value) (l4 : Value) (w0 w1 : Value) (σ : Hs) : ru d 193 24 [l0, l1, l2, l3, l4] [w0, w1] σ = ru d 193 27 [l0, l1, l2, l3, l4] [.int 251, w0, w1] σ := q_sipush t193_24 (by decide +kernel)
theorem t193_27 : decode (mb 193) 27 = .ok (.iconst 2, 1) := by decide +kernel
theorem s193_27 (d : Nat) (l0 : Value) (l1 : Value) (l2 : Value) (l3 : Value) (l4 : Value) (w0 w1 w2 : Value) (σ : Hs) : ru d 193 27 [l0, l1, l2, l3, l4] [w0, w1, w2] σ = ru d 193 28 [l0, l1, l2, l3, l4] [.int 2, w0, w1, w2] σ := q_iconst t193_27 (by decide +kernel)
theorem t193_28 : decode (mb 193) 28 = .ok (.iload_n 1, 1) := by decide +kernel
theorem s193_28 (d : Nat) (l0 : Value) (i1 : Int32) (l2 : Value) (l3 : Value) (l4 : Value) (w0 w1 w2 w3 : Value) (σ : Hs) : ru d 193 28 [l0, .int i1, l2, l3, l4] [w0, w1, w2, w3] σ = ru d 193 29 [l0, .int i1, l2, l3, l4] [.int i1, w0, w1, w2, w3] σ := q_iload_n t193_28 rfl
theorem t193_29 : decode (mb 193) 29 = .ok (.imul, 1) := by decide +kernel
theorem s193_29 (d : Nat) (l0 : Value) (l1 : Value) (l2 : Value) (l3 : Value) (l4 : Value) (x y : Int32) (w0 w1 w2 : Value) (σ : Hs) : ru d 193 29 [l0, l1, l2, l3, l4] [.int y, .int x, w0, w1, w2] σ = ru d 193 30 [l0, l1, l2, l3, l4] [.int (x * y), w0, w1, w2] σ := q_imul t193_29
theorem t193_30 : decode (mb 193) 30 = .ok (.iadd, 1) := by decide +kernel
theorem s193_30 (d : Nat) (l0 : Value) (l1 : Value) (l2 : Value) (l3 : Value) (l4 : Value) (x y : Int32) (w0 w1 : Value) (σ : Hs) : ru d 193 30 [l0, l1, l2, l3, l4] [.int y, .int x, w0, w1] σ = ru d 193 31 [l0, l1, l2, l3, l4] [.int (x + y), w0, w1] σ := q_iadd t193_30
theorem t193_31 : decode (mb 193) 31 = .ok (.iaload, 1) := by decide +kernel
theorem s193_31_o88 (d : Nat) (l0 : Value) (l1 : Value) (l2 : Value) (l3 : Value) (l4 : Value) (i : Int32) (w0 : Value) (σ : Hs) : ru d 193 31 [l0, l1, l2, l3, l4] [.int i, .ref 88, w0] σ = gd (vp_in i 545) (ru d 193 32 [l0, l1, l2, l3, l4] [.int (σ 88 i.toNatClampNeg), w0] σ) := q_iald t193_31 rfl (by decide +kernel) rfl
theorem t193_32 : decode (mb 193) 32 = .ok (.if_icmp .eq 27, 3) := by decide +kernel
theorem s193_32 (d : Nat) (l0 : Value) (l1 : Value) (l2 : Value) (l3 : Value) (l4 : Value) (x y : Int32) (σ : Hs) : ru d 193 32 [l0, l1, l2, l3, l4] [.int y, .int x] σ = if x = y then ru d 193 59 [l0, l1, l2, l3, l4] [] σ else ru d 193 35 [l0, l1, l2, l3, l4] [] σ := q_ic_eq t193_32 (by decide +kernel)
theorem t193_35 : decode (mb 193) 35 = .ok (.iload 4, 2) := by decide +kernel
theorem s193_35 (d : Nat) (l0 : Value) (l1 : Value) (l2 : Value) (l3 : Value) (i4 : Int32) (σ : Hs) : ru d 193 35 [l0, l1, l2, l3, .int i4] [] σ = ru d 193 37 [l0, l1, l2, l3, .int i4] [.int i4] σ := q_iload t193_35 rfl
theorem t193_37 : decode (mb 193) 37 = .ok (.aload_n 0, 1) := by decide +kernel
theorem s193_37 (d : Nat) (a0 : Nat) (l1 : Value) (l2 : Value) (l3 : Value) (l4 : Value) (w0 : Value) (σ : Hs) : ru d 193 37 [.ref a0, l1, l2, l3, l4] [w0] σ = ru d 193 38 [.ref a0, l1, l2, l3, l4] [.ref a0, w0] σ := q_aload_n t193_37 rfl
theorem t193_38 : decode (mb 193) 38 = .ok (.getfield 9, 3) := by decide +kernel
theorem s193_38_o87 (d : Nat) (l0 : Value) (l1 : Value) (l2 : Value) (l3 : Value) (l4 : Value) (w0 : Value) (σ : Hs) : ru d 193 38 [l0, l1, l2, l3, l4] [.ref 87, w0] σ = ru d 193 41 [l0, l1, l2, l3, l4] [.ref 88, w0] σ := q_getf t193_38 mo193 F8_9 rfl rfl
theorem t193_41 : decode (mb 193) 41 = .ok (.sipush 251, 3) := by decide +kernel
theorem s193_41 (d : Nat) (l0 : Value) (l1 : Value) (l2 : Value) (l3 : Value) (l4 : Value) (w0 w1 : Value) (σ : Hs) : ru d 193 41 [l0, l1, l2, l3, l4] [w0, w1] σ = ru d 193 44 [l0, l1, l2, l3, l4] [.int 251, w0, w1] σ := q_sipush t193_41 (by decide +kernel)
theorem t193_44 : decode (mb 193) 44 = .ok (.iconst 2, 1) := by decide +kernel
theorem s193_44 (d : Nat) (l0 : Value) (l1 : Value) (l2 : Value) (l3 : Value) (l4 : Value) (w0 w1 w2 : Value) (σ : Hs) : ru d 193 44 [l0, l1, l2, l3, l4] [w0, w1, w2] σ = ru d 193 45 [l0, l1, l2, l3, l4] [.int 2, w0, w1, w2] σ := q_iconst t193_44 (by decide +kernel)
theorem t193_45 : decode (mb 193) 45 = .ok (.iload_n 1, 1) := by decide +kernel
theorem s193_45 (d : Nat) (l0 : Value) (i1 : Int32) (l2 : Value) (l3 : Value) (l4 : Value) (w0 w1 w2 w3 : Value) (σ : Hs) : ru d 193 45 [l0, .int i1, l2, l3, l4] [w0, w1, w2, w3] σ = ru d 193 46 [l0, .int i1, l2, l3, l4] [.int i1, w0, w1, w2, w3] σ := q_iload_n t193_45 rfl
theorem t193_46 : decode (mb 193) 46 = .ok (.imul, 1) := by decide +kernel
theorem s193_46 (d : Nat) (l0 : Value) (l1 : Value) (l2 : Value) (l3 : Value) (l4 : Value) (x y : Int32) (w0 w1 w2 : Value) (σ : Hs) : ru d 193 46 [l0, l1, l2, l3, l4] [.int y, .int x, w0, w1, w2] σ = ru d 193 47 [l0, l1, l2, l3, l4] [.int (x * y), w0, w1, w2] σ := q_imul t193_46
theorem t193_47 : decode (mb 193) 47 = .ok (.iadd, 1) := by decide +kernel
theorem s193_47 (d : Nat) (l0 : Value) (l1 : Value) (l2 : Value) (l3 : Value) (l4 : Value) (x y : Int32) (w0 w1 : Value) (σ : Hs) : ru d 193 47 [l0, l1, l2, l3, l4] [.int y, .int x, w0, w1] σ = ru d 193 48 [l0, l1, l2, l3, l4] [.int (x + y), w0, w1] σ := q_iadd t193_47
theorem t193_48 : decode (mb 193) 48 = .ok (.iconst 1, 1) := by decide +kernel
theorem s193_48 (d : Nat) (l0 : Value) (l1 : Value) (l2 : Value) (l3 : Value) (l4 : Value) (w0 w1 w2 : Value) (σ : Hs) : ru d 193 48 [l0, l1, l2, l3, l4] [w0, w1, w2] σ = ru d 193 49 [l0, l1, l2, l3, l4] [.int 1, w0, w1, w2] σ := q_iconst t193_48 (by decide +kernel)
theorem t193_49 : decode (mb 193) 49 = .ok (.iadd, 1) := by decide +kernel
theorem s193_49 (d : Nat) (l0 : Value) (l1 : Value) (l2 : Value) (l3 : Value) (l4 : Value) (x y : Int32) (w0 w1 : Value) (σ : Hs) : ru d 193 49 [l0, l1, l2, l3, l4] [.int y, .int x, w0, w1] σ = ru d 193 50 [l0, l1, l2, l3, l4] [.int (x + y), w0, w1] σ := q_iadd t193_49
theorem t193_50 : decode (mb 193) 50 = .ok (.iaload, 1) := by decide +kernel
theorem s193_50_o88 (d : Nat) (l0 : Value) (l1 : Value) (l2 : Value) (l3 : Value) (l4 : Value) (i : Int32) (w0 : Value) (σ : Hs) : ru d 193 50 [l0, l1, l2, l3, l4] [.int i, .ref 88, w0] σ = gd (vp_in i 545) (ru d 193 51 [l0, l1, l2, l3, l4] [.int (σ 88 i.toNatClampNeg), w0] σ) := q_iald t193_50 rfl (by decide +kernel) rfl
theorem t193_51 : decode (mb 193) 51 = .ok (.invokestatic 252, 3) := by decide +kernel
theorem s193_51 (d : Nat) (l0 : Value) (l1 : Value) (l2 : Value) (l3 : Value) (l4 : Value) (v0 v1 : Value) (σ : Hs) : ru d 193 51 [l0, l1, l2, l3, l4] [v1, v0] σ = kont (callD d 168 [v0, v1] σ) d 193 54 [l0, l1, l2, l3, l4] [] := q_invs t193_51 mo193 (by decide +kernel) K8_252 mj168 (Nat.le_of_ble_eq_true rfl) rfl rfl (Nat.le_of_ble_eq_true rfl)
theorem t193_54 : decode (mb 193) 54 = .ok (.istore 4, 2) := by decide +kernel
theorem s193_54 (d : Nat) (l0 : Value) (l1 : Value) (l2 : Value) (i3 : Int32) (l4 : Value) (x : Int32) (σ : Hs) : ru d 193 54 [l0, l1, l2, .int i3, l4] [.int x] σ = ru d 193 56 [l0, l1, l2, .int i3, .int x] [] σ := q_istore t193_54 ⟨Nat.le_of_ble_eq_true rfl, rfl⟩ rfl
theorem t193_56 : decode (mb 193) 56 = .ok (.goto (-43), 3) := by decide +kernel
theorem s193_56 (d : Nat) (l0 : Value) (l1 : Value) (l2 : Value) (l3 : Value) (l4 : Value) (σ : Hs) : ru d 193 56 [l0, l1, l2, l3, l4] [] σ = ru d 193 13 [l0, l1, l2, l3, l4] [] σ := q_goto t193_56 (by decide +kernel)
theorem t193_59 : decode (mb 193) 59 = .ok (.iload_n 2, 1) := by decide +kernel
theorem s193_59 (d : Nat) (l0 : Value) (l1 : Value) (i2 : Int32) (l3 : Value) (l4 : Value) (σ : Hs) : ru d 193 59 [l0, l1, .int i2, l3, l4] [] σ = ru d 193 60 [l0, l1, .int i2, l3, l4] [.int i2] σ := q_iload_n t193_59 rfl
theorem t193_60 : decode (mb 193) 60 = .ok (.iload 4, 2) := by decide +kernel
theorem s193_60 (d : Nat) (l0 : Value) (l1 : Value) (l2 : Value) (l3 : Value) (i4 : Int32) (w0 : Value) (σ : Hs) : ru d 193 60 [l0, l1, l2, l3, .int i4] [w0] σ = ru d 193 62 [l0, l1, l2, l3, .int i4] [.int i4, w0] σ := q_iload t193_60 rfl
theorem t193_62 : decode (mb 193) 62 = .ok (.ifCond .lt 9, 3) := by decide +kernel
theorem s193_62 (d : Nat) (l0 : Value) (l1 : Value) (l2 : Value) (l3 : Value) (l4 : Value) (x : Int32) (w0 : Value) (σ : Hs) : ru d 193 62 [l0, l1, l2, l3, l4] [.int x, w0] σ = if x < 0 then ru d 193 71 [l0, l1, l2, l3, l4] [w0] σ else ru d 193 65 [l0, l1, l2, l3, l4] [w0] σ := q_if_lt t193_62 (by decide +kernel)
theorem t193_65 : decode (mb 193) 65 = .ok (.iconst 1, 1) := by decide +kernel
theorem s193_65 (d : Nat) (l0 : Value) (l1 : Value) (l2 : Value) (l3 : Value) (l4 : Value) (w0 : Value) (σ : Hs) : ru d 193 65 [l0, l1, l2, l3, l4] [w0] σ = ru d 193 66 [l0, l1, l2, l3, l4] [.int 1, w0] σ := q_iconst t193_65 (by decide +kernel)
theorem t193_66 : decode (mb 193) 66 = .ok (.iload_n 3, 1) := by decide +kernel
theorem s193_66 (d : Nat) (l0 : Value) (l1 : Value) (l2 : Value) (i3 : Int32) (l4 : Value) (w0 w1 : Value) (σ : Hs) : ru d 193 66 [l0, l1, l2, .int i3, l4] [w0, w1] σ = ru d 193 67 [l0, l1, l2, .int i3, l4] [.int i3, w0, w1] σ := q_iload_n t193_66 rfl
theorem t193_67 : decode (mb 193) 67 = .ok (.ishl, 1) := by decide +kernel
theorem s193_67 (d : Nat) (l0 : Value) (l1 : Value) (l2 : Value) (l3 : Value) (l4 : Value) (x y : Int32) (w0 : Value) (σ : Hs) : ru d 193 67 [l0, l1, l2, l3, l4] [.int y, .int x, w0] σ = ru d 193 68 [l0, l1, l2, l3, l4] [.int (x <<< (y &&& 31)), w0] σ := q_ishl t193_67
theorem t193_68 : decode (mb 193) 68 = .ok (.goto 4, 3) := by decide +kernel
theorem s193_68 (d : Nat) (l0 : Value) (l1 : Value) (l2 : Value) (l3 : Value) (l4 : Value) (w0 w1 : Value) (σ : Hs) : ru d 193 68 [l0, l1, l2, l3, l4] [w0, w1] σ = ru d 193 72 [l0, l1, l2, l3, l4] [w0, w1] σ := q_goto t193_68 (by decide +kernel)
theorem t193_71 : decode (mb 193) 71 = .ok (.iconst 0, 1) := by decide +kernel
theorem s193_71 (d : Nat) (l0 : Value) (l1 : Value) (l2 : Value) (l3 : Value) (l4 : Value) (w0 : Value) (σ : Hs) : ru d 193 71 [l0, l1, l2, l3, l4] [w0] σ = ru d 193 72 [l0, l1, l2, l3, l4] [.int 0, w0] σ := q_iconst t193_71 (by decide +kernel)
theorem t193_72 : decode (mb 193) 72 = .ok (.ior, 1) := by decide +kernel
theorem s193_72 (d : Nat) (l0 : Value) (l1 : Value) (l2 : Value) (l3 : Value) (l4 : Value) (x y : Int32) (σ : Hs) : ru d 193 72 [l0, l1, l2, l3, l4] [.int y, .int x] σ = ru d 193 73 [l0, l1, l2, l3, l4] [.int (x ||| y)] σ := q_ior t193_72
theorem t193_73 : decode (mb 193) 73 = .ok (.istore_n 2, 1) := by decide +kernel
theorem s193_73 (d : Nat) (l0 : Value) (i1 : Int32) (l2 : Value) (l3 : Value) (l4 : Value) (x : Int32) (σ : Hs) : ru d 193 73 [l0, .int i1, l2, l3, l4] [.int x] σ = ru d 193 74 [l0, .int i1, .int x, l3, l4] [] σ := q_istore_n t193_73 ⟨Nat.le_of_ble_eq_true rfl, rfl⟩ rfl
theorem t193_74 : decode (mb 193) 74 = .ok (.iinc 3 1, 3) := by decide +kernel
theorem s193_74 (d : Nat) (l0 : Value) (l1 : Value) (i2 : Int32) (i3 : Int32) (l4 : Value) (σ : Hs) : ru d 193 74 [l0, l1, .int i2, .int i3, l4] [] σ = ru d 193 77 [l0, l1, .int i2, .int (i3 + 1), l4] [] σ := q_iinc t193_74 ⟨Nat.le_of_ble_eq_true rfl, rfl⟩ rfl (by decide +kernel) rfl
theorem t193_77 : decode (mb 193) 77 = .ok (.goto (-73), 3) := by decide +kernel
theorem s193_77 (d : Nat) (l0 : Value) (l1 : Value) (l2 : Value) (l3 : Value) (l4 : Value) (σ : Hs) : ru d 193 77 [l0, l1, l2, l3, l4] [] σ = ru d 193 4 [l0, l1, l2, l3, l4] [] σ := q_goto t193_77 (by decide +kernel)
theorem t193_80 : decode (mb 193) 80 = .ok (.iload_n 2, 1) := by decide +kernel
theorem s193_80 (d : Nat) (l0 : Value) (l1 : Value) (i2 : Int32) (l3 : Value) (l4 : Value) (σ : Hs) : ru d 193 80 [l0, l1, .int i2, l3, l4] [] σ = ru d 193 81 [l0, l1, .int i2, l3, l4] [.int i2] σ := q_iload_n t193_80 rfl
theorem t193_81 : decode (mb 193) 81 = .ok (.ireturn, 1) := by decide +kernel
theorem s193_81 (d : Nat) (l0 : Value) (l1 : Value) (l2 : Value) (l3 : Value) (l4 : Value) (x : Int32) (σ : Hs) : ru d 193 81 [l0, l1, l2, l3, l4] [.int x] σ = some (some (.int x), σ) := q_ireti t193_81 mr193
theorem c193 (d : Nat) (x0 : Nat) (x1 : Int32) (σ : Hs) : callD (d + 1) 193 [.ref x0, .int x1] σ = ru d 193 0 [.ref x0, .int x1, uu, uu, uu] [] σ := callD_ru ml193 rfl rfl (Nat.le_of_ble_eq_true rfl)
-- 194: Model.suspectsBut(I)I
theorem t194_0 : decode (mb 194) 0 = .ok (.sipush 511, 3) := by decide +kernel
theorem s194_0 (d : Nat) (l0 : Value) (l1 : Value) (l2 : Value) (l3 : Value) (σ : Hs) : ru d 194 0 [l0, l1, l2, l3] [] σ = ru d 194 3 [l0, l1, l2, l3] [.int 511] σ := q_sipush t194_0 (by decide +kernel)
theorem t194_3 : decode (mb 194) 3 = .ok (.istore_n 2, 1) := by decide +kernel
theorem s194_3 (d : Nat) (l0 : Value) (i1 : Int32) (l2 : Value) (l3 : Value) (x : Int32) (σ : Hs) : ru d 194 3 [l0, .int i1, l2, l3] [.int x] σ = ru d 194 4 [l0, .int i1, .int x, l3] [] σ := q_istore_n t194_3 ⟨Nat.le_of_ble_eq_true rfl, rfl⟩ rfl
theorem t194_4 : decode (mb 194) 4 = .ok (.iconst 0, 1) := by decide +kernel
theorem s194_4 (d : Nat) (l0 : Value) (l1 : Value) (l2 : Value) (l3 : Value) (σ : Hs) : ru d 194 4 [l0, l1, l2, l3] [] σ = ru d 194 5 [l0, l1, l2, l3] [.int 0] σ := q_iconst t194_4 (by decide +kernel)
theorem t194_5 : decode (mb 194) 5 = .ok (.istore_n 3, 1) := by decide +kernel
theorem s194_5 (d : Nat) (l0 : Value) (l1 : Value) (i2 : Int32) (l3 : Value) (x : Int32) (σ : Hs) : ru d 194 5 [l0, l1, .int i2, l3] [.int x] σ = ru d 194 6 [l0, l1, .int i2, .int x] [] σ := q_istore_n t194_5 ⟨Nat.le_of_ble_eq_true rfl, rfl⟩ rfl
theorem t194_6 : decode (mb 194) 6 = .ok (.iload_n 3, 1) := by decide +kernel
theorem s194_6 (d : Nat) (l0 : Value) (l1 : Value) (l2 : Value) (i3 : Int32) (σ : Hs) : ru d 194 6 [l0, l1, l2, .int i3] [] σ = ru d 194 7 [l0, l1, l2, .int i3] [.int i3] σ := q_iload_n t194_6 rfl
theorem t194_7 : decode (mb 194) 7 = .ok (.aload_n 0, 1) := by decide +kernel
theorem s194_7 (d : Nat) (a0 : Nat) (l1 : Value) (l2 : Value) (l3 : Value) (w0 : Value) (σ : Hs) : ru d 194 7 [.ref a0, l1, l2, l3] [w0] σ = ru d 194 8 [.ref a0, l1, l2, l3] [.ref a0, w0] σ := q_aload_n t194_7 rfl
theorem t194_8 : decode (mb 194) 8 = .ok (.getfield 9, 3) := by decide +kernel
theorem s194_8_o87 (d : Nat) (l0 : Value) (l1 : Value) (l2 : Value) (l3 : Value) (w0 : Value) (σ : Hs) : ru d 194 8 [l0, l1, l2, l3] [.ref 87, w0] σ = ru d 194 11 [l0, l1, l2, l3] [.ref 88, w0] σ := q_getf t194_8 mo194 F8_9 rfl rfl
theorem t194_11 : decode (mb 194) 11 = .ok (.bipush 13, 2) := by decide +kernel
theorem s194_11 (d : Nat) (l0 : Value) (l1 : Value) (l2 : Value) (l3 : Value) (w0 w1 : Value) (σ : Hs) : ru d 194 11 [l0, l1, l2, l3] [w0, w1] σ = ru d 194 13 [l0, l1, l2, l3] [.int 13, w0, w1] σ := q_bipush t194_11 (by decide +kernel)
theorem t194_13 : decode (mb 194) 13 = .ok (.iaload, 1) := by decide +kernel
theorem s194_13_o88 (d : Nat) (l0 : Value) (l1 : Value) (l2 : Value) (l3 : Value) (i : Int32) (w0 : Value) (σ : Hs) : ru d 194 13 [l0, l1, l2, l3] [.int i, .ref 88, w0] σ = gd (vp_in i 545) (ru d 194 14 [l0, l1, l2, l3] [.int (σ 88 i.toNatClampNeg), w0] σ) := q_iald t194_13 rfl (by decide +kernel) rfl
theorem t194_14 : decode (mb 194) 14 = .ok (.if_icmp .ge 26, 3) := by decide +kernel
theorem s194_14 (d : Nat) (l0 : Value) (l1 : Value) (l2 : Value) (l3 : Value) (x y : Int32) (σ : Hs) : ru d 194 14 [l0, l1, l2, l3] [.int y, .int x] σ = if y ≤ x then ru d 194 40 [l0, l1, l2, l3] [] σ else ru d 194 17 [l0, l1, l2, l3] [] σ := q_ic_ge t194_14 (by decide +kernel)
theorem t194_17 : decode (mb 194) 17 = .ok (.iload_n 2, 1) := by decide +kernel
theorem s194_17 (d : Nat) (l0 : Value) (l1 : Value) (i2 : Int32) (l3 : Value) (σ : Hs) : ru d 194 17 [l0, l1, .int i2, l3] [] σ = ru d 194 18 [l0, l1, .int i2, l3] [.int i2] σ := q_iload_n t194_17 rfl
theorem t194_18 : decode (mb 194) 18 = .ok (.iload_n 3, 1) := by decide +kernel
theorem s194_18 (d : Nat) (l0 : Value) (l1 : Value) (l2 : Value) (i3 : Int32) (w0 : Value) (σ : Hs) : ru d 194 18 [l0, l1, l2, .int i3] [w0] σ = ru d 194 19 [l0, l1, l2, .int i3] [.int i3, w0] σ := q_iload_n t194_18 rfl
theorem t194_19 : decode (mb 194) 19 = .ok (.iload_n 1, 1) := by decide +kernel
theorem s194_19 (d : Nat) (l0 : Value) (i1 : Int32) (l2 : Value) (l3 : Value) (w0 w1 : Value) (σ : Hs) : ru d 194 19 [l0, .int i1, l2, l3] [w0, w1] σ = ru d 194 20 [l0, .int i1, l2, l3] [.int i1, w0, w1] σ := q_iload_n t194_19 rfl
theorem t194_20 : decode (mb 194) 20 = .ok (.if_icmp .ne 7, 3) := by decide +kernel
theorem s194_20 (d : Nat) (l0 : Value) (l1 : Value) (l2 : Value) (l3 : Value) (x y : Int32) (w0 : Value) (σ : Hs) : ru d 194 20 [l0, l1, l2, l3] [.int y, .int x, w0] σ = if x = y then ru d 194 23 [l0, l1, l2, l3] [w0] σ else ru d 194 27 [l0, l1, l2, l3] [w0] σ := q_ic_ne t194_20 (by decide +kernel)
theorem t194_23 : decode (mb 194) 23 = .ok (.iconst (-1), 1) := by decide +kernel
theorem s194_23 (d : Nat) (l0 : Value) (l1 : Value) (l2 : Value) (l3 : Value) (w0 : Value) (σ : Hs) : ru d 194 23 [l0, l1, l2, l3] [w0] σ = ru d 194 24 [l0, l1, l2, l3] [.int (-1), w0] σ := q_iconst t194_23 (by decide +kernel)
theorem t194_24 : decode (mb 194) 24 = .ok (.goto 8, 3) := by decide +kernel
theorem s194_24 (d : Nat) (l0 : Value) (l1 : Value) (l2 : Value) (l3 : Value) (w0 w1 : Value) (σ : Hs) : ru d 194 24 [l0, l1, l2, l3] [w0, w1] σ = ru d 194 32 [l0, l1, l2, l3] [w0, w1] σ := q_goto t194_24 (by decide +kernel)
theorem t194_27 : decode (mb 194) 27 = .ok (.aload_n 0, 1) := by decide +kernel
theorem s194_27 (d : Nat) (a0 : Nat) (l1 : Value) (l2 : Value) (l3 : Value) (w0 : Value) (σ : Hs) : ru d 194 27 [.ref a0, l1, l2, l3] [w0] σ = ru d 194 28 [.ref a0, l1, l2, l3] [.ref a0, w0] σ := q_aload_n t194_27 rfl
theorem t194_28 : decode (mb 194) 28 = .ok (.iload_n 3, 1) := by decide +kernel
theorem s194_28 (d : Nat) (l0 : Value) (l1 : Value) (l2 : Value) (i3 : Int32) (w0 w1 : Value) (σ : Hs) : ru d 194 28 [l0, l1, l2, .int i3] [w0, w1] σ = ru d 194 29 [l0, l1, l2, .int i3] [.int i3, w0, w1] σ := q_iload_n t194_28 rfl
theorem t194_29 : decode (mb 194) 29 = .ok (.invokevirtual 297, 3) := by decide +kernel
theorem s194_29_o87 (d : Nat) (l0 : Value) (l1 : Value) (l2 : Value) (l3 : Value) (v1 : Value) (w0 : Int32) (σ : Hs) : ru d 194 29 [l0, l1, l2, l3] [v1, .ref 87, .int w0] σ = kont (callD d 193 [.ref 87, v1] σ) d 194 32 [l0, l1, l2, l3] [.int w0] := q_invv t194_29 mo194 K8_297 mj193 rfl rfl rfl rfl (Nat.le_of_ble_eq_true rfl)
theorem t194_32 : decode (mb 194) 32 = .ok (.iand, 1) := by decide +kernel
theorem s194_32 (d : Nat) (l0 : Value) (l1 : Value) (l2 : Value) (l3 : Value) (x y : Int32) (σ : Hs) : ru d 194 32 [l0, l1, l2, l3] [.int y, .int x] σ = ru d 194 33 [l0, l1, l2, l3] [.int (x &&& y)] σ := q_iand t194_32
theorem t194_33 : decode (mb 194) 33 = .ok (.istore_n 2, 1) := by decide +kernel
theorem s194_33 (d : Nat) (l0 : Value) (i1 : Int32) (l2 : Value) (l3 : Value) (x : Int32) (σ : Hs) : ru d 194 33 [l0, .int i1, l2, l3] [.int x] σ = ru d 194 34 [l0, .int i1, .int x, l3] [] σ := q_istore_n t194_33 ⟨Nat.le_of_ble_eq_true rfl, rfl⟩ rfl
theorem t194_34 : decode (mb 194) 34 = .ok (.iinc 3 1, 3) := by decide +kernel
theorem s194_34 (d : Nat) (l0 : Value) (l1 : Value) (i2 : Int32) (i3 : Int32) (σ : Hs) : ru d 194 34 [l0, l1, .int i2, .int i3] [] σ = ru d 194 37 [l0, l1, .int i2, .int (i3 + 1)] [] σ := q_iinc t194_34 ⟨Nat.le_of_ble_eq_true rfl, rfl⟩ rfl (by decide +kernel) rfl
theorem t194_37 : decode (mb 194) 37 = .ok (.goto (-31), 3) := by decide +kernel
theorem s194_37 (d : Nat) (l0 : Value) (l1 : Value) (l2 : Value) (l3 : Value) (σ : Hs) : ru d 194 37 [l0, l1, l2, l3] [] σ = ru d 194 6 [l0, l1, l2, l3] [] σ := q_goto t194_37 (by decide +kernel)
theorem t194_40 : decode (mb 194) 40 = .ok (.iload_n 2, 1) := by decide +kernel
theorem s194_40 (d : Nat) (l0 : Value) (l1 : Value) (i2 : Int32) (l3 : Value) (σ : Hs) : ru d 194 40 [l0, l1, .int i2, l3] [] σ = ru d 194 41 [l0, l1, .int i2, l3] [.int i2] σ := q_iload_n t194_40 rfl
theorem t194_41 : decode (mb 194) 41 = .ok (.ireturn, 1) := by decide +kernel
theorem s194_41 (d : Nat) (l0 : Value) (l1 : Value) (l2 : Value) (l3 : Value) (x : Int32) (σ : Hs) : ru d 194 41 [l0, l1, l2, l3] [.int x] σ = some (some (.int x), σ) := q_ireti t194_41 mr194
theorem c194 (d : Nat) (x0 : Nat) (x1 : Int32) (σ : Hs) : callD (d + 1) 194 [.ref x0, .int x1] σ = ru d 194 0 [.ref x0, .int x1, uu, uu] [] σ := callD_ru ml194 rfl rfl (Nat.le_of_ble_eq_true rfl)
-- 195: Model.suspects()I
theorem t195_0 : decode (mb 195) 0 = .ok (.aload_n 0, 1) := by decide +kernel
theorem s195_0 (d : Nat) (a0 : Nat) (σ : Hs) : ru d 195 0 [.ref a0] [] σ = ru d 195 1 [.ref a0] [.ref a0] σ := q_aload_n t195_0 rfl
theorem t195_1 : decode (mb 195) 1 = .ok (.iconst (-1), 1) := by decide +kernel
theorem s195_1 (d : Nat) (l0 : Value) (w0 : Value) (σ : Hs) : ru d 195 1 [l0] [w0] σ = ru d 195 2 [l0] [.int (-1), w0] σ := q_iconst t195_1 (by decide +kernel)
theorem t195_2 : decode (mb 195) 2 = .ok (.invokevirtual 300, 3) := by decide +kernel
theorem s195_2_o87 (d : Nat) (l0 : Value) (v1 : Value) (σ : Hs) : ru d 195 2 [l0] [v1, .ref 87] σ = kont (callD d 194 [.ref 87, v1] σ) d 195 5 [l0] [] := q_invv t195_2 mo195 K8_300 mj194 rfl rfl rfl rfl (Nat.le_of_ble_eq_true rfl)
theorem t195_5 : decode (mb 195) 5 = .ok (.ireturn, 1) := by decide +kernel
theorem s195_5 (d : Nat) (l0 : Value) (x : Int32) (σ : Hs) : ru d 195 5 [l0] [.int x] σ = some (some (.int x), σ) := q_ireti t195_5 mr195
theorem c195 (d : Nat) (x0 : Nat) (σ : Hs) : callD (d + 1) 195 [.ref x0] σ = ru d 195 0 [.ref x0] [] σ := callD_ru ml195 rfl rfl (Nat.le_of_ble_eq_true rfl)
-- 196: Model.liar()I
theorem t196_0 : decode (mb 196) 0 = .ok (.iconst (-1), 1) := by decide +kernel
theorem s196_0 (d : Nat) (l0 : Value) (l1 : Value) (l2 : Value) (l3 : Value) (l4 : Value) (σ : Hs) : ru d 196 0 [l0, l1, l2, l3, l4] [] σ = ru d 196 1 [l0, l1, l2, l3, l4] [.int (-1)] σ := q_iconst t196_0 (by decide +kernel)
theorem t196_1 : decode (mb 196) 1 = .ok (.istore_n 1, 1) := by decide +kernel
theorem s196_1 (d : Nat) (a0 : Nat) (l1 : Value) (l2 : Value) (l3 : Value) (l4 : Value) (x : Int32) (σ : Hs) : ru d 196 1 [.ref a0, l1, l2, l3, l4] [.int x] σ = ru d 196 2 [.ref a0, .int x, l2, l3, l4] [] σ := q_istore_n t196_1 ⟨Nat.le_of_ble_eq_true rfl, rfl⟩ rfl
theorem t196_2 : decode (mb 196) 2 = .ok (.iconst (-1), 1) := by decide +kernel
theorem s196_2 (d : Nat) (l0 : Value) (l1 : Value) (l2 : Value) (l3 : Value) (l4 : Value) (σ : Hs) : ru d 196 2 [l0, l1, l2, l3, l4] [] σ = ru d 196 3 [l0, l1, l2, l3, l4] [.int (-1)] σ := q_iconst t196_2 (by decide +kernel)
theorem t196_3 : decode (mb 196) 3 = .ok (.istore_n 2, 1) := by decide +kernel
theorem s196_3 (d : Nat) (l0 : Value) (i1 : Int32) (l2 : Value) (l3 : Value) (l4 : Value) (x : Int32) (σ : Hs) : ru d 196 3 [l0, .int i1, l2, l3, l4] [.int x] σ = ru d 196 4 [l0, .int i1, .int x, l3, l4] [] σ := q_istore_n t196_3 ⟨Nat.le_of_ble_eq_true rfl, rfl⟩ rfl
theorem t196_4 : decode (mb 196) 4 = .ok (.iconst 0, 1) := by decide +kernel
theorem s196_4 (d : Nat) (l0 : Value) (l1 : Value) (l2 : Value) (l3 : Value) (l4 : Value) (σ : Hs) : ru d 196 4 [l0, l1, l2, l3, l4] [] σ = ru d 196 5 [l0, l1, l2, l3, l4] [.int 0] σ := q_iconst t196_4 (by decide +kernel)
theorem t196_5 : decode (mb 196) 5 = .ok (.istore_n 3, 1) := by decide +kernel
theorem s196_5 (d : Nat) (l0 : Value) (l1 : Value) (i2 : Int32) (l3 : Value) (l4 : Value) (x : Int32) (σ : Hs) : ru d 196 5 [l0, l1, .int i2, l3, l4] [.int x] σ = ru d 196 6 [l0, l1, .int i2, .int x, l4] [] σ := q_istore_n t196_5 ⟨Nat.le_of_ble_eq_true rfl, rfl⟩ rfl
theorem t196_6 : decode (mb 196) 6 = .ok (.iload_n 3, 1) := by decide +kernel
theorem s196_6 (d : Nat) (l0 : Value) (l1 : Value) (l2 : Value) (i3 : Int32) (l4 : Value) (σ : Hs) : ru d 196 6 [l0, l1, l2, .int i3, l4] [] σ = ru d 196 7 [l0, l1, l2, .int i3, l4] [.int i3] σ := q_iload_n t196_6 rfl
theorem t196_7 : decode (mb 196) 7 = .ok (.aload_n 0, 1) := by decide +kernel
theorem s196_7 (d : Nat) (a0 : Nat) (l1 : Value) (l2 : Value) (l3 : Value) (l4 : Value) (w0 : Value) (σ : Hs) : ru d 196 7 [.ref a0, l1, l2, l3, l4] [w0] σ = ru d 196 8 [.ref a0, l1, l2, l3, l4] [.ref a0, w0] σ := q_aload_n t196_7 rfl
theorem t196_8 : decode (mb 196) 8 = .ok (.getfield 9, 3) := by decide +kernel
theorem s196_8_o87 (d : Nat) (l0 : Value) (l1 : Value) (l2 : Value) (l3 : Value) (l4 : Value) (w0 : Value) (σ : Hs) : ru d 196 8 [l0, l1, l2, l3, l4] [.ref 87, w0] σ = ru d 196 11 [l0, l1, l2, l3, l4] [.ref 88, w0] σ := q_getf t196_8 mo196 F8_9 rfl rfl
theorem t196_11 : decode (mb 196) 11 = .ok (.bipush 13, 2) := by decide +kernel
theorem s196_11 (d : Nat) (l0 : Value) (l1 : Value) (l2 : Value) (l3 : Value) (l4 : Value) (w0 w1 : Value) (σ : Hs) : ru d 196 11 [l0, l1, l2, l3, l4] [w0, w1] σ = ru d 196 13 [l0, l1, l2, l3, l4] [.int 13, w0, w1] σ := q_bipush t196_11 (by decide +kernel)
theorem t196_13 : decode (mb 196) 13 = .ok (.iaload, 1) := by decide +kernel
theorem s196_13_o88 (d : Nat) (l0 : Value) (l1 : Value) (l2 : Value) (l3 : Value) (l4 : Value) (i : Int32) (w0 : Value) (σ : Hs) : ru d 196 13 [l0, l1, l2, l3, l4] [.int i, .ref 88, w0] σ = gd (vp_in i 545) (ru d 196 14 [l0, l1, l2, l3, l4] [.int (σ 88 i.toNatClampNeg), w0] σ) := q_iald t196_13 rfl (by decide +kernel) rfl
theorem t196_14 : decode (mb 196) 14 = .ok (.if_icmp .ge 30, 3) := by decide +kernel
theorem s196_14 (d : Nat) (l0 : Value) (l1 : Value) (l2 : Value) (l3 : Value) (l4 : Value) (x y : Int32) (σ : Hs) : ru d 196 14 [l0, l1, l2, l3, l4] [.int y, .int x] σ = if y ≤ x then ru d 196 44 [l0, l1, l2, l3, l4] [] σ else ru d 196 17 [l0, l1, l2, l3, l4] [] σ := q_ic_ge t196_14 (by decide +kernel)
theorem t196_17 : decode (mb 196) 17 = .ok (.aload_n 0, 1) := by decide +kernel
theorem s196_17 (d : Nat) (a0 : Nat) (l1 : Value) (l2 : Value) (l3 : Value) (l4 : Value) (σ : Hs) : ru d 196 17 [.ref a0, l1, l2, l3, l4] [] σ = ru d 196 18 [.ref a0, l1, l2, l3, l4] [.ref a0] σ := q_aload_n t196_17 rfl
theorem t196_18 : decode (mb 196) 18 = .ok (.iload_n 3, 1) := by decide +kernel
theorem s196_18 (d : Nat) (l0 : Value) (l1 : Value) (l2 : Value) (i3 : Int32) (l4 : Value) (w0 : Value) (σ : Hs) : ru d 196 18 [l0, l1, l2, .int i3, l4] [w0] σ = ru d 196 19 [l0, l1, l2, .int i3, l4] [.int i3, w0] σ := q_iload_n t196_18 rfl
theorem t196_19 : decode (mb 196) 19 = .ok (.invokevirtual 300, 3) := by decide +kernel
theorem s196_19_o87 (d : Nat) (l0 : Value) (l1 : Value) (l2 : Value) (l3 : Value) (l4 : Value) (v1 : Value) (σ : Hs) : ru d 196 19 [l0, l1, l2, l3, l4] [v1, .ref 87] σ = kont (callD d 194 [.ref 87, v1] σ) d 196 22 [l0, l1, l2, l3, l4] [] := q_invv t196_19 mo196 K8_300 mj194 rfl rfl rfl rfl (Nat.le_of_ble_eq_true rfl)
theorem t196_22 : decode (mb 196) 22 = .ok (.invokestatic 294, 3) := by decide +kernel
theorem s196_22 (d : Nat) (l0 : Value) (l1 : Value) (l2 : Value) (l3 : Value) (l4 : Value) (v0 : Value) (σ : Hs) : ru d 196 22 [l0, l1, l2, l3, l4] [v0] σ = kont (callD d 191 [v0] σ) d 196 25 [l0, l1, l2, l3, l4] [] := q_invs t196_22 mo196 (by decide +kernel) K8_294 mj191 (Nat.le_of_ble_eq_true rfl) rfl rfl (Nat.le_of_ble_eq_true rfl)
theorem t196_25 : decode (mb 196) 25 = .ok (.istore 4, 2) := by decide +kernel
theorem s196_25 (d : Nat) (l0 : Value) (l1 : Value) (l2 : Value) (i3 : Int32) (l4 : Value) (x : Int32) (σ : Hs) : ru d 196 25 [l0, l1, l2, .int i3, l4] [.int x] σ = ru d 196 27 [l0, l1, l2, .int i3, .int x] [] σ := q_istore t196_25 ⟨Nat.le_of_ble_eq_true rfl, rfl⟩ rfl
theorem t196_27 : decode (mb 196) 27 = .ok (.iload 4, 2) := by decide +kernel
theorem s196_27 (d : Nat) (l0 : Value) (l1 : Value) (l2 : Value) (l3 : Value) (i4 : Int32) (σ : Hs) : ru d 196 27 [l0, l1, l2, l3, .int i4] [] σ = ru d 196 29 [l0, l1, l2, l3, .int i4] [.int i4] σ := q_iload t196_27 rfl
theorem t196_29 : decode (mb 196) 29 = .ok (.iload_n 2, 1) := by decide +kernel
theorem s196_29 (d : Nat) (l0 : Value) (l1 : Value) (i2 : Int32) (l3 : Value) (l4 : Value) (w0 : Value) (σ : Hs) : ru d 196 29 [l0, l1, .int i2, l3, l4] [w0] σ = ru d 196 30 [l0, l1, .int i2, l3, l4] [.int i2, w0] σ := q_iload_n t196_29 rfl
theorem t196_30 : decode (mb 196) 30 = .ok (.if_icmp .le 8, 3) := by decide +kernel
theorem s196_30 (d : Nat) (l0 : Value) (l1 : Value) (l2 : Value) (l3 : Value) (l4 : Value) (x y : Int32) (σ : Hs) : ru d 196 30 [l0, l1, l2, l3, l4] [.int y, .int x] σ = if x ≤ y then ru d 196 38 [l0, l1, l2, l3, l4] [] σ else ru d 196 33 [l0, l1, l2, l3, l4] [] σ := q_ic_le t196_30 (by decide +kernel)
theorem t196_33 : decode (mb 196) 33 = .ok (.iload_n 3, 1) := by decide +kernel
theorem s196_33 (d : Nat) (l0 : Value) (l1 : Value) (l2 : Value) (i3 : Int32) (l4 : Value) (σ : Hs) : ru d 196 33 [l0, l1, l2, .int i3, l4] [] σ = ru d 196 34 [l0, l1, l2, .int i3, l4] [.int i3] σ := q_iload_n t196_33 rfl
theorem t196_34 : decode (mb 196) 34 = .ok (.istore_n 1, 1) := by decide +kernel
theorem s196_34 (d : Nat) (a0 : Nat) (l1 : Value) (l2 : Value) (l3 : Value) (l4 : Value) (x : Int32) (σ : Hs) : ru d 196 34 [.ref a0, l1, l2, l3, l4] [.int x] σ = ru d 196 35 [.ref a0, .int x, l2, l3, l4] [] σ := q_istore_n t196_34 ⟨Nat.le_of_ble_eq_true rfl, rfl⟩ rfl
theorem t196_35 : decode (mb 196) 35 = .ok (.iload 4, 2) := by decide +kernel
theorem s196_35 (d : Nat) (l0 : Value) (l1 : Value) (l2 : Value) (l3 : Value) (i4 : Int32) (σ : Hs) : ru d 196 35 [l0, l1, l2, l3, .int i4] [] σ = ru d 196 37 [l0, l1, l2, l3, .int i4] [.int i4] σ := q_iload t196_35 rfl
theorem t196_37 : decode (mb 196) 37 = .ok (.istore_n 2, 1) := by decide +kernel
theorem s196_37 (d : Nat) (l0 : Value) (i1 : Int32) (l2 : Value) (l3 : Value) (l4 : Value) (x : Int32) (σ : Hs) : ru d 196 37 [l0, .int i1, l2, l3, l4] [.int x] σ = ru d 196 38 [l0, .int i1, .int x, l3, l4] [] σ := q_istore_n t196_37 ⟨Nat.le_of_ble_eq_true rfl, rfl⟩ rfl
theorem t196_38 : decode (mb 196) 38 = .ok (.iinc 3 1, 3) := by decide +kernel
theorem s196_38 (d : Nat) (l0 : Value) (l1 : Value) (i2 : Int32) (i3 : Int32) (l4 : Value) (σ : Hs) : ru d 196 38 [l0, l1, .int i2, .int i3, l4] [] σ = ru d 196 41 [l0, l1, .int i2, .int (i3 + 1), l4] [] σ := q_iinc t196_38 ⟨Nat.le_of_ble_eq_true rfl, rfl⟩ rfl (by decide +kernel) rfl
theorem t196_41 : decode (mb 196) 41 = .ok (.goto (-35), 3) := by decide +kernel
theorem s196_41 (d : Nat) (l0 : Value) (l1 : Value) (l2 : Value) (l3 : Value) (l4 : Value) (σ : Hs) : ru d 196 41 [l0, l1, l2, l3, l4] [] σ = ru d 196 6 [l0, l1, l2, l3, l4] [] σ := q_goto t196_41 (by decide +kernel)
theorem t196_44 : decode (mb 196) 44 = .ok (.iload_n 1, 1) := by decide +kernel
theorem s196_44 (d : Nat) (l0 : Value) (i1 : Int32) (l2 : Value) (l3 : Value) (l4 : Value) (σ : Hs) : ru d 196 44 [l0, .int i1, l2, l3, l4] [] σ = ru d 196 45 [l0, .int i1, l2, l3, l4] [.int i1] σ := q_iload_n t196_44 rfl
theorem t196_45 : decode (mb 196) 45 = .ok (.ifCond .ge 12, 3) := by decide +kernel
theorem s196_45 (d : Nat) (l0 : Value) (l1 : Value) (l2 : Value) (l3 : Value) (l4 : Value) (x : Int32) (σ : Hs) : ru d 196 45 [l0, l1, l2, l3, l4] [.int x] σ = if 0 ≤ x then ru d 196 57 [l0, l1, l2, l3, l4] [] σ else ru d 196 48 [l0, l1, l2, l3, l4] [] σ := q_if_ge t196_45 (by decide +kernel)
theorem t196_48 : decode (mb 196) 48 = .ok (.aload_n 0, 1) := by decide +kernel
theorem s196_48 (d : Nat) (a0 : Nat) (l1 : Value) (l2 : Value) (l3 : Value) (l4 : Value) (σ : Hs) : ru d 196 48 [.ref a0, l1, l2, l3, l4] [] σ = ru d 196 49 [.ref a0, l1, l2, l3, l4] [.ref a0] σ := q_aload_n t196_48 rfl
theorem t196_49 : decode (mb 196) 49 = .ok (.ldc 116, 2) := by decide +kernel
theorem s196_49 (d : Nat) (l0 : Value) (l1 : Value) (l2 : Value) (l3 : Value) (l4 : Value) (w0 : Value) (σ : Hs) : ru d 196 49 [l0, l1, l2, l3, l4] [w0] σ = ru d 196 51 [l0, l1, l2, l3, l4] [.int (-1000002), w0] σ := q_ldc t196_49 mo196 C8_116
theorem t196_51 : decode (mb 196) 51 = .ok (.invokevirtual 105, 3) := by decide +kernel
theorem s196_51_o87 (d : Nat) (l0 : Value) (l1 : Value) (l2 : Value) (l3 : Value) (l4 : Value) (v1 : Value) (σ : Hs) : ru d 196 51 [l0, l1, l2, l3, l4] [v1, .ref 87] σ = kont (callD d 112 [.ref 87, v1] σ) d 196 54 [l0, l1, l2, l3, l4] [] := q_invv t196_51 mo196 K8_105 mj112 rfl rfl rfl rfl (Nat.le_of_ble_eq_true rfl)
theorem t196_54 : decode (mb 196) 54 = .ok (.goto 4, 3) := by decide +kernel
theorem s196_54 (d : Nat) (l0 : Value) (l1 : Value) (l2 : Value) (l3 : Value) (l4 : Value) (w0 : Value) (σ : Hs) : ru d 196 54 [l0, l1, l2, l3, l4] [w0] σ = ru d 196 58 [l0, l1, l2, l3, l4] [w0] σ := q_goto t196_54 (by decide +kernel)
theorem t196_57 : decode (mb 196) 57 = .ok (.iload_n 1, 1) := by decide +kernel
theorem s196_57 (d : Nat) (l0 : Value) (i1 : Int32) (l2 : Value) (l3 : Value) (l4 : Value) (σ : Hs) : ru d 196 57 [l0, .int i1, l2, l3, l4] [] σ = ru d 196 58 [l0, .int i1, l2, l3, l4] [.int i1] σ := q_iload_n t196_57 rfl
theorem t196_58 : decode (mb 196) 58 = .ok (.ireturn, 1) := by decide +kernel
theorem s196_58 (d : Nat) (l0 : Value) (l1 : Value) (l2 : Value) (l3 : Value) (l4 : Value) (x : Int32) (σ : Hs) : ru d 196 58 [l0, l1, l2, l3, l4] [.int x] σ = some (some (.int x), σ) := q_ireti t196_58 mr196
theorem c196 (d : Nat) (x0 : Nat) (σ : Hs) : callD (d + 1) 196 [.ref x0] σ = ru d 196 0 [.ref x0, uu, uu, uu, uu] [] σ := callD_ru ml196 rfl rfl (Nat.le_of_ble_eq_true rfl)
-- 197: Model.began(I)V
theorem t197_0 : decode (mb 197) 0 = .ok (.aload_n 0, 1) := by decide +kernel
theorem s197_0 (d : Nat) (a0 : Nat) (l1 : Value) (σ : Hs) : ru d 197 0 [.ref a0, l1] [] σ = ru d 197 1 [.ref a0, l1] [.ref a0] σ := q_aload_n t197_0 rfl
theorem t197_1 : decode (mb 197) 1 = .ok (.getfield 303, 3) := by decide +kernel
theorem s197_1_o87 (d : Nat) (l0 : Value) (l1 : Value) (σ : Hs) : ru d 197 1 [l0, l1] [.ref 87] σ = ru d 197 4 [l0, l1] [.int (σ 87 19)] σ := q_getf t197_1 mo197 F8_303 rfl rfl
theorem t197_4 : decode (mb 197) 4 = .ok (.bipush 30, 2) := by decide +kernel
theorem s197_4 (d : Nat) (l0 : Value) (l1 : Value) (w0 : Value) (σ : Hs) : ru d 197 4 [l0, l1] [w0] σ = ru d 197 6 [l0, l1] [.int 30, w0] σ := q_bipush t197_4 (by decide +kernel)
theorem t197_6 : decode (mb 197) 6 = .ok (.if_icmp .ge 23, 3) := by decide +kernel
theorem s197_6 (d : Nat) (l0 : Value) (l1 : Value) (x y : Int32) (σ : Hs) : ru d 197 6 [l0, l1] [.int y, .int x] σ = if y ≤ x then ru d 197 29 [l0, l1] [] σ else ru d 197 9 [l0, l1] [] σ := q_ic_ge t197_6 (by decide +kernel)
theorem t197_9 : decode (mb 197) 9 = .ok (.aload_n 0, 1) := by decide +kernel
theorem s197_9 (d : Nat) (a0 : Nat) (l1 : Value) (σ : Hs) : ru d 197 9 [.ref a0, l1] [] σ = ru d 197 10 [.ref a0, l1] [.ref a0] σ := q_aload_n t197_9 rfl
theorem t197_10 : decode (mb 197) 10 = .ok (.getfield 52, 3) := by decide +kernel
theorem s197_10_o87 (d : Nat) (l0 : Value) (l1 : Value) (σ : Hs) : ru d 197 10 [l0, l1] [.ref 87] σ = ru d 197 13 [l0, l1] [.ref 99] σ := q_getf t197_10 mo197 F8_52 rfl rfl
theorem t197_13 : decode (mb 197) 13 = .ok (.aload_n 0, 1) := by decide +kernel
theorem s197_13 (d : Nat) (a0 : Nat) (l1 : Value) (w0 : Value) (σ : Hs) : ru d 197 13 [.ref a0, l1] [w0] σ = ru d 197 14 [.ref a0, l1] [.ref a0, w0] σ := q_aload_n t197_13 rfl
theorem t197_14 : decode (mb 197) 14 = .ok (.getfield 303, 3) := by decide +kernel
theorem s197_14_o87 (d : Nat) (l0 : Value) (l1 : Value) (w0 : Value) (σ : Hs) : ru d 197 14 [l0, l1] [.ref 87, w0] σ = ru d 197 17 [l0, l1] [.int (σ 87 19), w0] σ := q_getf t197_14 mo197 F8_303 rfl rfl
theorem t197_17 : decode (mb 197) 17 = .ok (.iload_n 1, 1) := by decide +kernel
theorem s197_17 (d : Nat) (l0 : Value) (i1 : Int32) (w0 w1 : Value) (σ : Hs) : ru d 197 17 [l0, .int i1] [w0, w1] σ = ru d 197 18 [l0, .int i1] [.int i1, w0, w1] σ := q_iload_n t197_17 rfl
theorem t197_18 : decode (mb 197) 18 = .ok (.iastore, 1) := by decide +kernel
theorem s197_18_o99 (d : Nat) (l0 : Value) (l1 : Value) (i x : Int32) (σ : Hs) : ru d 197 18 [l0, l1] [.int x, .int i, .ref 99] σ = gd (vp_in i 30) (ru d 197 19 [l0, l1] [] (up2 σ 99 i.toNatClampNeg x)) := q_iast t197_18 (by decide +kernel) rfl rfl
theorem t197_19 : decode (mb 197) 19 = .ok (.aload_n 0, 1) := by decide +kernel
theorem s197_19 (d : Nat) (a0 : Nat) (l1 : Value) (σ : Hs) : ru d 197 19 [.ref a0, l1] [] σ = ru d 197 20 [.ref a0, l1] [.ref a0] σ := q_aload_n t197_19 rfl
theorem t197_20 : decode (mb 197) 20 = .ok (.dup, 1) := by decide +kernel
theorem s197_20 (d : Nat) (l0 : Value) (l1 : Value) (x : Nat) (σ : Hs) : ru d 197 20 [l0, l1] [.ref x] σ = ru d 197 21 [l0, l1] [.ref x, .ref x] σ := q_dup t197_20 rfl
theorem t197_21 : decode (mb 197) 21 = .ok (.getfield 303, 3) := by decide +kernel
theorem s197_21_o87 (d : Nat) (l0 : Value) (l1 : Value) (w0 : Value) (σ : Hs) : ru d 197 21 [l0, l1] [.ref 87, w0] σ = ru d 197 24 [l0, l1] [.int (σ 87 19), w0] σ := q_getf t197_21 mo197 F8_303 rfl rfl
theorem t197_24 : decode (mb 197) 24 = .ok (.iconst 1, 1) := by decide +kernel
theorem s197_24 (d : Nat) (l0 : Value) (l1 : Value) (w0 w1 : Value) (σ : Hs) : ru d 197 24 [l0, l1] [w0, w1] σ = ru d 197 25 [l0, l1] [.int 1, w0, w1] σ := q_iconst t197_24 (by decide +kernel)
theorem t197_25 : decode (mb 197) 25 = .ok (.iadd, 1) := by decide +kernel
theorem s197_25 (d : Nat) (l0 : Value) (l1 : Value) (x y : Int32) (w0 : Value) (σ : Hs) : ru d 197 25 [l0, l1] [.int y, .int x, w0] σ = ru d 197 26 [l0, l1] [.int (x + y), w0] σ := q_iadd t197_25
theorem t197_26 : decode (mb 197) 26 = .ok (.putfield 303, 3) := by decide +kernel
theorem s197_26_o87 (d : Nat) (l0 : Value) (l1 : Value) (x : Int32) (σ : Hs) : ru d 197 26 [l0, l1] [.int x, .ref 87] σ = ru d 197 29 [l0, l1] [] (up2 σ 87 19 x) := q_puti t197_26 mo197 F8_303 (by decide +kernel) rfl rfl
theorem t197_29 : decode (mb 197) 29 = .ok (.return_, 1) := by decide +kernel
theorem s197_29 (d : Nat) (l0 : Value) (l1 : Value) (σ : Hs) : ru d 197 29 [l0, l1] [] σ = some (none, σ) := q_vret t197_29 mr197
theorem c197 (d : Nat) (x0 : Nat) (x1 : Int32) (σ : Hs) : callD (d + 1) 197 [.ref x0, .int x1] σ = ru d 197 0 [.ref x0, .int x1] [] σ := callD_ru ml197 rfl rfl (Nat.le_of_ble_eq_true rfl)
-- 198: Model.hasOwn(II)Z
theorem t198_0 : decode (mb 198) 0 = .ok (.iload_n 0, 1) := by decide +kernel
theorem s198_0 (d : Nat) (i0 : Int32) (l1 : Value) (σ : Hs) : ru d 198 0 [.int i0, l1] [] σ = ru d 198 1 [.int i0, l1] [.int i0] σ := q_iload_n t198_0 rfl
theorem t198_1 : decode (mb 198) 1 = .ok (.tableswitch 100 0 5 #[39, 41, 56, 67, 78, 89], 39) := by decide +kernel
theorem f198_1 (x : Int32) : (tsw 0 5 #[39, 41, 56, 67, 78, 89] 100 x.toInt).bind (tgt 1) = some (if x = 0 then 40 else (if x = 1 then 42 else (if x = 2 then 57 else (if x = 3 then 68 else (if x = 4 then 79 else (if x = 5 then 90 else 101)))))) := by
  by_cases h0 : x = 0
  · subst h0; decide +kernel
  by_cases h1 : x = 1
  · subst h1; decide +kernel
  by_cases h2 : x = 2
  · subst h2; decide +kernel
  by_cases h3 : x = 3
  · subst h3; decide +kernel
  by_cases h4 : x = 4
  · subst h4; decide +kernel
  by_cases h5 : x = 5
  · subst h5; decide +kernel
  have e0 : ¬ x.toInt = 0 := fun h => h0 (Int32.toInt_inj.mp (h.trans (by decide +kernel)))
  have e1 : ¬ x.toInt = 1 := fun h => h1 (Int32.toInt_inj.mp (h.trans (by decide +kernel)))
  have e2 : ¬ x.toInt = 2 := fun h => h2 (Int32.toInt_inj.mp (h.trans (by decide +kernel)))
  have e3 : ¬ x.toInt = 3 := fun h => h3 (Int32.toInt_inj.mp (h.trans (by decide +kernel)))
  have e4 : ¬ x.toInt = 4 := fun h => h4 (Int32.toInt_inj.mp (h.trans (by decide +kernel)))
  have e5 : ¬ x.toInt = 5 := fun h => h5 (Int32.toInt_inj.mp (h.trans (by decide +kernel)))
  have e : x.toInt < 0 ∨ 5 < x.toInt := by omega
  unfold tsw
  rw [if_pos e, if_neg h0, if_neg h1, if_neg h2, if_neg h3, if_neg h4, if_neg h5]
  decide +kernel
theorem s198_1 (d : Nat) (l0 : Value) (l1 : Value) (x : Int32) (σ : Hs) : ru d 198 1 [l0, l1] [.int x] σ = if x = 0 then ru d 198 40 [l0, l1] [] σ else if x = 1 then ru d 198 42 [l0, l1] [] σ else if x = 2 then ru d 198 57 [l0, l1] [] σ else if x = 3 then ru d 198 68 [l0, l1] [] σ else if x = 4 then ru d 198 79 [l0, l1] [] σ else if x = 5 then ru d 198 90 [l0, l1] [] σ else ru d 198 101 [l0, l1] [] σ := by
  refine (q_tsw t198_1 (fun x => (if x = 0 then 40 else (if x = 1 then 42 else (if x = 2 then 57 else (if x = 3 then 68 else (if x = 4 then 79 else (if x = 5 then 90 else 101))))))) (f198_1 x)).trans ?_
  by_cases h0 : x = 0
  · rw [if_pos h0, if_pos h0]
  rw [if_neg h0, if_neg h0]
  by_cases h1 : x = 1
  · rw [if_pos h1, if_pos h1]
  rw [if_neg h1, if_neg h1]
  by_cases h2 : x = 2
  · rw [if_pos h2, if_pos h2]
  rw [if_neg h2, if_neg h2]
  by_cases h3 : x = 3
  · rw [if_pos h3, if_pos h3]
  rw [if_neg h3, if_neg h3]
  by_cases h4 : x = 4
  · rw [if_pos h4, if_pos h4]
  rw [if_neg h4, if_neg h4]
  by_cases h5 : x = 5
  · rw [if_pos h5, if_pos h5]
  rw [if_neg h5, if_neg h5]
theorem t198_40 : decode (mb 198) 40 = .ok (.iconst 1, 1) := by decide +kernel
theorem s198_40 (d : Nat) (l0 : Value) (l1 : Value) (σ : Hs) : ru d 198 40 [l0, l1] [] σ = ru d 198 41 [l0, l1] [.int 1] σ := q_iconst t198_40 (by decide +kernel)
theorem t198_41 : decode (mb 198) 41 = .ok (.ireturn, 1) := by decide +kernel
theorem s198_41 (d : Nat) (l0 : Value) (l1 : Value) (x : Int32) (hx : isB x) (σ : Hs) : ru d 198 41 [l0, l1] [.int x] σ = some (some (.int x), σ) := q_iretz t198_41 mr198 hx
theorem t198_42 : decode (mb 198) 42 = .ok (.iload_n 1, 1) := by decide +kernel
theorem s198_42 (d : Nat) (l0 : Value) (i1 : Int32) (σ : Hs) : ru d 198 42 [l0, .int i1] [] σ = ru d 198 43 [l0, .int i1] [.int i1] σ := q_iload_n t198_42 rfl
theorem t198_43 : decode (mb 198) 43 = .ok (.ifCond .eq 8, 3) := by decide +kernel
theorem s198_43 (d : Nat) (l0 : Value) (l1 : Value) (x : Int32) (σ : Hs) : ru d 198 43 [l0, l1] [.int x] σ = if x = 0 then ru d 198 51 [l0, l1] [] σ else ru d 198 46 [l0, l1] [] σ := q_if_eq t198_43 (by decide +kernel)
theorem t198_46 : decode (mb 198) 46 = .ok (.iload_n 1, 1) := by decide +kernel
theorem s198_46 (d : Nat) (l0 : Value) (i1 : Int32) (σ : Hs) : ru d 198 46 [l0, .int i1] [] σ = ru d 198 47 [l0, .int i1] [.int i1] σ := q_iload_n t198_46 rfl
theorem t198_47 : decode (mb 198) 47 = .ok (.iconst 3, 1) := by decide +kernel
theorem s198_47 (d : Nat) (l0 : Value) (l1 : Value) (w0 : Value) (σ : Hs) : ru d 198 47 [l0, l1] [w0] σ = ru d 198 48 [l0, l1] [.int 3, w0] σ := q_iconst t198_47 (by decide +kernel)
theorem t198_48 : decode (mb 198) 48 = .ok (.if_icmp .ne 7, 3) := by decide +kernel
theorem s198_48 (d : Nat) (l0 : Value) (l1 : Value) (x y : Int32) (σ : Hs) : ru d 198 48 [l0, l1] [.int y, .int x] σ = if x = y then ru d 198 51 [l0, l1] [] σ else ru d 198 55 [l0, l1] [] σ := q_ic_ne t198_48 (by decide +kernel)
theorem t198_51 : decode (mb 198) 51 = .ok (.iconst 1, 1) := by decide +kernel
theorem s198_51 (d : Nat) (l0 : Value) (l1 : Value) (σ : Hs) : ru d 198 51 [l0, l1] [] σ = ru d 198 52 [l0, l1] [.int 1] σ := q_iconst t198_51 (by decide +kernel)
theorem t198_52 : decode (mb 198) 52 = .ok (.goto 4, 3) := by decide +kernel
theorem s198_52 (d : Nat) (l0 : Value) (l1 : Value) (w0 : Value) (σ : Hs) : ru d 198 52 [l0, l1] [w0] σ = ru d 198 56 [l0, l1] [w0] σ := q_goto t198_52 (by decide +kernel)
theorem t198_55 : decode (mb 198) 55 = .ok (.iconst 0, 1) := by decide +kernel
theorem s198_55 (d : Nat) (l0 : Value) (l1 : Value) (σ : Hs) : ru d 198 55 [l0, l1] [] σ = ru d 198 56 [l0, l1] [.int 0] σ := q_iconst t198_55 (by decide +kernel)
theorem t198_56 : decode (mb 198) 56 = .ok (.ireturn, 1) := by decide +kernel
theorem s198_56 (d : Nat) (l0 : Value) (l1 : Value) (x : Int32) (hx : isB x) (σ : Hs) : ru d 198 56 [l0, l1] [.int x] σ = some (some (.int x), σ) := q_iretz t198_56 mr198 hx
theorem t198_57 : decode (mb 198) 57 = .ok (.iload_n 1, 1) := by decide +kernel
theorem s198_57 (d : Nat) (l0 : Value) (i1 : Int32) (σ : Hs) : ru d 198 57 [l0, .int i1] [] σ = ru d 198 58 [l0, .int i1] [.int i1] σ := q_iload_n t198_57 rfl
theorem t198_58 : decode (mb 198) 58 = .ok (.iconst 2, 1) := by decide +kernel
theorem s198_58 (d : Nat) (l0 : Value) (l1 : Value) (w0 : Value) (σ : Hs) : ru d 198 58 [l0, l1] [w0] σ = ru d 198 59 [l0, l1] [.int 2, w0] σ := q_iconst t198_58 (by decide +kernel)
theorem t198_59 : decode (mb 198) 59 = .ok (.if_icmp .ne 7, 3) := by decide +kernel
theorem s198_59 (d : Nat) (l0 : Value) (l1 : Value) (x y : Int32) (σ : Hs) : ru d 198 59 [l0, l1] [.int y, .int x] σ = if x = y then ru d 198 62 [l0, l1] [] σ else ru d 198 66 [l0, l1] [] σ := q_ic_ne t198_59 (by decide +kernel)
theorem t198_62 : decode (mb 198) 62 = .ok (.iconst 1, 1) := by decide +kernel
theorem s198_62 (d : Nat) (l0 : Value) (l1 : Value) (σ : Hs) : ru d 198 62 [l0, l1] [] σ = ru d 198 63 [l0, l1] [.int 1] σ := q_iconst t198_62 (by decide +kernel)
theorem t198_63 : decode (mb 198) 63 = .ok (.goto 4, 3) := by decide +kernel
theorem s198_63 (d : Nat) (l0 : Value) (l1 : Value) (w0 : Value) (σ : Hs) : ru d 198 63 [l0, l1] [w0] σ = ru d 198 67 [l0, l1] [w0] σ := q_goto t198_63 (by decide +kernel)
theorem t198_66 : decode (mb 198) 66 = .ok (.iconst 0, 1) := by decide +kernel
theorem s198_66 (d : Nat) (l0 : Value) (l1 : Value) (σ : Hs) : ru d 198 66 [l0, l1] [] σ = ru d 198 67 [l0, l1] [.int 0] σ := q_iconst t198_66 (by decide +kernel)
theorem t198_67 : decode (mb 198) 67 = .ok (.ireturn, 1) := by decide +kernel
theorem s198_67 (d : Nat) (l0 : Value) (l1 : Value) (x : Int32) (hx : isB x) (σ : Hs) : ru d 198 67 [l0, l1] [.int x] σ = some (some (.int x), σ) := q_iretz t198_67 mr198 hx
theorem t198_68 : decode (mb 198) 68 = .ok (.iload_n 1, 1) := by decide +kernel
theorem s198_68 (d : Nat) (l0 : Value) (i1 : Int32) (σ : Hs) : ru d 198 68 [l0, .int i1] [] σ = ru d 198 69 [l0, .int i1] [.int i1] σ := q_iload_n t198_68 rfl
theorem t198_69 : decode (mb 198) 69 = .ok (.iconst 2, 1) := by decide +kernel
theorem s198_69 (d : Nat) (l0 : Value) (l1 : Value) (w0 : Value) (σ : Hs) : ru d 198 69 [l0, l1] [w0] σ = ru d 198 70 [l0, l1] [.int 2, w0] σ := q_iconst t198_69 (by decide +kernel)
theorem t198_70 : decode (mb 198) 70 = .ok (.if_icmp .ge 7, 3) := by decide +kernel
theorem s198_70 (d : Nat) (l0 : Value) (l1 : Value) (x y : Int32) (σ : Hs) : ru d 198 70 [l0, l1] [.int y, .int x] σ = if y ≤ x then ru d 198 77 [l0, l1] [] σ else ru d 198 73 [l0, l1] [] σ := q_ic_ge t198_70 (by decide +kernel)
theorem t198_73 : decode (mb 198) 73 = .ok (.iconst 1, 1) := by decide +kernel
theorem s198_73 (d : Nat) (l0 : Value) (l1 : Value) (σ : Hs) : ru d 198 73 [l0, l1] [] σ = ru d 198 74 [l0, l1] [.int 1] σ := q_iconst t198_73 (by decide +kernel)
theorem t198_74 : decode (mb 198) 74 = .ok (.goto 4, 3) := by decide +kernel
theorem s198_74 (d : Nat) (l0 : Value) (l1 : Value) (w0 : Value) (σ : Hs) : ru d 198 74 [l0, l1] [w0] σ = ru d 198 78 [l0, l1] [w0] σ := q_goto t198_74 (by decide +kernel)
theorem t198_77 : decode (mb 198) 77 = .ok (.iconst 0, 1) := by decide +kernel
theorem s198_77 (d : Nat) (l0 : Value) (l1 : Value) (σ : Hs) : ru d 198 77 [l0, l1] [] σ = ru d 198 78 [l0, l1] [.int 0] σ := q_iconst t198_77 (by decide +kernel)
theorem t198_78 : decode (mb 198) 78 = .ok (.ireturn, 1) := by decide +kernel
theorem s198_78 (d : Nat) (l0 : Value) (l1 : Value) (x : Int32) (hx : isB x) (σ : Hs) : ru d 198 78 [l0, l1] [.int x] σ = some (some (.int x), σ) := q_iretz t198_78 mr198 hx
theorem t198_79 : decode (mb 198) 79 = .ok (.iload_n 1, 1) := by decide +kernel
theorem s198_79 (d : Nat) (l0 : Value) (i1 : Int32) (σ : Hs) : ru d 198 79 [l0, .int i1] [] σ = ru d 198 80 [l0, .int i1] [.int i1] σ := q_iload_n t198_79 rfl
theorem t198_80 : decode (mb 198) 80 = .ok (.iconst 1, 1) := by decide +kernel
theorem s198_80 (d : Nat) (l0 : Value) (l1 : Value) (w0 : Value) (σ : Hs) : ru d 198 80 [l0, l1] [w0] σ = ru d 198 81 [l0, l1] [.int 1, w0] σ := q_iconst t198_80 (by decide +kernel)
theorem t198_81 : decode (mb 198) 81 = .ok (.if_icmp .le 7, 3) := by decide +kernel
theorem s198_81 (d : Nat) (l0 : Value) (l1 : Value) (x y : Int32) (σ : Hs) : ru d 198 81 [l0, l1] [.int y, .int x] σ = if x ≤ y then ru d 198 88 [l0, l1] [] σ else ru d 198 84 [l0, l1] [] σ := q_ic_le t198_81 (by decide +kernel)
theorem t198_84 : decode (mb 198) 84 = .ok (.iconst 1, 1) := by decide +kernel
theorem s198_84 (d : Nat) (l0 : Value) (l1 : Value) (σ : Hs) : ru d 198 84 [l0, l1] [] σ = ru d 198 85 [l0, l1] [.int 1] σ := q_iconst t198_84 (by decide +kernel)
theorem t198_85 : decode (mb 198) 85 = .ok (.goto 4, 3) := by decide +kernel
theorem s198_85 (d : Nat) (l0 : Value) (l1 : Value) (w0 : Value) (σ : Hs) : ru d 198 85 [l0, l1] [w0] σ = ru d 198 89 [l0, l1] [w0] σ := q_goto t198_85 (by decide +kernel)
theorem t198_88 : decode (mb 198) 88 = .ok (.iconst 0, 1) := by decide +kernel
theorem s198_88 (d : Nat) (l0 : Value) (l1 : Value) (σ : Hs) : ru d 198 88 [l0, l1] [] σ = ru d 198 89 [l0, l1] [.int 0] σ := q_iconst t198_88 (by decide +kernel)
theorem t198_89 : decode (mb 198) 89 = .ok (.ireturn, 1) := by decide +kernel
theorem s198_89 (d : Nat) (l0 : Value) (l1 : Value) (x : Int32) (hx : isB x) (σ : Hs) : ru d 198 89 [l0, l1] [.int x] σ = some (some (.int x), σ) := q_iretz t198_89 mr198 hx
theorem t198_90 : decode (mb 198) 90 = .ok (.iload_n 1, 1) := by decide +kernel
theorem s198_90 (d : Nat) (l0 : Value) (i1 : Int32) (σ : Hs) : ru d 198 90 [l0, .int i1] [] σ = ru d 198 91 [l0, .int i1] [.int i1] σ := q_iload_n t198_90 rfl
theorem t198_91 : decode (mb 198) 91 = .ok (.iconst 1, 1) := by decide +kernel
theorem s198_91 (d : Nat) (l0 : Value) (l1 : Value) (w0 : Value) (σ : Hs) : ru d 198 91 [l0, l1] [w0] σ = ru d 198 92 [l0, l1] [.int 1, w0] σ := q_iconst t198_91 (by decide +kernel)
theorem t198_92 : decode (mb 198) 92 = .ok (.if_icmp .ne 7, 3) := by decide +kernel
theorem s198_92 (d : Nat) (l0 : Value) (l1 : Value) (x y : Int32) (σ : Hs) : ru d 198 92 [l0, l1] [.int y, .int x] σ = if x = y then ru d 198 95 [l0, l1] [] σ else ru d 198 99 [l0, l1] [] σ := q_ic_ne t198_92 (by decide +kernel)
theorem t198_95 : decode (mb 198) 95 = .ok (.iconst 1, 1) := by decide +kernel
theorem s198_95 (d : Nat) (l0 : Value) (l1 : Value) (σ : Hs) : ru d 198 95 [l0, l1] [] σ = ru d 198 96 [l0, l1] [.int 1] σ := q_iconst t198_95 (by decide +kernel)
theorem t198_96 : decode (mb 198) 96 = .ok (.goto 4, 3) := by decide +kernel
theorem s198_96 (d : Nat) (l0 : Value) (l1 : Value) (w0 : Value) (σ : Hs) : ru d 198 96 [l0, l1] [w0] σ = ru d 198 100 [l0, l1] [w0] σ := q_goto t198_96 (by decide +kernel)
theorem t198_99 : decode (mb 198) 99 = .ok (.iconst 0, 1) := by decide +kernel
theorem s198_99 (d : Nat) (l0 : Value) (l1 : Value) (σ : Hs) : ru d 198 99 [l0, l1] [] σ = ru d 198 100 [l0, l1] [.int 0] σ := q_iconst t198_99 (by decide +kernel)
theorem t198_100 : decode (mb 198) 100 = .ok (.ireturn, 1) := by decide +kernel
theorem s198_100 (d : Nat) (l0 : Value) (l1 : Value) (x : Int32) (hx : isB x) (σ : Hs) : ru d 198 100 [l0, l1] [.int x] σ = some (some (.int x), σ) := q_iretz t198_100 mr198 hx
theorem t198_101 : decode (mb 198) 101 = .ok (.iload_n 1, 1) := by decide +kernel
theorem s198_101 (d : Nat) (l0 : Value) (i1 : Int32) (σ : Hs) : ru d 198 101 [l0, .int i1] [] σ = ru d 198 102 [l0, .int i1] [.int i1] σ := q_iload_n t198_101 rfl
theorem t198_102 : decode (mb 198) 102 = .ok (.ifCond .eq 8, 3) := by decide +kernel
theorem s198_102 (d : Nat) (l0 : Value) (l1 : Value) (x : Int32) (σ : Hs) : ru d 198 102 [l0, l1] [.int x] σ = if x = 0 then ru d 198 110 [l0, l1] [] σ else ru d 198 105 [l0, l1] [] σ := q_if_eq t198_102 (by decide +kernel)
theorem t198_105 : decode (mb 198) 105 = .ok (.iload_n 1, 1) := by decide +kernel
theorem s198_105 (d : Nat) (l0 : Value) (i1 : Int32) (σ : Hs) : ru d 198 105 [l0, .int i1] [] σ = ru d 198 106 [l0, .int i1] [.int i1] σ := q_iload_n t198_105 rfl
theorem t198_106 : decode (mb 198) 106 = .ok (.iconst 2, 1) := by decide +kernel
theorem s198_106 (d : Nat) (l0 : Value) (l1 : Value) (w0 : Value) (σ : Hs) : ru d 198 106 [l0, l1] [w0] σ = ru d 198 107 [l0, l1] [.int 2, w0] σ := q_iconst t198_106 (by decide +kernel)
theorem t198_107 : decode (mb 198) 107 = .ok (.if_icmp .ne 7, 3) := by decide +kernel
theorem s198_107 (d : Nat) (l0 : Value) (l1 : Value) (x y : Int32) (σ : Hs) : ru d 198 107 [l0, l1] [.int y, .int x] σ = if x = y then ru d 198 110 [l0, l1] [] σ else ru d 198 114 [l0, l1] [] σ := q_ic_ne t198_107 (by decide +kernel)
theorem t198_110 : decode (mb 198) 110 = .ok (.iconst 1, 1) := by decide +kernel
theorem s198_110 (d : Nat) (l0 : Value) (l1 : Value) (σ : Hs) : ru d 198 110 [l0, l1] [] σ = ru d 198 111 [l0, l1] [.int 1] σ := q_iconst t198_110 (by decide +kernel)
theorem t198_111 : decode (mb 198) 111 = .ok (.goto 4, 3) := by decide +kernel
theorem s198_111 (d : Nat) (l0 : Value) (l1 : Value) (w0 : Value) (σ : Hs) : ru d 198 111 [l0, l1] [w0] σ = ru d 198 115 [l0, l1] [w0] σ := q_goto t198_111 (by decide +kernel)
theorem t198_114 : decode (mb 198) 114 = .ok (.iconst 0, 1) := by decide +kernel
theorem s198_114 (d : Nat) (l0 : Value) (l1 : Value) (σ : Hs) : ru d 198 114 [l0, l1] [] σ = ru d 198 115 [l0, l1] [.int 0] σ := q_iconst t198_114 (by decide +kernel)
theorem t198_115 : decode (mb 198) 115 = .ok (.ireturn, 1) := by decide +kernel
theorem s198_115 (d : Nat) (l0 : Value) (l1 : Value) (x : Int32) (hx : isB x) (σ : Hs) : ru d 198 115 [l0, l1] [.int x] σ = some (some (.int x), σ) := q_iretz t198_115 mr198 hx
theorem c198 (d : Nat) (x0 : Int32) (x1 : Int32) (σ : Hs) : callD (d + 1) 198 [.int x0, .int x1] σ = ru d 198 0 [.int x0, .int x1] [] σ := callD_ru ml198 rfl rfl (Nat.le_of_ble_eq_true rfl)
-- 199: Model.voiced(II)I
theorem t199_0 : decode (mb 199) 0 = .ok (.aload_n 0, 1) := by decide +kernel
theorem s199_0 (d : Nat) (a0 : Nat) (l1 : Value) (l2 : Value) (σ : Hs) : ru d 199 0 [.ref a0, l1, l2] [] σ = ru d 199 1 [.ref a0, l1, l2] [.ref a0] σ := q_aload_n t199_0 rfl
theorem t199_1 : decode (mb 199) 1 = .ok (.aload_n 0, 1) := by decide +kernel
theorem s199_1 (d : Nat) (a0 : Nat) (l1 : Value) (l2 : Value) (w0 : Value) (σ : Hs) : ru d 199 1 [.ref a0, l1, l2] [w0] σ = ru d 199 2 [.ref a0, l1, l2] [.ref a0, w0] σ := q_aload_n t199_1 rfl
theorem t199_2 : decode (mb 199) 2 = .ok (.aload_n 0, 1) := by decide +kernel
theorem s199_2 (d : Nat) (a0 : Nat) (l1 : Value) (l2 : Value) (w0 w1 : Value) (σ : Hs) : ru d 199 2 [.ref a0, l1, l2] [w0, w1] σ = ru d 199 3 [.ref a0, l1, l2] [.ref a0, w0, w1] σ := q_aload_n t199_2 rfl
theorem t199_3 : decode (mb 199) 3 = .ok (.getfield 306, 3) := by decide +kernel
theorem s199_3_o87 (d : Nat) (l0 : Value) (l1 : Value) (l2 : Value) (w0 w1 : Value) (σ : Hs) : ru d 199 3 [l0, l1, l2] [.ref 87, w0, w1] σ = ru d 199 6 [l0, l1, l2] [.int (σ 87 20), w0, w1] σ := q_getf t199_3 mo199 F8_306 rfl rfl
theorem t199_6 : decode (mb 199) 6 = .ok (.iconst 1, 1) := by decide +kernel
theorem s199_6 (d : Nat) (l0 : Value) (l1 : Value) (l2 : Value) (w0 w1 w2 : Value) (σ : Hs) : ru d 199 6 [l0, l1, l2] [w0, w1, w2] σ = ru d 199 7 [l0, l1, l2] [.int 1, w0, w1, w2] σ := q_iconst t199_6 (by decide +kernel)
theorem t199_7 : decode (mb 199) 7 = .ok (.invokevirtual 85, 3) := by decide +kernel
theorem s199_7_o87 (d : Nat) (l0 : Value) (l1 : Value) (l2 : Value) (v1 v2 : Value) (w0 : Nat) (σ : Hs) : ru d 199 7 [l0, l1, l2] [v2, v1, .ref 87, .ref w0] σ = kont (callD d 119 [.ref 87, v1, v2] σ) d 199 10 [l0, l1, l2] [.ref w0] := q_invv t199_7 mo199 K8_85 mj119 rfl rfl rfl rfl (Nat.le_of_ble_eq_true rfl)
theorem t199_10 : decode (mb 199) 10 = .ok (.iload_n 1, 1) := by decide +kernel
theorem s199_10 (d : Nat) (l0 : Value) (i1 : Int32) (l2 : Value) (w0 w1 : Value) (σ : Hs) : ru d 199 10 [l0, .int i1, l2] [w0, w1] σ = ru d 199 11 [l0, .int i1, l2] [.int i1, w0, w1] σ := q_iload_n t199_10 rfl
theorem t199_11 : decode (mb 199) 11 = .ok (.iload_n 2, 1) := by decide +kernel
theorem s199_11 (d : Nat) (l0 : Value) (l1 : Value) (i2 : Int32) (w0 w1 w2 : Value) (σ : Hs) : ru d 199 11 [l0, l1, .int i2] [w0, w1, w2] σ = ru d 199 12 [l0, l1, .int i2] [.int i2, w0, w1, w2] σ := q_iload_n t199_11 rfl
theorem t199_12 : decode (mb 199) 12 = .ok (.invokevirtual 309, 3) := by decide +kernel
theorem s199_12_o87 (d : Nat) (l0 : Value) (l1 : Value) (l2 : Value) (v1 v2 v3 : Value) (σ : Hs) : ru d 199 12 [l0, l1, l2] [v3, v2, v1, .ref 87] σ = kont (callD d 200 [.ref 87, v1, v2, v3] σ) d 199 15 [l0, l1, l2] [] := q_invv t199_12 mo199 K8_309 mj200 rfl rfl rfl rfl (Nat.le_of_ble_eq_true rfl)
theorem t199_15 : decode (mb 199) 15 = .ok (.ireturn, 1) := by decide +kernel
theorem s199_15 (d : Nat) (l0 : Value) (l1 : Value) (l2 : Value) (x : Int32) (σ : Hs) : ru d 199 15 [l0, l1, l2] [.int x] σ = some (some (.int x), σ) := q_ireti t199_15 mr199
theorem c199 (d : Nat) (x0 : Nat) (x1 : Int32) (x2 : Int32) (σ : Hs) : callD (d + 1) 199 [.ref x0, .int x1, .int x2] σ = ru d 199 0 [.ref x0, .int x1, .int x2] [] σ := callD_ru ml199 rfl rfl (Nat.le_of_ble_eq_true rfl)
-- 200: Model.bodyFrom(III)I
theorem t200_0 : decode (mb 200) 0 = .ok (.iload_n 1, 1) := by decide +kernel
theorem s200_0 (d : Nat) (l0 : Value) (i1 : Int32) (l2 : Value) (l3 : Value) (l4 : Value) (σ : Hs) : ru d 200 0 [l0, .int i1, l2, l3, l4] [] σ = ru d 200 1 [l0, .int i1, l2, l3, l4] [.int i1] σ := q_iload_n t200_0 rfl
theorem t200_1 : decode (mb 200) 1 = .ok (.istore 4, 2) := by decide +kernel
theorem s200_1 (d : Nat) (l0 : Value) (l1 : Value) (l2 : Value) (i3 : Int32) (l4 : Value) (x : Int32) (σ : Hs) : ru d 200 1 [l0, l1, l2, .int i3, l4] [.int x] σ = ru d 200 3 [l0, l1, l2, .int i3, .int x] [] σ := q_istore t200_1 ⟨Nat.le_of_ble_eq_true rfl, rfl⟩ rfl
theorem t200_3 : decode (mb 200) 3 = .ok (.iload 4, 2) := by decide +kernel
theorem s200_3 (d : Nat) (l0 : Value) (l1 : Value) (l2 : Value) (l3 : Value) (i4 : Int32) (σ : Hs) : ru d 200 3 [l0, l1, l2, l3, .int i4] [] σ = ru d 200 5 [l0, l1, l2, l3, .int i4] [.int i4] σ := q_iload t200_3 rfl
theorem t200_5 : decode (mb 200) 5 = .ok (.iload_n 2, 1) := by decide +kernel
theorem s200_5 (d : Nat) (l0 : Value) (l1 : Value) (i2 : Int32) (l3 : Value) (l4 : Value) (w0 : Value) (σ : Hs) : ru d 200 5 [l0, l1, .int i2, l3, l4] [w0] σ = ru d 200 6 [l0, l1, .int i2, l3, l4] [.int i2, w0] σ := q_iload_n t200_5 rfl
theorem t200_6 : decode (mb 200) 6 = .ok (.invokestatic 312, 3) := by decide +kernel
theorem s200_6 (d : Nat) (l0 : Value) (l1 : Value) (l2 : Value) (l3 : Value) (l4 : Value) (v0 v1 : Value) (σ : Hs) : ru d 200 6 [l0, l1, l2, l3, l4] [v1, v0] σ = kont (callD d 198 [v0, v1] σ) d 200 9 [l0, l1, l2, l3, l4] [] := q_invs t200_6 mo200 (by decide +kernel) K8_312 mj198 (Nat.le_of_ble_eq_true rfl) rfl rfl (Nat.le_of_ble_eq_true rfl)
theorem t200_9 : decode (mb 200) 9 = .ok (.ifCond .ne 13, 3) := by decide +kernel
theorem s200_9 (d : Nat) (l0 : Value) (l1 : Value) (l2 : Value) (l3 : Value) (l4 : Value) (x : Int32) (σ : Hs) : ru d 200 9 [l0, l1, l2, l3, l4] [.int x] σ = if x = 0 then ru d 200 12 [l0, l1, l2, l3, l4] [] σ else ru d 200 22 [l0, l1, l2, l3, l4] [] σ := q_if_ne t200_9 (by decide +kernel)
theorem t200_12 : decode (mb 200) 12 = .ok (.iload 4, 2) := by decide +kernel
theorem s200_12 (d : Nat) (l0 : Value) (l1 : Value) (l2 : Value) (l3 : Value) (i4 : Int32) (σ : Hs) : ru d 200 12 [l0, l1, l2, l3, .int i4] [] σ = ru d 200 14 [l0, l1, l2, l3, .int i4] [.int i4] σ := q_iload t200_12 rfl
theorem t200_14 : decode (mb 200) 14 = .ok (.invokestatic 131, 3) := by decide +kernel
theorem s200_14 (d : Nat) (l0 : Value) (l1 : Value) (l2 : Value) (l3 : Value) (l4 : Value) (v0 : Value) (σ : Hs) : ru d 200 14 [l0, l1, l2, l3, l4] [v0] σ = kont (callD d 134 [v0] σ) d 200 17 [l0, l1, l2, l3, l4] [] := q_invs t200_14 mo200 (by decide +kernel) K8_131 mj134 (Nat.le_of_ble_eq_true rfl) rfl rfl (Nat.le_of_ble_eq_true rfl)
theorem t200_17 : decode (mb 200) 17 = .ok (.istore 4, 2) := by decide +kernel
theorem s200_17 (d : Nat) (l0 : Value) (l1 : Value) (l2 : Value) (i3 : Int32) (l4 : Value) (x : Int32) (σ : Hs) : ru d 200 17 [l0, l1, l2, .int i3, l4] [.int x] σ = ru d 200 19 [l0, l1, l2, .int i3, .int x] [] σ := q_istore t200_17 ⟨Nat.le_of_ble_eq_true rfl, rfl⟩ rfl
theorem t200_19 : decode (mb 200) 19 = .ok (.goto (-16), 3) := by decide +kernel
theorem s200_19 (d : Nat) (l0 : Value) (l1 : Value) (l2 : Value) (l3 : Value) (l4 : Value) (σ : Hs) : ru d 200 19 [l0, l1, l2, l3, l4] [] σ = ru d 200 3 [l0, l1, l2, l3, l4] [] σ := q_goto t200_19 (by decide +kernel)
theorem t200_22 : decode (mb 200) 22 = .ok (.aload_n 0, 1) := by decide +kernel
theorem s200_22 (d : Nat) (a0 : Nat) (l1 : Value) (l2 : Value) (l3 : Value) (l4 : Value) (σ : Hs) : ru d 200 22 [.ref a0, l1, l2, l3, l4] [] σ = ru d 200 23 [.ref a0, l1, l2, l3, l4] [.ref a0] σ := q_aload_n t200_22 rfl
theorem t200_23 : decode (mb 200) 23 = .ok (.getfield 315, 3) := by decide +kernel
theorem s200_23_o87 (d : Nat) (l0 : Value) (l1 : Value) (l2 : Value) (l3 : Value) (l4 : Value) (σ : Hs) : ru d 200 23 [l0, l1, l2, l3, l4] [.ref 87] σ = ru d 200 26 [l0, l1, l2, l3, l4] [.int (σ 87 21)] σ := q_getf t200_23 mo200 F8_315 rfl rfl
theorem t200_26 : decode (mb 200) 26 = .ok (.ifCond .eq 7, 3) := by decide +kernel
theorem s200_26 (d : Nat) (l0 : Value) (l1 : Value) (l2 : Value) (l3 : Value) (l4 : Value) (x : Int32) (σ : Hs) : ru d 200 26 [l0, l1, l2, l3, l4] [.int x] σ = if x = 0 then ru d 200 33 [l0, l1, l2, l3, l4] [] σ else ru d 200 29 [l0, l1, l2, l3, l4] [] σ := q_if_eq t200_26 (by decide +kernel)
theorem t200_29 : decode (mb 200) 29 = .ok (.iconst 0, 1) := by decide +kernel
theorem s200_29 (d : Nat) (l0 : Value) (l1 : Value) (l2 : Value) (l3 : Value) (l4 : Value) (σ : Hs) : ru d 200 29 [l0, l1, l2, l3, l4] [] σ = ru d 200 30 [l0, l1, l2, l3, l4] [.int 0] σ := q_iconst t200_29 (by decide +kernel)
theorem t200_30 : decode (mb 200) 30 = .ok (.goto 11, 3) := by decide +kernel
theorem s200_30 (d : Nat) (l0 : Value) (l1 : Value) (l2 : Value) (l3 : Value) (l4 : Value) (w0 : Value) (σ : Hs) : ru d 200 30 [l0, l1, l2, l3, l4] [w0] σ = ru d 200 41 [l0, l1, l2, l3, l4] [w0] σ := q_goto t200_30 (by decide +kernel)
theorem t200_33 : decode (mb 200) 33 = .ok (.aload_n 0, 1) := by decide +kernel
theorem s200_33 (d : Nat) (a0 : Nat) (l1 : Value) (l2 : Value) (l3 : Value) (l4 : Value) (σ : Hs) : ru d 200 33 [.ref a0, l1, l2, l3, l4] [] σ = ru d 200 34 [.ref a0, l1, l2, l3, l4] [.ref a0] σ := q_aload_n t200_33 rfl
theorem t200_34 : decode (mb 200) 34 = .ok (.iload 4, 2) := by decide +kernel
theorem s200_34 (d : Nat) (l0 : Value) (l1 : Value) (l2 : Value) (l3 : Value) (i4 : Int32) (w0 : Value) (σ : Hs) : ru d 200 34 [l0, l1, l2, l3, .int i4] [w0] σ = ru d 200 36 [l0, l1, l2, l3, .int i4] [.int i4, w0] σ := q_iload t200_34 rfl
theorem t200_36 : decode (mb 200) 36 = .ok (.iload_n 2, 1) := by decide +kernel
theorem s200_36 (d : Nat) (l0 : Value) (l1 : Value) (i2 : Int32) (l3 : Value) (l4 : Value) (w0 w1 : Value) (σ : Hs) : ru d 200 36 [l0, l1, .int i2, l3, l4] [w0, w1] σ = ru d 200 37 [l0, l1, .int i2, l3, l4] [.int i2, w0, w1] σ := q_iload_n t200_36 rfl
theorem t200_37 : decode (mb 200) 37 = .ok (.iload_n 3, 1) := by decide +kernel
theorem s200_37 (d : Nat) (l0 : Value) (l1 : Value) (l2 : Value) (i3 : Int32) (l4 : Value) (w0 w1 w2 : Value) (σ : Hs) : ru d 200 37 [l0, l1, l2, .int i3, l4] [w0, w1, w2] σ = ru d 200 38 [l0, l1, l2, .int i3, l4] [.int i3, w0, w1, w2] σ := q_iload_n t200_37 rfl
theorem t200_38 : decode (mb 200) 38 = .ok (.invokevirtual 318, 3) := by decide +kernel
theorem s200_38_o87 (d : Nat) (l0 : Value) (l1 : Value) (l2 : Value) (l3 : Value) (l4 : Value) (v1 v2 v3 : Value) (σ : Hs) : ru d 200 38 [l0, l1, l2, l3, l4] [v3, v2, v1, .ref 87] σ = kont (callD d 201 [.ref 87, v1, v2, v3] σ) d 200 41 [l0, l1, l2, l3, l4] [] := q_invv t200_38 mo200 K8_318 mj201 rfl rfl rfl rfl (Nat.le_of_ble_eq_true rfl)
theorem t200_41 : decode (mb 200) 41 = .ok (.ireturn, 1) := by decide +kernel
theorem s200_41 (d : Nat) (l0 : Value) (l1 : Value) (l2 : Value) (l3 : Value) (l4 : Value) (x : Int32) (σ : Hs) : ru d 200 41 [l0, l1, l2, l3, l4] [.int x] σ = some (some (.int x), σ) := q_ireti t200_41 mr200
theorem c200 (d : Nat) (x0 : Nat) (x1 : Int32) (x2 : Int32) (x3 : Int32) (σ : Hs) : callD (d + 1) 200 [.ref x0, .int x1, .int x2, .int x3] σ = ru d 200 0 [.ref x0, .int x1, .int x2, .int x3, uu] [] σ := callD_ru ml200 rfl rfl (Nat.le_of_ble_eq_true rfl)
