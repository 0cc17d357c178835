-- 123: Model.highOf(I)I
theorem t123_0 : decode (mb 123) 0 = .ok (.iconst 0, 1) := by decide +kernel
theorem s123_0 (d : Nat) (l0 : Value) (l1 : Value) (l2 : Value) (σ : Hs) : ru d 123 0 [l0, l1, l2] [] σ = ru d 123 1 [l0, l1, l2] [.int 0] σ := q_iconst t123_0 (by decide +kernel)
theorem t123_1 : decode (mb 123) 1 = .ok (.istore_n 2, 1) := by decide +kernel
theorem s123_1 (d : Nat) (l0 : Value) (i1 : Int32) (l2 : Value) (x : Int32) (σ : Hs) : ru d 123 1 [l0, .int i1, l2] [.int x] σ = ru d 123 2 [l0, .int i1, .int x] [] σ := q_istore_n t123_1 ⟨Nat.le_of_ble_eq_true rfl, rfl⟩ rfl
theorem t123_2 : decode (mb 123) 2 = .ok (.iload_n 2, 1) := by decide +kernel
theorem s123_2 (d : Nat) (l0 : Value) (l1 : Value) (i2 : Int32) (σ : Hs) : ru d 123 2 [l0, l1, .int i2] [] σ = ru d 123 3 [l0, l1, .int i2] [.int i2] σ := q_iload_n t123_2 rfl
theorem t123_3 : decode (mb 123) 3 = .ok (.iconst 5, 1) := by decide +kernel
theorem s123_3 (d : Nat) (l0 : Value) (l1 : Value) (l2 : Value) (w0 : Value) (σ : Hs) : ru d 123 3 [l0, l1, l2] [w0] σ = ru d 123 4 [l0, l1, l2] [.int 5, w0] σ := q_iconst t123_3 (by decide +kernel)
theorem t123_4 : decode (mb 123) 4 = .ok (.if_icmp .ge 22, 3) := by decide +kernel
theorem s123_4 (d : Nat) (l0 : Value) (l1 : Value) (l2 : Value) (x y : Int32) (σ : Hs) : ru d 123 4 [l0, l1, l2] [.int y, .int x] σ = if y ≤ x then ru d 123 26 [l0, l1, l2] [] σ else ru d 123 7 [l0, l1, l2] [] σ := q_ic_ge t123_4 (by decide +kernel)
theorem t123_7 : decode (mb 123) 7 = .ok (.aload_n 0, 1) := by decide +kernel
theorem s123_7 (d : Nat) (a0 : Nat) (l1 : Value) (l2 : Value) (σ : Hs) : ru d 123 7 [.ref a0, l1, l2] [] σ = ru d 123 8 [.ref a0, l1, l2] [.ref a0] σ := q_aload_n t123_7 rfl
theorem t123_8 : decode (mb 123) 8 = .ok (.bipush 6, 2) := by decide +kernel
theorem s123_8 (d : Nat) (l0 : Value) (l1 : Value) (l2 : Value) (w0 : Value) (σ : Hs) : ru d 123 8 [l0, l1, l2] [w0] σ = ru d 123 10 [l0, l1, l2] [.int 6, w0] σ := q_bipush t123_8 (by decide +kernel)
theorem t123_10 : decode (mb 123) 10 = .ok (.iload_n 2, 1) := by decide +kernel
theorem s123_10 (d : Nat) (l0 : Value) (l1 : Value) (i2 : Int32) (w0 w1 : Value) (σ : Hs) : ru d 123 10 [l0, l1, .int i2] [w0, w1] σ = ru d 123 11 [l0, l1, .int i2] [.int i2, w0, w1] σ := q_iload_n t123_10 rfl
theorem t123_11 : decode (mb 123) 11 = .ok (.imul, 1) := by decide +kernel
theorem s123_11 (d : Nat) (l0 : Value) (l1 : Value) (l2 : Value) (x y : Int32) (w0 : Value) (σ : Hs) : ru d 123 11 [l0, l1, l2] [.int y, .int x, w0] σ = ru d 123 12 [l0, l1, l2] [.int (x * y), w0] σ := q_imul t123_11
theorem t123_12 : decode (mb 123) 12 = .ok (.iload_n 1, 1) := by decide +kernel
theorem s123_12 (d : Nat) (l0 : Value) (i1 : Int32) (l2 : Value) (w0 w1 : Value) (σ : Hs) : ru d 123 12 [l0, .int i1, l2] [w0, w1] σ = ru d 123 13 [l0, .int i1, l2] [.int i1, w0, w1] σ := q_iload_n t123_12 rfl
theorem t123_13 : decode (mb 123) 13 = .ok (.iadd, 1) := by decide +kernel
theorem s123_13 (d : Nat) (l0 : Value) (l1 : Value) (l2 : Value) (x y : Int32) (w0 : Value) (σ : Hs) : ru d 123 13 [l0, l1, l2] [.int y, .int x, w0] σ = ru d 123 14 [l0, l1, l2] [.int (x + y), w0] σ := q_iadd t123_13
theorem t123_14 : decode (mb 123) 14 = .ok (.invokevirtual 88, 3) := by decide +kernel
theorem s123_14_o87 (d : Nat) (l0 : Value) (l1 : Value) (l2 : Value) (v1 : Value) (σ : Hs) : ru d 123 14 [l0, l1, l2] [v1, .ref 87] σ = kont (callD d 121 [.ref 87, v1] σ) d 123 17 [l0, l1, l2] [] := q_invv t123_14 mo123 K8_88 mj121 rfl rfl rfl rfl (Nat.le_of_ble_eq_true rfl)
theorem t123_17 : decode (mb 123) 17 = .ok (.ifCond .eq 9, 3) := by decide +kernel
theorem s123_17 (d : Nat) (l0 : Value) (l1 : Value) (l2 : Value) (x : Int32) (σ : Hs) : ru d 123 17 [l0, l1, l2] [.int x] σ = if x = 0 then ru d 123 26 [l0, l1, l2] [] σ else ru d 123 20 [l0, l1, l2] [] σ := q_if_eq t123_17 (by decide +kernel)
theorem t123_20 : decode (mb 123) 20 = .ok (.iinc 2 1, 3) := by decide +kernel
theorem s123_20 (d : Nat) (l0 : Value) (i1 : Int32) (i2 : Int32) (σ : Hs) : ru d 123 20 [l0, .int i1, .int i2] [] σ = ru d 123 23 [l0, .int i1, .int (i2 + 1)] [] σ := q_iinc t123_20 ⟨Nat.le_of_ble_eq_true rfl, rfl⟩ rfl (by decide +kernel) rfl
theorem t123_23 : decode (mb 123) 23 = .ok (.goto (-21), 3) := by decide +kernel
theorem s123_23 (d : Nat) (l0 : Value) (l1 : Value) (l2 : Value) (σ : Hs) : ru d 123 23 [l0, l1, l2] [] σ = ru d 123 2 [l0, l1, l2] [] σ := q_goto t123_23 (by decide +kernel)
theorem t123_26 : decode (mb 123) 26 = .ok (.iload_n 2, 1) := by decide +kernel
theorem s123_26 (d : Nat) (l0 : Value) (l1 : Value) (i2 : Int32) (σ : Hs) : ru d 123 26 [l0, l1, .int i2] [] σ = ru d 123 27 [l0, l1, .int i2] [.int i2] σ := q_iload_n t123_26 rfl
theorem t123_27 : decode (mb 123) 27 = .ok (.ireturn, 1) := by decide +kernel
theorem s123_27 (d : Nat) (l0 : Value) (l1 : Value) (l2 : Value) (x : Int32) (σ : Hs) : ru d 123 27 [l0, l1, l2] [.int x] σ = some (some (.int x), σ) := q_ireti t123_27 mr123
theorem c123 (d : Nat) (x0 : Nat) (x1 : Int32) (σ : Hs) : callD (d + 1) 123 [.ref x0, .int x1] σ = ru d 123 0 [.ref x0, .int x1, uu] [] σ := callD_ru ml123 rfl rfl (Nat.le_of_ble_eq_true rfl)
-- 124: Model.isAsTold(IIII)Z
theorem t124_0 : decode (mb 124) 0 = .ok (.iload_n 1, 1) := by decide +kernel
theorem s124_0 (d : Nat) (l0 : Value) (i1 : Int32) (l2 : Value) (l3 : Value) (l4 : Value) (σ : Hs) : ru d 124 0 [l0, .int i1, l2, l3, l4] [] σ = ru d 124 1 [l0, .int i1, l2, l3, l4] [.int i1] σ := q_iload_n t124_0 rfl
theorem t124_1 : decode (mb 124) 1 = .ok (.iconst 0, 1) := by decide +kernel
theorem s124_1 (d : Nat) (l0 : Value) (l1 : Value) (l2 : Value) (l3 : Value) (l4 : Value) (w0 : Value) (σ : Hs) : ru d 124 1 [l0, l1, l2, l3, l4] [w0] σ = ru d 124 2 [l0, l1, l2, l3, l4] [.int 0, w0] σ := q_iconst t124_1 (by decide +kernel)
theorem t124_2 : decode (mb 124) 2 = .ok (.bipush 6, 2) := by decide +kernel
theorem s124_2 (d : Nat) (l0 : Value) (l1 : Value) (l2 : Value) (l3 : Value) (l4 : Value) (w0 w1 : Value) (σ : Hs) : ru d 124 2 [l0, l1, l2, l3, l4] [w0, w1] σ = ru d 124 4 [l0, l1, l2, l3, l4] [.int 6, w0, w1] σ := q_bipush t124_2 (by decide +kernel)
theorem t124_4 : decode (mb 124) 4 = .ok (.invokestatic 81, 3) := by decide +kernel
theorem s124_4 (d : Nat) (l0 : Value) (l1 : Value) (l2 : Value) (l3 : Value) (l4 : Value) (v0 v1 v2 : Value) (σ : Hs) : ru d 124 4 [l0, l1, l2, l3, l4] [v2, v1, v0] σ = kont (callD d 112 [v0, v1, v2] σ) d 124 7 [l0, l1, l2, l3, l4] [] := q_invs t124_4 mo124 (by decide +kernel) K8_81 mj112 (Nat.le_of_ble_eq_true rfl) rfl rfl (Nat.le_of_ble_eq_true rfl)
theorem t124_7 : decode (mb 124) 7 = .ok (.ifCond .eq 39, 3) := by decide +kernel
theorem s124_7 (d : Nat) (l0 : Value) (l1 : Value) (l2 : Value) (l3 : Value) (l4 : Value) (x : Int32) (σ : Hs) : ru d 124 7 [l0, l1, l2, l3, l4] [.int x] σ = if x = 0 then ru d 124 46 [l0, l1, l2, l3, l4] [] σ else ru d 124 10 [l0, l1, l2, l3, l4] [] σ := q_if_eq t124_7 (by decide +kernel)
theorem t124_10 : decode (mb 124) 10 = .ok (.iload_n 2, 1) := by decide +kernel
theorem s124_10 (d : Nat) (l0 : Value) (l1 : Value) (i2 : Int32) (l3 : Value) (l4 : Value) (σ : Hs) : ru d 124 10 [l0, l1, .int i2, l3, l4] [] σ = ru d 124 11 [l0, l1, .int i2, l3, l4] [.int i2] σ := q_iload_n t124_10 rfl
theorem t124_11 : decode (mb 124) 11 = .ok (.iconst 0, 1) := by decide +kernel
theorem s124_11 (d : Nat) (l0 : Value) (l1 : Value) (l2 : Value) (l3 : Value) (l4 : Value) (w0 : Value) (σ : Hs) : ru d 124 11 [l0, l1, l2, l3, l4] [w0] σ = ru d 124 12 [l0, l1, l2, l3, l4] [.int 0, w0] σ := q_iconst t124_11 (by decide +kernel)
theorem t124_12 : decode (mb 124) 12 = .ok (.iconst 5, 1) := by decide +kernel
theorem s124_12 (d : Nat) (l0 : Value) (l1 : Value) (l2 : Value) (l3 : Value) (l4 : Value) (w0 w1 : Value) (σ : Hs) : ru d 124 12 [l0, l1, l2, l3, l4] [w0, w1] σ = ru d 124 13 [l0, l1, l2, l3, l4] [.int 5, w0, w1] σ := q_iconst t124_12 (by decide +kernel)
theorem t124_13 : decode (mb 124) 13 = .ok (.invokestatic 81, 3) := by decide +kernel
theorem s124_13 (d : Nat) (l0 : Value) (l1 : Value) (l2 : Value) (l3 : Value) (l4 : Value) (v0 v1 v2 : Value) (σ : Hs) : ru d 124 13 [l0, l1, l2, l3, l4] [v2, v1, v0] σ = kont (callD d 112 [v0, v1, v2] σ) d 124 16 [l0, l1, l2, l3, l4] [] := q_invs t124_13 mo124 (by decide +kernel) K8_81 mj112 (Nat.le_of_ble_eq_true rfl) rfl rfl (Nat.le_of_ble_eq_true rfl)
theorem t124_16 : decode (mb 124) 16 = .ok (.ifCond .eq 30, 3) := by decide +kernel
theorem s124_16 (d : Nat) (l0 : Value) (l1 : Value) (l2 : Value) (l3 : Value) (l4 : Value) (x : Int32) (σ : Hs) : ru d 124 16 [l0, l1, l2, l3, l4] [.int x] σ = if x = 0 then ru d 124 46 [l0, l1, l2, l3, l4] [] σ else ru d 124 19 [l0, l1, l2, l3, l4] [] σ := q_if_eq t124_16 (by decide +kernel)
theorem t124_19 : decode (mb 124) 19 = .ok (.iload_n 3, 1) := by decide +kernel
theorem s124_19 (d : Nat) (l0 : Value) (l1 : Value) (l2 : Value) (i3 : Int32) (l4 : Value) (σ : Hs) : ru d 124 19 [l0, l1, l2, .int i3, l4] [] σ = ru d 124 20 [l0, l1, l2, .int i3, l4] [.int i3] σ := q_iload_n t124_19 rfl
theorem t124_20 : decode (mb 124) 20 = .ok (.iconst 1, 1) := by decide +kernel
theorem s124_20 (d : Nat) (l0 : Value) (l1 : Value) (l2 : Value) (l3 : Value) (l4 : Value) (w0 : Value) (σ : Hs) : ru d 124 20 [l0, l1, l2, l3, l4] [w0] σ = ru d 124 21 [l0, l1, l2, l3, l4] [.int 1, w0] σ := q_iconst t124_20 (by decide +kernel)
theorem t124_21 : decode (mb 124) 21 = .ok (.sipush 999, 3) := by decide +kernel
theorem s124_21 (d : Nat) (l0 : Value) (l1 : Value) (l2 : Value) (l3 : Value) (l4 : Value) (w0 w1 : Value) (σ : Hs) : ru d 124 21 [l0, l1, l2, l3, l4] [w0, w1] σ = ru d 124 24 [l0, l1, l2, l3, l4] [.int 999, w0, w1] σ := q_sipush t124_21 (by decide +kernel)
theorem t124_24 : decode (mb 124) 24 = .ok (.invokestatic 81, 3) := by decide +kernel
theorem s124_24 (d : Nat) (l0 : Value) (l1 : Value) (l2 : Value) (l3 : Value) (l4 : Value) (v0 v1 v2 : Value) (σ : Hs) : ru d 124 24 [l0, l1, l2, l3, l4] [v2, v1, v0] σ = kont (callD d 112 [v0, v1, v2] σ) d 124 27 [l0, l1, l2, l3, l4] [] := q_invs t124_24 mo124 (by decide +kernel) K8_81 mj112 (Nat.le_of_ble_eq_true rfl) rfl rfl (Nat.le_of_ble_eq_true rfl)
theorem t124_27 : decode (mb 124) 27 = .ok (.ifCond .eq 19, 3) := by decide +kernel
theorem s124_27 (d : Nat) (l0 : Value) (l1 : Value) (l2 : Value) (l3 : Value) (l4 : Value) (x : Int32) (σ : Hs) : ru d 124 27 [l0, l1, l2, l3, l4] [.int x] σ = if x = 0 then ru d 124 46 [l0, l1, l2, l3, l4] [] σ else ru d 124 30 [l0, l1, l2, l3, l4] [] σ := q_if_eq t124_27 (by decide +kernel)
theorem t124_30 : decode (mb 124) 30 = .ok (.iload 4, 2) := by decide +kernel
theorem s124_30 (d : Nat) (l0 : Value) (l1 : Value) (l2 : Value) (l3 : Value) (i4 : Int32) (σ : Hs) : ru d 124 30 [l0, l1, l2, l3, .int i4] [] σ = ru d 124 32 [l0, l1, l2, l3, .int i4] [.int i4] σ := q_iload t124_30 rfl
theorem t124_32 : decode (mb 124) 32 = .ok (.iconst 0, 1) := by decide +kernel
theorem s124_32 (d : Nat) (l0 : Value) (l1 : Value) (l2 : Value) (l3 : Value) (l4 : Value) (w0 : Value) (σ : Hs) : ru d 124 32 [l0, l1, l2, l3, l4] [w0] σ = ru d 124 33 [l0, l1, l2, l3, l4] [.int 0, w0] σ := q_iconst t124_32 (by decide +kernel)
theorem t124_33 : decode (mb 124) 33 = .ok (.sipush 999, 3) := by decide +kernel
theorem s124_33 (d : Nat) (l0 : Value) (l1 : Value) (l2 : Value) (l3 : Value) (l4 : Value) (w0 w1 : Value) (σ : Hs) : ru d 124 33 [l0, l1, l2, l3, l4] [w0, w1] σ = ru d 124 36 [l0, l1, l2, l3, l4] [.int 999, w0, w1] σ := q_sipush t124_33 (by decide +kernel)
theorem t124_36 : decode (mb 124) 36 = .ok (.invokestatic 81, 3) := by decide +kernel
theorem s124_36 (d : Nat) (l0 : Value) (l1 : Value) (l2 : Value) (l3 : Value) (l4 : Value) (v0 v1 v2 : Value) (σ : Hs) : ru d 124 36 [l0, l1, l2, l3, l4] [v2, v1, v0] σ = kont (callD d 112 [v0, v1, v2] σ) d 124 39 [l0, l1, l2, l3, l4] [] := q_invs t124_36 mo124 (by decide +kernel) K8_81 mj112 (Nat.le_of_ble_eq_true rfl) rfl rfl (Nat.le_of_ble_eq_true rfl)
theorem t124_39 : decode (mb 124) 39 = .ok (.ifCond .eq 7, 3) := by decide +kernel
theorem s124_39 (d : Nat) (l0 : Value) (l1 : Value) (l2 : Value) (l3 : Value) (l4 : Value) (x : Int32) (σ : Hs) : ru d 124 39 [l0, l1, l2, l3, l4] [.int x] σ = if x = 0 then ru d 124 46 [l0, l1, l2, l3, l4] [] σ else ru d 124 42 [l0, l1, l2, l3, l4] [] σ := q_if_eq t124_39 (by decide +kernel)
theorem t124_42 : decode (mb 124) 42 = .ok (.iconst 1, 1) := by decide +kernel
theorem s124_42 (d : Nat) (l0 : Value) (l1 : Value) (l2 : Value) (l3 : Value) (l4 : Value) (σ : Hs) : ru d 124 42 [l0, l1, l2, l3, l4] [] σ = ru d 124 43 [l0, l1, l2, l3, l4] [.int 1] σ := q_iconst t124_42 (by decide +kernel)
theorem t124_43 : decode (mb 124) 43 = .ok (.goto 4, 3) := by decide +kernel
theorem s124_43 (d : Nat) (l0 : Value) (l1 : Value) (l2 : Value) (l3 : Value) (l4 : Value) (w0 : Value) (σ : Hs) : ru d 124 43 [l0, l1, l2, l3, l4] [w0] σ = ru d 124 47 [l0, l1, l2, l3, l4] [w0] σ := q_goto t124_43 (by decide +kernel)
theorem t124_46 : decode (mb 124) 46 = .ok (.iconst 0, 1) := by decide +kernel
theorem s124_46 (d : Nat) (l0 : Value) (l1 : Value) (l2 : Value) (l3 : Value) (l4 : Value) (σ : Hs) : ru d 124 46 [l0, l1, l2, l3, l4] [] σ = ru d 124 47 [l0, l1, l2, l3, l4] [.int 0] σ := q_iconst t124_46 (by decide +kernel)
theorem t124_47 : decode (mb 124) 47 = .ok (.ireturn, 1) := by decide +kernel
theorem s124_47 (d : Nat) (l0 : Value) (l1 : Value) (l2 : Value) (l3 : Value) (l4 : Value) (x : Int32) (hx : isB x) (σ : Hs) : ru d 124 47 [l0, l1, l2, l3, l4] [.int x] σ = some (some (.int x), σ) := q_iretz t124_47 mr124 hx
theorem c124 (d : Nat) (x0 : Nat) (x1 : Int32) (x2 : Int32) (x3 : Int32) (x4 : Int32) (σ : Hs) : callD (d + 1) 124 [.ref x0, .int x1, .int x2, .int x3, .int x4] σ = ru d 124 0 [.ref x0, .int x1, .int x2, .int x3, .int x4] [] σ := callD_ru ml124 rfl rfl (Nat.le_of_ble_eq_true rfl)
-- 125: Model.lays(IIII)I
theorem t125_0 : decode (mb 125) 0 = .ok (.bipush 6, 2) := by decide +kernel
theorem s125_0 (d : Nat) (l0 : Value) (l1 : Value) (l2 : Value) (l3 : Value) (l4 : Value) (l5 : Value) (σ : Hs) : ru d 125 0 [l0, l1, l2, l3, l4, l5] [] σ = ru d 125 2 [l0, l1, l2, l3, l4, l5] [.int 6] σ := q_bipush t125_0 (by decide +kernel)
theorem t125_2 : decode (mb 125) 2 = .ok (.aload_n 0, 1) := by decide +kernel
theorem s125_2 (d : Nat) (a0 : Nat) (l1 : Value) (l2 : Value) (l3 : Value) (l4 : Value) (l5 : Value) (w0 : Value) (σ : Hs) : ru d 125 2 [.ref a0, l1, l2, l3, l4, l5] [w0] σ = ru d 125 3 [.ref a0, l1, l2, l3, l4, l5] [.ref a0, w0] σ := q_aload_n t125_2 rfl
theorem t125_3 : decode (mb 125) 3 = .ok (.iload_n 2, 1) := by decide +kernel
theorem s125_3 (d : Nat) (l0 : Value) (l1 : Value) (i2 : Int32) (l3 : Value) (l4 : Value) (l5 : Value) (w0 w1 : Value) (σ : Hs) : ru d 125 3 [l0, l1, .int i2, l3, l4, l5] [w0, w1] σ = ru d 125 4 [l0, l1, .int i2, l3, l4, l5] [.int i2, w0, w1] σ := q_iload_n t125_3 rfl
theorem t125_4 : decode (mb 125) 4 = .ok (.invokevirtual 92, 3) := by decide +kernel
theorem s125_4_o87 (d : Nat) (l0 : Value) (l1 : Value) (l2 : Value) (l3 : Value) (l4 : Value) (l5 : Value) (v1 : Value) (w0 : Int32) (σ : Hs) : ru d 125 4 [l0, l1, l2, l3, l4, l5] [v1, .ref 87, .int w0] σ = kont (callD d 123 [.ref 87, v1] σ) d 125 7 [l0, l1, l2, l3, l4, l5] [.int w0] := q_invv t125_4 mo125 K8_92 mj123 rfl rfl rfl rfl (Nat.le_of_ble_eq_true rfl)
theorem t125_7 : decode (mb 125) 7 = .ok (.imul, 1) := by decide +kernel
theorem s125_7 (d : Nat) (l0 : Value) (l1 : Value) (l2 : Value) (l3 : Value) (l4 : Value) (l5 : Value) (x y : Int32) (σ : Hs) : ru d 125 7 [l0, l1, l2, l3, l4, l5] [.int y, .int x] σ = ru d 125 8 [l0, l1, l2, l3, l4, l5] [.int (x * y)] σ := q_imul t125_7
theorem t125_8 : decode (mb 125) 8 = .ok (.iload_n 2, 1) := by decide +kernel
theorem s125_8 (d : Nat) (l0 : Value) (l1 : Value) (i2 : Int32) (l3 : Value) (l4 : Value) (l5 : Value) (w0 : Value) (σ : Hs) : ru d 125 8 [l0, l1, .int i2, l3, l4, l5] [w0] σ = ru d 125 9 [l0, l1, .int i2, l3, l4, l5] [.int i2, w0] σ := q_iload_n t125_8 rfl
theorem t125_9 : decode (mb 125) 9 = .ok (.iadd, 1) := by decide +kernel
theorem s125_9 (d : Nat) (l0 : Value) (l1 : Value) (l2 : Value) (l3 : Value) (l4 : Value) (l5 : Value) (x y : Int32) (σ : Hs) : ru d 125 9 [l0, l1, l2, l3, l4, l5] [.int y, .int x] σ = ru d 125 10 [l0, l1, l2, l3, l4, l5] [.int (x + y)] σ := q_iadd t125_9
theorem t125_10 : decode (mb 125) 10 = .ok (.istore 5, 2) := by decide +kernel
theorem s125_10 (d : Nat) (l0 : Value) (l1 : Value) (l2 : Value) (l3 : Value) (i4 : Int32) (l5 : Value) (x : Int32) (σ : Hs) : ru d 125 10 [l0, l1, l2, l3, .int i4, l5] [.int x] σ = ru d 125 12 [l0, l1, l2, l3, .int i4, .int x] [] σ := q_istore t125_10 ⟨Nat.le_of_ble_eq_true rfl, rfl⟩ rfl
theorem t125_12 : decode (mb 125) 12 = .ok (.aload_n 0, 1) := by decide +kernel
theorem s125_12 (d : Nat) (a0 : Nat) (l1 : Value) (l2 : Value) (l3 : Value) (l4 : Value) (l5 : Value) (σ : Hs) : ru d 125 12 [.ref a0, l1, l2, l3, l4, l5] [] σ = ru d 125 13 [.ref a0, l1, l2, l3, l4, l5] [.ref a0] σ := q_aload_n t125_12 rfl
theorem t125_13 : decode (mb 125) 13 = .ok (.iload 5, 2) := by decide +kernel
theorem s125_13 (d : Nat) (l0 : Value) (l1 : Value) (l2 : Value) (l3 : Value) (l4 : Value) (i5 : Int32) (w0 : Value) (σ : Hs) : ru d 125 13 [l0, l1, l2, l3, l4, .int i5] [w0] σ = ru d 125 15 [l0, l1, l2, l3, l4, .int i5] [.int i5, w0] σ := q_iload t125_13 rfl
theorem t125_15 : decode (mb 125) 15 = .ok (.iconst 0, 1) := by decide +kernel
theorem s125_15 (d : Nat) (l0 : Value) (l1 : Value) (l2 : Value) (l3 : Value) (l4 : Value) (l5 : Value) (w0 w1 : Value) (σ : Hs) : ru d 125 15 [l0, l1, l2, l3, l4, l5] [w0, w1] σ = ru d 125 16 [l0, l1, l2, l3, l4, l5] [.int 0, w0, w1] σ := q_iconst t125_15 (by decide +kernel)
theorem t125_16 : decode (mb 125) 16 = .ok (.iconst 1, 1) := by decide +kernel
theorem s125_16 (d : Nat) (l0 : Value) (l1 : Value) (l2 : Value) (l3 : Value) (l4 : Value) (l5 : Value) (w0 w1 w2 : Value) (σ : Hs) : ru d 125 16 [l0, l1, l2, l3, l4, l5] [w0, w1, w2] σ = ru d 125 17 [l0, l1, l2, l3, l4, l5] [.int 1, w0, w1, w2] σ := q_iconst t125_16 (by decide +kernel)
theorem t125_17 : decode (mb 125) 17 = .ok (.invokevirtual 96, 3) := by decide +kernel
theorem s125_17_o87 (d : Nat) (l0 : Value) (l1 : Value) (l2 : Value) (l3 : Value) (l4 : Value) (l5 : Value) (v1 v2 v3 : Value) (σ : Hs) : ru d 125 17 [l0, l1, l2, l3, l4, l5] [v3, v2, v1, .ref 87] σ = kont (callD d 119 [.ref 87, v1, v2, v3] σ) d 125 20 [l0, l1, l2, l3, l4, l5] [] := q_invv t125_17 mo125 K8_96 mj119 rfl rfl rfl rfl (Nat.le_of_ble_eq_true rfl)
theorem t125_20 : decode (mb 125) 20 = .ok (.aload_n 0, 1) := by decide +kernel
theorem s125_20 (d : Nat) (a0 : Nat) (l1 : Value) (l2 : Value) (l3 : Value) (l4 : Value) (l5 : Value) (σ : Hs) : ru d 125 20 [.ref a0, l1, l2, l3, l4, l5] [] σ = ru d 125 21 [.ref a0, l1, l2, l3, l4, l5] [.ref a0] σ := q_aload_n t125_20 rfl
theorem t125_21 : decode (mb 125) 21 = .ok (.iload 5, 2) := by decide +kernel
theorem s125_21 (d : Nat) (l0 : Value) (l1 : Value) (l2 : Value) (l3 : Value) (l4 : Value) (i5 : Int32) (w0 : Value) (σ : Hs) : ru d 125 21 [l0, l1, l2, l3, l4, .int i5] [w0] σ = ru d 125 23 [l0, l1, l2, l3, l4, .int i5] [.int i5, w0] σ := q_iload t125_21 rfl
theorem t125_23 : decode (mb 125) 23 = .ok (.iconst 1, 1) := by decide +kernel
theorem s125_23 (d : Nat) (l0 : Value) (l1 : Value) (l2 : Value) (l3 : Value) (l4 : Value) (l5 : Value) (w0 w1 : Value) (σ : Hs) : ru d 125 23 [l0, l1, l2, l3, l4, l5] [w0, w1] σ = ru d 125 24 [l0, l1, l2, l3, l4, l5] [.int 1, w0, w1] σ := q_iconst t125_23 (by decide +kernel)
theorem t125_24 : decode (mb 125) 24 = .ok (.iload_n 1, 1) := by decide +kernel
theorem s125_24 (d : Nat) (l0 : Value) (i1 : Int32) (l2 : Value) (l3 : Value) (l4 : Value) (l5 : Value) (w0 w1 w2 : Value) (σ : Hs) : ru d 125 24 [l0, .int i1, l2, l3, l4, l5] [w0, w1, w2] σ = ru d 125 25 [l0, .int i1, l2, l3, l4, l5] [.int i1, w0, w1, w2] σ := q_iload_n t125_24 rfl
theorem t125_25 : decode (mb 125) 25 = .ok (.invokevirtual 96, 3) := by decide +kernel
theorem s125_25_o87 (d : Nat) (l0 : Value) (l1 : Value) (l2 : Value) (l3 : Value) (l4 : Value) (l5 : Value) (v1 v2 v3 : Value) (σ : Hs) : ru d 125 25 [l0, l1, l2, l3, l4, l5] [v3, v2, v1, .ref 87] σ = kont (callD d 119 [.ref 87, v1, v2, v3] σ) d 125 28 [l0, l1, l2, l3, l4, l5] [] := q_invv t125_25 mo125 K8_96 mj119 rfl rfl rfl rfl (Nat.le_of_ble_eq_true rfl)
theorem t125_28 : decode (mb 125) 28 = .ok (.aload_n 0, 1) := by decide +kernel
theorem s125_28 (d : Nat) (a0 : Nat) (l1 : Value) (l2 : Value) (l3 : Value) (l4 : Value) (l5 : Value) (σ : Hs) : ru d 125 28 [.ref a0, l1, l2, l3, l4, l5] [] σ = ru d 125 29 [.ref a0, l1, l2, l3, l4, l5] [.ref a0] σ := q_aload_n t125_28 rfl
theorem t125_29 : decode (mb 125) 29 = .ok (.iload 5, 2) := by decide +kernel
theorem s125_29 (d : Nat) (l0 : Value) (l1 : Value) (l2 : Value) (l3 : Value) (l4 : Value) (i5 : Int32) (w0 : Value) (σ : Hs) : ru d 125 29 [l0, l1, l2, l3, l4, .int i5] [w0] σ = ru d 125 31 [l0, l1, l2, l3, l4, .int i5] [.int i5, w0] σ := q_iload t125_29 rfl
theorem t125_31 : decode (mb 125) 31 = .ok (.iconst 2, 1) := by decide +kernel
theorem s125_31 (d : Nat) (l0 : Value) (l1 : Value) (l2 : Value) (l3 : Value) (l4 : Value) (l5 : Value) (w0 w1 : Value) (σ : Hs) : ru d 125 31 [l0, l1, l2, l3, l4, l5] [w0, w1] σ = ru d 125 32 [l0, l1, l2, l3, l4, l5] [.int 2, w0, w1] σ := q_iconst t125_31 (by decide +kernel)
theorem t125_32 : decode (mb 125) 32 = .ok (.iload_n 3, 1) := by decide +kernel
theorem s125_32 (d : Nat) (l0 : Value) (l1 : Value) (l2 : Value) (i3 : Int32) (l4 : Value) (l5 : Value) (w0 w1 w2 : Value) (σ : Hs) : ru d 125 32 [l0, l1, l2, .int i3, l4, l5] [w0, w1, w2] σ = ru d 125 33 [l0, l1, l2, .int i3, l4, l5] [.int i3, w0, w1, w2] σ := q_iload_n t125_32 rfl
theorem t125_33 : decode (mb 125) 33 = .ok (.invokevirtual 96, 3) := by decide +kernel
theorem s125_33_o87 (d : Nat) (l0 : Value) (l1 : Value) (l2 : Value) (l3 : Value) (l4 : Value) (l5 : Value) (v1 v2 v3 : Value) (σ : Hs) : ru d 125 33 [l0, l1, l2, l3, l4, l5] [v3, v2, v1, .ref 87] σ = kont (callD d 119 [.ref 87, v1, v2, v3] σ) d 125 36 [l0, l1, l2, l3, l4, l5] [] := q_invv t125_33 mo125 K8_96 mj119 rfl rfl rfl rfl (Nat.le_of_ble_eq_true rfl)
theorem t125_36 : decode (mb 125) 36 = .ok (.aload_n 0, 1) := by decide +kernel
theorem s125_36 (d : Nat) (a0 : Nat) (l1 : Value) (l2 : Value) (l3 : Value) (l4 : Value) (l5 : Value) (σ : Hs) : ru d 125 36 [.ref a0, l1, l2, l3, l4, l5] [] σ = ru d 125 37 [.ref a0, l1, l2, l3, l4, l5] [.ref a0] σ := q_aload_n t125_36 rfl
theorem t125_37 : decode (mb 125) 37 = .ok (.iload 5, 2) := by decide +kernel
theorem s125_37 (d : Nat) (l0 : Value) (l1 : Value) (l2 : Value) (l3 : Value) (l4 : Value) (i5 : Int32) (w0 : Value) (σ : Hs) : ru d 125 37 [l0, l1, l2, l3, l4, .int i5] [w0] σ = ru d 125 39 [l0, l1, l2, l3, l4, .int i5] [.int i5, w0] σ := q_iload t125_37 rfl
theorem t125_39 : decode (mb 125) 39 = .ok (.iconst 3, 1) := by decide +kernel
theorem s125_39 (d : Nat) (l0 : Value) (l1 : Value) (l2 : Value) (l3 : Value) (l4 : Value) (l5 : Value) (w0 w1 : Value) (σ : Hs) : ru d 125 39 [l0, l1, l2, l3, l4, l5] [w0, w1] σ = ru d 125 40 [l0, l1, l2, l3, l4, l5] [.int 3, w0, w1] σ := q_iconst t125_39 (by decide +kernel)
theorem t125_40 : decode (mb 125) 40 = .ok (.iload 4, 2) := by decide +kernel
theorem s125_40 (d : Nat) (l0 : Value) (l1 : Value) (l2 : Value) (l3 : Value) (i4 : Int32) (l5 : Value) (w0 w1 w2 : Value) (σ : Hs) : ru d 125 40 [l0, l1, l2, l3, .int i4, l5] [w0, w1, w2] σ = ru d 125 42 [l0, l1, l2, l3, .int i4, l5] [.int i4, w0, w1, w2] σ := q_iload t125_40 rfl
theorem t125_42 : decode (mb 125) 42 = .ok (.invokevirtual 96, 3) := by decide +kernel
theorem s125_42_o87 (d : Nat) (l0 : Value) (l1 : Value) (l2 : Value) (l3 : Value) (l4 : Value) (l5 : Value) (v1 v2 v3 : Value) (σ : Hs) : ru d 125 42 [l0, l1, l2, l3, l4, l5] [v3, v2, v1, .ref 87] σ = kont (callD d 119 [.ref 87, v1, v2, v3] σ) d 125 45 [l0, l1, l2, l3, l4, l5] [] := q_invv t125_42 mo125 K8_96 mj119 rfl rfl rfl rfl (Nat.le_of_ble_eq_true rfl)
theorem t125_45 : decode (mb 125) 45 = .ok (.aload_n 0, 1) := by decide +kernel
theorem s125_45 (d : Nat) (a0 : Nat) (l1 : Value) (l2 : Value) (l3 : Value) (l4 : Value) (l5 : Value) (σ : Hs) : ru d 125 45 [.ref a0, l1, l2, l3, l4, l5] [] σ = ru d 125 46 [.ref a0, l1, l2, l3, l4, l5] [.ref a0] σ := q_aload_n t125_45 rfl
theorem t125_46 : decode (mb 125) 46 = .ok (.iload 5, 2) := by decide +kernel
theorem s125_46 (d : Nat) (l0 : Value) (l1 : Value) (l2 : Value) (l3 : Value) (l4 : Value) (i5 : Int32) (w0 : Value) (σ : Hs) : ru d 125 46 [l0, l1, l2, l3, l4, .int i5] [w0] σ = ru d 125 48 [l0, l1, l2, l3, l4, .int i5] [.int i5, w0] σ := q_iload t125_46 rfl
theorem t125_48 : decode (mb 125) 48 = .ok (.iconst 4, 1) := by decide +kernel
theorem s125_48 (d : Nat) (l0 : Value) (l1 : Value) (l2 : Value) (l3 : Value) (l4 : Value) (l5 : Value) (w0 w1 : Value) (σ : Hs) : ru d 125 48 [l0, l1, l2, l3, l4, l5] [w0, w1] σ = ru d 125 49 [l0, l1, l2, l3, l4, l5] [.int 4, w0, w1] σ := q_iconst t125_48 (by decide +kernel)
theorem t125_49 : decode (mb 125) 49 = .ok (.iconst 3, 1) := by decide +kernel
theorem s125_49 (d : Nat) (l0 : Value) (l1 : Value) (l2 : Value) (l3 : Value) (l4 : Value) (l5 : Value) (w0 w1 w2 : Value) (σ : Hs) : ru d 125 49 [l0, l1, l2, l3, l4, l5] [w0, w1, w2] σ = ru d 125 50 [l0, l1, l2, l3, l4, l5] [.int 3, w0, w1, w2] σ := q_iconst t125_49 (by decide +kernel)
theorem t125_50 : decode (mb 125) 50 = .ok (.invokevirtual 96, 3) := by decide +kernel
theorem s125_50_o87 (d : Nat) (l0 : Value) (l1 : Value) (l2 : Value) (l3 : Value) (l4 : Value) (l5 : Value) (v1 v2 v3 : Value) (σ : Hs) : ru d 125 50 [l0, l1, l2, l3, l4, l5] [v3, v2, v1, .ref 87] σ = kont (callD d 119 [.ref 87, v1, v2, v3] σ) d 125 53 [l0, l1, l2, l3, l4, l5] [] := q_invv t125_50 mo125 K8_96 mj119 rfl rfl rfl rfl (Nat.le_of_ble_eq_true rfl)
theorem t125_53 : decode (mb 125) 53 = .ok (.aload_n 0, 1) := by decide +kernel
theorem s125_53 (d : Nat) (a0 : Nat) (l1 : Value) (l2 : Value) (l3 : Value) (l4 : Value) (l5 : Value) (σ : Hs) : ru d 125 53 [.ref a0, l1, l2, l3, l4, l5] [] σ = ru d 125 54 [.ref a0, l1, l2, l3, l4, l5] [.ref a0] σ := q_aload_n t125_53 rfl
theorem t125_54 : decode (mb 125) 54 = .ok (.iload 5, 2) := by decide +kernel
theorem s125_54 (d : Nat) (l0 : Value) (l1 : Value) (l2 : Value) (l3 : Value) (l4 : Value) (i5 : Int32) (w0 : Value) (σ : Hs) : ru d 125 54 [l0, l1, l2, l3, l4, .int i5] [w0] σ = ru d 125 56 [l0, l1, l2, l3, l4, .int i5] [.int i5, w0] σ := q_iload t125_54 rfl
theorem t125_56 : decode (mb 125) 56 = .ok (.iconst 5, 1) := by decide +kernel
theorem s125_56 (d : Nat) (l0 : Value) (l1 : Value) (l2 : Value) (l3 : Value) (l4 : Value) (l5 : Value) (w0 w1 : Value) (σ : Hs) : ru d 125 56 [l0, l1, l2, l3, l4, l5] [w0, w1] σ = ru d 125 57 [l0, l1, l2, l3, l4, l5] [.int 5, w0, w1] σ := q_iconst t125_56 (by decide +kernel)
theorem t125_57 : decode (mb 125) 57 = .ok (.iconst 0, 1) := by decide +kernel
theorem s125_57 (d : Nat) (l0 : Value) (l1 : Value) (l2 : Value) (l3 : Value) (l4 : Value) (l5 : Value) (w0 w1 w2 : Value) (σ : Hs) : ru d 125 57 [l0, l1, l2, l3, l4, l5] [w0, w1, w2] σ = ru d 125 58 [l0, l1, l2, l3, l4, l5] [.int 0, w0, w1, w2] σ := q_iconst t125_57 (by decide +kernel)
theorem t125_58 : decode (mb 125) 58 = .ok (.invokevirtual 96, 3) := by decide +kernel
theorem s125_58_o87 (d : Nat) (l0 : Value) (l1 : Value) (l2 : Value) (l3 : Value) (l4 : Value) (l5 : Value) (v1 v2 v3 : Value) (σ : Hs) : ru d 125 58 [l0, l1, l2, l3, l4, l5] [v3, v2, v1, .ref 87] σ = kont (callD d 119 [.ref 87, v1, v2, v3] σ) d 125 61 [l0, l1, l2, l3, l4, l5] [] := q_invv t125_58 mo125 K8_96 mj119 rfl rfl rfl rfl (Nat.le_of_ble_eq_true rfl)
theorem t125_61 : decode (mb 125) 61 = .ok (.aload_n 0, 1) := by decide +kernel
theorem s125_61 (d : Nat) (a0 : Nat) (l1 : Value) (l2 : Value) (l3 : Value) (l4 : Value) (l5 : Value) (σ : Hs) : ru d 125 61 [.ref a0, l1, l2, l3, l4, l5] [] σ = ru d 125 62 [.ref a0, l1, l2, l3, l4, l5] [.ref a0] σ := q_aload_n t125_61 rfl
theorem t125_62 : decode (mb 125) 62 = .ok (.iload 5, 2) := by decide +kernel
theorem s125_62 (d : Nat) (l0 : Value) (l1 : Value) (l2 : Value) (l3 : Value) (l4 : Value) (i5 : Int32) (w0 : Value) (σ : Hs) : ru d 125 62 [l0, l1, l2, l3, l4, .int i5] [w0] σ = ru d 125 64 [l0, l1, l2, l3, l4, .int i5] [.int i5, w0] σ := q_iload t125_62 rfl
theorem t125_64 : decode (mb 125) 64 = .ok (.bipush 6, 2) := by decide +kernel
theorem s125_64 (d : Nat) (l0 : Value) (l1 : Value) (l2 : Value) (l3 : Value) (l4 : Value) (l5 : Value) (w0 w1 : Value) (σ : Hs) : ru d 125 64 [l0, l1, l2, l3, l4, l5] [w0, w1] σ = ru d 125 66 [l0, l1, l2, l3, l4, l5] [.int 6, w0, w1] σ := q_bipush t125_64 (by decide +kernel)
theorem t125_66 : decode (mb 125) 66 = .ok (.iconst 0, 1) := by decide +kernel
theorem s125_66 (d : Nat) (l0 : Value) (l1 : Value) (l2 : Value) (l3 : Value) (l4 : Value) (l5 : Value) (w0 w1 w2 : Value) (σ : Hs) : ru d 125 66 [l0, l1, l2, l3, l4, l5] [w0, w1, w2] σ = ru d 125 67 [l0, l1, l2, l3, l4, l5] [.int 0, w0, w1, w2] σ := q_iconst t125_66 (by decide +kernel)
theorem t125_67 : decode (mb 125) 67 = .ok (.invokevirtual 96, 3) := by decide +kernel
theorem s125_67_o87 (d : Nat) (l0 : Value) (l1 : Value) (l2 : Value) (l3 : Value) (l4 : Value) (l5 : Value) (v1 v2 v3 : Value) (σ : Hs) : ru d 125 67 [l0, l1, l2, l3, l4, l5] [v3, v2, v1, .ref 87] σ = kont (callD d 119 [.ref 87, v1, v2, v3] σ) d 125 70 [l0, l1, l2, l3, l4, l5] [] := q_invv t125_67 mo125 K8_96 mj119 rfl rfl rfl rfl (Nat.le_of_ble_eq_true rfl)
theorem t125_70 : decode (mb 125) 70 = .ok (.iload 5, 2) := by decide +kernel
theorem s125_70 (d : Nat) (l0 : Value) (l1 : Value) (l2 : Value) (l3 : Value) (l4 : Value) (i5 : Int32) (σ : Hs) : ru d 125 70 [l0, l1, l2, l3, l4, .int i5] [] σ = ru d 125 72 [l0, l1, l2, l3, l4, .int i5] [.int i5] σ := q_iload t125_70 rfl
theorem t125_72 : decode (mb 125) 72 = .ok (.ireturn, 1) := by decide +kernel
theorem s125_72 (d : Nat) (l0 : Value) (l1 : Value) (l2 : Value) (l3 : Value) (l4 : Value) (l5 : Value) (x : Int32) (σ : Hs) : ru d 125 72 [l0, l1, l2, l3, l4, l5] [.int x] σ = some (some (.int x), σ) := q_ireti t125_72 mr125
theorem c125 (d : Nat) (x0 : Nat) (x1 : Int32) (x2 : Int32) (x3 : Int32) (x4 : Int32) (σ : Hs) : callD (d + 1) 125 [.ref x0, .int x1, .int x2, .int x3, .int x4] σ = ru d 125 0 [.ref x0, .int x1, .int x2, .int x3, .int x4, uu] [] σ := callD_ru ml125 rfl rfl (Nat.le_of_ble_eq_true rfl)
-- 126: Model.lay(IIII)I
theorem t126_0 : decode (mb 126) 0 = .ok (.aload_n 0, 1) := by decide +kernel
theorem s126_0 (d : Nat) (a0 : Nat) (l1 : Value) (l2 : Value) (l3 : Value) (l4 : Value) (σ : Hs) : ru d 126 0 [.ref a0, l1, l2, l3, l4] [] σ = ru d 126 1 [.ref a0, l1, l2, l3, l4] [.ref a0] σ := q_aload_n t126_0 rfl
theorem t126_1 : decode (mb 126) 1 = .ok (.iload_n 1, 1) := by decide +kernel
theorem s126_1 (d : Nat) (l0 : Value) (i1 : Int32) (l2 : Value) (l3 : Value) (l4 : Value) (w0 : Value) (σ : Hs) : ru d 126 1 [l0, .int i1, l2, l3, l4] [w0] σ = ru d 126 2 [l0, .int i1, l2, l3, l4] [.int i1, w0] σ := q_iload_n t126_1 rfl
theorem t126_2 : decode (mb 126) 2 = .ok (.iload_n 2, 1) := by decide +kernel
theorem s126_2 (d : Nat) (l0 : Value) (l1 : Value) (i2 : Int32) (l3 : Value) (l4 : Value) (w0 w1 : Value) (σ : Hs) : ru d 126 2 [l0, l1, .int i2, l3, l4] [w0, w1] σ = ru d 126 3 [l0, l1, .int i2, l3, l4] [.int i2, w0, w1] σ := q_iload_n t126_2 rfl
theorem t126_3 : decode (mb 126) 3 = .ok (.iload_n 3, 1) := by decide +kernel
theorem s126_3 (d : Nat) (l0 : Value) (l1 : Value) (l2 : Value) (i3 : Int32) (l4 : Value) (w0 w1 w2 : Value) (σ : Hs) : ru d 126 3 [l0, l1, l2, .int i3, l4] [w0, w1, w2] σ = ru d 126 4 [l0, l1, l2, .int i3, l4] [.int i3, w0, w1, w2] σ := q_iload_n t126_3 rfl
theorem t126_4 : decode (mb 126) 4 = .ok (.iload 4, 2) := by decide +kernel
theorem s126_4 (d : Nat) (l0 : Value) (l1 : Value) (l2 : Value) (l3 : Value) (i4 : Int32) (w0 w1 w2 w3 : Value) (σ : Hs) : ru d 126 4 [l0, l1, l2, l3, .int i4] [w0, w1, w2, w3] σ = ru d 126 6 [l0, l1, l2, l3, .int i4] [.int i4, w0, w1, w2, w3] σ := q_iload t126_4 rfl
theorem t126_6 : decode (mb 126) 6 = .ok (.invokevirtual 100, 3) := by decide +kernel
theorem s126_6_o87 (d : Nat) (l0 : Value) (l1 : Value) (l2 : Value) (l3 : Value) (l4 : Value) (v1 v2 v3 v4 : Value) (σ : Hs) : ru d 126 6 [l0, l1, l2, l3, l4] [v4, v3, v2, v1, .ref 87] σ = kont (callD d 124 [.ref 87, v1, v2, v3, v4] σ) d 126 9 [l0, l1, l2, l3, l4] [] := q_invv t126_6 mo126 K8_100 mj124 rfl rfl rfl rfl (Nat.le_of_ble_eq_true rfl)
theorem t126_9 : decode (mb 126) 9 = .ok (.ifCond .ne 10, 3) := by decide +kernel
theorem s126_9 (d : Nat) (l0 : Value) (l1 : Value) (l2 : Value) (l3 : Value) (l4 : Value) (x : Int32) (σ : Hs) : ru d 126 9 [l0, l1, l2, l3, l4] [.int x] σ = if x = 0 then ru d 126 12 [l0, l1, l2, l3, l4] [] σ else ru d 126 19 [l0, l1, l2, l3, l4] [] σ := q_if_ne t126_9 (by decide +kernel)
theorem t126_12 : decode (mb 126) 12 = .ok (.aload_n 0, 1) := by decide +kernel
theorem s126_12 (d : Nat) (a0 : Nat) (l1 : Value) (l2 : Value) (l3 : Value) (l4 : Value) (σ : Hs) : ru d 126 12 [.ref a0, l1, l2, l3, l4] [] σ = ru d 126 13 [.ref a0, l1, l2, l3, l4] [.ref a0] σ := q_aload_n t126_12 rfl
theorem t126_13 : decode (mb 126) 13 = .ok (.ldc 104, 2) := by decide +kernel
theorem s126_13 (d : Nat) (l0 : Value) (l1 : Value) (l2 : Value) (l3 : Value) (l4 : Value) (w0 : Value) (σ : Hs) : ru d 126 13 [l0, l1, l2, l3, l4] [w0] σ = ru d 126 15 [l0, l1, l2, l3, l4] [.int (-1000001), w0] σ := q_ldc t126_13 mo126 C8_104
theorem t126_15 : decode (mb 126) 15 = .ok (.invokevirtual 105, 3) := by decide +kernel
theorem s126_15_o87 (d : Nat) (l0 : Value) (l1 : Value) (l2 : Value) (l3 : Value) (l4 : Value) (v1 : Value) (σ : Hs) : ru d 126 15 [l0, l1, l2, l3, l4] [v1, .ref 87] σ = kont (callD d 111 [.ref 87, v1] σ) d 126 18 [l0, l1, l2, l3, l4] [] := q_invv t126_15 mo126 K8_105 mj111 rfl rfl rfl rfl (Nat.le_of_ble_eq_true rfl)
theorem t126_18 : decode (mb 126) 18 = .ok (.ireturn, 1) := by decide +kernel
theorem s126_18 (d : Nat) (l0 : Value) (l1 : Value) (l2 : Value) (l3 : Value) (l4 : Value) (x : Int32) (σ : Hs) : ru d 126 18 [l0, l1, l2, l3, l4] [.int x] σ = some (some (.int x), σ) := q_ireti t126_18 mr126
theorem t126_19 : decode (mb 126) 19 = .ok (.aload_n 0, 1) := by decide +kernel
theorem s126_19 (d : Nat) (a0 : Nat) (l1 : Value) (l2 : Value) (l3 : Value) (l4 : Value) (σ : Hs) : ru d 126 19 [.ref a0, l1, l2, l3, l4] [] σ = ru d 126 20 [.ref a0, l1, l2, l3, l4] [.ref a0] σ := q_aload_n t126_19 rfl
theorem t126_20 : decode (mb 126) 20 = .ok (.iload_n 2, 1) := by decide +kernel
theorem s126_20 (d : Nat) (l0 : Value) (l1 : Value) (i2 : Int32) (l3 : Value) (l4 : Value) (w0 : Value) (σ : Hs) : ru d 126 20 [l0, l1, .int i2, l3, l4] [w0] σ = ru d 126 21 [l0, l1, .int i2, l3, l4] [.int i2, w0] σ := q_iload_n t126_20 rfl
theorem t126_21 : decode (mb 126) 21 = .ok (.invokevirtual 92, 3) := by decide +kernel
theorem s126_21_o87 (d : Nat) (l0 : Value) (l1 : Value) (l2 : Value) (l3 : Value) (l4 : Value) (v1 : Value) (σ : Hs) : ru d 126 21 [l0, l1, l2, l3, l4] [v1, .ref 87] σ = kont (callD d 123 [.ref 87, v1] σ) d 126 24 [l0, l1, l2, l3, l4] [] := q_invv t126_21 mo126 K8_92 mj123 rfl rfl rfl rfl (Nat.le_of_ble_eq_true rfl)
theorem t126_24 : decode (mb 126) 24 = .ok (.iconst 5, 1) := by decide +kernel
theorem s126_24 (d : Nat) (l0 : Value) (l1 : Value) (l2 : Value) (l3 : Value) (l4 : Value) (w0 : Value) (σ : Hs) : ru d 126 24 [l0, l1, l2, l3, l4] [w0] σ = ru d 126 25 [l0, l1, l2, l3, l4] [.int 5, w0] σ := q_iconst t126_24 (by decide +kernel)
theorem t126_25 : decode (mb 126) 25 = .ok (.if_icmp .ne 12, 3) := by decide +kernel
theorem s126_25 (d : Nat) (l0 : Value) (l1 : Value) (l2 : Value) (l3 : Value) (l4 : Value) (x y : Int32) (σ : Hs) : ru d 126 25 [l0, l1, l2, l3, l4] [.int y, .int x] σ = if x = y then ru d 126 28 [l0, l1, l2, l3, l4] [] σ else ru d 126 37 [l0, l1, l2, l3, l4] [] σ := q_ic_ne t126_25 (by decide +kernel)
theorem t126_28 : decode (mb 126) 28 = .ok (.aload_n 0, 1) := by decide +kernel
theorem s126_28 (d : Nat) (a0 : Nat) (l1 : Value) (l2 : Value) (l3 : Value) (l4 : Value) (σ : Hs) : ru d 126 28 [.ref a0, l1, l2, l3, l4] [] σ = ru d 126 29 [.ref a0, l1, l2, l3, l4] [.ref a0] σ := q_aload_n t126_28 rfl
theorem t126_29 : decode (mb 126) 29 = .ok (.ldc 108, 2) := by decide +kernel
theorem s126_29 (d : Nat) (l0 : Value) (l1 : Value) (l2 : Value) (l3 : Value) (l4 : Value) (w0 : Value) (σ : Hs) : ru d 126 29 [l0, l1, l2, l3, l4] [w0] σ = ru d 126 31 [l0, l1, l2, l3, l4] [.int (-1000004), w0] σ := q_ldc t126_29 mo126 C8_108
theorem t126_31 : decode (mb 126) 31 = .ok (.invokevirtual 105, 3) := by decide +kernel
theorem s126_31_o87 (d : Nat) (l0 : Value) (l1 : Value) (l2 : Value) (l3 : Value) (l4 : Value) (v1 : Value) (σ : Hs) : ru d 126 31 [l0, l1, l2, l3, l4] [v1, .ref 87] σ = kont (callD d 111 [.ref 87, v1] σ) d 126 34 [l0, l1, l2, l3, l4] [] := q_invv t126_31 mo126 K8_105 mj111 rfl rfl rfl rfl (Nat.le_of_ble_eq_true rfl)
theorem t126_34 : decode (mb 126) 34 = .ok (.goto 12, 3) := by decide +kernel
theorem s126_34 (d : Nat) (l0 : Value) (l1 : Value) (l2 : Value) (l3 : Value) (l4 : Value) (w0 : Value) (σ : Hs) : ru d 126 34 [l0, l1, l2, l3, l4] [w0] σ = ru d 126 46 [l0, l1, l2, l3, l4] [w0] σ := q_goto t126_34 (by decide +kernel)
theorem t126_37 : decode (mb 126) 37 = .ok (.aload_n 0, 1) := by decide +kernel
theorem s126_37 (d : Nat) (a0 : Nat) (l1 : Value) (l2 : Value) (l3 : Value) (l4 : Value) (σ : Hs) : ru d 126 37 [.ref a0, l1, l2, l3, l4] [] σ = ru d 126 38 [.ref a0, l1, l2, l3, l4] [.ref a0] σ := q_aload_n t126_37 rfl
theorem t126_38 : decode (mb 126) 38 = .ok (.iload_n 1, 1) := by decide +kernel
theorem s126_38 (d : Nat) (l0 : Value) (i1 : Int32) (l2 : Value) (l3 : Value) (l4 : Value) (w0 : Value) (σ : Hs) : ru d 126 38 [l0, .int i1, l2, l3, l4] [w0] σ = ru d 126 39 [l0, .int i1, l2, l3, l4] [.int i1, w0] σ := q_iload_n t126_38 rfl
theorem t126_39 : decode (mb 126) 39 = .ok (.iload_n 2, 1) := by decide +kernel
theorem s126_39 (d : Nat) (l0 : Value) (l1 : Value) (i2 : Int32) (l3 : Value) (l4 : Value) (w0 w1 : Value) (σ : Hs) : ru d 126 39 [l0, l1, .int i2, l3, l4] [w0, w1] σ = ru d 126 40 [l0, l1, .int i2, l3, l4] [.int i2, w0, w1] σ := q_iload_n t126_39 rfl
theorem t126_40 : decode (mb 126) 40 = .ok (.iload_n 3, 1) := by decide +kernel
theorem s126_40 (d : Nat) (l0 : Value) (l1 : Value) (l2 : Value) (i3 : Int32) (l4 : Value) (w0 w1 w2 : Value) (σ : Hs) : ru d 126 40 [l0, l1, l2, .int i3, l4] [w0, w1, w2] σ = ru d 126 41 [l0, l1, l2, .int i3, l4] [.int i3, w0, w1, w2] σ := q_iload_n t126_40 rfl
theorem t126_41 : decode (mb 126) 41 = .ok (.iload 4, 2) := by decide +kernel
theorem s126_41 (d : Nat) (l0 : Value) (l1 : Value) (l2 : Value) (l3 : Value) (i4 : Int32) (w0 w1 w2 w3 : Value) (σ : Hs) : ru d 126 41 [l0, l1, l2, l3, .int i4] [w0, w1, w2, w3] σ = ru d 126 43 [l0, l1, l2, l3, .int i4] [.int i4, w0, w1, w2, w3] σ := q_iload t126_41 rfl
theorem t126_43 : decode (mb 126) 43 = .ok (.invokevirtual 109, 3) := by decide +kernel
theorem s126_43_o87 (d : Nat) (l0 : Value) (l1 : Value) (l2 : Value) (l3 : Value) (l4 : Value) (v1 v2 v3 v4 : Value) (σ : Hs) : ru d 126 43 [l0, l1, l2, l3, l4] [v4, v3, v2, v1, .ref 87] σ = kont (callD d 125 [.ref 87, v1, v2, v3, v4] σ) d 126 46 [l0, l1, l2, l3, l4] [] := q_invv t126_43 mo126 K8_109 mj125 rfl rfl rfl rfl (Nat.le_of_ble_eq_true rfl)
theorem t126_46 : decode (mb 126) 46 = .ok (.ireturn, 1) := by decide +kernel
theorem s126_46 (d : Nat) (l0 : Value) (l1 : Value) (l2 : Value) (l3 : Value) (l4 : Value) (x : Int32) (σ : Hs) : ru d 126 46 [l0, l1, l2, l3, l4] [.int x] σ = some (some (.int x), σ) := q_ireti t126_46 mr126
theorem c126 (d : Nat) (x0 : Nat) (x1 : Int32) (x2 : Int32) (x3 : Int32) (x4 : Int32) (σ : Hs) : callD (d + 1) 126 [.ref x0, .int x1, .int x2, .int x3, .int x4] σ = ru d 126 0 [.ref x0, .int x1, .int x2, .int x3, .int x4] [] σ := callD_ru ml126 rfl rfl (Nat.le_of_ble_eq_true rfl)
-- 127: Model.goes(I)V
theorem t127_0 : decode (mb 127) 0 = .ok (.iload_n 1, 1) := by decide +kernel
theorem s127_0 (d : Nat) (l0 : Value) (i1 : Int32) (l2 : Value) (l3 : Value) (σ : Hs) : ru d 127 0 [l0, .int i1, l2, l3] [] σ = ru d 127 1 [l0, .int i1, l2, l3] [.int i1] σ := q_iload_n t127_0 rfl
theorem t127_1 : decode (mb 127) 1 = .ok (.istore_n 2, 1) := by decide +kernel
theorem s127_1 (d : Nat) (l0 : Value) (i1 : Int32) (l2 : Value) (l3 : Value) (x : Int32) (σ : Hs) : ru d 127 1 [l0, .int i1, l2, l3] [.int x] σ = ru d 127 2 [l0, .int i1, .int x, l3] [] σ := q_istore_n t127_1 ⟨Nat.le_of_ble_eq_true rfl, rfl⟩ rfl
theorem t127_2 : decode (mb 127) 2 = .ok (.iload_n 2, 1) := by decide +kernel
theorem s127_2 (d : Nat) (l0 : Value) (l1 : Value) (i2 : Int32) (l3 : Value) (σ : Hs) : ru d 127 2 [l0, l1, .int i2, l3] [] σ = ru d 127 3 [l0, l1, .int i2, l3] [.int i2] σ := q_iload_n t127_2 rfl
theorem t127_3 : decode (mb 127) 3 = .ok (.bipush 30, 2) := by decide +kernel
theorem s127_3 (d : Nat) (l0 : Value) (l1 : Value) (l2 : Value) (l3 : Value) (w0 : Value) (σ : Hs) : ru d 127 3 [l0, l1, l2, l3] [w0] σ = ru d 127 5 [l0, l1, l2, l3] [.int 30, w0] σ := q_bipush t127_3 (by decide +kernel)
theorem t127_5 : decode (mb 127) 5 = .ok (.if_icmp .ge 51, 3) := by decide +kernel
theorem s127_5 (d : Nat) (l0 : Value) (l1 : Value) (l2 : Value) (l3 : Value) (x y : Int32) (σ : Hs) : ru d 127 5 [l0, l1, l2, l3] [.int y, .int x] σ = if y ≤ x then ru d 127 56 [l0, l1, l2, l3] [] σ else ru d 127 8 [l0, l1, l2, l3] [] σ := q_ic_ge t127_5 (by decide +kernel)
theorem t127_8 : decode (mb 127) 8 = .ok (.iconst 0, 1) := by decide +kernel
theorem s127_8 (d : Nat) (l0 : Value) (l1 : Value) (l2 : Value) (l3 : Value) (σ : Hs) : ru d 127 8 [l0, l1, l2, l3] [] σ = ru d 127 9 [l0, l1, l2, l3] [.int 0] σ := q_iconst t127_8 (by decide +kernel)
theorem t127_9 : decode (mb 127) 9 = .ok (.istore_n 3, 1) := by decide +kernel
theorem s127_9 (d : Nat) (l0 : Value) (l1 : Value) (i2 : Int32) (l3 : Value) (x : Int32) (σ : Hs) : ru d 127 9 [l0, l1, .int i2, l3] [.int x] σ = ru d 127 10 [l0, l1, .int i2, .int x] [] σ := q_istore_n t127_9 ⟨Nat.le_of_ble_eq_true rfl, rfl⟩ rfl
theorem t127_10 : decode (mb 127) 10 = .ok (.iload_n 3, 1) := by decide +kernel
theorem s127_10 (d : Nat) (l0 : Value) (l1 : Value) (l2 : Value) (i3 : Int32) (σ : Hs) : ru d 127 10 [l0, l1, l2, .int i3] [] σ = ru d 127 11 [l0, l1, l2, .int i3] [.int i3] σ := q_iload_n t127_10 rfl
theorem t127_11 : decode (mb 127) 11 = .ok (.bipush 7, 2) := by decide +kernel
theorem s127_11 (d : Nat) (l0 : Value) (l1 : Value) (l2 : Value) (l3 : Value) (w0 : Value) (σ : Hs) : ru d 127 11 [l0, l1, l2, l3] [w0] σ = ru d 127 13 [l0, l1, l2, l3] [.int 7, w0] σ := q_bipush t127_11 (by decide +kernel)
theorem t127_13 : decode (mb 127) 13 = .ok (.if_icmp .ge 37, 3) := by decide +kernel
theorem s127_13 (d : Nat) (l0 : Value) (l1 : Value) (l2 : Value) (l3 : Value) (x y : Int32) (σ : Hs) : ru d 127 13 [l0, l1, l2, l3] [.int y, .int x] σ = if y ≤ x then ru d 127 50 [l0, l1, l2, l3] [] σ else ru d 127 16 [l0, l1, l2, l3] [] σ := q_ic_ge t127_13 (by decide +kernel)
theorem t127_16 : decode (mb 127) 16 = .ok (.aload_n 0, 1) := by decide +kernel
theorem s127_16 (d : Nat) (a0 : Nat) (l1 : Value) (l2 : Value) (l3 : Value) (σ : Hs) : ru d 127 16 [.ref a0, l1, l2, l3] [] σ = ru d 127 17 [.ref a0, l1, l2, l3] [.ref a0] σ := q_aload_n t127_16 rfl
theorem t127_17 : decode (mb 127) 17 = .ok (.iload_n 2, 1) := by decide +kernel
theorem s127_17 (d : Nat) (l0 : Value) (l1 : Value) (i2 : Int32) (l3 : Value) (w0 : Value) (σ : Hs) : ru d 127 17 [l0, l1, .int i2, l3] [w0] σ = ru d 127 18 [l0, l1, .int i2, l3] [.int i2, w0] σ := q_iload_n t127_17 rfl
theorem t127_18 : decode (mb 127) 18 = .ok (.iload_n 3, 1) := by decide +kernel
theorem s127_18 (d : Nat) (l0 : Value) (l1 : Value) (l2 : Value) (i3 : Int32) (w0 w1 : Value) (σ : Hs) : ru d 127 18 [l0, l1, l2, .int i3] [w0, w1] σ = ru d 127 19 [l0, l1, l2, .int i3] [.int i3, w0, w1] σ := q_iload_n t127_18 rfl
theorem t127_19 : decode (mb 127) 19 = .ok (.iload_n 2, 1) := by decide +kernel
theorem s127_19 (d : Nat) (l0 : Value) (l1 : Value) (i2 : Int32) (l3 : Value) (w0 w1 w2 : Value) (σ : Hs) : ru d 127 19 [l0, l1, .int i2, l3] [w0, w1, w2] σ = ru d 127 20 [l0, l1, .int i2, l3] [.int i2, w0, w1, w2] σ := q_iload_n t127_19 rfl
theorem t127_20 : decode (mb 127) 20 = .ok (.bipush 6, 2) := by decide +kernel
theorem s127_20 (d : Nat) (l0 : Value) (l1 : Value) (l2 : Value) (l3 : Value) (w0 w1 w2 w3 : Value) (σ : Hs) : ru d 127 20 [l0, l1, l2, l3] [w0, w1, w2, w3] σ = ru d 127 22 [l0, l1, l2, l3] [.int 6, w0, w1, w2, w3] σ := q_bipush t127_20 (by decide +kernel)
theorem t127_22 : decode (mb 127) 22 = .ok (.iadd, 1) := by decide +kernel
theorem s127_22 (d : Nat) (l0 : Value) (l1 : Value) (l2 : Value) (l3 : Value) (x y : Int32) (w0 w1 w2 : Value) (σ : Hs) : ru d 127 22 [l0, l1, l2, l3] [.int y, .int x, w0, w1, w2] σ = ru d 127 23 [l0, l1, l2, l3] [.int (x + y), w0, w1, w2] σ := q_iadd t127_22
theorem t127_23 : decode (mb 127) 23 = .ok (.bipush 30, 2) := by decide +kernel
theorem s127_23 (d : Nat) (l0 : Value) (l1 : Value) (l2 : Value) (l3 : Value) (w0 w1 w2 w3 : Value) (σ : Hs) : ru d 127 23 [l0, l1, l2, l3] [w0, w1, w2, w3] σ = ru d 127 25 [l0, l1, l2, l3] [.int 30, w0, w1, w2, w3] σ := q_bipush t127_23 (by decide +kernel)
theorem t127_25 : decode (mb 127) 25 = .ok (.if_icmp .ge 15, 3) := by decide +kernel
theorem s127_25 (d : Nat) (l0 : Value) (l1 : Value) (l2 : Value) (l3 : Value) (x y : Int32) (w0 w1 w2 : Value) (σ : Hs) : ru d 127 25 [l0, l1, l2, l3] [.int y, .int x, w0, w1, w2] σ = if y ≤ x then ru d 127 40 [l0, l1, l2, l3] [w0, w1, w2] σ else ru d 127 28 [l0, l1, l2, l3] [w0, w1, w2] σ := q_ic_ge t127_25 (by decide +kernel)
theorem t127_28 : decode (mb 127) 28 = .ok (.aload_n 0, 1) := by decide +kernel
theorem s127_28 (d : Nat) (a0 : Nat) (l1 : Value) (l2 : Value) (l3 : Value) (w0 w1 w2 : Value) (σ : Hs) : ru d 127 28 [.ref a0, l1, l2, l3] [w0, w1, w2] σ = ru d 127 29 [.ref a0, l1, l2, l3] [.ref a0, w0, w1, w2] σ := q_aload_n t127_28 rfl
theorem t127_29 : decode (mb 127) 29 = .ok (.iload_n 2, 1) := by decide +kernel
theorem s127_29 (d : Nat) (l0 : Value) (l1 : Value) (i2 : Int32) (l3 : Value) (w0 w1 w2 w3 : Value) (σ : Hs) : ru d 127 29 [l0, l1, .int i2, l3] [w0, w1, w2, w3] σ = ru d 127 30 [l0, l1, .int i2, l3] [.int i2, w0, w1, w2, w3] σ := q_iload_n t127_29 rfl
theorem t127_30 : decode (mb 127) 30 = .ok (.bipush 6, 2) := by decide +kernel
theorem s127_30 (d : Nat) (l0 : Value) (l1 : Value) (l2 : Value) (l3 : Value) (w0 w1 w2 w3 w4 : Value) (σ : Hs) : ru d 127 30 [l0, l1, l2, l3] [w0, w1, w2, w3, w4] σ = ru d 127 32 [l0, l1, l2, l3] [.int 6, w0, w1, w2, w3, w4] σ := q_bipush t127_30 (by decide +kernel)
theorem t127_32 : decode (mb 127) 32 = .ok (.iadd, 1) := by decide +kernel
theorem s127_32 (d : Nat) (l0 : Value) (l1 : Value) (l2 : Value) (l3 : Value) (x y : Int32) (w0 w1 w2 w3 : Value) (σ : Hs) : ru d 127 32 [l0, l1, l2, l3] [.int y, .int x, w0, w1, w2, w3] σ = ru d 127 33 [l0, l1, l2, l3] [.int (x + y), w0, w1, w2, w3] σ := q_iadd t127_32
theorem t127_33 : decode (mb 127) 33 = .ok (.iload_n 3, 1) := by decide +kernel
theorem s127_33 (d : Nat) (l0 : Value) (l1 : Value) (l2 : Value) (i3 : Int32) (w0 w1 w2 w3 w4 : Value) (σ : Hs) : ru d 127 33 [l0, l1, l2, .int i3] [w0, w1, w2, w3, w4] σ = ru d 127 34 [l0, l1, l2, .int i3] [.int i3, w0, w1, w2, w3, w4] σ := q_iload_n t127_33 rfl
theorem t127_34 : decode (mb 127) 34 = .ok (.invokevirtual 85, 3) := by decide +kernel
theorem s127_34_o87 (d : Nat) (l0 : Value) (l1 : Value) (l2 : Value) (l3 : Value) (v1 v2 : Value) (w0 : Int32) (w1 : Int32) (w2 : Nat) (σ : Hs) : ru d 127 34 [l0, l1, l2, l3] [v2, v1, .ref 87, .int w0, .int w1, .ref w2] σ = kont (callD d 118 [.ref 87, v1, v2] σ) d 127 37 [l0, l1, l2, l3] [.int w0, .int w1, .ref w2] := q_invv t127_34 mo127 K8_85 mj118 rfl rfl rfl rfl (Nat.le_of_ble_eq_true rfl)
theorem t127_37 : decode (mb 127) 37 = .ok (.goto 4, 3) := by decide +kernel
theorem s127_37 (d : Nat) (l0 : Value) (l1 : Value) (l2 : Value) (l3 : Value) (w0 w1 w2 w3 : Value) (σ : Hs) : ru d 127 37 [l0, l1, l2, l3] [w0, w1, w2, w3] σ = ru d 127 41 [l0, l1, l2, l3] [w0, w1, w2, w3] σ := q_goto t127_37 (by decide +kernel)
theorem t127_40 : decode (mb 127) 40 = .ok (.iconst 0, 1) := by decide +kernel
theorem s127_40 (d : Nat) (l0 : Value) (l1 : Value) (l2 : Value) (l3 : Value) (w0 w1 w2 : Value) (σ : Hs) : ru d 127 40 [l0, l1, l2, l3] [w0, w1, w2] σ = ru d 127 41 [l0, l1, l2, l3] [.int 0, w0, w1, w2] σ := q_iconst t127_40 (by decide +kernel)
theorem t127_41 : decode (mb 127) 41 = .ok (.invokevirtual 96, 3) := by decide +kernel
theorem s127_41_o87 (d : Nat) (l0 : Value) (l1 : Value) (l2 : Value) (l3 : Value) (v1 v2 v3 : Value) (σ : Hs) : ru d 127 41 [l0, l1, l2, l3] [v3, v2, v1, .ref 87] σ = kont (callD d 119 [.ref 87, v1, v2, v3] σ) d 127 44 [l0, l1, l2, l3] [] := q_invv t127_41 mo127 K8_96 mj119 rfl rfl rfl rfl (Nat.le_of_ble_eq_true rfl)
theorem t127_44 : decode (mb 127) 44 = .ok (.iinc 3 1, 3) := by decide +kernel
theorem s127_44 (d : Nat) (l0 : Value) (l1 : Value) (i2 : Int32) (i3 : Int32) (σ : Hs) : ru d 127 44 [l0, l1, .int i2, .int i3] [] σ = ru d 127 47 [l0, l1, .int i2, .int (i3 + 1)] [] σ := q_iinc t127_44 ⟨Nat.le_of_ble_eq_true rfl, rfl⟩ rfl (by decide +kernel) rfl
theorem t127_47 : decode (mb 127) 47 = .ok (.goto (-37), 3) := by decide +kernel
theorem s127_47 (d : Nat) (l0 : Value) (l1 : Value) (l2 : Value) (l3 : Value) (σ : Hs) : ru d 127 47 [l0, l1, l2, l3] [] σ = ru d 127 10 [l0, l1, l2, l3] [] σ := q_goto t127_47 (by decide +kernel)
theorem t127_50 : decode (mb 127) 50 = .ok (.iinc 2 6, 3) := by decide +kernel
theorem s127_50 (d : Nat) (l0 : Value) (i1 : Int32) (i2 : Int32) (l3 : Value) (σ : Hs) : ru d 127 50 [l0, .int i1, .int i2, l3] [] σ = ru d 127 53 [l0, .int i1, .int (i2 + 6), l3] [] σ := q_iinc t127_50 ⟨Nat.le_of_ble_eq_true rfl, rfl⟩ rfl (by decide +kernel) rfl
theorem t127_53 : decode (mb 127) 53 = .ok (.goto (-51), 3) := by decide +kernel
theorem s127_53 (d : Nat) (l0 : Value) (l1 : Value) (l2 : Value) (l3 : Value) (σ : Hs) : ru d 127 53 [l0, l1, l2, l3] [] σ = ru d 127 2 [l0, l1, l2, l3] [] σ := q_goto t127_53 (by decide +kernel)
theorem t127_56 : decode (mb 127) 56 = .ok (.return_, 1) := by decide +kernel
theorem s127_56 (d : Nat) (l0 : Value) (l1 : Value) (l2 : Value) (l3 : Value) (σ : Hs) : ru d 127 56 [l0, l1, l2, l3] [] σ = some (none, σ) := q_vret t127_56 mr127
theorem c127 (d : Nat) (x0 : Nat) (x1 : Int32) (σ : Hs) : callD (d + 1) 127 [.ref x0, .int x1] σ = ru d 127 0 [.ref x0, .int x1, uu, uu] [] σ := callD_ru ml127 rfl rfl (Nat.le_of_ble_eq_true rfl)
-- 128: Model.take(I)I
theorem t128_0 : decode (mb 128) 0 = .ok (.iload_n 1, 1) := by decide +kernel
theorem s128_0 (d : Nat) (l0 : Value) (i1 : Int32) (l2 : Value) (σ : Hs) : ru d 128 0 [l0, .int i1, l2] [] σ = ru d 128 1 [l0, .int i1, l2] [.int i1] σ := q_iload_n t128_0 rfl
theorem t128_1 : decode (mb 128) 1 = .ok (.invokestatic 113, 3) := by decide +kernel
theorem s128_1 (d : Nat) (l0 : Value) (l1 : Value) (l2 : Value) (v0 : Value) (σ : Hs) : ru d 128 1 [l0, l1, l2] [v0] σ = kont (callD d 120 [v0] σ) d 128 4 [l0, l1, l2] [] := q_invs t128_1 mo128 (by decide +kernel) K8_113 mj120 (Nat.le_of_ble_eq_true rfl) rfl rfl (Nat.le_of_ble_eq_true rfl)
theorem t128_4 : decode (mb 128) 4 = .ok (.ifCond .ne 10, 3) := by decide +kernel
theorem s128_4 (d : Nat) (l0 : Value) (l1 : Value) (l2 : Value) (x : Int32) (σ : Hs) : ru d 128 4 [l0, l1, l2] [.int x] σ = if x = 0 then ru d 128 7 [l0, l1, l2] [] σ else ru d 128 14 [l0, l1, l2] [] σ := q_if_ne t128_4 (by decide +kernel)
theorem t128_7 : decode (mb 128) 7 = .ok (.aload_n 0, 1) := by decide +kernel
theorem s128_7 (d : Nat) (a0 : Nat) (l1 : Value) (l2 : Value) (σ : Hs) : ru d 128 7 [.ref a0, l1, l2] [] σ = ru d 128 8 [.ref a0, l1, l2] [.ref a0] σ := q_aload_n t128_7 rfl
theorem t128_8 : decode (mb 128) 8 = .ok (.ldc 104, 2) := by decide +kernel
theorem s128_8 (d : Nat) (l0 : Value) (l1 : Value) (l2 : Value) (w0 : Value) (σ : Hs) : ru d 128 8 [l0, l1, l2] [w0] σ = ru d 128 10 [l0, l1, l2] [.int (-1000001), w0] σ := q_ldc t128_8 mo128 C8_104
theorem t128_10 : decode (mb 128) 10 = .ok (.invokevirtual 105, 3) := by decide +kernel
theorem s128_10_o87 (d : Nat) (l0 : Value) (l1 : Value) (l2 : Value) (v1 : Value) (σ : Hs) : ru d 128 10 [l0, l1, l2] [v1, .ref 87] σ = kont (callD d 111 [.ref 87, v1] σ) d 128 13 [l0, l1, l2] [] := q_invv t128_10 mo128 K8_105 mj111 rfl rfl rfl rfl (Nat.le_of_ble_eq_true rfl)
theorem t128_13 : decode (mb 128) 13 = .ok (.ireturn, 1) := by decide +kernel
theorem s128_13 (d : Nat) (l0 : Value) (l1 : Value) (l2 : Value) (x : Int32) (σ : Hs) : ru d 128 13 [l0, l1, l2] [.int x] σ = some (some (.int x), σ) := q_ireti t128_13 mr128
theorem t128_14 : decode (mb 128) 14 = .ok (.aload_n 0, 1) := by decide +kernel
theorem s128_14 (d : Nat) (a0 : Nat) (l1 : Value) (l2 : Value) (σ : Hs) : ru d 128 14 [.ref a0, l1, l2] [] σ = ru d 128 15 [.ref a0, l1, l2] [.ref a0] σ := q_aload_n t128_14 rfl
theorem t128_15 : decode (mb 128) 15 = .ok (.iload_n 1, 1) := by decide +kernel
theorem s128_15 (d : Nat) (l0 : Value) (i1 : Int32) (l2 : Value) (w0 : Value) (σ : Hs) : ru d 128 15 [l0, .int i1, l2] [w0] σ = ru d 128 16 [l0, .int i1, l2] [.int i1, w0] σ := q_iload_n t128_15 rfl
theorem t128_16 : decode (mb 128) 16 = .ok (.invokevirtual 88, 3) := by decide +kernel
theorem s128_16_o87 (d : Nat) (l0 : Value) (l1 : Value) (l2 : Value) (v1 : Value) (σ : Hs) : ru d 128 16 [l0, l1, l2] [v1, .ref 87] σ = kont (callD d 121 [.ref 87, v1] σ) d 128 19 [l0, l1, l2] [] := q_invv t128_16 mo128 K8_88 mj121 rfl rfl rfl rfl (Nat.le_of_ble_eq_true rfl)
theorem t128_19 : decode (mb 128) 19 = .ok (.ifCond .ne 10, 3) := by decide +kernel
theorem s128_19 (d : Nat) (l0 : Value) (l1 : Value) (l2 : Value) (x : Int32) (σ : Hs) : ru d 128 19 [l0, l1, l2] [.int x] σ = if x = 0 then ru d 128 22 [l0, l1, l2] [] σ else ru d 128 29 [l0, l1, l2] [] σ := q_if_ne t128_19 (by decide +kernel)
theorem t128_22 : decode (mb 128) 22 = .ok (.aload_n 0, 1) := by decide +kernel
theorem s128_22 (d : Nat) (a0 : Nat) (l1 : Value) (l2 : Value) (σ : Hs) : ru d 128 22 [.ref a0, l1, l2] [] σ = ru d 128 23 [.ref a0, l1, l2] [.ref a0] σ := q_aload_n t128_22 rfl
theorem t128_23 : decode (mb 128) 23 = .ok (.ldc 116, 2) := by decide +kernel
theorem s128_23 (d : Nat) (l0 : Value) (l1 : Value) (l2 : Value) (w0 : Value) (σ : Hs) : ru d 128 23 [l0, l1, l2] [w0] σ = ru d 128 25 [l0, l1, l2] [.int (-1000002), w0] σ := q_ldc t128_23 mo128 C8_116
theorem t128_25 : decode (mb 128) 25 = .ok (.invokevirtual 105, 3) := by decide +kernel
theorem s128_25_o87 (d : Nat) (l0 : Value) (l1 : Value) (l2 : Value) (v1 : Value) (σ : Hs) : ru d 128 25 [l0, l1, l2] [v1, .ref 87] σ = kont (callD d 111 [.ref 87, v1] σ) d 128 28 [l0, l1, l2] [] := q_invv t128_25 mo128 K8_105 mj111 rfl rfl rfl rfl (Nat.le_of_ble_eq_true rfl)
theorem t128_28 : decode (mb 128) 28 = .ok (.ireturn, 1) := by decide +kernel
theorem s128_28 (d : Nat) (l0 : Value) (l1 : Value) (l2 : Value) (x : Int32) (σ : Hs) : ru d 128 28 [l0, l1, l2] [.int x] σ = some (some (.int x), σ) := q_ireti t128_28 mr128
theorem t128_29 : decode (mb 128) 29 = .ok (.aload_n 0, 1) := by decide +kernel
theorem s128_29 (d : Nat) (a0 : Nat) (l1 : Value) (l2 : Value) (σ : Hs) : ru d 128 29 [.ref a0, l1, l2] [] σ = ru d 128 30 [.ref a0, l1, l2] [.ref a0] σ := q_aload_n t128_29 rfl
theorem t128_30 : decode (mb 128) 30 = .ok (.iload_n 1, 1) := by decide +kernel
theorem s128_30 (d : Nat) (l0 : Value) (i1 : Int32) (l2 : Value) (w0 : Value) (σ : Hs) : ru d 128 30 [l0, .int i1, l2] [w0] σ = ru d 128 31 [l0, .int i1, l2] [.int i1, w0] σ := q_iload_n t128_30 rfl
theorem t128_31 : decode (mb 128) 31 = .ok (.iconst 2, 1) := by decide +kernel
theorem s128_31 (d : Nat) (l0 : Value) (l1 : Value) (l2 : Value) (w0 w1 : Value) (σ : Hs) : ru d 128 31 [l0, l1, l2] [w0, w1] σ = ru d 128 32 [l0, l1, l2] [.int 2, w0, w1] σ := q_iconst t128_31 (by decide +kernel)
theorem t128_32 : decode (mb 128) 32 = .ok (.invokevirtual 85, 3) := by decide +kernel
theorem s128_32_o87 (d : Nat) (l0 : Value) (l1 : Value) (l2 : Value) (v1 v2 : Value) (σ : Hs) : ru d 128 32 [l0, l1, l2] [v2, v1, .ref 87] σ = kont (callD d 118 [.ref 87, v1, v2] σ) d 128 35 [l0, l1, l2] [] := q_invv t128_32 mo128 K8_85 mj118 rfl rfl rfl rfl (Nat.le_of_ble_eq_true rfl)
theorem t128_35 : decode (mb 128) 35 = .ok (.istore_n 2, 1) := by decide +kernel
theorem s128_35 (d : Nat) (l0 : Value) (i1 : Int32) (l2 : Value) (x : Int32) (σ : Hs) : ru d 128 35 [l0, .int i1, l2] [.int x] σ = ru d 128 36 [l0, .int i1, .int x] [] σ := q_istore_n t128_35 ⟨Nat.le_of_ble_eq_true rfl, rfl⟩ rfl
theorem t128_36 : decode (mb 128) 36 = .ok (.aload_n 0, 1) := by decide +kernel
theorem s128_36 (d : Nat) (a0 : Nat) (l1 : Value) (l2 : Value) (σ : Hs) : ru d 128 36 [.ref a0, l1, l2] [] σ = ru d 128 37 [.ref a0, l1, l2] [.ref a0] σ := q_aload_n t128_36 rfl
theorem t128_37 : decode (mb 128) 37 = .ok (.iload_n 1, 1) := by decide +kernel
theorem s128_37 (d : Nat) (l0 : Value) (i1 : Int32) (l2 : Value) (w0 : Value) (σ : Hs) : ru d 128 37 [l0, .int i1, l2] [w0] σ = ru d 128 38 [l0, .int i1, l2] [.int i1, w0] σ := q_iload_n t128_37 rfl
theorem t128_38 : decode (mb 128) 38 = .ok (.invokevirtual 117, 3) := by decide +kernel
theorem s128_38_o87 (d : Nat) (l0 : Value) (l1 : Value) (l2 : Value) (v1 : Value) (σ : Hs) : ru d 128 38 [l0, l1, l2] [v1, .ref 87] σ = kont (callD d 127 [.ref 87, v1] σ) d 128 41 [l0, l1, l2] [] := q_invv t128_38 mo128 K8_117 mj127 rfl rfl rfl rfl (Nat.le_of_ble_eq_true rfl)
theorem t128_41 : decode (mb 128) 41 = .ok (.iload_n 2, 1) := by decide +kernel
theorem s128_41 (d : Nat) (l0 : Value) (l1 : Value) (i2 : Int32) (σ : Hs) : ru d 128 41 [l0, l1, .int i2] [] σ = ru d 128 42 [l0, l1, .int i2] [.int i2] σ := q_iload_n t128_41 rfl
theorem t128_42 : decode (mb 128) 42 = .ok (.ireturn, 1) := by decide +kernel
theorem s128_42 (d : Nat) (l0 : Value) (l1 : Value) (l2 : Value) (x : Int32) (σ : Hs) : ru d 128 42 [l0, l1, l2] [.int x] σ = some (some (.int x), σ) := q_ireti t128_42 mr128
theorem c128 (d : Nat) (x0 : Nat) (x1 : Int32) (σ : Hs) : callD (d + 1) 128 [.ref x0, .int x1] σ = ru d 128 0 [.ref x0, .int x1, uu] [] σ := callD_ru ml128 rfl rfl (Nat.le_of_ble_eq_true rfl)
-- 129: Model.beside(II)I
theorem t129_0 : decode (mb 129) 0 = .ok (.iload_n 1, 1) := by decide +kernel
theorem s129_0 (d : Nat) (l0 : Value) (i1 : Int32) (σ : Hs) : ru d 129 0 [l0, .int i1] [] σ = ru d 129 1 [l0, .int i1] [.int i1] σ := q_iload_n t129_0 rfl
theorem t129_1 : decode (mb 129) 1 = .ok (.tableswitch 76 0 2 #[27, 42, 58], 27) := by decide +kernel
theorem f129_1 (x : Int32) : (tsw 0 2 #[27, 42, 58] 76 x.toInt).bind (tgt 1) = some (if x = 0 then 28 else (if x = 1 then 43 else (if x = 2 then 59 else 77))) := by
  by_cases h0 : x = 0
  · subst h0; decide +kernel
  by_cases h1 : x = 1
  · subst h1; decide +kernel
  by_cases h2 : x = 2
  · subst h2; decide +kernel
  have e0 : ¬ x.toInt = 0 := fun h => h0 (Int32.toInt_inj.mp (h.trans (by decide +kernel)))
  have e1 : ¬ x.toInt = 1 := fun h => h1 (Int32.toInt_inj.mp (h.trans (by decide +kernel)))
  have e2 : ¬ x.toInt = 2 := fun h => h2 (Int32.toInt_inj.mp (h.trans (by decide +kernel)))
  have e : x.toInt < 0 ∨ 2 < x.toInt := by omega
  unfold tsw
  rw [if_pos e, if_neg h0, if_neg h1, if_neg h2]
  decide +kernel
theorem s129_1 (d : Nat) (l0 : Value) (l1 : Value) (x : Int32) (σ : Hs) : ru d 129 1 [l0, l1] [.int x] σ = if x = 0 then ru d 129 28 [l0, l1] [] σ else if x = 1 then ru d 129 43 [l0, l1] [] σ else if x = 2 then ru d 129 59 [l0, l1] [] σ else ru d 129 77 [l0, l1] [] σ := by
  refine (q_tsw t129_1 (fun x => (if x = 0 then 28 else (if x = 1 then 43 else (if x = 2 then 59 else 77)))) (f129_1 x)).trans ?_
  by_cases h0 : x = 0
  · rw [if_pos h0, if_pos h0]
  rw [if_neg h0, if_neg h0]
  by_cases h1 : x = 1
  · rw [if_pos h1, if_pos h1]
  rw [if_neg h1, if_neg h1]
  by_cases h2 : x = 2
  · rw [if_pos h2, if_pos h2]
  rw [if_neg h2, if_neg h2]
theorem t129_28 : decode (mb 129) 28 = .ok (.iload_n 0, 1) := by decide +kernel
theorem s129_28 (d : Nat) (i0 : Int32) (l1 : Value) (σ : Hs) : ru d 129 28 [.int i0, l1] [] σ = ru d 129 29 [.int i0, l1] [.int i0] σ := q_iload_n t129_28 rfl
theorem t129_29 : decode (mb 129) 29 = .ok (.bipush 6, 2) := by decide +kernel
theorem s129_29 (d : Nat) (l0 : Value) (l1 : Value) (w0 : Value) (σ : Hs) : ru d 129 29 [l0, l1] [w0] σ = ru d 129 31 [l0, l1] [.int 6, w0] σ := q_bipush t129_29 (by decide +kernel)
theorem t129_31 : decode (mb 129) 31 = .ok (.irem, 1) := by decide +kernel
theorem s129_31 (d : Nat) (l0 : Value) (l1 : Value) (x y : Int32) (σ : Hs) : ru d 129 31 [l0, l1] [.int y, .int x] σ = gd (¬ y = 0) (ru d 129 32 [l0, l1] [.int (x - x / y * y)] σ) := q_irem t129_31
theorem t129_32 : decode (mb 129) 32 = .ok (.ifCond .le 9, 3) := by decide +kernel
theorem s129_32 (d : Nat) (l0 : Value) (l1 : Value) (x : Int32) (σ : Hs) : ru d 129 32 [l0, l1] [.int x] σ = if x ≤ 0 then ru d 129 41 [l0, l1] [] σ else ru d 129 35 [l0, l1] [] σ := q_if_le t129_32 (by decide +kernel)
theorem t129_35 : decode (mb 129) 35 = .ok (.iload_n 0, 1) := by decide +kernel
theorem s129_35 (d : Nat) (i0 : Int32) (l1 : Value) (σ : Hs) : ru d 129 35 [.int i0, l1] [] σ = ru d 129 36 [.int i0, l1] [.int i0] σ := q_iload_n t129_35 rfl
theorem t129_36 : decode (mb 129) 36 = .ok (.iconst 1, 1) := by decide +kernel
theorem s129_36 (d : Nat) (l0 : Value) (l1 : Value) (w0 : Value) (σ : Hs) : ru d 129 36 [l0, l1] [w0] σ = ru d 129 37 [l0, l1] [.int 1, w0] σ := q_iconst t129_36 (by decide +kernel)
theorem t129_37 : decode (mb 129) 37 = .ok (.isub, 1) := by decide +kernel
theorem s129_37 (d : Nat) (l0 : Value) (l1 : Value) (x y : Int32) (σ : Hs) : ru d 129 37 [l0, l1] [.int y, .int x] σ = ru d 129 38 [l0, l1] [.int (x - y)] σ := q_isub t129_37
theorem t129_38 : decode (mb 129) 38 = .ok (.goto 4, 3) := by decide +kernel
theorem s129_38 (d : Nat) (l0 : Value) (l1 : Value) (w0 : Value) (σ : Hs) : ru d 129 38 [l0, l1] [w0] σ = ru d 129 42 [l0, l1] [w0] σ := q_goto t129_38 (by decide +kernel)
theorem t129_41 : decode (mb 129) 41 = .ok (.iconst (-1), 1) := by decide +kernel
theorem s129_41 (d : Nat) (l0 : Value) (l1 : Value) (σ : Hs) : ru d 129 41 [l0, l1] [] σ = ru d 129 42 [l0, l1] [.int (-1)] σ := q_iconst t129_41 (by decide +kernel)
theorem t129_42 : decode (mb 129) 42 = .ok (.ireturn, 1) := by decide +kernel
theorem s129_42 (d : Nat) (l0 : Value) (l1 : Value) (x : Int32) (σ : Hs) : ru d 129 42 [l0, l1] [.int x] σ = some (some (.int x), σ) := q_ireti t129_42 mr129
theorem t129_43 : decode (mb 129) 43 = .ok (.iload_n 0, 1) := by decide +kernel
theorem s129_43 (d : Nat) (i0 : Int32) (l1 : Value) (σ : Hs) : ru d 129 43 [.int i0, l1] [] σ = ru d 129 44 [.int i0, l1] [.int i0] σ := q_iload_n t129_43 rfl
theorem t129_44 : decode (mb 129) 44 = .ok (.bipush 6, 2) := by decide +kernel
theorem s129_44 (d : Nat) (l0 : Value) (l1 : Value) (w0 : Value) (σ : Hs) : ru d 129 44 [l0, l1] [w0] σ = ru d 129 46 [l0, l1] [.int 6, w0] σ := q_bipush t129_44 (by decide +kernel)
theorem t129_46 : decode (mb 129) 46 = .ok (.irem, 1) := by decide +kernel
theorem s129_46 (d : Nat) (l0 : Value) (l1 : Value) (x y : Int32) (σ : Hs) : ru d 129 46 [l0, l1] [.int y, .int x] σ = gd (¬ y = 0) (ru d 129 47 [l0, l1] [.int (x - x / y * y)] σ) := q_irem t129_46
theorem t129_47 : decode (mb 129) 47 = .ok (.iconst 5, 1) := by decide +kernel
theorem s129_47 (d : Nat) (l0 : Value) (l1 : Value) (w0 : Value) (σ : Hs) : ru d 129 47 [l0, l1] [w0] σ = ru d 129 48 [l0, l1] [.int 5, w0] σ := q_iconst t129_47 (by decide +kernel)
theorem t129_48 : decode (mb 129) 48 = .ok (.if_icmp .ge 9, 3) := by decide +kernel
theorem s129_48 (d : Nat) (l0 : Value) (l1 : Value) (x y : Int32) (σ : Hs) : ru d 129 48 [l0, l1] [.int y, .int x] σ = if y ≤ x then ru d 129 57 [l0, l1] [] σ else ru d 129 51 [l0, l1] [] σ := q_ic_ge t129_48 (by decide +kernel)
theorem t129_51 : decode (mb 129) 51 = .ok (.iload_n 0, 1) := by decide +kernel
theorem s129_51 (d : Nat) (i0 : Int32) (l1 : Value) (σ : Hs) : ru d 129 51 [.int i0, l1] [] σ = ru d 129 52 [.int i0, l1] [.int i0] σ := q_iload_n t129_51 rfl
theorem t129_52 : decode (mb 129) 52 = .ok (.iconst 1, 1) := by decide +kernel
theorem s129_52 (d : Nat) (l0 : Value) (l1 : Value) (w0 : Value) (σ : Hs) : ru d 129 52 [l0, l1] [w0] σ = ru d 129 53 [l0, l1] [.int 1, w0] σ := q_iconst t129_52 (by decide +kernel)
theorem t129_53 : decode (mb 129) 53 = .ok (.iadd, 1) := by decide +kernel
theorem s129_53 (d : Nat) (l0 : Value) (l1 : Value) (x y : Int32) (σ : Hs) : ru d 129 53 [l0, l1] [.int y, .int x] σ = ru d 129 54 [l0, l1] [.int (x + y)] σ := q_iadd t129_53
theorem t129_54 : decode (mb 129) 54 = .ok (.goto 4, 3) := by decide +kernel
theorem s129_54 (d : Nat) (l0 : Value) (l1 : Value) (w0 : Value) (σ : Hs) : ru d 129 54 [l0, l1] [w0] σ = ru d 129 58 [l0, l1] [w0] σ := q_goto t129_54 (by decide +kernel)
theorem t129_57 : decode (mb 129) 57 = .ok (.iconst (-1), 1) := by decide +kernel
theorem s129_57 (d : Nat) (l0 : Value) (l1 : Value) (σ : Hs) : ru d 129 57 [l0, l1] [] σ = ru d 129 58 [l0, l1] [.int (-1)] σ := q_iconst t129_57 (by decide +kernel)
theorem t129_58 : decode (mb 129) 58 = .ok (.ireturn, 1) := by decide +kernel
theorem s129_58 (d : Nat) (l0 : Value) (l1 : Value) (x : Int32) (σ : Hs) : ru d 129 58 [l0, l1] [.int x] σ = some (some (.int x), σ) := q_ireti t129_58 mr129
theorem t129_59 : decode (mb 129) 59 = .ok (.iload_n 0, 1) := by decide +kernel
theorem s129_59 (d : Nat) (i0 : Int32) (l1 : Value) (σ : Hs) : ru d 129 59 [.int i0, l1] [] σ = ru d 129 60 [.int i0, l1] [.int i0] σ := q_iload_n t129_59 rfl
theorem t129_60 : decode (mb 129) 60 = .ok (.bipush 6, 2) := by decide +kernel
theorem s129_60 (d : Nat) (l0 : Value) (l1 : Value) (w0 : Value) (σ : Hs) : ru d 129 60 [l0, l1] [w0] σ = ru d 129 62 [l0, l1] [.int 6, w0] σ := q_bipush t129_60 (by decide +kernel)
theorem t129_62 : decode (mb 129) 62 = .ok (.iadd, 1) := by decide +kernel
theorem s129_62 (d : Nat) (l0 : Value) (l1 : Value) (x y : Int32) (σ : Hs) : ru d 129 62 [l0, l1] [.int y, .int x] σ = ru d 129 63 [l0, l1] [.int (x + y)] σ := q_iadd t129_62
theorem t129_63 : decode (mb 129) 63 = .ok (.bipush 30, 2) := by decide +kernel
theorem s129_63 (d : Nat) (l0 : Value) (l1 : Value) (w0 : Value) (σ : Hs) : ru d 129 63 [l0, l1] [w0] σ = ru d 129 65 [l0, l1] [.int 30, w0] σ := q_bipush t129_63 (by decide +kernel)
theorem t129_65 : decode (mb 129) 65 = .ok (.if_icmp .ge 10, 3) := by decide +kernel
theorem s129_65 (d : Nat) (l0 : Value) (l1 : Value) (x y : Int32) (σ : Hs) : ru d 129 65 [l0, l1] [.int y, .int x] σ = if y ≤ x then ru d 129 75 [l0, l1] [] σ else ru d 129 68 [l0, l1] [] σ := q_ic_ge t129_65 (by decide +kernel)
theorem t129_68 : decode (mb 129) 68 = .ok (.iload_n 0, 1) := by decide +kernel
theorem s129_68 (d : Nat) (i0 : Int32) (l1 : Value) (σ : Hs) : ru d 129 68 [.int i0, l1] [] σ = ru d 129 69 [.int i0, l1] [.int i0] σ := q_iload_n t129_68 rfl
theorem t129_69 : decode (mb 129) 69 = .ok (.bipush 6, 2) := by decide +kernel
theorem s129_69 (d : Nat) (l0 : Value) (l1 : Value) (w0 : Value) (σ : Hs) : ru d 129 69 [l0, l1] [w0] σ = ru d 129 71 [l0, l1] [.int 6, w0] σ := q_bipush t129_69 (by decide +kernel)
theorem t129_71 : decode (mb 129) 71 = .ok (.iadd, 1) := by decide +kernel
theorem s129_71 (d : Nat) (l0 : Value) (l1 : Value) (x y : Int32) (σ : Hs) : ru d 129 71 [l0, l1] [.int y, .int x] σ = ru d 129 72 [l0, l1] [.int (x + y)] σ := q_iadd t129_71
theorem t129_72 : decode (mb 129) 72 = .ok (.goto 4, 3) := by decide +kernel
theorem s129_72 (d : Nat) (l0 : Value) (l1 : Value) (w0 : Value) (σ : Hs) : ru d 129 72 [l0, l1] [w0] σ = ru d 129 76 [l0, l1] [w0] σ := q_goto t129_72 (by decide +kernel)
theorem t129_75 : decode (mb 129) 75 = .ok (.iconst (-1), 1) := by decide +kernel
theorem s129_75 (d : Nat) (l0 : Value) (l1 : Value) (σ : Hs) : ru d 129 75 [l0, l1] [] σ = ru d 129 76 [l0, l1] [.int (-1)] σ := q_iconst t129_75 (by decide +kernel)
theorem t129_76 : decode (mb 129) 76 = .ok (.ireturn, 1) := by decide +kernel
theorem s129_76 (d : Nat) (l0 : Value) (l1 : Value) (x : Int32) (σ : Hs) : ru d 129 76 [l0, l1] [.int x] σ = some (some (.int x), σ) := q_ireti t129_76 mr129
theorem t129_77 : decode (mb 129) 77 = .ok (.iload_n 0, 1) := by decide +kernel
theorem s129_77 (d : Nat) (i0 : Int32) (l1 : Value) (σ : Hs) : ru d 129 77 [.int i0, l1] [] σ = ru d 129 78 [.int i0, l1] [.int i0] σ := q_iload_n t129_77 rfl
theorem t129_78 : decode (mb 129) 78 = .ok (.bipush 6, 2) := by decide +kernel
theorem s129_78 (d : Nat) (l0 : Value) (l1 : Value) (w0 : Value) (σ : Hs) : ru d 129 78 [l0, l1] [w0] σ = ru d 129 80 [l0, l1] [.int 6, w0] σ := q_bipush t129_78 (by decide +kernel)
theorem t129_80 : decode (mb 129) 80 = .ok (.if_icmp .lt 10, 3) := by decide +kernel
theorem s129_80 (d : Nat) (l0 : Value) (l1 : Value) (x y : Int32) (σ : Hs) : ru d 129 80 [l0, l1] [.int y, .int x] σ = if x < y then ru d 129 90 [l0, l1] [] σ else ru d 129 83 [l0, l1] [] σ := q_ic_lt t129_80 (by decide +kernel)
theorem t129_83 : decode (mb 129) 83 = .ok (.iload_n 0, 1) := by decide +kernel
theorem s129_83 (d : Nat) (i0 : Int32) (l1 : Value) (σ : Hs) : ru d 129 83 [.int i0, l1] [] σ = ru d 129 84 [.int i0, l1] [.int i0] σ := q_iload_n t129_83 rfl
theorem t129_84 : decode (mb 129) 84 = .ok (.bipush 6, 2) := by decide +kernel
theorem s129_84 (d : Nat) (l0 : Value) (l1 : Value) (w0 : Value) (σ : Hs) : ru d 129 84 [l0, l1] [w0] σ = ru d 129 86 [l0, l1] [.int 6, w0] σ := q_bipush t129_84 (by decide +kernel)
theorem t129_86 : decode (mb 129) 86 = .ok (.isub, 1) := by decide +kernel
theorem s129_86 (d : Nat) (l0 : Value) (l1 : Value) (x y : Int32) (σ : Hs) : ru d 129 86 [l0, l1] [.int y, .int x] σ = ru d 129 87 [l0, l1] [.int (x - y)] σ := q_isub t129_86
theorem t129_87 : decode (mb 129) 87 = .ok (.goto 5, 3) := by decide +kernel
theorem s129_87 (d : Nat) (l0 : Value) (l1 : Value) (w0 : Value) (σ : Hs) : ru d 129 87 [l0, l1] [w0] σ = ru d 129 92 [l0, l1] [w0] σ := q_goto t129_87 (by decide +kernel)
theorem t129_90 : decode (mb 129) 90 = .ok (.bipush (-2), 2) := by decide +kernel
theorem s129_90 (d : Nat) (l0 : Value) (l1 : Value) (σ : Hs) : ru d 129 90 [l0, l1] [] σ = ru d 129 92 [l0, l1] [.int (-2)] σ := q_bipush t129_90 (by decide +kernel)
theorem t129_92 : decode (mb 129) 92 = .ok (.ireturn, 1) := by decide +kernel
theorem s129_92 (d : Nat) (l0 : Value) (l1 : Value) (x : Int32) (σ : Hs) : ru d 129 92 [l0, l1] [.int x] σ = some (some (.int x), σ) := q_ireti t129_92 mr129
theorem c129 (d : Nat) (x0 : Int32) (x1 : Int32) (σ : Hs) : callD (d + 1) 129 [.int x0, .int x1] σ = ru d 129 0 [.int x0, .int x1] [] σ := callD_ru ml129 rfl rfl (Nat.le_of_ble_eq_true rfl)
-- 130: Model.isOpen(II)Z
theorem t130_0 : decode (mb 130) 0 = .ok (.iload_n 1, 1) := by decide +kernel
theorem s130_0 (d : Nat) (l0 : Value) (i1 : Int32) (l2 : Value) (l3 : Value) (σ : Hs) : ru d 130 0 [l0, .int i1, l2, l3] [] σ = ru d 130 1 [l0, .int i1, l2, l3] [.int i1] σ := q_iload_n t130_0 rfl
theorem t130_1 : decode (mb 130) 1 = .ok (.iload_n 2, 1) := by decide +kernel
theorem s130_1 (d : Nat) (l0 : Value) (l1 : Value) (i2 : Int32) (l3 : Value) (w0 : Value) (σ : Hs) : ru d 130 1 [l0, l1, .int i2, l3] [w0] σ = ru d 130 2 [l0, l1, .int i2, l3] [.int i2, w0] σ := q_iload_n t130_1 rfl
theorem t130_2 : decode (mb 130) 2 = .ok (.invokestatic 121, 3) := by decide +kernel
theorem s130_2 (d : Nat) (l0 : Value) (l1 : Value) (l2 : Value) (l3 : Value) (v0 v1 : Value) (σ : Hs) : ru d 130 2 [l0, l1, l2, l3] [v1, v0] σ = kont (callD d 129 [v0, v1] σ) d 130 5 [l0, l1, l2, l3] [] := q_invs t130_2 mo130 (by decide +kernel) K8_121 mj129 (Nat.le_of_ble_eq_true rfl) rfl rfl (Nat.le_of_ble_eq_true rfl)
theorem t130_5 : decode (mb 130) 5 = .ok (.istore_n 3, 1) := by decide +kernel
theorem s130_5 (d : Nat) (l0 : Value) (l1 : Value) (i2 : Int32) (l3 : Value) (x : Int32) (σ : Hs) : ru d 130 5 [l0, l1, .int i2, l3] [.int x] σ = ru d 130 6 [l0, l1, .int i2, .int x] [] σ := q_istore_n t130_5 ⟨Nat.le_of_ble_eq_true rfl, rfl⟩ rfl
theorem t130_6 : decode (mb 130) 6 = .ok (.iload_n 3, 1) := by decide +kernel
theorem s130_6 (d : Nat) (l0 : Value) (l1 : Value) (l2 : Value) (i3 : Int32) (σ : Hs) : ru d 130 6 [l0, l1, l2, .int i3] [] σ = ru d 130 7 [l0, l1, l2, .int i3] [.int i3] σ := q_iload_n t130_6 rfl
theorem t130_7 : decode (mb 130) 7 = .ok (.iconst (-1), 1) := by decide +kernel
theorem s130_7 (d : Nat) (l0 : Value) (l1 : Value) (l2 : Value) (l3 : Value) (w0 : Value) (σ : Hs) : ru d 130 7 [l0, l1, l2, l3] [w0] σ = ru d 130 8 [l0, l1, l2, l3] [.int (-1), w0] σ := q_iconst t130_7 (by decide +kernel)
theorem t130_8 : decode (mb 130) 8 = .ok (.if_icmp .eq 15, 3) := by decide +kernel
theorem s130_8 (d : Nat) (l0 : Value) (l1 : Value) (l2 : Value) (l3 : Value) (x y : Int32) (σ : Hs) : ru d 130 8 [l0, l1, l2, l3] [.int y, .int x] σ = if x = y then ru d 130 23 [l0, l1, l2, l3] [] σ else ru d 130 11 [l0, l1, l2, l3] [] σ := q_ic_eq t130_8 (by decide +kernel)
theorem t130_11 : decode (mb 130) 11 = .ok (.iload_n 3, 1) := by decide +kernel
theorem s130_11 (d : Nat) (l0 : Value) (l1 : Value) (l2 : Value) (i3 : Int32) (σ : Hs) : ru d 130 11 [l0, l1, l2, .int i3] [] σ = ru d 130 12 [l0, l1, l2, .int i3] [.int i3] σ := q_iload_n t130_11 rfl
theorem t130_12 : decode (mb 130) 12 = .ok (.ifCond .lt 15, 3) := by decide +kernel
theorem s130_12 (d : Nat) (l0 : Value) (l1 : Value) (l2 : Value) (l3 : Value) (x : Int32) (σ : Hs) : ru d 130 12 [l0, l1, l2, l3] [.int x] σ = if x < 0 then ru d 130 27 [l0, l1, l2, l3] [] σ else ru d 130 15 [l0, l1, l2, l3] [] σ := q_if_lt t130_12 (by decide +kernel)
theorem t130_15 : decode (mb 130) 15 = .ok (.aload_n 0, 1) := by decide +kernel
theorem s130_15 (d : Nat) (a0 : Nat) (l1 : Value) (l2 : Value) (l3 : Value) (σ : Hs) : ru d 130 15 [.ref a0, l1, l2, l3] [] σ = ru d 130 16 [.ref a0, l1, l2, l3] [.ref a0] σ := q_aload_n t130_15 rfl
theorem t130_16 : decode (mb 130) 16 = .ok (.iload_n 3, 1) := by decide +kernel
theorem s130_16 (d : Nat) (l0 : Value) (l1 : Value) (l2 : Value) (i3 : Int32) (w0 : Value) (σ : Hs) : ru d 130 16 [l0, l1, l2, .int i3] [w0] σ = ru d 130 17 [l0, l1, l2, .int i3] [.int i3, w0] σ := q_iload_n t130_16 rfl
theorem t130_17 : decode (mb 130) 17 = .ok (.invokevirtual 88, 3) := by decide +kernel
theorem s130_17_o87 (d : Nat) (l0 : Value) (l1 : Value) (l2 : Value) (l3 : Value) (v1 : Value) (σ : Hs) : ru d 130 17 [l0, l1, l2, l3] [v1, .ref 87] σ = kont (callD d 121 [.ref 87, v1] σ) d 130 20 [l0, l1, l2, l3] [] := q_invv t130_17 mo130 K8_88 mj121 rfl rfl rfl rfl (Nat.le_of_ble_eq_true rfl)
theorem t130_20 : decode (mb 130) 20 = .ok (.ifCond .ne 7, 3) := by decide +kernel
theorem s130_20 (d : Nat) (l0 : Value) (l1 : Value) (l2 : Value) (l3 : Value) (x : Int32) (σ : Hs) : ru d 130 20 [l0, l1, l2, l3] [.int x] σ = if x = 0 then ru d 130 23 [l0, l1, l2, l3] [] σ else ru d 130 27 [l0, l1, l2, l3] [] σ := q_if_ne t130_20 (by decide +kernel)
theorem t130_23 : decode (mb 130) 23 = .ok (.iconst 1, 1) := by decide +kernel
theorem s130_23 (d : Nat) (l0 : Value) (l1 : Value) (l2 : Value) (l3 : Value) (σ : Hs) : ru d 130 23 [l0, l1, l2, l3] [] σ = ru d 130 24 [l0, l1, l2, l3] [.int 1] σ := q_iconst t130_23 (by decide +kernel)
theorem t130_24 : decode (mb 130) 24 = .ok (.goto 4, 3) := by decide +kernel
theorem s130_24 (d : Nat) (l0 : Value) (l1 : Value) (l2 : Value) (l3 : Value) (w0 : Value) (σ : Hs) : ru d 130 24 [l0, l1, l2, l3] [w0] σ = ru d 130 28 [l0, l1, l2, l3] [w0] σ := q_goto t130_24 (by decide +kernel)
theorem t130_27 : decode (mb 130) 27 = .ok (.iconst 0, 1) := by decide +kernel
theorem s130_27 (d : Nat) (l0 : Value) (l1 : Value) (l2 : Value) (l3 : Value) (σ : Hs) : ru d 130 27 [l0, l1, l2, l3] [] σ = ru d 130 28 [l0, l1, l2, l3] [.int 0] σ := q_iconst t130_27 (by decide +kernel)
theorem t130_28 : decode (mb 130) 28 = .ok (.ireturn, 1) := by decide +kernel
theorem s130_28 (d : Nat) (l0 : Value) (l1 : Value) (l2 : Value) (l3 : Value) (x : Int32) (hx : isB x) (σ : Hs) : ru d 130 28 [l0, l1, l2, l3] [.int x] σ = some (some (.int x), σ) := q_iretz t130_28 mr130 hx
theorem c130 (d : Nat) (x0 : Nat) (x1 : Int32) (x2 : Int32) (σ : Hs) : callD (d + 1) 130 [.ref x0, .int x1, .int x2] σ = ru d 130 0 [.ref x0, .int x1, .int x2, uu] [] σ := callD_ru ml130 rfl rfl (Nat.le_of_ble_eq_true rfl)
-- 131: Model.draughtOf(I)I
theorem t131_0 : decode (mb 131) 0 = .ok (.iconst 0, 1) := by decide +kernel
theorem s131_0 (d : Nat) (l0 : Value) (l1 : Value) (l2 : Value) (l3 : Value) (l4 : Value) (σ : Hs) : ru d 131 0 [l0, l1, l2, l3, l4] [] σ = ru d 131 1 [l0, l1, l2, l3, l4] [.int 0] σ := q_iconst t131_0 (by decide +kernel)
theorem t131_1 : decode (mb 131) 1 = .ok (.istore_n 2, 1) := by decide +kernel
theorem s131_1 (d : Nat) (l0 : Value) (i1 : Int32) (l2 : Value) (l3 : Value) (l4 : Value) (x : Int32) (σ : Hs) : ru d 131 1 [l0, .int i1, l2, l3, l4] [.int x] σ = ru d 131 2 [l0, .int i1, .int x, l3, l4] [] σ := q_istore_n t131_1 ⟨Nat.le_of_ble_eq_true rfl, rfl⟩ rfl
theorem t131_2 : decode (mb 131) 2 = .ok (.iconst 0, 1) := by decide +kernel
theorem s131_2 (d : Nat) (l0 : Value) (l1 : Value) (l2 : Value) (l3 : Value) (l4 : Value) (σ : Hs) : ru d 131 2 [l0, l1, l2, l3, l4] [] σ = ru d 131 3 [l0, l1, l2, l3, l4] [.int 0] σ := q_iconst t131_2 (by decide +kernel)
theorem t131_3 : decode (mb 131) 3 = .ok (.istore_n 3, 1) := by decide +kernel
theorem s131_3 (d : Nat) (l0 : Value) (l1 : Value) (i2 : Int32) (l3 : Value) (l4 : Value) (x : Int32) (σ : Hs) : ru d 131 3 [l0, l1, .int i2, l3, l4] [.int x] σ = ru d 131 4 [l0, l1, .int i2, .int x, l4] [] σ := q_istore_n t131_3 ⟨Nat.le_of_ble_eq_true rfl, rfl⟩ rfl
theorem t131_4 : decode (mb 131) 4 = .ok (.iload_n 3, 1) := by decide +kernel
theorem s131_4 (d : Nat) (l0 : Value) (l1 : Value) (l2 : Value) (i3 : Int32) (l4 : Value) (σ : Hs) : ru d 131 4 [l0, l1, l2, .int i3, l4] [] σ = ru d 131 5 [l0, l1, l2, .int i3, l4] [.int i3] σ := q_iload_n t131_4 rfl
theorem t131_5 : decode (mb 131) 5 = .ok (.iconst 4, 1) := by decide +kernel
theorem s131_5 (d : Nat) (l0 : Value) (l1 : Value) (l2 : Value) (l3 : Value) (l4 : Value) (w0 : Value) (σ : Hs) : ru d 131 5 [l0, l1, l2, l3, l4] [w0] σ = ru d 131 6 [l0, l1, l2, l3, l4] [.int 4, w0] σ := q_iconst t131_5 (by decide +kernel)
theorem t131_6 : decode (mb 131) 6 = .ok (.if_icmp .ge 26, 3) := by decide +kernel
theorem s131_6 (d : Nat) (l0 : Value) (l1 : Value) (l2 : Value) (l3 : Value) (l4 : Value) (x y : Int32) (σ : Hs) : ru d 131 6 [l0, l1, l2, l3, l4] [.int y, .int x] σ = if y ≤ x then ru d 131 32 [l0, l1, l2, l3, l4] [] σ else ru d 131 9 [l0, l1, l2, l3, l4] [] σ := q_ic_ge t131_6 (by decide +kernel)
theorem t131_9 : decode (mb 131) 9 = .ok (.iload_n 2, 1) := by decide +kernel
theorem s131_9 (d : Nat) (l0 : Value) (l1 : Value) (i2 : Int32) (l3 : Value) (l4 : Value) (σ : Hs) : ru d 131 9 [l0, l1, .int i2, l3, l4] [] σ = ru d 131 10 [l0, l1, .int i2, l3, l4] [.int i2] σ := q_iload_n t131_9 rfl
theorem t131_10 : decode (mb 131) 10 = .ok (.aload_n 0, 1) := by decide +kernel
theorem s131_10 (d : Nat) (a0 : Nat) (l1 : Value) (l2 : Value) (l3 : Value) (l4 : Value) (w0 : Value) (σ : Hs) : ru d 131 10 [.ref a0, l1, l2, l3, l4] [w0] σ = ru d 131 11 [.ref a0, l1, l2, l3, l4] [.ref a0, w0] σ := q_aload_n t131_10 rfl
theorem t131_11 : decode (mb 131) 11 = .ok (.iload_n 1, 1) := by decide +kernel
theorem s131_11 (d : Nat) (l0 : Value) (i1 : Int32) (l2 : Value) (l3 : Value) (l4 : Value) (w0 w1 : Value) (σ : Hs) : ru d 131 11 [l0, .int i1, l2, l3, l4] [w0, w1] σ = ru d 131 12 [l0, .int i1, l2, l3, l4] [.int i1, w0, w1] σ := q_iload_n t131_11 rfl
theorem t131_12 : decode (mb 131) 12 = .ok (.iload_n 3, 1) := by decide +kernel
theorem s131_12 (d : Nat) (l0 : Value) (l1 : Value) (l2 : Value) (i3 : Int32) (l4 : Value) (w0 w1 w2 : Value) (σ : Hs) : ru d 131 12 [l0, l1, l2, .int i3, l4] [w0, w1, w2] σ = ru d 131 13 [l0, l1, l2, .int i3, l4] [.int i3, w0, w1, w2] σ := q_iload_n t131_12 rfl
theorem t131_13 : decode (mb 131) 13 = .ok (.invokevirtual 124, 3) := by decide +kernel
theorem s131_13_o87 (d : Nat) (l0 : Value) (l1 : Value) (l2 : Value) (l3 : Value) (l4 : Value) (v1 v2 : Value) (w0 : Int32) (σ : Hs) : ru d 131 13 [l0, l1, l2, l3, l4] [v2, v1, .ref 87, .int w0] σ = kont (callD d 130 [.ref 87, v1, v2] σ) d 131 16 [l0, l1, l2, l3, l4] [.int w0] := q_invv t131_13 mo131 K8_124 mj130 rfl rfl rfl rfl (Nat.le_of_ble_eq_true rfl)
theorem t131_16 : decode (mb 131) 16 = .ok (.ifCond .eq 7, 3) := by decide +kernel
theorem s131_16 (d : Nat) (l0 : Value) (l1 : Value) (l2 : Value) (l3 : Value) (l4 : Value) (x : Int32) (w0 : Value) (σ : Hs) : ru d 131 16 [l0, l1, l2, l3, l4] [.int x, w0] σ = if x = 0 then ru d 131 23 [l0, l1, l2, l3, l4] [w0] σ else ru d 131 19 [l0, l1, l2, l3, l4] [w0] σ := q_if_eq t131_16 (by decide +kernel)
theorem t131_19 : decode (mb 131) 19 = .ok (.iconst 1, 1) := by decide +kernel
theorem s131_19 (d : Nat) (l0 : Value) (l1 : Value) (l2 : Value) (l3 : Value) (l4 : Value) (w0 : Value) (σ : Hs) : ru d 131 19 [l0, l1, l2, l3, l4] [w0] σ = ru d 131 20 [l0, l1, l2, l3, l4] [.int 1, w0] σ := q_iconst t131_19 (by decide +kernel)
theorem t131_20 : decode (mb 131) 20 = .ok (.goto 4, 3) := by decide +kernel
theorem s131_20 (d : Nat) (l0 : Value) (l1 : Value) (l2 : Value) (l3 : Value) (l4 : Value) (w0 w1 : Value) (σ : Hs) : ru d 131 20 [l0, l1, l2, l3, l4] [w0, w1] σ = ru d 131 24 [l0, l1, l2, l3, l4] [w0, w1] σ := q_goto t131_20 (by decide +kernel)
theorem t131_23 : decode (mb 131) 23 = .ok (.iconst 0, 1) := by decide +kernel
theorem s131_23 (d : Nat) (l0 : Value) (l1 : Value) (l2 : Value) (l3 : Value) (l4 : Value) (w0 : Value) (σ : Hs) : ru d 131 23 [l0, l1, l2, l3, l4] [w0] σ = ru d 131 24 [l0, l1, l2, l3, l4] [.int 0, w0] σ := q_iconst t131_23 (by decide +kernel)
theorem t131_24 : decode (mb 131) 24 = .ok (.iadd, 1) := by decide +kernel
theorem s131_24 (d : Nat) (l0 : Value) (l1 : Value) (l2 : Value) (l3 : Value) (l4 : Value) (x y : Int32) (σ : Hs) : ru d 131 24 [l0, l1, l2, l3, l4] [.int y, .int x] σ = ru d 131 25 [l0, l1, l2, l3, l4] [.int (x + y)] σ := q_iadd t131_24
theorem t131_25 : decode (mb 131) 25 = .ok (.istore_n 2, 1) := by decide +kernel
theorem s131_25 (d : Nat) (l0 : Value) (i1 : Int32) (l2 : Value) (l3 : Value) (l4 : Value) (x : Int32) (σ : Hs) : ru d 131 25 [l0, .int i1, l2, l3, l4] [.int x] σ = ru d 131 26 [l0, .int i1, .int x, l3, l4] [] σ := q_istore_n t131_25 ⟨Nat.le_of_ble_eq_true rfl, rfl⟩ rfl
theorem t131_26 : decode (mb 131) 26 = .ok (.iinc 3 1, 3) := by decide +kernel
theorem s131_26 (d : Nat) (l0 : Value) (l1 : Value) (i2 : Int32) (i3 : Int32) (l4 : Value) (σ : Hs) : ru d 131 26 [l0, l1, .int i2, .int i3, l4] [] σ = ru d 131 29 [l0, l1, .int i2, .int (i3 + 1), l4] [] σ := q_iinc t131_26 ⟨Nat.le_of_ble_eq_true rfl, rfl⟩ rfl (by decide +kernel) rfl
theorem t131_29 : decode (mb 131) 29 = .ok (.goto (-25), 3) := by decide +kernel
theorem s131_29 (d : Nat) (l0 : Value) (l1 : Value) (l2 : Value) (l3 : Value) (l4 : Value) (σ : Hs) : ru d 131 29 [l0, l1, l2, l3, l4] [] σ = ru d 131 4 [l0, l1, l2, l3, l4] [] σ := q_goto t131_29 (by decide +kernel)
theorem t131_32 : decode (mb 131) 32 = .ok (.aload_n 0, 1) := by decide +kernel
theorem s131_32 (d : Nat) (a0 : Nat) (l1 : Value) (l2 : Value) (l3 : Value) (l4 : Value) (σ : Hs) : ru d 131 32 [.ref a0, l1, l2, l3, l4] [] σ = ru d 131 33 [.ref a0, l1, l2, l3, l4] [.ref a0] σ := q_aload_n t131_32 rfl
theorem t131_33 : decode (mb 131) 33 = .ok (.getfield 9, 3) := by decide +kernel
theorem s131_33_o87 (d : Nat) (l0 : Value) (l1 : Value) (l2 : Value) (l3 : Value) (l4 : Value) (σ : Hs) : ru d 131 33 [l0, l1, l2, l3, l4] [.ref 87] σ = ru d 131 36 [l0, l1, l2, l3, l4] [.ref 88] σ := q_getf t131_33 mo131 F8_9 rfl rfl
theorem t131_36 : decode (mb 131) 36 = .ok (.bipush 6, 2) := by decide +kernel
theorem s131_36 (d : Nat) (l0 : Value) (l1 : Value) (l2 : Value) (l3 : Value) (l4 : Value) (w0 : Value) (σ : Hs) : ru d 131 36 [l0, l1, l2, l3, l4] [w0] σ = ru d 131 38 [l0, l1, l2, l3, l4] [.int 6, w0] σ := q_bipush t131_36 (by decide +kernel)
theorem t131_38 : decode (mb 131) 38 = .ok (.iaload, 1) := by decide +kernel
theorem s131_38_o88 (d : Nat) (l0 : Value) (l1 : Value) (l2 : Value) (l3 : Value) (l4 : Value) (i : Int32) (σ : Hs) : ru d 131 38 [l0, l1, l2, l3, l4] [.int i, .ref 88] σ = gd (vp_in i 545) (ru d 131 39 [l0, l1, l2, l3, l4] [.int (σ 88 i.toNatClampNeg)] σ) := q_iald t131_38 rfl (by decide +kernel) rfl
theorem t131_39 : decode (mb 131) 39 = .ok (.istore_n 3, 1) := by decide +kernel
theorem s131_39 (d : Nat) (l0 : Value) (l1 : Value) (i2 : Int32) (l3 : Value) (l4 : Value) (x : Int32) (σ : Hs) : ru d 131 39 [l0, l1, .int i2, l3, l4] [.int x] σ = ru d 131 40 [l0, l1, .int i2, .int x, l4] [] σ := q_istore_n t131_39 ⟨Nat.le_of_ble_eq_true rfl, rfl⟩ rfl
theorem t131_40 : decode (mb 131) 40 = .ok (.iload_n 3, 1) := by decide +kernel
theorem s131_40 (d : Nat) (l0 : Value) (l1 : Value) (l2 : Value) (i3 : Int32) (l4 : Value) (σ : Hs) : ru d 131 40 [l0, l1, l2, .int i3, l4] [] σ = ru d 131 41 [l0, l1, l2, .int i3, l4] [.int i3] σ := q_iload_n t131_40 rfl
theorem t131_41 : decode (mb 131) 41 = .ok (.ifCond .ne 7, 3) := by decide +kernel
theorem s131_41 (d : Nat) (l0 : Value) (l1 : Value) (l2 : Value) (l3 : Value) (l4 : Value) (x : Int32) (σ : Hs) : ru d 131 41 [l0, l1, l2, l3, l4] [.int x] σ = if x = 0 then ru d 131 44 [l0, l1, l2, l3, l4] [] σ else ru d 131 48 [l0, l1, l2, l3, l4] [] σ := q_if_ne t131_41 (by decide +kernel)
theorem t131_44 : decode (mb 131) 44 = .ok (.iconst 0, 1) := by decide +kernel
theorem s131_44 (d : Nat) (l0 : Value) (l1 : Value) (l2 : Value) (l3 : Value) (l4 : Value) (σ : Hs) : ru d 131 44 [l0, l1, l2, l3, l4] [] σ = ru d 131 45 [l0, l1, l2, l3, l4] [.int 0] σ := q_iconst t131_44 (by decide +kernel)
theorem t131_45 : decode (mb 131) 45 = .ok (.goto 13, 3) := by decide +kernel
theorem s131_45 (d : Nat) (l0 : Value) (l1 : Value) (l2 : Value) (l3 : Value) (l4 : Value) (w0 : Value) (σ : Hs) : ru d 131 45 [l0, l1, l2, l3, l4] [w0] σ = ru d 131 58 [l0, l1, l2, l3, l4] [w0] σ := q_goto t131_45 (by decide +kernel)
theorem t131_48 : decode (mb 131) 48 = .ok (.iload_n 3, 1) := by decide +kernel
theorem s131_48 (d : Nat) (l0 : Value) (l1 : Value) (l2 : Value) (i3 : Int32) (l4 : Value) (σ : Hs) : ru d 131 48 [l0, l1, l2, .int i3, l4] [] σ = ru d 131 49 [l0, l1, l2, .int i3, l4] [.int i3] σ := q_iload_n t131_48 rfl
theorem t131_49 : decode (mb 131) 49 = .ok (.iconst 2, 1) := by decide +kernel
theorem s131_49 (d : Nat) (l0 : Value) (l1 : Value) (l2 : Value) (l3 : Value) (l4 : Value) (w0 : Value) (σ : Hs) : ru d 131 49 [l0, l1, l2, l3, l4] [w0] σ = ru d 131 50 [l0, l1, l2, l3, l4] [.int 2, w0] σ := q_iconst t131_49 (by decide +kernel)
theorem t131_50 : decode (mb 131) 50 = .ok (.if_icmp .ne 7, 3) := by decide +kernel
theorem s131_50 (d : Nat) (l0 : Value) (l1 : Value) (l2 : Value) (l3 : Value) (l4 : Value) (x y : Int32) (σ : Hs) : ru d 131 50 [l0, l1, l2, l3, l4] [.int y, .int x] σ = if x = y then ru d 131 53 [l0, l1, l2, l3, l4] [] σ else ru d 131 57 [l0, l1, l2, l3, l4] [] σ := q_ic_ne t131_50 (by decide +kernel)
theorem t131_53 : decode (mb 131) 53 = .ok (.iconst 1, 1) := by decide +kernel
theorem s131_53 (d : Nat) (l0 : Value) (l1 : Value) (l2 : Value) (l3 : Value) (l4 : Value) (σ : Hs) : ru d 131 53 [l0, l1, l2, l3, l4] [] σ = ru d 131 54 [l0, l1, l2, l3, l4] [.int 1] σ := q_iconst t131_53 (by decide +kernel)
theorem t131_54 : decode (mb 131) 54 = .ok (.goto 4, 3) := by decide +kernel
theorem s131_54 (d : Nat) (l0 : Value) (l1 : Value) (l2 : Value) (l3 : Value) (l4 : Value) (w0 : Value) (σ : Hs) : ru d 131 54 [l0, l1, l2, l3, l4] [w0] σ = ru d 131 58 [l0, l1, l2, l3, l4] [w0] σ := q_goto t131_54 (by decide +kernel)
theorem t131_57 : decode (mb 131) 57 = .ok (.iconst 2, 1) := by decide +kernel
theorem s131_57 (d : Nat) (l0 : Value) (l1 : Value) (l2 : Value) (l3 : Value) (l4 : Value) (σ : Hs) : ru d 131 57 [l0, l1, l2, l3, l4] [] σ = ru d 131 58 [l0, l1, l2, l3, l4] [.int 2] σ := q_iconst t131_57 (by decide +kernel)
theorem t131_58 : decode (mb 131) 58 = .ok (.istore 4, 2) := by decide +kernel
theorem s131_58 (d : Nat) (l0 : Value) (l1 : Value) (l2 : Value) (i3 : Int32) (l4 : Value) (x : Int32) (σ : Hs) : ru d 131 58 [l0, l1, l2, .int i3, l4] [.int x] σ = ru d 131 60 [l0, l1, l2, .int i3, .int x] [] σ := q_istore t131_58 ⟨Nat.le_of_ble_eq_true rfl, rfl⟩ rfl
theorem t131_60 : decode (mb 131) 60 = .ok (.iload_n 2, 1) := by decide +kernel
theorem s131_60 (d : Nat) (l0 : Value) (l1 : Value) (i2 : Int32) (l3 : Value) (l4 : Value) (σ : Hs) : ru d 131 60 [l0, l1, .int i2, l3, l4] [] σ = ru d 131 61 [l0, l1, .int i2, l3, l4] [.int i2] σ := q_iload_n t131_60 rfl
theorem t131_61 : decode (mb 131) 61 = .ok (.aload_n 0, 1) := by decide +kernel
theorem s131_61 (d : Nat) (a0 : Nat) (l1 : Value) (l2 : Value) (l3 : Value) (l4 : Value) (w0 : Value) (σ : Hs) : ru d 131 61 [.ref a0, l1, l2, l3, l4] [w0] σ = ru d 131 62 [.ref a0, l1, l2, l3, l4] [.ref a0, w0] σ := q_aload_n t131_61 rfl
theorem t131_62 : decode (mb 131) 62 = .ok (.iload_n 1, 1) := by decide +kernel
theorem s131_62 (d : Nat) (l0 : Value) (i1 : Int32) (l2 : Value) (l3 : Value) (l4 : Value) (w0 w1 : Value) (σ : Hs) : ru d 131 62 [l0, .int i1, l2, l3, l4] [w0, w1] σ = ru d 131 63 [l0, .int i1, l2, l3, l4] [.int i1, w0, w1] σ := q_iload_n t131_62 rfl
theorem t131_63 : decode (mb 131) 63 = .ok (.iconst 4, 1) := by decide +kernel
theorem s131_63 (d : Nat) (l0 : Value) (l1 : Value) (l2 : Value) (l3 : Value) (l4 : Value) (w0 w1 w2 : Value) (σ : Hs) : ru d 131 63 [l0, l1, l2, l3, l4] [w0, w1, w2] σ = ru d 131 64 [l0, l1, l2, l3, l4] [.int 4, w0, w1, w2] σ := q_iconst t131_63 (by decide +kernel)
theorem t131_64 : decode (mb 131) 64 = .ok (.invokevirtual 85, 3) := by decide +kernel
theorem s131_64_o87 (d : Nat) (l0 : Value) (l1 : Value) (l2 : Value) (l3 : Value) (l4 : Value) (v1 v2 : Value) (w0 : Int32) (σ : Hs) : ru d 131 64 [l0, l1, l2, l3, l4] [v2, v1, .ref 87, .int w0] σ = kont (callD d 118 [.ref 87, v1, v2] σ) d 131 67 [l0, l1, l2, l3, l4] [.int w0] := q_invv t131_64 mo131 K8_85 mj118 rfl rfl rfl rfl (Nat.le_of_ble_eq_true rfl)
theorem t131_67 : decode (mb 131) 67 = .ok (.imul, 1) := by decide +kernel
theorem s131_67 (d : Nat) (l0 : Value) (l1 : Value) (l2 : Value) (l3 : Value) (l4 : Value) (x y : Int32) (σ : Hs) : ru d 131 67 [l0, l1, l2, l3, l4] [.int y, .int x] σ = ru d 131 68 [l0, l1, l2, l3, l4] [.int (x * y)] σ := q_imul t131_67
theorem t131_68 : decode (mb 131) 68 = .ok (.aload_n 0, 1) := by decide +kernel
theorem s131_68 (d : Nat) (a0 : Nat) (l1 : Value) (l2 : Value) (l3 : Value) (l4 : Value) (w0 : Value) (σ : Hs) : ru d 131 68 [.ref a0, l1, l2, l3, l4] [w0] σ = ru d 131 69 [.ref a0, l1, l2, l3, l4] [.ref a0, w0] σ := q_aload_n t131_68 rfl
theorem t131_69 : decode (mb 131) 69 = .ok (.iload_n 1, 1) := by decide +kernel
theorem s131_69 (d : Nat) (l0 : Value) (i1 : Int32) (l2 : Value) (l3 : Value) (l4 : Value) (w0 w1 : Value) (σ : Hs) : ru d 131 69 [l0, .int i1, l2, l3, l4] [w0, w1] σ = ru d 131 70 [l0, .int i1, l2, l3, l4] [.int i1, w0, w1] σ := q_iload_n t131_69 rfl
theorem t131_70 : decode (mb 131) 70 = .ok (.iload 4, 2) := by decide +kernel
theorem s131_70 (d : Nat) (l0 : Value) (l1 : Value) (l2 : Value) (l3 : Value) (i4 : Int32) (w0 w1 w2 : Value) (σ : Hs) : ru d 131 70 [l0, l1, l2, l3, .int i4] [w0, w1, w2] σ = ru d 131 72 [l0, l1, l2, l3, .int i4] [.int i4, w0, w1, w2] σ := q_iload t131_70 rfl
theorem t131_72 : decode (mb 131) 72 = .ok (.invokevirtual 124, 3) := by decide +kernel
theorem s131_72_o87 (d : Nat) (l0 : Value) (l1 : Value) (l2 : Value) (l3 : Value) (l4 : Value) (v1 v2 : Value) (w0 : Int32) (σ : Hs) : ru d 131 72 [l0, l1, l2, l3, l4] [v2, v1, .ref 87, .int w0] σ = kont (callD d 130 [.ref 87, v1, v2] σ) d 131 75 [l0, l1, l2, l3, l4] [.int w0] := q_invv t131_72 mo131 K8_124 mj130 rfl rfl rfl rfl (Nat.le_of_ble_eq_true rfl)
theorem t131_75 : decode (mb 131) 75 = .ok (.ifCond .eq 12, 3) := by decide +kernel
theorem s131_75 (d : Nat) (l0 : Value) (l1 : Value) (l2 : Value) (l3 : Value) (l4 : Value) (x : Int32) (w0 : Value) (σ : Hs) : ru d 131 75 [l0, l1, l2, l3, l4] [.int x, w0] σ = if x = 0 then ru d 131 87 [l0, l1, l2, l3, l4] [w0] σ else ru d 131 78 [l0, l1, l2, l3, l4] [w0] σ := q_if_eq t131_75 (by decide +kernel)
theorem t131_78 : decode (mb 131) 78 = .ok (.aload_n 0, 1) := by decide +kernel
theorem s131_78 (d : Nat) (a0 : Nat) (l1 : Value) (l2 : Value) (l3 : Value) (l4 : Value) (w0 : Value) (σ : Hs) : ru d 131 78 [.ref a0, l1, l2, l3, l4] [w0] σ = ru d 131 79 [.ref a0, l1, l2, l3, l4] [.ref a0, w0] σ := q_aload_n t131_78 rfl
theorem t131_79 : decode (mb 131) 79 = .ok (.getfield 9, 3) := by decide +kernel
theorem s131_79_o87 (d : Nat) (l0 : Value) (l1 : Value) (l2 : Value) (l3 : Value) (l4 : Value) (w0 : Value) (σ : Hs) : ru d 131 79 [l0, l1, l2, l3, l4] [.ref 87, w0] σ = ru d 131 82 [l0, l1, l2, l3, l4] [.ref 88, w0] σ := q_getf t131_79 mo131 F8_9 rfl rfl
theorem t131_82 : decode (mb 131) 82 = .ok (.iconst 5, 1) := by decide +kernel
theorem s131_82 (d : Nat) (l0 : Value) (l1 : Value) (l2 : Value) (l3 : Value) (l4 : Value) (w0 w1 : Value) (σ : Hs) : ru d 131 82 [l0, l1, l2, l3, l4] [w0, w1] σ = ru d 131 83 [l0, l1, l2, l3, l4] [.int 5, w0, w1] σ := q_iconst t131_82 (by decide +kernel)
theorem t131_83 : decode (mb 131) 83 = .ok (.iaload, 1) := by decide +kernel
theorem s131_83_o88 (d : Nat) (l0 : Value) (l1 : Value) (l2 : Value) (l3 : Value) (l4 : Value) (i : Int32) (w0 : Value) (σ : Hs) : ru d 131 83 [l0, l1, l2, l3, l4] [.int i, .ref 88, w0] σ = gd (vp_in i 545) (ru d 131 84 [l0, l1, l2, l3, l4] [.int (σ 88 i.toNatClampNeg), w0] σ) := q_iald t131_83 rfl (by decide +kernel) rfl
theorem t131_84 : decode (mb 131) 84 = .ok (.goto 4, 3) := by decide +kernel
theorem s131_84 (d : Nat) (l0 : Value) (l1 : Value) (l2 : Value) (l3 : Value) (l4 : Value) (w0 w1 : Value) (σ : Hs) : ru d 131 84 [l0, l1, l2, l3, l4] [w0, w1] σ = ru d 131 88 [l0, l1, l2, l3, l4] [w0, w1] σ := q_goto t131_84 (by decide +kernel)
theorem t131_87 : decode (mb 131) 87 = .ok (.iconst 0, 1) := by decide +kernel
theorem s131_87 (d : Nat) (l0 : Value) (l1 : Value) (l2 : Value) (l3 : Value) (l4 : Value) (w0 : Value) (σ : Hs) : ru d 131 87 [l0, l1, l2, l3, l4] [w0] σ = ru d 131 88 [l0, l1, l2, l3, l4] [.int 0, w0] σ := q_iconst t131_87 (by decide +kernel)
theorem t131_88 : decode (mb 131) 88 = .ok (.iadd, 1) := by decide +kernel
theorem s131_88 (d : Nat) (l0 : Value) (l1 : Value) (l2 : Value) (l3 : Value) (l4 : Value) (x y : Int32) (σ : Hs) : ru d 131 88 [l0, l1, l2, l3, l4] [.int y, .int x] σ = ru d 131 89 [l0, l1, l2, l3, l4] [.int (x + y)] σ := q_iadd t131_88
theorem t131_89 : decode (mb 131) 89 = .ok (.ireturn, 1) := by decide +kernel
theorem s131_89 (d : Nat) (l0 : Value) (l1 : Value) (l2 : Value) (l3 : Value) (l4 : Value) (x : Int32) (σ : Hs) : ru d 131 89 [l0, l1, l2, l3, l4] [.int x] σ = some (some (.int x), σ) := q_ireti t131_89 mr131
theorem c131 (d : Nat) (x0 : Nat) (x1 : Int32) (σ : Hs) : callD (d + 1) 131 [.ref x0, .int x1] σ = ru d 131 0 [.ref x0, .int x1, uu, uu, uu] [] σ := callD_ru ml131 rfl rfl (Nat.le_of_ble_eq_true rfl)
-- 132: Model.armful(II)I
theorem t132_0 : decode (mb 132) 0 = .ok (.iload_n 1, 1) := by decide +kernel
theorem s132_0 (d : Nat) (l0 : Value) (i1 : Int32) (l2 : Value) (l3 : Value) (σ : Hs) : ru d 132 0 [l0, .int i1, l2, l3] [] σ = ru d 132 1 [l0, .int i1, l2, l3] [.int i1] σ := q_iload_n t132_0 rfl
theorem t132_1 : decode (mb 132) 1 = .ok (.invokestatic 113, 3) := by decide +kernel
theorem s132_1 (d : Nat) (l0 : Value) (l1 : Value) (l2 : Value) (l3 : Value) (v0 : Value) (σ : Hs) : ru d 132 1 [l0, l1, l2, l3] [v0] σ = kont (callD d 120 [v0] σ) d 132 4 [l0, l1, l2, l3] [] := q_invs t132_1 mo132 (by decide +kernel) K8_113 mj120 (Nat.le_of_ble_eq_true rfl) rfl rfl (Nat.le_of_ble_eq_true rfl)
theorem t132_4 : decode (mb 132) 4 = .ok (.ifCond .eq 13, 3) := by decide +kernel
theorem s132_4 (d : Nat) (l0 : Value) (l1 : Value) (l2 : Value) (l3 : Value) (x : Int32) (σ : Hs) : ru d 132 4 [l0, l1, l2, l3] [.int x] σ = if x = 0 then ru d 132 17 [l0, l1, l2, l3] [] σ else ru d 132 7 [l0, l1, l2, l3] [] σ := q_if_eq t132_4 (by decide +kernel)
theorem t132_7 : decode (mb 132) 7 = .ok (.iload_n 2, 1) := by decide +kernel
theorem s132_7 (d : Nat) (l0 : Value) (l1 : Value) (i2 : Int32) (l3 : Value) (σ : Hs) : ru d 132 7 [l0, l1, .int i2, l3] [] σ = ru d 132 8 [l0, l1, .int i2, l3] [.int i2] σ := q_iload_n t132_7 rfl
theorem t132_8 : decode (mb 132) 8 = .ok (.iconst 0, 1) := by decide +kernel
theorem s132_8 (d : Nat) (l0 : Value) (l1 : Value) (l2 : Value) (l3 : Value) (w0 : Value) (σ : Hs) : ru d 132 8 [l0, l1, l2, l3] [w0] σ = ru d 132 9 [l0, l1, l2, l3] [.int 0, w0] σ := q_iconst t132_8 (by decide +kernel)
theorem t132_9 : decode (mb 132) 9 = .ok (.bipush 8, 2) := by decide +kernel
theorem s132_9 (d : Nat) (l0 : Value) (l1 : Value) (l2 : Value) (l3 : Value) (w0 w1 : Value) (σ : Hs) : ru d 132 9 [l0, l1, l2, l3] [w0, w1] σ = ru d 132 11 [l0, l1, l2, l3] [.int 8, w0, w1] σ := q_bipush t132_9 (by decide +kernel)
theorem t132_11 : decode (mb 132) 11 = .ok (.invokestatic 81, 3) := by decide +kernel
theorem s132_11 (d : Nat) (l0 : Value) (l1 : Value) (l2 : Value) (l3 : Value) (v0 v1 v2 : Value) (σ : Hs) : ru d 132 11 [l0, l1, l2, l3] [v2, v1, v0] σ = kont (callD d 112 [v0, v1, v2] σ) d 132 14 [l0, l1, l2, l3] [] := q_invs t132_11 mo132 (by decide +kernel) K8_81 mj112 (Nat.le_of_ble_eq_true rfl) rfl rfl (Nat.le_of_ble_eq_true rfl)
theorem t132_14 : decode (mb 132) 14 = .ok (.ifCond .ne 10, 3) := by decide +kernel
theorem s132_14 (d : Nat) (l0 : Value) (l1 : Value) (l2 : Value) (l3 : Value) (x : Int32) (σ : Hs) : ru d 132 14 [l0, l1, l2, l3] [.int x] σ = if x = 0 then ru d 132 17 [l0, l1, l2, l3] [] σ else ru d 132 24 [l0, l1, l2, l3] [] σ := q_if_ne t132_14 (by decide +kernel)
theorem t132_17 : decode (mb 132) 17 = .ok (.aload_n 0, 1) := by decide +kernel
theorem s132_17 (d : Nat) (a0 : Nat) (l1 : Value) (l2 : Value) (l3 : Value) (σ : Hs) : ru d 132 17 [.ref a0, l1, l2, l3] [] σ = ru d 132 18 [.ref a0, l1, l2, l3] [.ref a0] σ := q_aload_n t132_17 rfl
theorem t132_18 : decode (mb 132) 18 = .ok (.ldc 104, 2) := by decide +kernel
theorem s132_18 (d : Nat) (l0 : Value) (l1 : Value) (l2 : Value) (l3 : Value) (w0 : Value) (σ : Hs) : ru d 132 18 [l0, l1, l2, l3] [w0] σ = ru d 132 20 [l0, l1, l2, l3] [.int (-1000001), w0] σ := q_ldc t132_18 mo132 C8_104
theorem t132_20 : decode (mb 132) 20 = .ok (.invokevirtual 105, 3) := by decide +kernel
theorem s132_20_o87 (d : Nat) (l0 : Value) (l1 : Value) (l2 : Value) (l3 : Value) (v1 : Value) (σ : Hs) : ru d 132 20 [l0, l1, l2, l3] [v1, .ref 87] σ = kont (callD d 111 [.ref 87, v1] σ) d 132 23 [l0, l1, l2, l3] [] := q_invv t132_20 mo132 K8_105 mj111 rfl rfl rfl rfl (Nat.le_of_ble_eq_true rfl)
theorem t132_23 : decode (mb 132) 23 = .ok (.ireturn, 1) := by decide +kernel
theorem s132_23 (d : Nat) (l0 : Value) (l1 : Value) (l2 : Value) (l3 : Value) (x : Int32) (σ : Hs) : ru d 132 23 [l0, l1, l2, l3] [.int x] σ = some (some (.int x), σ) := q_ireti t132_23 mr132
theorem t132_24 : decode (mb 132) 24 = .ok (.aload_n 0, 1) := by decide +kernel
theorem s132_24 (d : Nat) (a0 : Nat) (l1 : Value) (l2 : Value) (l3 : Value) (σ : Hs) : ru d 132 24 [.ref a0, l1, l2, l3] [] σ = ru d 132 25 [.ref a0, l1, l2, l3] [.ref a0] σ := q_aload_n t132_24 rfl
theorem t132_25 : decode (mb 132) 25 = .ok (.iload_n 1, 1) := by decide +kernel
theorem s132_25 (d : Nat) (l0 : Value) (i1 : Int32) (l2 : Value) (l3 : Value) (w0 : Value) (σ : Hs) : ru d 132 25 [l0, .int i1, l2, l3] [w0] σ = ru d 132 26 [l0, .int i1, l2, l3] [.int i1, w0] σ := q_iload_n t132_25 rfl
theorem t132_26 : decode (mb 132) 26 = .ok (.invokevirtual 88, 3) := by decide +kernel
theorem s132_26_o87 (d : Nat) (l0 : Value) (l1 : Value) (l2 : Value) (l3 : Value) (v1 : Value) (σ : Hs) : ru d 132 26 [l0, l1, l2, l3] [v1, .ref 87] σ = kont (callD d 121 [.ref 87, v1] σ) d 132 29 [l0, l1, l2, l3] [] := q_invv t132_26 mo132 K8_88 mj121 rfl rfl rfl rfl (Nat.le_of_ble_eq_true rfl)
theorem t132_29 : decode (mb 132) 29 = .ok (.ifCond .ne 10, 3) := by decide +kernel
theorem s132_29 (d : Nat) (l0 : Value) (l1 : Value) (l2 : Value) (l3 : Value) (x : Int32) (σ : Hs) : ru d 132 29 [l0, l1, l2, l3] [.int x] σ = if x = 0 then ru d 132 32 [l0, l1, l2, l3] [] σ else ru d 132 39 [l0, l1, l2, l3] [] σ := q_if_ne t132_29 (by decide +kernel)
theorem t132_32 : decode (mb 132) 32 = .ok (.aload_n 0, 1) := by decide +kernel
theorem s132_32 (d : Nat) (a0 : Nat) (l1 : Value) (l2 : Value) (l3 : Value) (σ : Hs) : ru d 132 32 [.ref a0, l1, l2, l3] [] σ = ru d 132 33 [.ref a0, l1, l2, l3] [.ref a0] σ := q_aload_n t132_32 rfl
theorem t132_33 : decode (mb 132) 33 = .ok (.ldc 116, 2) := by decide +kernel
theorem s132_33 (d : Nat) (l0 : Value) (l1 : Value) (l2 : Value) (l3 : Value) (w0 : Value) (σ : Hs) : ru d 132 33 [l0, l1, l2, l3] [w0] σ = ru d 132 35 [l0, l1, l2, l3] [.int (-1000002), w0] σ := q_ldc t132_33 mo132 C8_116
theorem t132_35 : decode (mb 132) 35 = .ok (.invokevirtual 105, 3) := by decide +kernel
theorem s132_35_o87 (d : Nat) (l0 : Value) (l1 : Value) (l2 : Value) (l3 : Value) (v1 : Value) (σ : Hs) : ru d 132 35 [l0, l1, l2, l3] [v1, .ref 87] σ = kont (callD d 111 [.ref 87, v1] σ) d 132 38 [l0, l1, l2, l3] [] := q_invv t132_35 mo132 K8_105 mj111 rfl rfl rfl rfl (Nat.le_of_ble_eq_true rfl)
theorem t132_38 : decode (mb 132) 38 = .ok (.ireturn, 1) := by decide +kernel
theorem s132_38 (d : Nat) (l0 : Value) (l1 : Value) (l2 : Value) (l3 : Value) (x : Int32) (σ : Hs) : ru d 132 38 [l0, l1, l2, l3] [.int x] σ = some (some (.int x), σ) := q_ireti t132_38 mr132
theorem t132_39 : decode (mb 132) 39 = .ok (.aload_n 0, 1) := by decide +kernel
theorem s132_39 (d : Nat) (a0 : Nat) (l1 : Value) (l2 : Value) (l3 : Value) (σ : Hs) : ru d 132 39 [.ref a0, l1, l2, l3] [] σ = ru d 132 40 [.ref a0, l1, l2, l3] [.ref a0] σ := q_aload_n t132_39 rfl
theorem t132_40 : decode (mb 132) 40 = .ok (.iload_n 1, 1) := by decide +kernel
theorem s132_40 (d : Nat) (l0 : Value) (i1 : Int32) (l2 : Value) (l3 : Value) (w0 : Value) (σ : Hs) : ru d 132 40 [l0, .int i1, l2, l3] [w0] σ = ru d 132 41 [l0, .int i1, l2, l3] [.int i1, w0] σ := q_iload_n t132_40 rfl
theorem t132_41 : decode (mb 132) 41 = .ok (.iconst 1, 1) := by decide +kernel
theorem s132_41 (d : Nat) (l0 : Value) (l1 : Value) (l2 : Value) (l3 : Value) (w0 w1 : Value) (σ : Hs) : ru d 132 41 [l0, l1, l2, l3] [w0, w1] σ = ru d 132 42 [l0, l1, l2, l3] [.int 1, w0, w1] σ := q_iconst t132_41 (by decide +kernel)
theorem t132_42 : decode (mb 132) 42 = .ok (.invokevirtual 85, 3) := by decide +kernel
theorem s132_42_o87 (d : Nat) (l0 : Value) (l1 : Value) (l2 : Value) (l3 : Value) (v1 v2 : Value) (σ : Hs) : ru d 132 42 [l0, l1, l2, l3] [v2, v1, .ref 87] σ = kont (callD d 118 [.ref 87, v1, v2] σ) d 132 45 [l0, l1, l2, l3] [] := q_invv t132_42 mo132 K8_85 mj118 rfl rfl rfl rfl (Nat.le_of_ble_eq_true rfl)
theorem t132_45 : decode (mb 132) 45 = .ok (.istore_n 3, 1) := by decide +kernel
theorem s132_45 (d : Nat) (l0 : Value) (l1 : Value) (i2 : Int32) (l3 : Value) (x : Int32) (σ : Hs) : ru d 132 45 [l0, l1, .int i2, l3] [.int x] σ = ru d 132 46 [l0, l1, .int i2, .int x] [] σ := q_istore_n t132_45 ⟨Nat.le_of_ble_eq_true rfl, rfl⟩ rfl
theorem t132_46 : decode (mb 132) 46 = .ok (.iload_n 2, 1) := by decide +kernel
theorem s132_46 (d : Nat) (l0 : Value) (l1 : Value) (i2 : Int32) (l3 : Value) (σ : Hs) : ru d 132 46 [l0, l1, .int i2, l3] [] σ = ru d 132 47 [l0, l1, .int i2, l3] [.int i2] σ := q_iload_n t132_46 rfl
theorem t132_47 : decode (mb 132) 47 = .ok (.bipush 6, 2) := by decide +kernel
theorem s132_47 (d : Nat) (l0 : Value) (l1 : Value) (l2 : Value) (l3 : Value) (w0 : Value) (σ : Hs) : ru d 132 47 [l0, l1, l2, l3] [w0] σ = ru d 132 49 [l0, l1, l2, l3] [.int 6, w0] σ := q_bipush t132_47 (by decide +kernel)
theorem t132_49 : decode (mb 132) 49 = .ok (.if_icmp .ge 14, 3) := by decide +kernel
theorem s132_49 (d : Nat) (l0 : Value) (l1 : Value) (l2 : Value) (l3 : Value) (x y : Int32) (σ : Hs) : ru d 132 49 [l0, l1, l2, l3] [.int y, .int x] σ = if y ≤ x then ru d 132 63 [l0, l1, l2, l3] [] σ else ru d 132 52 [l0, l1, l2, l3] [] σ := q_ic_ge t132_49 (by decide +kernel)
theorem t132_52 : decode (mb 132) 52 = .ok (.aload_n 0, 1) := by decide +kernel
theorem s132_52 (d : Nat) (a0 : Nat) (l1 : Value) (l2 : Value) (l3 : Value) (σ : Hs) : ru d 132 52 [.ref a0, l1, l2, l3] [] σ = ru d 132 53 [.ref a0, l1, l2, l3] [.ref a0] σ := q_aload_n t132_52 rfl
theorem t132_53 : decode (mb 132) 53 = .ok (.iload_n 1, 1) := by decide +kernel
theorem s132_53 (d : Nat) (l0 : Value) (i1 : Int32) (l2 : Value) (l3 : Value) (w0 : Value) (σ : Hs) : ru d 132 53 [l0, .int i1, l2, l3] [w0] σ = ru d 132 54 [l0, .int i1, l2, l3] [.int i1, w0] σ := q_iload_n t132_53 rfl
theorem t132_54 : decode (mb 132) 54 = .ok (.iconst 1, 1) := by decide +kernel
theorem s132_54 (d : Nat) (l0 : Value) (l1 : Value) (l2 : Value) (l3 : Value) (w0 w1 : Value) (σ : Hs) : ru d 132 54 [l0, l1, l2, l3] [w0, w1] σ = ru d 132 55 [l0, l1, l2, l3] [.int 1, w0, w1] σ := q_iconst t132_54 (by decide +kernel)
theorem t132_55 : decode (mb 132) 55 = .ok (.iload_n 2, 1) := by decide +kernel
theorem s132_55 (d : Nat) (l0 : Value) (l1 : Value) (i2 : Int32) (l3 : Value) (w0 w1 w2 : Value) (σ : Hs) : ru d 132 55 [l0, l1, .int i2, l3] [w0, w1, w2] σ = ru d 132 56 [l0, l1, .int i2, l3] [.int i2, w0, w1, w2] σ := q_iload_n t132_55 rfl
theorem t132_56 : decode (mb 132) 56 = .ok (.iadd, 1) := by decide +kernel
theorem s132_56 (d : Nat) (l0 : Value) (l1 : Value) (l2 : Value) (l3 : Value) (x y : Int32) (w0 w1 : Value) (σ : Hs) : ru d 132 56 [l0, l1, l2, l3] [.int y, .int x, w0, w1] σ = ru d 132 57 [l0, l1, l2, l3] [.int (x + y), w0, w1] σ := q_iadd t132_56
theorem t132_57 : decode (mb 132) 57 = .ok (.invokevirtual 85, 3) := by decide +kernel
theorem s132_57_o87 (d : Nat) (l0 : Value) (l1 : Value) (l2 : Value) (l3 : Value) (v1 v2 : Value) (σ : Hs) : ru d 132 57 [l0, l1, l2, l3] [v2, v1, .ref 87] σ = kont (callD d 118 [.ref 87, v1, v2] σ) d 132 60 [l0, l1, l2, l3] [] := q_invv t132_57 mo132 K8_85 mj118 rfl rfl rfl rfl (Nat.le_of_ble_eq_true rfl)
theorem t132_60 : decode (mb 132) 60 = .ok (.goto 38, 3) := by decide +kernel
theorem s132_60 (d : Nat) (l0 : Value) (l1 : Value) (l2 : Value) (l3 : Value) (w0 : Value) (σ : Hs) : ru d 132 60 [l0, l1, l2, l3] [w0] σ = ru d 132 98 [l0, l1, l2, l3] [w0] σ := q_goto t132_60 (by decide +kernel)
theorem t132_63 : decode (mb 132) 63 = .ok (.iload_n 2, 1) := by decide +kernel
theorem s132_63 (d : Nat) (l0 : Value) (l1 : Value) (i2 : Int32) (l3 : Value) (σ : Hs) : ru d 132 63 [l0, l1, .int i2, l3] [] σ = ru d 132 64 [l0, l1, .int i2, l3] [.int i2] σ := q_iload_n t132_63 rfl
theorem t132_64 : decode (mb 132) 64 = .ok (.bipush 6, 2) := by decide +kernel
theorem s132_64 (d : Nat) (l0 : Value) (l1 : Value) (l2 : Value) (l3 : Value) (w0 : Value) (σ : Hs) : ru d 132 64 [l0, l1, l2, l3] [w0] σ = ru d 132 66 [l0, l1, l2, l3] [.int 6, w0] σ := q_bipush t132_64 (by decide +kernel)
theorem t132_66 : decode (mb 132) 66 = .ok (.if_icmp .ne 11, 3) := by decide +kernel
theorem s132_66 (d : Nat) (l0 : Value) (l1 : Value) (l2 : Value) (l3 : Value) (x y : Int32) (σ : Hs) : ru d 132 66 [l0, l1, l2, l3] [.int y, .int x] σ = if x = y then ru d 132 69 [l0, l1, l2, l3] [] σ else ru d 132 77 [l0, l1, l2, l3] [] σ := q_ic_ne t132_66 (by decide +kernel)
theorem t132_69 : decode (mb 132) 69 = .ok (.aload_n 0, 1) := by decide +kernel
theorem s132_69 (d : Nat) (a0 : Nat) (l1 : Value) (l2 : Value) (l3 : Value) (σ : Hs) : ru d 132 69 [.ref a0, l1, l2, l3] [] σ = ru d 132 70 [.ref a0, l1, l2, l3] [.ref a0] σ := q_aload_n t132_69 rfl
theorem t132_70 : decode (mb 132) 70 = .ok (.iload_n 1, 1) := by decide +kernel
theorem s132_70 (d : Nat) (l0 : Value) (i1 : Int32) (l2 : Value) (l3 : Value) (w0 : Value) (σ : Hs) : ru d 132 70 [l0, .int i1, l2, l3] [w0] σ = ru d 132 71 [l0, .int i1, l2, l3] [.int i1, w0] σ := q_iload_n t132_70 rfl
theorem t132_71 : decode (mb 132) 71 = .ok (.invokevirtual 128, 3) := by decide +kernel
theorem s132_71_o87 (d : Nat) (l0 : Value) (l1 : Value) (l2 : Value) (l3 : Value) (v1 : Value) (σ : Hs) : ru d 132 71 [l0, l1, l2, l3] [v1, .ref 87] σ = kont (callD d 131 [.ref 87, v1] σ) d 132 74 [l0, l1, l2, l3] [] := q_invv t132_71 mo132 K8_128 mj131 rfl rfl rfl rfl (Nat.le_of_ble_eq_true rfl)
theorem t132_74 : decode (mb 132) 74 = .ok (.goto 24, 3) := by decide +kernel
theorem s132_74 (d : Nat) (l0 : Value) (l1 : Value) (l2 : Value) (l3 : Value) (w0 : Value) (σ : Hs) : ru d 132 74 [l0, l1, l2, l3] [w0] σ = ru d 132 98 [l0, l1, l2, l3] [w0] σ := q_goto t132_74 (by decide +kernel)
theorem t132_77 : decode (mb 132) 77 = .ok (.iload_n 2, 1) := by decide +kernel
theorem s132_77 (d : Nat) (l0 : Value) (l1 : Value) (i2 : Int32) (l3 : Value) (σ : Hs) : ru d 132 77 [l0, l1, .int i2, l3] [] σ = ru d 132 78 [l0, l1, .int i2, l3] [.int i2] σ := q_iload_n t132_77 rfl
theorem t132_78 : decode (mb 132) 78 = .ok (.bipush 7, 2) := by decide +kernel
theorem s132_78 (d : Nat) (l0 : Value) (l1 : Value) (l2 : Value) (l3 : Value) (w0 : Value) (σ : Hs) : ru d 132 78 [l0, l1, l2, l3] [w0] σ = ru d 132 80 [l0, l1, l2, l3] [.int 7, w0] σ := q_bipush t132_78 (by decide +kernel)
theorem t132_80 : decode (mb 132) 80 = .ok (.if_icmp .ne 12, 3) := by decide +kernel
theorem s132_80 (d : Nat) (l0 : Value) (l1 : Value) (l2 : Value) (l3 : Value) (x y : Int32) (σ : Hs) : ru d 132 80 [l0, l1, l2, l3] [.int y, .int x] σ = if x = y then ru d 132 83 [l0, l1, l2, l3] [] σ else ru d 132 92 [l0, l1, l2, l3] [] σ := q_ic_ne t132_80 (by decide +kernel)
theorem t132_83 : decode (mb 132) 83 = .ok (.aload_n 0, 1) := by decide +kernel
theorem s132_83 (d : Nat) (a0 : Nat) (l1 : Value) (l2 : Value) (l3 : Value) (σ : Hs) : ru d 132 83 [.ref a0, l1, l2, l3] [] σ = ru d 132 84 [.ref a0, l1, l2, l3] [.ref a0] σ := q_aload_n t132_83 rfl
theorem t132_84 : decode (mb 132) 84 = .ok (.getfield 22, 3) := by decide +kernel
theorem s132_84_o87 (d : Nat) (l0 : Value) (l1 : Value) (l2 : Value) (l3 : Value) (σ : Hs) : ru d 132 84 [l0, l1, l2, l3] [.ref 87] σ = ru d 132 87 [l0, l1, l2, l3] [.ref 92] σ := q_getf t132_84 mo132 F8_22 rfl rfl
theorem t132_87 : decode (mb 132) 87 = .ok (.iload_n 3, 1) := by decide +kernel
theorem s132_87 (d : Nat) (l0 : Value) (l1 : Value) (l2 : Value) (i3 : Int32) (w0 : Value) (σ : Hs) : ru d 132 87 [l0, l1, l2, .int i3] [w0] σ = ru d 132 88 [l0, l1, l2, .int i3] [.int i3, w0] σ := q_iload_n t132_87 rfl
theorem t132_88 : decode (mb 132) 88 = .ok (.iaload, 1) := by decide +kernel
theorem s132_88_o92 (d : Nat) (l0 : Value) (l1 : Value) (l2 : Value) (l3 : Value) (i : Int32) (σ : Hs) : ru d 132 88 [l0, l1, l2, l3] [.int i, .ref 92] σ = gd (vp_in i 7) (ru d 132 89 [l0, l1, l2, l3] [.int (σ 92 i.toNatClampNeg)] σ) := q_iald t132_88 rfl (by decide +kernel) rfl
theorem t132_89 : decode (mb 132) 89 = .ok (.goto 9, 3) := by decide +kernel
theorem s132_89 (d : Nat) (l0 : Value) (l1 : Value) (l2 : Value) (l3 : Value) (w0 : Value) (σ : Hs) : ru d 132 89 [l0, l1, l2, l3] [w0] σ = ru d 132 98 [l0, l1, l2, l3] [w0] σ := q_goto t132_89 (by decide +kernel)
theorem t132_92 : decode (mb 132) 92 = .ok (.aload_n 0, 1) := by decide +kernel
theorem s132_92 (d : Nat) (a0 : Nat) (l1 : Value) (l2 : Value) (l3 : Value) (σ : Hs) : ru d 132 92 [.ref a0, l1, l2, l3] [] σ = ru d 132 93 [.ref a0, l1, l2, l3] [.ref a0] σ := q_aload_n t132_92 rfl
theorem t132_93 : decode (mb 132) 93 = .ok (.getfield 25, 3) := by decide +kernel
theorem s132_93_o87 (d : Nat) (l0 : Value) (l1 : Value) (l2 : Value) (l3 : Value) (σ : Hs) : ru d 132 93 [l0, l1, l2, l3] [.ref 87] σ = ru d 132 96 [l0, l1, l2, l3] [.ref 93] σ := q_getf t132_93 mo132 F8_25 rfl rfl
theorem t132_96 : decode (mb 132) 96 = .ok (.iload_n 3, 1) := by decide +kernel
theorem s132_96 (d : Nat) (l0 : Value) (l1 : Value) (l2 : Value) (i3 : Int32) (w0 : Value) (σ : Hs) : ru d 132 96 [l0, l1, l2, .int i3] [w0] σ = ru d 132 97 [l0, l1, l2, .int i3] [.int i3, w0] σ := q_iload_n t132_96 rfl
theorem t132_97 : decode (mb 132) 97 = .ok (.iaload, 1) := by decide +kernel
theorem s132_97_o93 (d : Nat) (l0 : Value) (l1 : Value) (l2 : Value) (l3 : Value) (i : Int32) (σ : Hs) : ru d 132 97 [l0, l1, l2, l3] [.int i, .ref 93] σ = gd (vp_in i 7) (ru d 132 98 [l0, l1, l2, l3] [.int (σ 93 i.toNatClampNeg)] σ) := q_iald t132_97 rfl (by decide +kernel) rfl
theorem t132_98 : decode (mb 132) 98 = .ok (.ireturn, 1) := by decide +kernel
theorem s132_98 (d : Nat) (l0 : Value) (l1 : Value) (l2 : Value) (l3 : Value) (x : Int32) (σ : Hs) : ru d 132 98 [l0, l1, l2, l3] [.int x] σ = some (some (.int x), σ) := q_ireti t132_98 mr132
theorem c132 (d : Nat) (x0 : Nat) (x1 : Int32) (x2 : Int32) (σ : Hs) : callD (d + 1) 132 [.ref x0, .int x1, .int x2] σ = ru d 132 0 [.ref x0, .int x1, .int x2, uu] [] σ := callD_ru ml132 rfl rfl (Nat.le_of_ble_eq_true rfl)
-- 133: Model.above(I)I
theorem t133_0 : decode (mb 133) 0 = .ok (.iload_n 0, 1) := by decide +kernel
theorem s133_0 (d : Nat) (i0 : Int32) (σ : Hs) : ru d 133 0 [.int i0] [] σ = ru d 133 1 [.int i0] [.int i0] σ := q_iload_n t133_0 rfl
theorem t133_1 : decode (mb 133) 1 = .ok (.ifCond .ne 7, 3) := by decide +kernel
theorem s133_1 (d : Nat) (l0 : Value) (x : Int32) (σ : Hs) : ru d 133 1 [l0] [.int x] σ = if x = 0 then ru d 133 4 [l0] [] σ else ru d 133 8 [l0] [] σ := q_if_ne t133_1 (by decide +kernel)
theorem t133_4 : decode (mb 133) 4 = .ok (.iconst (-1), 1) := by decide +kernel
theorem s133_4 (d : Nat) (l0 : Value) (σ : Hs) : ru d 133 4 [l0] [] σ = ru d 133 5 [l0] [.int (-1)] σ := q_iconst t133_4 (by decide +kernel)
theorem t133_5 : decode (mb 133) 5 = .ok (.goto 32, 3) := by decide +kernel
theorem s133_5 (d : Nat) (l0 : Value) (w0 : Value) (σ : Hs) : ru d 133 5 [l0] [w0] σ = ru d 133 37 [l0] [w0] σ := q_goto t133_5 (by decide +kernel)
theorem t133_8 : decode (mb 133) 8 = .ok (.iload_n 0, 1) := by decide +kernel
theorem s133_8 (d : Nat) (i0 : Int32) (σ : Hs) : ru d 133 8 [.int i0] [] σ = ru d 133 9 [.int i0] [.int i0] σ := q_iload_n t133_8 rfl
theorem t133_9 : decode (mb 133) 9 = .ok (.iconst 3, 1) := by decide +kernel
theorem s133_9 (d : Nat) (l0 : Value) (w0 : Value) (σ : Hs) : ru d 133 9 [l0] [w0] σ = ru d 133 10 [l0] [.int 3, w0] σ := q_iconst t133_9 (by decide +kernel)
theorem t133_10 : decode (mb 133) 10 = .ok (.if_icmp .ne 7, 3) := by decide +kernel
theorem s133_10 (d : Nat) (l0 : Value) (x y : Int32) (σ : Hs) : ru d 133 10 [l0] [.int y, .int x] σ = if x = y then ru d 133 13 [l0] [] σ else ru d 133 17 [l0] [] σ := q_ic_ne t133_10 (by decide +kernel)
theorem t133_13 : decode (mb 133) 13 = .ok (.iconst 1, 1) := by decide +kernel
theorem s133_13 (d : Nat) (l0 : Value) (σ : Hs) : ru d 133 13 [l0] [] σ = ru d 133 14 [l0] [.int 1] σ := q_iconst t133_13 (by decide +kernel)
theorem t133_14 : decode (mb 133) 14 = .ok (.goto 23, 3) := by decide +kernel
theorem s133_14 (d : Nat) (l0 : Value) (w0 : Value) (σ : Hs) : ru d 133 14 [l0] [w0] σ = ru d 133 37 [l0] [w0] σ := q_goto t133_14 (by decide +kernel)
theorem t133_17 : decode (mb 133) 17 = .ok (.iload_n 0, 1) := by decide +kernel
theorem s133_17 (d : Nat) (i0 : Int32) (σ : Hs) : ru d 133 17 [.int i0] [] σ = ru d 133 18 [.int i0] [.int i0] σ := q_iload_n t133_17 rfl
theorem t133_18 : decode (mb 133) 18 = .ok (.iconst 4, 1) := by decide +kernel
theorem s133_18 (d : Nat) (l0 : Value) (w0 : Value) (σ : Hs) : ru d 133 18 [l0] [w0] σ = ru d 133 19 [l0] [.int 4, w0] σ := q_iconst t133_18 (by decide +kernel)
theorem t133_19 : decode (mb 133) 19 = .ok (.if_icmp .ne 7, 3) := by decide +kernel
theorem s133_19 (d : Nat) (l0 : Value) (x y : Int32) (σ : Hs) : ru d 133 19 [l0] [.int y, .int x] σ = if x = y then ru d 133 22 [l0] [] σ else ru d 133 26 [l0] [] σ := q_ic_ne t133_19 (by decide +kernel)
theorem t133_22 : decode (mb 133) 22 = .ok (.iconst 2, 1) := by decide +kernel
theorem s133_22 (d : Nat) (l0 : Value) (σ : Hs) : ru d 133 22 [l0] [] σ = ru d 133 23 [l0] [.int 2] σ := q_iconst t133_22 (by decide +kernel)
theorem t133_23 : decode (mb 133) 23 = .ok (.goto 14, 3) := by decide +kernel
theorem s133_23 (d : Nat) (l0 : Value) (w0 : Value) (σ : Hs) : ru d 133 23 [l0] [w0] σ = ru d 133 37 [l0] [w0] σ := q_goto t133_23 (by decide +kernel)
theorem t133_26 : decode (mb 133) 26 = .ok (.iload_n 0, 1) := by decide +kernel
theorem s133_26 (d : Nat) (i0 : Int32) (σ : Hs) : ru d 133 26 [.int i0] [] σ = ru d 133 27 [.int i0] [.int i0] σ := q_iload_n t133_26 rfl
theorem t133_27 : decode (mb 133) 27 = .ok (.bipush 6, 2) := by decide +kernel
theorem s133_27 (d : Nat) (l0 : Value) (w0 : Value) (σ : Hs) : ru d 133 27 [l0] [w0] σ = ru d 133 29 [l0] [.int 6, w0] σ := q_bipush t133_27 (by decide +kernel)
theorem t133_29 : decode (mb 133) 29 = .ok (.if_icmp .ne 7, 3) := by decide +kernel
theorem s133_29 (d : Nat) (l0 : Value) (x y : Int32) (σ : Hs) : ru d 133 29 [l0] [.int y, .int x] σ = if x = y then ru d 133 32 [l0] [] σ else ru d 133 36 [l0] [] σ := q_ic_ne t133_29 (by decide +kernel)
theorem t133_32 : decode (mb 133) 32 = .ok (.iconst 5, 1) := by decide +kernel
theorem s133_32 (d : Nat) (l0 : Value) (σ : Hs) : ru d 133 32 [l0] [] σ = ru d 133 33 [l0] [.int 5] σ := q_iconst t133_32 (by decide +kernel)
theorem t133_33 : decode (mb 133) 33 = .ok (.goto 4, 3) := by decide +kernel
theorem s133_33 (d : Nat) (l0 : Value) (w0 : Value) (σ : Hs) : ru d 133 33 [l0] [w0] σ = ru d 133 37 [l0] [w0] σ := q_goto t133_33 (by decide +kernel)
theorem t133_36 : decode (mb 133) 36 = .ok (.iconst 0, 1) := by decide +kernel
theorem s133_36 (d : Nat) (l0 : Value) (σ : Hs) : ru d 133 36 [l0] [] σ = ru d 133 37 [l0] [.int 0] σ := q_iconst t133_36 (by decide +kernel)
theorem t133_37 : decode (mb 133) 37 = .ok (.ireturn, 1) := by decide +kernel
theorem s133_37 (d : Nat) (l0 : Value) (x : Int32) (σ : Hs) : ru d 133 37 [l0] [.int x] σ = some (some (.int x), σ) := q_ireti t133_37 mr133
theorem c133 (d : Nat) (x0 : Int32) (σ : Hs) : callD (d + 1) 133 [.int x0] σ = ru d 133 0 [.int x0] [] σ := callD_ru ml133 rfl rfl (Nat.le_of_ble_eq_true rfl)
-- 134: Model.as(II)I
theorem t134_0 : decode (mb 134) 0 = .ok (.iload_n 1, 1) := by decide +kernel
theorem s134_0 (d : Nat) (l0 : Value) (i1 : Int32) (l2 : Value) (l3 : Value) (σ : Hs) : ru d 134 0 [l0, .int i1, l2, l3] [] σ = ru d 134 1 [l0, .int i1, l2, l3] [.int i1] σ := q_iload_n t134_0 rfl
theorem t134_1 : decode (mb 134) 1 = .ok (.invokestatic 113, 3) := by decide +kernel
theorem s134_1 (d : Nat) (l0 : Value) (l1 : Value) (l2 : Value) (l3 : Value) (v0 : Value) (σ : Hs) : ru d 134 1 [l0, l1, l2, l3] [v0] σ = kont (callD d 120 [v0] σ) d 134 4 [l0, l1, l2, l3] [] := q_invs t134_1 mo134 (by decide +kernel) K8_113 mj120 (Nat.le_of_ble_eq_true rfl) rfl rfl (Nat.le_of_ble_eq_true rfl)
theorem t134_4 : decode (mb 134) 4 = .ok (.ifCond .eq 13, 3) := by decide +kernel
theorem s134_4 (d : Nat) (l0 : Value) (l1 : Value) (l2 : Value) (l3 : Value) (x : Int32) (σ : Hs) : ru d 134 4 [l0, l1, l2, l3] [.int x] σ = if x = 0 then ru d 134 17 [l0, l1, l2, l3] [] σ else ru d 134 7 [l0, l1, l2, l3] [] σ := q_if_eq t134_4 (by decide +kernel)
theorem t134_7 : decode (mb 134) 7 = .ok (.iload_n 2, 1) := by decide +kernel
theorem s134_7 (d : Nat) (l0 : Value) (l1 : Value) (i2 : Int32) (l3 : Value) (σ : Hs) : ru d 134 7 [l0, l1, .int i2, l3] [] σ = ru d 134 8 [l0, l1, .int i2, l3] [.int i2] σ := q_iload_n t134_7 rfl
theorem t134_8 : decode (mb 134) 8 = .ok (.iconst 0, 1) := by decide +kernel
theorem s134_8 (d : Nat) (l0 : Value) (l1 : Value) (l2 : Value) (l3 : Value) (w0 : Value) (σ : Hs) : ru d 134 8 [l0, l1, l2, l3] [w0] σ = ru d 134 9 [l0, l1, l2, l3] [.int 0, w0] σ := q_iconst t134_8 (by decide +kernel)
theorem t134_9 : decode (mb 134) 9 = .ok (.bipush 6, 2) := by decide +kernel
theorem s134_9 (d : Nat) (l0 : Value) (l1 : Value) (l2 : Value) (l3 : Value) (w0 w1 : Value) (σ : Hs) : ru d 134 9 [l0, l1, l2, l3] [w0, w1] σ = ru d 134 11 [l0, l1, l2, l3] [.int 6, w0, w1] σ := q_bipush t134_9 (by decide +kernel)
theorem t134_11 : decode (mb 134) 11 = .ok (.invokestatic 81, 3) := by decide +kernel
theorem s134_11 (d : Nat) (l0 : Value) (l1 : Value) (l2 : Value) (l3 : Value) (v0 v1 v2 : Value) (σ : Hs) : ru d 134 11 [l0, l1, l2, l3] [v2, v1, v0] σ = kont (callD d 112 [v0, v1, v2] σ) d 134 14 [l0, l1, l2, l3] [] := q_invs t134_11 mo134 (by decide +kernel) K8_81 mj112 (Nat.le_of_ble_eq_true rfl) rfl rfl (Nat.le_of_ble_eq_true rfl)
theorem t134_14 : decode (mb 134) 14 = .ok (.ifCond .ne 10, 3) := by decide +kernel
theorem s134_14 (d : Nat) (l0 : Value) (l1 : Value) (l2 : Value) (l3 : Value) (x : Int32) (σ : Hs) : ru d 134 14 [l0, l1, l2, l3] [.int x] σ = if x = 0 then ru d 134 17 [l0, l1, l2, l3] [] σ else ru d 134 24 [l0, l1, l2, l3] [] σ := q_if_ne t134_14 (by decide +kernel)
theorem t134_17 : decode (mb 134) 17 = .ok (.aload_n 0, 1) := by decide +kernel
theorem s134_17 (d : Nat) (a0 : Nat) (l1 : Value) (l2 : Value) (l3 : Value) (σ : Hs) : ru d 134 17 [.ref a0, l1, l2, l3] [] σ = ru d 134 18 [.ref a0, l1, l2, l3] [.ref a0] σ := q_aload_n t134_17 rfl
theorem t134_18 : decode (mb 134) 18 = .ok (.ldc 104, 2) := by decide +kernel
theorem s134_18 (d : Nat) (l0 : Value) (l1 : Value) (l2 : Value) (l3 : Value) (w0 : Value) (σ : Hs) : ru d 134 18 [l0, l1, l2, l3] [w0] σ = ru d 134 20 [l0, l1, l2, l3] [.int (-1000001), w0] σ := q_ldc t134_18 mo134 C8_104
theorem t134_20 : decode (mb 134) 20 = .ok (.invokevirtual 105, 3) := by decide +kernel
theorem s134_20_o87 (d : Nat) (l0 : Value) (l1 : Value) (l2 : Value) (l3 : Value) (v1 : Value) (σ : Hs) : ru d 134 20 [l0, l1, l2, l3] [v1, .ref 87] σ = kont (callD d 111 [.ref 87, v1] σ) d 134 23 [l0, l1, l2, l3] [] := q_invv t134_20 mo134 K8_105 mj111 rfl rfl rfl rfl (Nat.le_of_ble_eq_true rfl)
theorem t134_23 : decode (mb 134) 23 = .ok (.ireturn, 1) := by decide +kernel
theorem s134_23 (d : Nat) (l0 : Value) (l1 : Value) (l2 : Value) (l3 : Value) (x : Int32) (σ : Hs) : ru d 134 23 [l0, l1, l2, l3] [.int x] σ = some (some (.int x), σ) := q_ireti t134_23 mr134
theorem t134_24 : decode (mb 134) 24 = .ok (.aload_n 0, 1) := by decide +kernel
theorem s134_24 (d : Nat) (a0 : Nat) (l1 : Value) (l2 : Value) (l3 : Value) (σ : Hs) : ru d 134 24 [.ref a0, l1, l2, l3] [] σ = ru d 134 25 [.ref a0, l1, l2, l3] [.ref a0] σ := q_aload_n t134_24 rfl
theorem t134_25 : decode (mb 134) 25 = .ok (.iload_n 1, 1) := by decide +kernel
theorem s134_25 (d : Nat) (l0 : Value) (i1 : Int32) (l2 : Value) (l3 : Value) (w0 : Value) (σ : Hs) : ru d 134 25 [l0, .int i1, l2, l3] [w0] σ = ru d 134 26 [l0, .int i1, l2, l3] [.int i1, w0] σ := q_iload_n t134_25 rfl
theorem t134_26 : decode (mb 134) 26 = .ok (.invokevirtual 88, 3) := by decide +kernel
theorem s134_26_o87 (d : Nat) (l0 : Value) (l1 : Value) (l2 : Value) (l3 : Value) (v1 : Value) (σ : Hs) : ru d 134 26 [l0, l1, l2, l3] [v1, .ref 87] σ = kont (callD d 121 [.ref 87, v1] σ) d 134 29 [l0, l1, l2, l3] [] := q_invv t134_26 mo134 K8_88 mj121 rfl rfl rfl rfl (Nat.le_of_ble_eq_true rfl)
theorem t134_29 : decode (mb 134) 29 = .ok (.ifCond .ne 10, 3) := by decide +kernel
theorem s134_29 (d : Nat) (l0 : Value) (l1 : Value) (l2 : Value) (l3 : Value) (x : Int32) (σ : Hs) : ru d 134 29 [l0, l1, l2, l3] [.int x] σ = if x = 0 then ru d 134 32 [l0, l1, l2, l3] [] σ else ru d 134 39 [l0, l1, l2, l3] [] σ := q_if_ne t134_29 (by decide +kernel)
theorem t134_32 : decode (mb 134) 32 = .ok (.aload_n 0, 1) := by decide +kernel
theorem s134_32 (d : Nat) (a0 : Nat) (l1 : Value) (l2 : Value) (l3 : Value) (σ : Hs) : ru d 134 32 [.ref a0, l1, l2, l3] [] σ = ru d 134 33 [.ref a0, l1, l2, l3] [.ref a0] σ := q_aload_n t134_32 rfl
theorem t134_33 : decode (mb 134) 33 = .ok (.ldc 116, 2) := by decide +kernel
theorem s134_33 (d : Nat) (l0 : Value) (l1 : Value) (l2 : Value) (l3 : Value) (w0 : Value) (σ : Hs) : ru d 134 33 [l0, l1, l2, l3] [w0] σ = ru d 134 35 [l0, l1, l2, l3] [.int (-1000002), w0] σ := q_ldc t134_33 mo134 C8_116
theorem t134_35 : decode (mb 134) 35 = .ok (.invokevirtual 105, 3) := by decide +kernel
theorem s134_35_o87 (d : Nat) (l0 : Value) (l1 : Value) (l2 : Value) (l3 : Value) (v1 : Value) (σ : Hs) : ru d 134 35 [l0, l1, l2, l3] [v1, .ref 87] σ = kont (callD d 111 [.ref 87, v1] σ) d 134 38 [l0, l1, l2, l3] [] := q_invv t134_35 mo134 K8_105 mj111 rfl rfl rfl rfl (Nat.le_of_ble_eq_true rfl)
theorem t134_38 : decode (mb 134) 38 = .ok (.ireturn, 1) := by decide +kernel
theorem s134_38 (d : Nat) (l0 : Value) (l1 : Value) (l2 : Value) (l3 : Value) (x : Int32) (σ : Hs) : ru d 134 38 [l0, l1, l2, l3] [.int x] σ = some (some (.int x), σ) := q_ireti t134_38 mr134
theorem t134_39 : decode (mb 134) 39 = .ok (.aload_n 0, 1) := by decide +kernel
theorem s134_39 (d : Nat) (a0 : Nat) (l1 : Value) (l2 : Value) (l3 : Value) (σ : Hs) : ru d 134 39 [.ref a0, l1, l2, l3] [] σ = ru d 134 40 [.ref a0, l1, l2, l3] [.ref a0] σ := q_aload_n t134_39 rfl
theorem t134_40 : decode (mb 134) 40 = .ok (.iload_n 1, 1) := by decide +kernel
theorem s134_40 (d : Nat) (l0 : Value) (i1 : Int32) (l2 : Value) (l3 : Value) (w0 : Value) (σ : Hs) : ru d 134 40 [l0, .int i1, l2, l3] [w0] σ = ru d 134 41 [l0, .int i1, l2, l3] [.int i1, w0] σ := q_iload_n t134_40 rfl
theorem t134_41 : decode (mb 134) 41 = .ok (.iconst 1, 1) := by decide +kernel
theorem s134_41 (d : Nat) (l0 : Value) (l1 : Value) (l2 : Value) (l3 : Value) (w0 w1 : Value) (σ : Hs) : ru d 134 41 [l0, l1, l2, l3] [w0, w1] σ = ru d 134 42 [l0, l1, l2, l3] [.int 1, w0, w1] σ := q_iconst t134_41 (by decide +kernel)
theorem t134_42 : decode (mb 134) 42 = .ok (.invokevirtual 85, 3) := by decide +kernel
theorem s134_42_o87 (d : Nat) (l0 : Value) (l1 : Value) (l2 : Value) (l3 : Value) (v1 v2 : Value) (σ : Hs) : ru d 134 42 [l0, l1, l2, l3] [v2, v1, .ref 87] σ = kont (callD d 118 [.ref 87, v1, v2] σ) d 134 45 [l0, l1, l2, l3] [] := q_invv t134_42 mo134 K8_85 mj118 rfl rfl rfl rfl (Nat.le_of_ble_eq_true rfl)
theorem t134_45 : decode (mb 134) 45 = .ok (.istore_n 3, 1) := by decide +kernel
theorem s134_45 (d : Nat) (l0 : Value) (l1 : Value) (i2 : Int32) (l3 : Value) (x : Int32) (σ : Hs) : ru d 134 45 [l0, l1, .int i2, l3] [.int x] σ = ru d 134 46 [l0, l1, .int i2, .int x] [] σ := q_istore_n t134_45 ⟨Nat.le_of_ble_eq_true rfl, rfl⟩ rfl
theorem t134_46 : decode (mb 134) 46 = .ok (.iload_n 3, 1) := by decide +kernel
theorem s134_46 (d : Nat) (l0 : Value) (l1 : Value) (l2 : Value) (i3 : Int32) (σ : Hs) : ru d 134 46 [l0, l1, l2, .int i3] [] σ = ru d 134 47 [l0, l1, l2, .int i3] [.int i3] σ := q_iload_n t134_46 rfl
theorem t134_47 : decode (mb 134) 47 = .ok (.ifCond .lt 16, 3) := by decide +kernel
theorem s134_47 (d : Nat) (l0 : Value) (l1 : Value) (l2 : Value) (l3 : Value) (x : Int32) (σ : Hs) : ru d 134 47 [l0, l1, l2, l3] [.int x] σ = if x < 0 then ru d 134 63 [l0, l1, l2, l3] [] σ else ru d 134 50 [l0, l1, l2, l3] [] σ := q_if_lt t134_47 (by decide +kernel)
theorem t134_50 : decode (mb 134) 50 = .ok (.iload_n 3, 1) := by decide +kernel
theorem s134_50 (d : Nat) (l0 : Value) (l1 : Value) (l2 : Value) (i3 : Int32) (σ : Hs) : ru d 134 50 [l0, l1, l2, .int i3] [] σ = ru d 134 51 [l0, l1, l2, .int i3] [.int i3] σ := q_iload_n t134_50 rfl
theorem t134_51 : decode (mb 134) 51 = .ok (.iload_n 2, 1) := by decide +kernel
theorem s134_51 (d : Nat) (l0 : Value) (l1 : Value) (i2 : Int32) (l3 : Value) (w0 : Value) (σ : Hs) : ru d 134 51 [l0, l1, .int i2, l3] [w0] σ = ru d 134 52 [l0, l1, .int i2, l3] [.int i2, w0] σ := q_iload_n t134_51 rfl
theorem t134_52 : decode (mb 134) 52 = .ok (.if_icmp .eq 11, 3) := by decide +kernel
theorem s134_52 (d : Nat) (l0 : Value) (l1 : Value) (l2 : Value) (l3 : Value) (x y : Int32) (σ : Hs) : ru d 134 52 [l0, l1, l2, l3] [.int y, .int x] σ = if x = y then ru d 134 63 [l0, l1, l2, l3] [] σ else ru d 134 55 [l0, l1, l2, l3] [] σ := q_ic_eq t134_52 (by decide +kernel)
theorem t134_55 : decode (mb 134) 55 = .ok (.iload_n 3, 1) := by decide +kernel
theorem s134_55 (d : Nat) (l0 : Value) (l1 : Value) (l2 : Value) (i3 : Int32) (σ : Hs) : ru d 134 55 [l0, l1, l2, .int i3] [] σ = ru d 134 56 [l0, l1, l2, .int i3] [.int i3] σ := q_iload_n t134_55 rfl
theorem t134_56 : decode (mb 134) 56 = .ok (.invokestatic 131, 3) := by decide +kernel
theorem s134_56 (d : Nat) (l0 : Value) (l1 : Value) (l2 : Value) (l3 : Value) (v0 : Value) (σ : Hs) : ru d 134 56 [l0, l1, l2, l3] [v0] σ = kont (callD d 133 [v0] σ) d 134 59 [l0, l1, l2, l3] [] := q_invs t134_56 mo134 (by decide +kernel) K8_131 mj133 (Nat.le_of_ble_eq_true rfl) rfl rfl (Nat.le_of_ble_eq_true rfl)
theorem t134_59 : decode (mb 134) 59 = .ok (.istore_n 3, 1) := by decide +kernel
theorem s134_59 (d : Nat) (l0 : Value) (l1 : Value) (i2 : Int32) (l3 : Value) (x : Int32) (σ : Hs) : ru d 134 59 [l0, l1, .int i2, l3] [.int x] σ = ru d 134 60 [l0, l1, .int i2, .int x] [] σ := q_istore_n t134_59 ⟨Nat.le_of_ble_eq_true rfl, rfl⟩ rfl
theorem t134_60 : decode (mb 134) 60 = .ok (.goto (-14), 3) := by decide +kernel
theorem s134_60 (d : Nat) (l0 : Value) (l1 : Value) (l2 : Value) (l3 : Value) (σ : Hs) : ru d 134 60 [l0, l1, l2, l3] [] σ = ru d 134 46 [l0, l1, l2, l3] [] σ := q_goto t134_60 (by decide +kernel)
theorem t134_63 : decode (mb 134) 63 = .ok (.iload_n 3, 1) := by decide +kernel
theorem s134_63 (d : Nat) (l0 : Value) (l1 : Value) (l2 : Value) (i3 : Int32) (σ : Hs) : ru d 134 63 [l0, l1, l2, .int i3] [] σ = ru d 134 64 [l0, l1, l2, .int i3] [.int i3] σ := q_iload_n t134_63 rfl
theorem t134_64 : decode (mb 134) 64 = .ok (.ifCond .ge 12, 3) := by decide +kernel
theorem s134_64 (d : Nat) (l0 : Value) (l1 : Value) (l2 : Value) (l3 : Value) (x : Int32) (σ : Hs) : ru d 134 64 [l0, l1, l2, l3] [.int x] σ = if 0 ≤ x then ru d 134 76 [l0, l1, l2, l3] [] σ else ru d 134 67 [l0, l1, l2, l3] [] σ := q_if_ge t134_64 (by decide +kernel)
theorem t134_67 : decode (mb 134) 67 = .ok (.aload_n 0, 1) := by decide +kernel
theorem s134_67 (d : Nat) (a0 : Nat) (l1 : Value) (l2 : Value) (l3 : Value) (σ : Hs) : ru d 134 67 [.ref a0, l1, l2, l3] [] σ = ru d 134 68 [.ref a0, l1, l2, l3] [.ref a0] σ := q_aload_n t134_67 rfl
theorem t134_68 : decode (mb 134) 68 = .ok (.ldc 134, 2) := by decide +kernel
theorem s134_68 (d : Nat) (l0 : Value) (l1 : Value) (l2 : Value) (l3 : Value) (w0 : Value) (σ : Hs) : ru d 134 68 [l0, l1, l2, l3] [w0] σ = ru d 134 70 [l0, l1, l2, l3] [.int (-1000005), w0] σ := q_ldc t134_68 mo134 C8_134
theorem t134_70 : decode (mb 134) 70 = .ok (.invokevirtual 105, 3) := by decide +kernel
theorem s134_70_o87 (d : Nat) (l0 : Value) (l1 : Value) (l2 : Value) (l3 : Value) (v1 : Value) (σ : Hs) : ru d 134 70 [l0, l1, l2, l3] [v1, .ref 87] σ = kont (callD d 111 [.ref 87, v1] σ) d 134 73 [l0, l1, l2, l3] [] := q_invv t134_70 mo134 K8_105 mj111 rfl rfl rfl rfl (Nat.le_of_ble_eq_true rfl)
theorem t134_73 : decode (mb 134) 73 = .ok (.goto 9, 3) := by decide +kernel
theorem s134_73 (d : Nat) (l0 : Value) (l1 : Value) (l2 : Value) (l3 : Value) (w0 : Value) (σ : Hs) : ru d 134 73 [l0, l1, l2, l3] [w0] σ = ru d 134 82 [l0, l1, l2, l3] [w0] σ := q_goto t134_73 (by decide +kernel)
theorem t134_76 : decode (mb 134) 76 = .ok (.aload_n 0, 1) := by decide +kernel
theorem s134_76 (d : Nat) (a0 : Nat) (l1 : Value) (l2 : Value) (l3 : Value) (σ : Hs) : ru d 134 76 [.ref a0, l1, l2, l3] [] σ = ru d 134 77 [.ref a0, l1, l2, l3] [.ref a0] σ := q_aload_n t134_76 rfl
theorem t134_77 : decode (mb 134) 77 = .ok (.iload_n 1, 1) := by decide +kernel
theorem s134_77 (d : Nat) (l0 : Value) (i1 : Int32) (l2 : Value) (l3 : Value) (w0 : Value) (σ : Hs) : ru d 134 77 [l0, .int i1, l2, l3] [w0] σ = ru d 134 78 [l0, .int i1, l2, l3] [.int i1, w0] σ := q_iload_n t134_77 rfl
theorem t134_78 : decode (mb 134) 78 = .ok (.iconst 2, 1) := by decide +kernel
theorem s134_78 (d : Nat) (l0 : Value) (l1 : Value) (l2 : Value) (l3 : Value) (w0 w1 : Value) (σ : Hs) : ru d 134 78 [l0, l1, l2, l3] [w0, w1] σ = ru d 134 79 [l0, l1, l2, l3] [.int 2, w0, w1] σ := q_iconst t134_78 (by decide +kernel)
theorem t134_79 : decode (mb 134) 79 = .ok (.invokevirtual 85, 3) := by decide +kernel
theorem s134_79_o87 (d : Nat) (l0 : Value) (l1 : Value) (l2 : Value) (l3 : Value) (v1 v2 : Value) (σ : Hs) : ru d 134 79 [l0, l1, l2, l3] [v2, v1, .ref 87] σ = kont (callD d 118 [.ref 87, v1, v2] σ) d 134 82 [l0, l1, l2, l3] [] := q_invv t134_79 mo134 K8_85 mj118 rfl rfl rfl rfl (Nat.le_of_ble_eq_true rfl)
theorem t134_82 : decode (mb 134) 82 = .ok (.ireturn, 1) := by decide +kernel
theorem s134_82 (d : Nat) (l0 : Value) (l1 : Value) (l2 : Value) (l3 : Value) (x : Int32) (σ : Hs) : ru d 134 82 [l0, l1, l2, l3] [.int x] σ = some (some (.int x), σ) := q_ireti t134_82 mr134
theorem c134 (d : Nat) (x0 : Nat) (x1 : Int32) (x2 : Int32) (σ : Hs) : callD (d + 1) 134 [.ref x0, .int x1, .int x2] σ = ru d 134 0 [.ref x0, .int x1, .int x2, uu] [] σ := callD_ru ml134 rfl rfl (Nat.le_of_ble_eq_true rfl)
-- 135: Model.changes(ZIII)I
theorem t135_0 : decode (mb 135) 0 = .ok (.iload_n 2, 1) := by decide +kernel
theorem s135_0 (d : Nat) (l0 : Value) (l1 : Value) (i2 : Int32) (l3 : Value) (l4 : Value) (σ : Hs) : ru d 135 0 [l0, l1, .int i2, l3, l4] [] σ = ru d 135 1 [l0, l1, .int i2, l3, l4] [.int i2] σ := q_iload_n t135_0 rfl
theorem t135_1 : decode (mb 135) 1 = .ok (.invokestatic 113, 3) := by decide +kernel
theorem s135_1 (d : Nat) (l0 : Value) (l1 : Value) (l2 : Value) (l3 : Value) (l4 : Value) (v0 : Value) (σ : Hs) : ru d 135 1 [l0, l1, l2, l3, l4] [v0] σ = kont (callD d 120 [v0] σ) d 135 4 [l0, l1, l2, l3, l4] [] := q_invs t135_1 mo135 (by decide +kernel) K8_113 mj120 (Nat.le_of_ble_eq_true rfl) rfl rfl (Nat.le_of_ble_eq_true rfl)
theorem t135_4 : decode (mb 135) 4 = .ok (.ifCond .eq 7, 3) := by decide +kernel
theorem s135_4 (d : Nat) (l0 : Value) (l1 : Value) (l2 : Value) (l3 : Value) (l4 : Value) (x : Int32) (σ : Hs) : ru d 135 4 [l0, l1, l2, l3, l4] [.int x] σ = if x = 0 then ru d 135 11 [l0, l1, l2, l3, l4] [] σ else ru d 135 7 [l0, l1, l2, l3, l4] [] σ := q_if_eq t135_4 (by decide +kernel)
theorem t135_7 : decode (mb 135) 7 = .ok (.iload_n 1, 1) := by decide +kernel
theorem s135_7 (d : Nat) (l0 : Value) (i1 : Int32) (l2 : Value) (l3 : Value) (l4 : Value) (σ : Hs) : ru d 135 7 [l0, .int i1, l2, l3, l4] [] σ = ru d 135 8 [l0, .int i1, l2, l3, l4] [.int i1] σ := q_iload_n t135_7 rfl
theorem t135_8 : decode (mb 135) 8 = .ok (.ifCond .ne 10, 3) := by decide +kernel
theorem s135_8 (d : Nat) (l0 : Value) (l1 : Value) (l2 : Value) (l3 : Value) (l4 : Value) (x : Int32) (σ : Hs) : ru d 135 8 [l0, l1, l2, l3, l4] [.int x] σ = if x = 0 then ru d 135 11 [l0, l1, l2, l3, l4] [] σ else ru d 135 18 [l0, l1, l2, l3, l4] [] σ := q_if_ne t135_8 (by decide +kernel)
theorem t135_11 : decode (mb 135) 11 = .ok (.aload_n 0, 1) := by decide +kernel
theorem s135_11 (d : Nat) (a0 : Nat) (l1 : Value) (l2 : Value) (l3 : Value) (l4 : Value) (σ : Hs) : ru d 135 11 [.ref a0, l1, l2, l3, l4] [] σ = ru d 135 12 [.ref a0, l1, l2, l3, l4] [.ref a0] σ := q_aload_n t135_11 rfl
theorem t135_12 : decode (mb 135) 12 = .ok (.ldc 104, 2) := by decide +kernel
theorem s135_12 (d : Nat) (l0 : Value) (l1 : Value) (l2 : Value) (l3 : Value) (l4 : Value) (w0 : Value) (σ : Hs) : ru d 135 12 [l0, l1, l2, l3, l4] [w0] σ = ru d 135 14 [l0, l1, l2, l3, l4] [.int (-1000001), w0] σ := q_ldc t135_12 mo135 C8_104
theorem t135_14 : decode (mb 135) 14 = .ok (.invokevirtual 105, 3) := by decide +kernel
theorem s135_14_o87 (d : Nat) (l0 : Value) (l1 : Value) (l2 : Value) (l3 : Value) (l4 : Value) (v1 : Value) (σ : Hs) : ru d 135 14 [l0, l1, l2, l3, l4] [v1, .ref 87] σ = kont (callD d 111 [.ref 87, v1] σ) d 135 17 [l0, l1, l2, l3, l4] [] := q_invv t135_14 mo135 K8_105 mj111 rfl rfl rfl rfl (Nat.le_of_ble_eq_true rfl)
theorem t135_17 : decode (mb 135) 17 = .ok (.ireturn, 1) := by decide +kernel
theorem s135_17 (d : Nat) (l0 : Value) (l1 : Value) (l2 : Value) (l3 : Value) (l4 : Value) (x : Int32) (σ : Hs) : ru d 135 17 [l0, l1, l2, l3, l4] [.int x] σ = some (some (.int x), σ) := q_ireti t135_17 mr135
theorem t135_18 : decode (mb 135) 18 = .ok (.aload_n 0, 1) := by decide +kernel
theorem s135_18 (d : Nat) (a0 : Nat) (l1 : Value) (l2 : Value) (l3 : Value) (l4 : Value) (σ : Hs) : ru d 135 18 [.ref a0, l1, l2, l3, l4] [] σ = ru d 135 19 [.ref a0, l1, l2, l3, l4] [.ref a0] σ := q_aload_n t135_18 rfl
theorem t135_19 : decode (mb 135) 19 = .ok (.iload_n 2, 1) := by decide +kernel
theorem s135_19 (d : Nat) (l0 : Value) (l1 : Value) (i2 : Int32) (l3 : Value) (l4 : Value) (w0 : Value) (σ : Hs) : ru d 135 19 [l0, l1, .int i2, l3, l4] [w0] σ = ru d 135 20 [l0, l1, .int i2, l3, l4] [.int i2, w0] σ := q_iload_n t135_19 rfl
theorem t135_20 : decode (mb 135) 20 = .ok (.invokevirtual 88, 3) := by decide +kernel
theorem s135_20_o87 (d : Nat) (l0 : Value) (l1 : Value) (l2 : Value) (l3 : Value) (l4 : Value) (v1 : Value) (σ : Hs) : ru d 135 20 [l0, l1, l2, l3, l4] [v1, .ref 87] σ = kont (callD d 121 [.ref 87, v1] σ) d 135 23 [l0, l1, l2, l3, l4] [] := q_invv t135_20 mo135 K8_88 mj121 rfl rfl rfl rfl (Nat.le_of_ble_eq_true rfl)
theorem t135_23 : decode (mb 135) 23 = .ok (.ifCond .eq 21, 3) := by decide +kernel
theorem s135_23 (d : Nat) (l0 : Value) (l1 : Value) (l2 : Value) (l3 : Value) (l4 : Value) (x : Int32) (σ : Hs) : ru d 135 23 [l0, l1, l2, l3, l4] [.int x] σ = if x = 0 then ru d 135 44 [l0, l1, l2, l3, l4] [] σ else ru d 135 26 [l0, l1, l2, l3, l4] [] σ := q_if_eq t135_23 (by decide +kernel)
theorem t135_26 : decode (mb 135) 26 = .ok (.aload_n 0, 1) := by decide +kernel
theorem s135_26 (d : Nat) (a0 : Nat) (l1 : Value) (l2 : Value) (l3 : Value) (l4 : Value) (σ : Hs) : ru d 135 26 [.ref a0, l1, l2, l3, l4] [] σ = ru d 135 27 [.ref a0, l1, l2, l3, l4] [.ref a0] σ := q_aload_n t135_26 rfl
theorem t135_27 : decode (mb 135) 27 = .ok (.bipush 14, 2) := by decide +kernel
theorem s135_27 (d : Nat) (l0 : Value) (l1 : Value) (l2 : Value) (l3 : Value) (l4 : Value) (w0 : Value) (σ : Hs) : ru d 135 27 [l0, l1, l2, l3, l4] [w0] σ = ru d 135 29 [l0, l1, l2, l3, l4] [.int 14, w0] σ := q_bipush t135_27 (by decide +kernel)
theorem t135_29 : decode (mb 135) 29 = .ok (.bipush 7, 2) := by decide +kernel
theorem s135_29 (d : Nat) (l0 : Value) (l1 : Value) (l2 : Value) (l3 : Value) (l4 : Value) (w0 w1 : Value) (σ : Hs) : ru d 135 29 [l0, l1, l2, l3, l4] [w0, w1] σ = ru d 135 31 [l0, l1, l2, l3, l4] [.int 7, w0, w1] σ := q_bipush t135_29 (by decide +kernel)
theorem t135_31 : decode (mb 135) 31 = .ok (.iload_n 2, 1) := by decide +kernel
theorem s135_31 (d : Nat) (l0 : Value) (l1 : Value) (i2 : Int32) (l3 : Value) (l4 : Value) (w0 w1 w2 : Value) (σ : Hs) : ru d 135 31 [l0, l1, .int i2, l3, l4] [w0, w1, w2] σ = ru d 135 32 [l0, l1, .int i2, l3, l4] [.int i2, w0, w1, w2] σ := q_iload_n t135_31 rfl
theorem t135_32 : decode (mb 135) 32 = .ok (.imul, 1) := by decide +kernel
theorem s135_32 (d : Nat) (l0 : Value) (l1 : Value) (l2 : Value) (l3 : Value) (l4 : Value) (x y : Int32) (w0 w1 : Value) (σ : Hs) : ru d 135 32 [l0, l1, l2, l3, l4] [.int y, .int x, w0, w1] σ = ru d 135 33 [l0, l1, l2, l3, l4] [.int (x * y), w0, w1] σ := q_imul t135_32
theorem t135_33 : decode (mb 135) 33 = .ok (.iadd, 1) := by decide +kernel
theorem s135_33 (d : Nat) (l0 : Value) (l1 : Value) (l2 : Value) (l3 : Value) (l4 : Value) (x y : Int32) (w0 : Value) (σ : Hs) : ru d 135 33 [l0, l1, l2, l3, l4] [.int y, .int x, w0] σ = ru d 135 34 [l0, l1, l2, l3, l4] [.int (x + y), w0] σ := q_iadd t135_33
theorem t135_34 : decode (mb 135) 34 = .ok (.iload_n 3, 1) := by decide +kernel
theorem s135_34 (d : Nat) (l0 : Value) (l1 : Value) (l2 : Value) (i3 : Int32) (l4 : Value) (w0 w1 : Value) (σ : Hs) : ru d 135 34 [l0, l1, l2, .int i3, l4] [w0, w1] σ = ru d 135 35 [l0, l1, l2, .int i3, l4] [.int i3, w0, w1] σ := q_iload_n t135_34 rfl
theorem t135_35 : decode (mb 135) 35 = .ok (.iadd, 1) := by decide +kernel
theorem s135_35 (d : Nat) (l0 : Value) (l1 : Value) (l2 : Value) (l3 : Value) (l4 : Value) (x y : Int32) (w0 : Value) (σ : Hs) : ru d 135 35 [l0, l1, l2, l3, l4] [.int y, .int x, w0] σ = ru d 135 36 [l0, l1, l2, l3, l4] [.int (x + y), w0] σ := q_iadd t135_35
theorem t135_36 : decode (mb 135) 36 = .ok (.iload 4, 2) := by decide +kernel
theorem s135_36 (d : Nat) (l0 : Value) (l1 : Value) (l2 : Value) (l3 : Value) (i4 : Int32) (w0 w1 : Value) (σ : Hs) : ru d 135 36 [l0, l1, l2, l3, .int i4] [w0, w1] σ = ru d 135 38 [l0, l1, l2, l3, .int i4] [.int i4, w0, w1] σ := q_iload t135_36 rfl
theorem t135_38 : decode (mb 135) 38 = .ok (.invokevirtual 135, 3) := by decide +kernel
theorem s135_38_o87 (d : Nat) (l0 : Value) (l1 : Value) (l2 : Value) (l3 : Value) (l4 : Value) (v1 v2 : Value) (σ : Hs) : ru d 135 38 [l0, l1, l2, l3, l4] [v2, v1, .ref 87] σ = kont (callD d 116 [.ref 87, v1, v2] σ) d 135 41 [l0, l1, l2, l3, l4] [] := q_invv t135_38 mo135 K8_135 mj116 rfl rfl rfl rfl (Nat.le_of_ble_eq_true rfl)
theorem t135_41 : decode (mb 135) 41 = .ok (.goto 9, 3) := by decide +kernel
theorem s135_41 (d : Nat) (l0 : Value) (l1 : Value) (l2 : Value) (l3 : Value) (l4 : Value) (w0 : Value) (σ : Hs) : ru d 135 41 [l0, l1, l2, l3, l4] [w0] σ = ru d 135 50 [l0, l1, l2, l3, l4] [w0] σ := q_goto t135_41 (by decide +kernel)
theorem t135_44 : decode (mb 135) 44 = .ok (.aload_n 0, 1) := by decide +kernel
theorem s135_44 (d : Nat) (a0 : Nat) (l1 : Value) (l2 : Value) (l3 : Value) (l4 : Value) (σ : Hs) : ru d 135 44 [.ref a0, l1, l2, l3, l4] [] σ = ru d 135 45 [.ref a0, l1, l2, l3, l4] [.ref a0] σ := q_aload_n t135_44 rfl
theorem t135_45 : decode (mb 135) 45 = .ok (.ldc 116, 2) := by decide +kernel
theorem s135_45 (d : Nat) (l0 : Value) (l1 : Value) (l2 : Value) (l3 : Value) (l4 : Value) (w0 : Value) (σ : Hs) : ru d 135 45 [l0, l1, l2, l3, l4] [w0] σ = ru d 135 47 [l0, l1, l2, l3, l4] [.int (-1000002), w0] σ := q_ldc t135_45 mo135 C8_116
theorem t135_47 : decode (mb 135) 47 = .ok (.invokevirtual 105, 3) := by decide +kernel
theorem s135_47_o87 (d : Nat) (l0 : Value) (l1 : Value) (l2 : Value) (l3 : Value) (l4 : Value) (v1 : Value) (σ : Hs) : ru d 135 47 [l0, l1, l2, l3, l4] [v1, .ref 87] σ = kont (callD d 111 [.ref 87, v1] σ) d 135 50 [l0, l1, l2, l3, l4] [] := q_invv t135_47 mo135 K8_105 mj111 rfl rfl rfl rfl (Nat.le_of_ble_eq_true rfl)
theorem t135_50 : decode (mb 135) 50 = .ok (.ireturn, 1) := by decide +kernel
theorem s135_50 (d : Nat) (l0 : Value) (l1 : Value) (l2 : Value) (l3 : Value) (l4 : Value) (x : Int32) (σ : Hs) : ru d 135 50 [l0, l1, l2, l3, l4] [.int x] σ = some (some (.int x), σ) := q_ireti t135_50 mr135
theorem c135 (d : Nat) (x0 : Nat) (x1 : Int32) (x2 : Int32) (x3 : Int32) (x4 : Int32) (σ : Hs) : callD (d + 1) 135 [.ref x0, .int x1, .int x2, .int x3, .int x4] σ = ru d 135 0 [.ref x0, .int x1, .int x2, .int x3, .int x4] [] σ := callD_ru ml135 rfl rfl (Nat.le_of_ble_eq_true rfl)
-- 136: Model.become(II)I
theorem t136_0 : decode (mb 136) 0 = .ok (.aload_n 0, 1) := by decide +kernel
theorem s136_0 (d : Nat) (a0 : Nat) (l1 : Value) (l2 : Value) (σ : Hs) : ru d 136 0 [.ref a0, l1, l2] [] σ = ru d 136 1 [.ref a0, l1, l2] [.ref a0] σ := q_aload_n t136_0 rfl
theorem t136_1 : decode (mb 136) 1 = .ok (.iload_n 2, 1) := by decide +kernel
theorem s136_1 (d : Nat) (l0 : Value) (l1 : Value) (i2 : Int32) (w0 : Value) (σ : Hs) : ru d 136 1 [l0, l1, .int i2] [w0] σ = ru d 136 2 [l0, l1, .int i2] [.int i2, w0] σ := q_iload_n t136_1 rfl
theorem t136_2 : decode (mb 136) 2 = .ok (.iconst 0, 1) := by decide +kernel
theorem s136_2 (d : Nat) (l0 : Value) (l1 : Value) (l2 : Value) (w0 w1 : Value) (σ : Hs) : ru d 136 2 [l0, l1, l2] [w0, w1] σ = ru d 136 3 [l0, l1, l2] [.int 0, w0, w1] σ := q_iconst t136_2 (by decide +kernel)
theorem t136_3 : decode (mb 136) 3 = .ok (.bipush 6, 2) := by decide +kernel
theorem s136_3 (d : Nat) (l0 : Value) (l1 : Value) (l2 : Value) (w0 w1 w2 : Value) (σ : Hs) : ru d 136 3 [l0, l1, l2] [w0, w1, w2] σ = ru d 136 5 [l0, l1, l2] [.int 6, w0, w1, w2] σ := q_bipush t136_3 (by decide +kernel)
theorem t136_5 : decode (mb 136) 5 = .ok (.invokestatic 81, 3) := by decide +kernel
theorem s136_5 (d : Nat) (l0 : Value) (l1 : Value) (l2 : Value) (v0 v1 v2 : Value) (w0 : Nat) (σ : Hs) : ru d 136 5 [l0, l1, l2] [v2, v1, v0, .ref w0] σ = kont (callD d 112 [v0, v1, v2] σ) d 136 8 [l0, l1, l2] [.ref w0] := q_invs t136_5 mo136 (by decide +kernel) K8_81 mj112 (Nat.le_of_ble_eq_true rfl) rfl rfl (Nat.le_of_ble_eq_true rfl)
theorem t136_8 : decode (mb 136) 8 = .ok (.iload_n 1, 1) := by decide +kernel
theorem s136_8 (d : Nat) (l0 : Value) (i1 : Int32) (l2 : Value) (w0 w1 : Value) (σ : Hs) : ru d 136 8 [l0, .int i1, l2] [w0, w1] σ = ru d 136 9 [l0, .int i1, l2] [.int i1, w0, w1] σ := q_iload_n t136_8 rfl
theorem t136_9 : decode (mb 136) 9 = .ok (.iconst 1, 1) := by decide +kernel
theorem s136_9 (d : Nat) (l0 : Value) (l1 : Value) (l2 : Value) (w0 w1 w2 : Value) (σ : Hs) : ru d 136 9 [l0, l1, l2] [w0, w1, w2] σ = ru d 136 10 [l0, l1, l2] [.int 1, w0, w1, w2] σ := q_iconst t136_9 (by decide +kernel)
theorem t136_10 : decode (mb 136) 10 = .ok (.iload_n 2, 1) := by decide +kernel
theorem s136_10 (d : Nat) (l0 : Value) (l1 : Value) (i2 : Int32) (w0 w1 w2 w3 : Value) (σ : Hs) : ru d 136 10 [l0, l1, .int i2] [w0, w1, w2, w3] σ = ru d 136 11 [l0, l1, .int i2] [.int i2, w0, w1, w2, w3] σ := q_iload_n t136_10 rfl
theorem t136_11 : decode (mb 136) 11 = .ok (.invokevirtual 138, 3) := by decide +kernel
theorem s136_11_o87 (d : Nat) (l0 : Value) (l1 : Value) (l2 : Value) (v1 v2 v3 v4 : Value) (σ : Hs) : ru d 136 11 [l0, l1, l2] [v4, v3, v2, v1, .ref 87] σ = kont (callD d 135 [.ref 87, v1, v2, v3, v4] σ) d 136 14 [l0, l1, l2] [] := q_invv t136_11 mo136 K8_138 mj135 rfl rfl rfl rfl (Nat.le_of_ble_eq_true rfl)
theorem t136_14 : decode (mb 136) 14 = .ok (.ireturn, 1) := by decide +kernel
theorem s136_14 (d : Nat) (l0 : Value) (l1 : Value) (l2 : Value) (x : Int32) (σ : Hs) : ru d 136 14 [l0, l1, l2] [.int x] σ = some (some (.int x), σ) := q_ireti t136_14 mr136
theorem c136 (d : Nat) (x0 : Nat) (x1 : Int32) (x2 : Int32) (σ : Hs) : callD (d + 1) 136 [.ref x0, .int x1, .int x2] σ = ru d 136 0 [.ref x0, .int x1, .int x2] [] σ := callD_ru ml136 rfl rfl (Nat.le_of_ble_eq_true rfl)
-- 137: Model.fork(II)I
theorem t137_0 : decode (mb 137) 0 = .ok (.aload_n 0, 1) := by decide +kernel
theorem s137_0 (d : Nat) (a0 : Nat) (l1 : Value) (l2 : Value) (σ : Hs) : ru d 137 0 [.ref a0, l1, l2] [] σ = ru d 137 1 [.ref a0, l1, l2] [.ref a0] σ := q_aload_n t137_0 rfl
theorem t137_1 : decode (mb 137) 1 = .ok (.iload_n 2, 1) := by decide +kernel
theorem s137_1 (d : Nat) (l0 : Value) (l1 : Value) (i2 : Int32) (w0 : Value) (σ : Hs) : ru d 137 1 [l0, l1, .int i2] [w0] σ = ru d 137 2 [l0, l1, .int i2] [.int i2, w0] σ := q_iload_n t137_1 rfl
theorem t137_2 : decode (mb 137) 2 = .ok (.iconst 0, 1) := by decide +kernel
theorem s137_2 (d : Nat) (l0 : Value) (l1 : Value) (l2 : Value) (w0 w1 : Value) (σ : Hs) : ru d 137 2 [l0, l1, l2] [w0, w1] σ = ru d 137 3 [l0, l1, l2] [.int 0, w0, w1] σ := q_iconst t137_2 (by decide +kernel)
theorem t137_3 : decode (mb 137) 3 = .ok (.bipush 9, 2) := by decide +kernel
theorem s137_3 (d : Nat) (l0 : Value) (l1 : Value) (l2 : Value) (w0 w1 w2 : Value) (σ : Hs) : ru d 137 3 [l0, l1, l2] [w0, w1, w2] σ = ru d 137 5 [l0, l1, l2] [.int 9, w0, w1, w2] σ := q_bipush t137_3 (by decide +kernel)
theorem t137_5 : decode (mb 137) 5 = .ok (.invokestatic 81, 3) := by decide +kernel
theorem s137_5 (d : Nat) (l0 : Value) (l1 : Value) (l2 : Value) (v0 v1 v2 : Value) (w0 : Nat) (σ : Hs) : ru d 137 5 [l0, l1, l2] [v2, v1, v0, .ref w0] σ = kont (callD d 112 [v0, v1, v2] σ) d 137 8 [l0, l1, l2] [.ref w0] := q_invs t137_5 mo137 (by decide +kernel) K8_81 mj112 (Nat.le_of_ble_eq_true rfl) rfl rfl (Nat.le_of_ble_eq_true rfl)
theorem t137_8 : decode (mb 137) 8 = .ok (.iload_n 1, 1) := by decide +kernel
theorem s137_8 (d : Nat) (l0 : Value) (i1 : Int32) (l2 : Value) (w0 w1 : Value) (σ : Hs) : ru d 137 8 [l0, .int i1, l2] [w0, w1] σ = ru d 137 9 [l0, .int i1, l2] [.int i1, w0, w1] σ := q_iload_n t137_8 rfl
theorem t137_9 : decode (mb 137) 9 = .ok (.iconst 4, 1) := by decide +kernel
theorem s137_9 (d : Nat) (l0 : Value) (l1 : Value) (l2 : Value) (w0 w1 w2 : Value) (σ : Hs) : ru d 137 9 [l0, l1, l2] [w0, w1, w2] σ = ru d 137 10 [l0, l1, l2] [.int 4, w0, w1, w2] σ := q_iconst t137_9 (by decide +kernel)
theorem t137_10 : decode (mb 137) 10 = .ok (.iload_n 2, 1) := by decide +kernel
theorem s137_10 (d : Nat) (l0 : Value) (l1 : Value) (i2 : Int32) (w0 w1 w2 w3 : Value) (σ : Hs) : ru d 137 10 [l0, l1, .int i2] [w0, w1, w2, w3] σ = ru d 137 11 [l0, l1, .int i2] [.int i2, w0, w1, w2, w3] σ := q_iload_n t137_10 rfl
theorem t137_11 : decode (mb 137) 11 = .ok (.invokevirtual 138, 3) := by decide +kernel
theorem s137_11_o87 (d : Nat) (l0 : Value) (l1 : Value) (l2 : Value) (v1 v2 v3 v4 : Value) (σ : Hs) : ru d 137 11 [l0, l1, l2] [v4, v3, v2, v1, .ref 87] σ = kont (callD d 135 [.ref 87, v1, v2, v3, v4] σ) d 137 14 [l0, l1, l2] [] := q_invv t137_11 mo137 K8_138 mj135 rfl rfl rfl rfl (Nat.le_of_ble_eq_true rfl)
theorem t137_14 : decode (mb 137) 14 = .ok (.ireturn, 1) := by decide +kernel
theorem s137_14 (d : Nat) (l0 : Value) (l1 : Value) (l2 : Value) (x : Int32) (σ : Hs) : ru d 137 14 [l0, l1, l2] [.int x] σ = some (some (.int x), σ) := q_ireti t137_14 mr137
theorem c137 (d : Nat) (x0 : Nat) (x1 : Int32) (x2 : Int32) (σ : Hs) : callD (d + 1) 137 [.ref x0, .int x1, .int x2] σ = ru d 137 0 [.ref x0, .int x1, .int x2] [] σ := callD_ru ml137 rfl rfl (Nat.le_of_ble_eq_true rfl)
-- 138: Model.lights(I)V
theorem t138_0 : decode (mb 138) 0 = .ok (.aload_n 0, 1) := by decide +kernel
theorem s138_0 (d : Nat) (a0 : Nat) (l1 : Value) (σ : Hs) : ru d 138 0 [.ref a0, l1] [] σ = ru d 138 1 [.ref a0, l1] [.ref a0] σ := q_aload_n t138_0 rfl
theorem t138_1 : decode (mb 138) 1 = .ok (.iload_n 1, 1) := by decide +kernel
theorem s138_1 (d : Nat) (l0 : Value) (i1 : Int32) (w0 : Value) (σ : Hs) : ru d 138 1 [l0, .int i1] [w0] σ = ru d 138 2 [l0, .int i1] [.int i1, w0] σ := q_iload_n t138_1 rfl
theorem t138_2 : decode (mb 138) 2 = .ok (.bipush 6, 2) := by decide +kernel
theorem s138_2 (d : Nat) (l0 : Value) (l1 : Value) (w0 w1 : Value) (σ : Hs) : ru d 138 2 [l0, l1] [w0, w1] σ = ru d 138 4 [l0, l1] [.int 6, w0, w1] σ := q_bipush t138_2 (by decide +kernel)
theorem t138_4 : decode (mb 138) 4 = .ok (.iconst 1, 1) := by decide +kernel
theorem s138_4 (d : Nat) (l0 : Value) (l1 : Value) (w0 w1 w2 : Value) (σ : Hs) : ru d 138 4 [l0, l1] [w0, w1, w2] σ = ru d 138 5 [l0, l1] [.int 1, w0, w1, w2] σ := q_iconst t138_4 (by decide +kernel)
theorem t138_5 : decode (mb 138) 5 = .ok (.invokevirtual 96, 3) := by decide +kernel
theorem s138_5_o87 (d : Nat) (l0 : Value) (l1 : Value) (v1 v2 v3 : Value) (σ : Hs) : ru d 138 5 [l0, l1] [v3, v2, v1, .ref 87] σ = kont (callD d 119 [.ref 87, v1, v2, v3] σ) d 138 8 [l0, l1] [] := q_invv t138_5 mo138 K8_96 mj119 rfl rfl rfl rfl (Nat.le_of_ble_eq_true rfl)
theorem t138_8 : decode (mb 138) 8 = .ok (.aload_n 0, 1) := by decide +kernel
theorem s138_8 (d : Nat) (a0 : Nat) (l1 : Value) (σ : Hs) : ru d 138 8 [.ref a0, l1] [] σ = ru d 138 9 [.ref a0, l1] [.ref a0] σ := q_aload_n t138_8 rfl
theorem t138_9 : decode (mb 138) 9 = .ok (.iload_n 1, 1) := by decide +kernel
theorem s138_9 (d : Nat) (l0 : Value) (i1 : Int32) (w0 : Value) (σ : Hs) : ru d 138 9 [l0, .int i1] [w0] σ = ru d 138 10 [l0, .int i1] [.int i1, w0] σ := q_iload_n t138_9 rfl
theorem t138_10 : decode (mb 138) 10 = .ok (.iconst 5, 1) := by decide +kernel
theorem s138_10 (d : Nat) (l0 : Value) (l1 : Value) (w0 w1 : Value) (σ : Hs) : ru d 138 10 [l0, l1] [w0, w1] σ = ru d 138 11 [l0, l1] [.int 5, w0, w1] σ := q_iconst t138_10 (by decide +kernel)
theorem t138_11 : decode (mb 138) 11 = .ok (.bipush 100, 2) := by decide +kernel
theorem s138_11 (d : Nat) (l0 : Value) (l1 : Value) (w0 w1 w2 : Value) (σ : Hs) : ru d 138 11 [l0, l1] [w0, w1, w2] σ = ru d 138 13 [l0, l1] [.int 100, w0, w1, w2] σ := q_bipush t138_11 (by decide +kernel)
theorem t138_13 : decode (mb 138) 13 = .ok (.aload_n 0, 1) := by decide +kernel
theorem s138_13 (d : Nat) (a0 : Nat) (l1 : Value) (w0 w1 w2 w3 : Value) (σ : Hs) : ru d 138 13 [.ref a0, l1] [w0, w1, w2, w3] σ = ru d 138 14 [.ref a0, l1] [.ref a0, w0, w1, w2, w3] σ := q_aload_n t138_13 rfl
theorem t138_14 : decode (mb 138) 14 = .ok (.iload_n 1, 1) := by decide +kernel
theorem s138_14 (d : Nat) (l0 : Value) (i1 : Int32) (w0 w1 w2 w3 w4 : Value) (σ : Hs) : ru d 138 14 [l0, .int i1] [w0, w1, w2, w3, w4] σ = ru d 138 15 [l0, .int i1] [.int i1, w0, w1, w2, w3, w4] σ := q_iload_n t138_14 rfl
theorem t138_15 : decode (mb 138) 15 = .ok (.iconst 5, 1) := by decide +kernel
theorem s138_15 (d : Nat) (l0 : Value) (l1 : Value) (w0 w1 w2 w3 w4 w5 : Value) (σ : Hs) : ru d 138 15 [l0, l1] [w0, w1, w2, w3, w4, w5] σ = ru d 138 16 [l0, l1] [.int 5, w0, w1, w2, w3, w4, w5] σ := q_iconst t138_15 (by decide +kernel)
theorem t138_16 : decode (mb 138) 16 = .ok (.invokevirtual 85, 3) := by decide +kernel
theorem s138_16_o87 (d : Nat) (l0 : Value) (l1 : Value) (v1 v2 : Value) (w0 : Int32) (w1 : Int32) (w2 : Int32) (w3 : Nat) (σ : Hs) : ru d 138 16 [l0, l1] [v2, v1, .ref 87, .int w0, .int w1, .int w2, .ref w3] σ = kont (callD d 118 [.ref 87, v1, v2] σ) d 138 19 [l0, l1] [.int w0, .int w1, .int w2, .ref w3] := q_invv t138_16 mo138 K8_85 mj118 rfl rfl rfl rfl (Nat.le_of_ble_eq_true rfl)
theorem t138_19 : decode (mb 138) 19 = .ok (.invokestatic 74, 3) := by decide +kernel
theorem s138_19 (d : Nat) (l0 : Value) (l1 : Value) (x y : Int32) (w0 : Int32) (w1 : Int32) (w2 : Nat) (σ : Hs) : ru d 138 19 [l0, l1] [.int y, .int x, .int w0, .int w1, .ref w2] σ = ru d 138 22 [l0, l1] [.int (jmax x y), .int w0, .int w1, .ref w2] σ := q_mx t138_19 mo138 (by decide +kernel) (by decide +kernel) (Nat.le_of_ble_eq_true rfl)
theorem t138_22 : decode (mb 138) 22 = .ok (.invokevirtual 96, 3) := by decide +kernel
theorem s138_22_o87 (d : Nat) (l0 : Value) (l1 : Value) (v1 v2 v3 : Value) (σ : Hs) : ru d 138 22 [l0, l1] [v3, v2, v1, .ref 87] σ = kont (callD d 119 [.ref 87, v1, v2, v3] σ) d 138 25 [l0, l1] [] := q_invv t138_22 mo138 K8_96 mj119 rfl rfl rfl rfl (Nat.le_of_ble_eq_true rfl)
theorem t138_25 : decode (mb 138) 25 = .ok (.return_, 1) := by decide +kernel
theorem s138_25 (d : Nat) (l0 : Value) (l1 : Value) (σ : Hs) : ru d 138 25 [l0, l1] [] σ = some (none, σ) := q_vret t138_25 mr138
theorem c138 (d : Nat) (x0 : Nat) (x1 : Int32) (σ : Hs) : callD (d + 1) 138 [.ref x0, .int x1] σ = ru d 138 0 [.ref x0, .int x1] [] σ := callD_ru ml138 rfl rfl (Nat.le_of_ble_eq_true rfl)
-- 139: Model.light(I)I
theorem t139_0 : decode (mb 139) 0 = .ok (.iload_n 1, 1) := by decide +kernel
theorem s139_0 (d : Nat) (l0 : Value) (i1 : Int32) (σ : Hs) : ru d 139 0 [l0, .int i1] [] σ = ru d 139 1 [l0, .int i1] [.int i1] σ := q_iload_n t139_0 rfl
theorem t139_1 : decode (mb 139) 1 = .ok (.invokestatic 113, 3) := by decide +kernel
theorem s139_1 (d : Nat) (l0 : Value) (l1 : Value) (v0 : Value) (σ : Hs) : ru d 139 1 [l0, l1] [v0] σ = kont (callD d 120 [v0] σ) d 139 4 [l0, l1] [] := q_invs t139_1 mo139 (by decide +kernel) K8_113 mj120 (Nat.le_of_ble_eq_true rfl) rfl rfl (Nat.le_of_ble_eq_true rfl)
theorem t139_4 : decode (mb 139) 4 = .ok (.ifCond .ne 10, 3) := by decide +kernel
theorem s139_4 (d : Nat) (l0 : Value) (l1 : Value) (x : Int32) (σ : Hs) : ru d 139 4 [l0, l1] [.int x] σ = if x = 0 then ru d 139 7 [l0, l1] [] σ else ru d 139 14 [l0, l1] [] σ := q_if_ne t139_4 (by decide +kernel)
theorem t139_7 : decode (mb 139) 7 = .ok (.aload_n 0, 1) := by decide +kernel
theorem s139_7 (d : Nat) (a0 : Nat) (l1 : Value) (σ : Hs) : ru d 139 7 [.ref a0, l1] [] σ = ru d 139 8 [.ref a0, l1] [.ref a0] σ := q_aload_n t139_7 rfl
theorem t139_8 : decode (mb 139) 8 = .ok (.ldc 104, 2) := by decide +kernel
theorem s139_8 (d : Nat) (l0 : Value) (l1 : Value) (w0 : Value) (σ : Hs) : ru d 139 8 [l0, l1] [w0] σ = ru d 139 10 [l0, l1] [.int (-1000001), w0] σ := q_ldc t139_8 mo139 C8_104
theorem t139_10 : decode (mb 139) 10 = .ok (.invokevirtual 105, 3) := by decide +kernel
theorem s139_10_o87 (d : Nat) (l0 : Value) (l1 : Value) (v1 : Value) (σ : Hs) : ru d 139 10 [l0, l1] [v1, .ref 87] σ = kont (callD d 111 [.ref 87, v1] σ) d 139 13 [l0, l1] [] := q_invv t139_10 mo139 K8_105 mj111 rfl rfl rfl rfl (Nat.le_of_ble_eq_true rfl)
theorem t139_13 : decode (mb 139) 13 = .ok (.ireturn, 1) := by decide +kernel
theorem s139_13 (d : Nat) (l0 : Value) (l1 : Value) (x : Int32) (σ : Hs) : ru d 139 13 [l0, l1] [.int x] σ = some (some (.int x), σ) := q_ireti t139_13 mr139
theorem t139_14 : decode (mb 139) 14 = .ok (.aload_n 0, 1) := by decide +kernel
theorem s139_14 (d : Nat) (a0 : Nat) (l1 : Value) (σ : Hs) : ru d 139 14 [.ref a0, l1] [] σ = ru d 139 15 [.ref a0, l1] [.ref a0] σ := q_aload_n t139_14 rfl
theorem t139_15 : decode (mb 139) 15 = .ok (.iload_n 1, 1) := by decide +kernel
theorem s139_15 (d : Nat) (l0 : Value) (i1 : Int32) (w0 : Value) (σ : Hs) : ru d 139 15 [l0, .int i1] [w0] σ = ru d 139 16 [l0, .int i1] [.int i1, w0] σ := q_iload_n t139_15 rfl
theorem t139_16 : decode (mb 139) 16 = .ok (.invokevirtual 88, 3) := by decide +kernel
theorem s139_16_o87 (d : Nat) (l0 : Value) (l1 : Value) (v1 : Value) (σ : Hs) : ru d 139 16 [l0, l1] [v1, .ref 87] σ = kont (callD d 121 [.ref 87, v1] σ) d 139 19 [l0, l1] [] := q_invv t139_16 mo139 K8_88 mj121 rfl rfl rfl rfl (Nat.le_of_ble_eq_true rfl)
theorem t139_19 : decode (mb 139) 19 = .ok (.ifCond .ne 10, 3) := by decide +kernel
theorem s139_19 (d : Nat) (l0 : Value) (l1 : Value) (x : Int32) (σ : Hs) : ru d 139 19 [l0, l1] [.int x] σ = if x = 0 then ru d 139 22 [l0, l1] [] σ else ru d 139 29 [l0, l1] [] σ := q_if_ne t139_19 (by decide +kernel)
theorem t139_22 : decode (mb 139) 22 = .ok (.aload_n 0, 1) := by decide +kernel
theorem s139_22 (d : Nat) (a0 : Nat) (l1 : Value) (σ : Hs) : ru d 139 22 [.ref a0, l1] [] σ = ru d 139 23 [.ref a0, l1] [.ref a0] σ := q_aload_n t139_22 rfl
theorem t139_23 : decode (mb 139) 23 = .ok (.ldc 116, 2) := by decide +kernel
theorem s139_23 (d : Nat) (l0 : Value) (l1 : Value) (w0 : Value) (σ : Hs) : ru d 139 23 [l0, l1] [w0] σ = ru d 139 25 [l0, l1] [.int (-1000002), w0] σ := q_ldc t139_23 mo139 C8_116
theorem t139_25 : decode (mb 139) 25 = .ok (.invokevirtual 105, 3) := by decide +kernel
theorem s139_25_o87 (d : Nat) (l0 : Value) (l1 : Value) (v1 : Value) (σ : Hs) : ru d 139 25 [l0, l1] [v1, .ref 87] σ = kont (callD d 111 [.ref 87, v1] σ) d 139 28 [l0, l1] [] := q_invv t139_25 mo139 K8_105 mj111 rfl rfl rfl rfl (Nat.le_of_ble_eq_true rfl)
theorem t139_28 : decode (mb 139) 28 = .ok (.ireturn, 1) := by decide +kernel
theorem s139_28 (d : Nat) (l0 : Value) (l1 : Value) (x : Int32) (σ : Hs) : ru d 139 28 [l0, l1] [.int x] σ = some (some (.int x), σ) := q_ireti t139_28 mr139
theorem t139_29 : decode (mb 139) 29 = .ok (.aload_n 0, 1) := by decide +kernel
theorem s139_29 (d : Nat) (a0 : Nat) (l1 : Value) (σ : Hs) : ru d 139 29 [.ref a0, l1] [] σ = ru d 139 30 [.ref a0, l1] [.ref a0] σ := q_aload_n t139_29 rfl
theorem t139_30 : decode (mb 139) 30 = .ok (.iload_n 1, 1) := by decide +kernel
theorem s139_30 (d : Nat) (l0 : Value) (i1 : Int32) (w0 : Value) (σ : Hs) : ru d 139 30 [l0, .int i1] [w0] σ = ru d 139 31 [l0, .int i1] [.int i1, w0] σ := q_iload_n t139_30 rfl
theorem t139_31 : decode (mb 139) 31 = .ok (.invokevirtual 142, 3) := by decide +kernel
theorem s139_31_o87 (d : Nat) (l0 : Value) (l1 : Value) (v1 : Value) (σ : Hs) : ru d 139 31 [l0, l1] [v1, .ref 87] σ = kont (callD d 122 [.ref 87, v1] σ) d 139 34 [l0, l1] [] := q_invv t139_31 mo139 K8_142 mj122 rfl rfl rfl rfl (Nat.le_of_ble_eq_true rfl)
theorem t139_34 : decode (mb 139) 34 = .ok (.ifCond .ne 37, 3) := by decide +kernel
theorem s139_34 (d : Nat) (l0 : Value) (l1 : Value) (x : Int32) (σ : Hs) : ru d 139 34 [l0, l1] [.int x] σ = if x = 0 then ru d 139 37 [l0, l1] [] σ else ru d 139 71 [l0, l1] [] σ := q_if_ne t139_34 (by decide +kernel)
theorem t139_37 : decode (mb 139) 37 = .ok (.aload_n 0, 1) := by decide +kernel
theorem s139_37 (d : Nat) (a0 : Nat) (l1 : Value) (σ : Hs) : ru d 139 37 [.ref a0, l1] [] σ = ru d 139 38 [.ref a0, l1] [.ref a0] σ := q_aload_n t139_37 rfl
theorem t139_38 : decode (mb 139) 38 = .ok (.iload_n 1, 1) := by decide +kernel
theorem s139_38 (d : Nat) (l0 : Value) (i1 : Int32) (w0 : Value) (σ : Hs) : ru d 139 38 [l0, .int i1] [w0] σ = ru d 139 39 [l0, .int i1] [.int i1, w0] σ := q_iload_n t139_38 rfl
theorem t139_39 : decode (mb 139) 39 = .ok (.iconst 3, 1) := by decide +kernel
theorem s139_39 (d : Nat) (l0 : Value) (l1 : Value) (w0 w1 : Value) (σ : Hs) : ru d 139 39 [l0, l1] [w0, w1] σ = ru d 139 40 [l0, l1] [.int 3, w0, w1] σ := q_iconst t139_39 (by decide +kernel)
theorem t139_40 : decode (mb 139) 40 = .ok (.invokevirtual 85, 3) := by decide +kernel
theorem s139_40_o87 (d : Nat) (l0 : Value) (l1 : Value) (v1 v2 : Value) (σ : Hs) : ru d 139 40 [l0, l1] [v2, v1, .ref 87] σ = kont (callD d 118 [.ref 87, v1, v2] σ) d 139 43 [l0, l1] [] := q_invv t139_40 mo139 K8_85 mj118 rfl rfl rfl rfl (Nat.le_of_ble_eq_true rfl)
theorem t139_43 : decode (mb 139) 43 = .ok (.aload_n 0, 1) := by decide +kernel
theorem s139_43 (d : Nat) (a0 : Nat) (l1 : Value) (w0 : Value) (σ : Hs) : ru d 139 43 [.ref a0, l1] [w0] σ = ru d 139 44 [.ref a0, l1] [.ref a0, w0] σ := q_aload_n t139_43 rfl
theorem t139_44 : decode (mb 139) 44 = .ok (.getfield 9, 3) := by decide +kernel
theorem s139_44_o87 (d : Nat) (l0 : Value) (l1 : Value) (w0 : Value) (σ : Hs) : ru d 139 44 [l0, l1] [.ref 87, w0] σ = ru d 139 47 [l0, l1] [.ref 88, w0] σ := q_getf t139_44 mo139 F8_9 rfl rfl
theorem t139_47 : decode (mb 139) 47 = .ok (.bipush 7, 2) := by decide +kernel
theorem s139_47 (d : Nat) (l0 : Value) (l1 : Value) (w0 w1 : Value) (σ : Hs) : ru d 139 47 [l0, l1] [w0, w1] σ = ru d 139 49 [l0, l1] [.int 7, w0, w1] σ := q_bipush t139_47 (by decide +kernel)
theorem t139_49 : decode (mb 139) 49 = .ok (.iaload, 1) := by decide +kernel
theorem s139_49_o88 (d : Nat) (l0 : Value) (l1 : Value) (i : Int32) (w0 : Value) (σ : Hs) : ru d 139 49 [l0, l1] [.int i, .ref 88, w0] σ = gd (vp_in i 545) (ru d 139 50 [l0, l1] [.int (σ 88 i.toNatClampNeg), w0] σ) := q_iald t139_49 rfl (by decide +kernel) rfl
theorem t139_50 : decode (mb 139) 50 = .ok (.if_icmp .gt 21, 3) := by decide +kernel
theorem s139_50 (d : Nat) (l0 : Value) (l1 : Value) (x y : Int32) (σ : Hs) : ru d 139 50 [l0, l1] [.int y, .int x] σ = if y < x then ru d 139 71 [l0, l1] [] σ else ru d 139 53 [l0, l1] [] σ := q_ic_gt t139_50 (by decide +kernel)
theorem t139_53 : decode (mb 139) 53 = .ok (.aload_n 0, 1) := by decide +kernel
theorem s139_53 (d : Nat) (a0 : Nat) (l1 : Value) (σ : Hs) : ru d 139 53 [.ref a0, l1] [] σ = ru d 139 54 [.ref a0, l1] [.ref a0] σ := q_aload_n t139_53 rfl
theorem t139_54 : decode (mb 139) 54 = .ok (.iload_n 1, 1) := by decide +kernel
theorem s139_54 (d : Nat) (l0 : Value) (i1 : Int32) (w0 : Value) (σ : Hs) : ru d 139 54 [l0, .int i1] [w0] σ = ru d 139 55 [l0, .int i1] [.int i1, w0] σ := q_iload_n t139_54 rfl
theorem t139_55 : decode (mb 139) 55 = .ok (.iconst 1, 1) := by decide +kernel
theorem s139_55 (d : Nat) (l0 : Value) (l1 : Value) (w0 w1 : Value) (σ : Hs) : ru d 139 55 [l0, l1] [w0, w1] σ = ru d 139 56 [l0, l1] [.int 1, w0, w1] σ := q_iconst t139_55 (by decide +kernel)
theorem t139_56 : decode (mb 139) 56 = .ok (.invokevirtual 85, 3) := by decide +kernel
theorem s139_56_o87 (d : Nat) (l0 : Value) (l1 : Value) (v1 v2 : Value) (σ : Hs) : ru d 139 56 [l0, l1] [v2, v1, .ref 87] σ = kont (callD d 118 [.ref 87, v1, v2] σ) d 139 59 [l0, l1] [] := q_invv t139_56 mo139 K8_85 mj118 rfl rfl rfl rfl (Nat.le_of_ble_eq_true rfl)
theorem t139_59 : decode (mb 139) 59 = .ok (.bipush 6, 2) := by decide +kernel
theorem s139_59 (d : Nat) (l0 : Value) (l1 : Value) (w0 : Value) (σ : Hs) : ru d 139 59 [l0, l1] [w0] σ = ru d 139 61 [l0, l1] [.int 6, w0] σ := q_bipush t139_59 (by decide +kernel)
theorem t139_61 : decode (mb 139) 61 = .ok (.if_icmp .eq 10, 3) := by decide +kernel
theorem s139_61 (d : Nat) (l0 : Value) (l1 : Value) (x y : Int32) (σ : Hs) : ru d 139 61 [l0, l1] [.int y, .int x] σ = if x = y then ru d 139 71 [l0, l1] [] σ else ru d 139 64 [l0, l1] [] σ := q_ic_eq t139_61 (by decide +kernel)
theorem t139_64 : decode (mb 139) 64 = .ok (.aload_n 0, 1) := by decide +kernel
theorem s139_64 (d : Nat) (a0 : Nat) (l1 : Value) (σ : Hs) : ru d 139 64 [.ref a0, l1] [] σ = ru d 139 65 [.ref a0, l1] [.ref a0] σ := q_aload_n t139_64 rfl
theorem t139_65 : decode (mb 139) 65 = .ok (.invokevirtual 145, 3) := by decide +kernel
theorem s139_65_o87 (d : Nat) (l0 : Value) (l1 : Value) (σ : Hs) : ru d 139 65 [l0, l1] [.ref 87] σ = kont (callD d 160 [.ref 87] σ) d 139 68 [l0, l1] [] := q_invv t139_65 mo139 K8_145 mj160 rfl rfl rfl rfl (Nat.le_of_ble_eq_true rfl)
theorem t139_68 : decode (mb 139) 68 = .ok (.ifCond .ne 10, 3) := by decide +kernel
theorem s139_68 (d : Nat) (l0 : Value) (l1 : Value) (x : Int32) (σ : Hs) : ru d 139 68 [l0, l1] [.int x] σ = if x = 0 then ru d 139 71 [l0, l1] [] σ else ru d 139 78 [l0, l1] [] σ := q_if_ne t139_68 (by decide +kernel)
theorem t139_71 : decode (mb 139) 71 = .ok (.aload_n 0, 1) := by decide +kernel
theorem s139_71 (d : Nat) (a0 : Nat) (l1 : Value) (σ : Hs) : ru d 139 71 [.ref a0, l1] [] σ = ru d 139 72 [.ref a0, l1] [.ref a0] σ := q_aload_n t139_71 rfl
theorem t139_72 : decode (mb 139) 72 = .ok (.ldc 149, 2) := by decide +kernel
theorem s139_72 (d : Nat) (l0 : Value) (l1 : Value) (w0 : Value) (σ : Hs) : ru d 139 72 [l0, l1] [w0] σ = ru d 139 74 [l0, l1] [.int (-1000003), w0] σ := q_ldc t139_72 mo139 C8_149
theorem t139_74 : decode (mb 139) 74 = .ok (.invokevirtual 105, 3) := by decide +kernel
theorem s139_74_o87 (d : Nat) (l0 : Value) (l1 : Value) (v1 : Value) (σ : Hs) : ru d 139 74 [l0, l1] [v1, .ref 87] σ = kont (callD d 111 [.ref 87, v1] σ) d 139 77 [l0, l1] [] := q_invv t139_74 mo139 K8_105 mj111 rfl rfl rfl rfl (Nat.le_of_ble_eq_true rfl)
theorem t139_77 : decode (mb 139) 77 = .ok (.ireturn, 1) := by decide +kernel
theorem s139_77 (d : Nat) (l0 : Value) (l1 : Value) (x : Int32) (σ : Hs) : ru d 139 77 [l0, l1] [.int x] σ = some (some (.int x), σ) := q_ireti t139_77 mr139
theorem t139_78 : decode (mb 139) 78 = .ok (.aload_n 0, 1) := by decide +kernel
theorem s139_78 (d : Nat) (a0 : Nat) (l1 : Value) (σ : Hs) : ru d 139 78 [.ref a0, l1] [] σ = ru d 139 79 [.ref a0, l1] [.ref a0] σ := q_aload_n t139_78 rfl
theorem t139_79 : decode (mb 139) 79 = .ok (.iload_n 1, 1) := by decide +kernel
theorem s139_79 (d : Nat) (l0 : Value) (i1 : Int32) (w0 : Value) (σ : Hs) : ru d 139 79 [l0, .int i1] [w0] σ = ru d 139 80 [l0, .int i1] [.int i1, w0] σ := q_iload_n t139_79 rfl
theorem t139_80 : decode (mb 139) 80 = .ok (.invokevirtual 150, 3) := by decide +kernel
theorem s139_80_o87 (d : Nat) (l0 : Value) (l1 : Value) (v1 : Value) (σ : Hs) : ru d 139 80 [l0, l1] [v1, .ref 87] σ = kont (callD d 138 [.ref 87, v1] σ) d 139 83 [l0, l1] [] := q_invv t139_80 mo139 K8_150 mj138 rfl rfl rfl rfl (Nat.le_of_ble_eq_true rfl)
theorem t139_83 : decode (mb 139) 83 = .ok (.iconst 1, 1) := by decide +kernel
theorem s139_83 (d : Nat) (l0 : Value) (l1 : Value) (σ : Hs) : ru d 139 83 [l0, l1] [] σ = ru d 139 84 [l0, l1] [.int 1] σ := q_iconst t139_83 (by decide +kernel)
theorem t139_84 : decode (mb 139) 84 = .ok (.ireturn, 1) := by decide +kernel
theorem s139_84 (d : Nat) (l0 : Value) (l1 : Value) (x : Int32) (σ : Hs) : ru d 139 84 [l0, l1] [.int x] σ = some (some (.int x), σ) := q_ireti t139_84 mr139
theorem c139 (d : Nat) (x0 : Nat) (x1 : Int32) (σ : Hs) : callD (d + 1) 139 [.ref x0, .int x1] σ = ru d 139 0 [.ref x0, .int x1] [] σ := callD_ru ml139 rfl rfl (Nat.le_of_ble_eq_true rfl)
-- 140: Model.pours(II)V
theorem t140_0 : decode (mb 140) 0 = .ok (.aload_n 0, 1) := by decide +kernel
theorem s140_0 (d : Nat) (a0 : Nat) (l1 : Value) (l2 : Value) (σ : Hs) : ru d 140 0 [.ref a0, l1, l2] [] σ = ru d 140 1 [.ref a0, l1, l2] [.ref a0] σ := q_aload_n t140_0 rfl
theorem t140_1 : decode (mb 140) 1 = .ok (.iload_n 1, 1) := by decide +kernel
theorem s140_1 (d : Nat) (l0 : Value) (i1 : Int32) (l2 : Value) (w0 : Value) (σ : Hs) : ru d 140 1 [l0, .int i1, l2] [w0] σ = ru d 140 2 [l0, .int i1, l2] [.int i1, w0] σ := q_iload_n t140_1 rfl
theorem t140_2 : decode (mb 140) 2 = .ok (.iconst 3, 1) := by decide +kernel
theorem s140_2 (d : Nat) (l0 : Value) (l1 : Value) (l2 : Value) (w0 w1 : Value) (σ : Hs) : ru d 140 2 [l0, l1, l2] [w0, w1] σ = ru d 140 3 [l0, l1, l2] [.int 3, w0, w1] σ := q_iconst t140_2 (by decide +kernel)
theorem t140_3 : decode (mb 140) 3 = .ok (.sipush 999, 3) := by decide +kernel
theorem s140_3 (d : Nat) (l0 : Value) (l1 : Value) (l2 : Value) (w0 w1 w2 : Value) (σ : Hs) : ru d 140 3 [l0, l1, l2] [w0, w1, w2] σ = ru d 140 6 [l0, l1, l2] [.int 999, w0, w1, w2] σ := q_sipush t140_3 (by decide +kernel)
theorem t140_6 : decode (mb 140) 6 = .ok (.aload_n 0, 1) := by decide +kernel
theorem s140_6 (d : Nat) (a0 : Nat) (l1 : Value) (l2 : Value) (w0 w1 w2 w3 : Value) (σ : Hs) : ru d 140 6 [.ref a0, l1, l2] [w0, w1, w2, w3] σ = ru d 140 7 [.ref a0, l1, l2] [.ref a0, w0, w1, w2, w3] σ := q_aload_n t140_6 rfl
theorem t140_7 : decode (mb 140) 7 = .ok (.iload_n 1, 1) := by decide +kernel
theorem s140_7 (d : Nat) (l0 : Value) (i1 : Int32) (l2 : Value) (w0 w1 w2 w3 w4 : Value) (σ : Hs) : ru d 140 7 [l0, .int i1, l2] [w0, w1, w2, w3, w4] σ = ru d 140 8 [l0, .int i1, l2] [.int i1, w0, w1, w2, w3, w4] σ := q_iload_n t140_7 rfl
theorem t140_8 : decode (mb 140) 8 = .ok (.iconst 3, 1) := by decide +kernel
theorem s140_8 (d : Nat) (l0 : Value) (l1 : Value) (l2 : Value) (w0 w1 w2 w3 w4 w5 : Value) (σ : Hs) : ru d 140 8 [l0, l1, l2] [w0, w1, w2, w3, w4, w5] σ = ru d 140 9 [l0, l1, l2] [.int 3, w0, w1, w2, w3, w4, w5] σ := q_iconst t140_8 (by decide +kernel)
theorem t140_9 : decode (mb 140) 9 = .ok (.invokevirtual 85, 3) := by decide +kernel
theorem s140_9_o87 (d : Nat) (l0 : Value) (l1 : Value) (l2 : Value) (v1 v2 : Value) (w0 : Int32) (w1 : Int32) (w2 : Int32) (w3 : Nat) (σ : Hs) : ru d 140 9 [l0, l1, l2] [v2, v1, .ref 87, .int w0, .int w1, .int w2, .ref w3] σ = kont (callD d 118 [.ref 87, v1, v2] σ) d 140 12 [l0, l1, l2] [.int w0, .int w1, .int w2, .ref w3] := q_invv t140_9 mo140 K8_85 mj118 rfl rfl rfl rfl (Nat.le_of_ble_eq_true rfl)
theorem t140_12 : decode (mb 140) 12 = .ok (.iload_n 2, 1) := by decide +kernel
theorem s140_12 (d : Nat) (l0 : Value) (l1 : Value) (i2 : Int32) (w0 w1 w2 w3 w4 : Value) (σ : Hs) : ru d 140 12 [l0, l1, .int i2] [w0, w1, w2, w3, w4] σ = ru d 140 13 [l0, l1, .int i2] [.int i2, w0, w1, w2, w3, w4] σ := q_iload_n t140_12 rfl
theorem t140_13 : decode (mb 140) 13 = .ok (.iadd, 1) := by decide +kernel
theorem s140_13 (d : Nat) (l0 : Value) (l1 : Value) (l2 : Value) (x y : Int32) (w0 w1 w2 w3 : Value) (σ : Hs) : ru d 140 13 [l0, l1, l2] [.int y, .int x, w0, w1, w2, w3] σ = ru d 140 14 [l0, l1, l2] [.int (x + y), w0, w1, w2, w3] σ := q_iadd t140_13
theorem t140_14 : decode (mb 140) 14 = .ok (.invokestatic 68, 3) := by decide +kernel
theorem s140_14 (d : Nat) (l0 : Value) (l1 : Value) (l2 : Value) (x y : Int32) (w0 : Int32) (w1 : Int32) (w2 : Nat) (σ : Hs) : ru d 140 14 [l0, l1, l2] [.int y, .int x, .int w0, .int w1, .ref w2] σ = ru d 140 17 [l0, l1, l2] [.int (jmin x y), .int w0, .int w1, .ref w2] σ := q_mi t140_14 mo140 (by decide +kernel) (by decide +kernel) (by decide +kernel) (Nat.le_of_ble_eq_true rfl)
theorem t140_17 : decode (mb 140) 17 = .ok (.invokevirtual 96, 3) := by decide +kernel
theorem s140_17_o87 (d : Nat) (l0 : Value) (l1 : Value) (l2 : Value) (v1 v2 v3 : Value) (σ : Hs) : ru d 140 17 [l0, l1, l2] [v3, v2, v1, .ref 87] σ = kont (callD d 119 [.ref 87, v1, v2, v3] σ) d 140 20 [l0, l1, l2] [] := q_invv t140_17 mo140 K8_96 mj119 rfl rfl rfl rfl (Nat.le_of_ble_eq_true rfl)
theorem t140_20 : decode (mb 140) 20 = .ok (.aload_n 0, 1) := by decide +kernel
theorem s140_20 (d : Nat) (a0 : Nat) (l1 : Value) (l2 : Value) (σ : Hs) : ru d 140 20 [.ref a0, l1, l2] [] σ = ru d 140 21 [.ref a0, l1, l2] [.ref a0] σ := q_aload_n t140_20 rfl
theorem t140_21 : decode (mb 140) 21 = .ok (.iload_n 1, 1) := by decide +kernel
theorem s140_21 (d : Nat) (l0 : Value) (i1 : Int32) (l2 : Value) (w0 : Value) (σ : Hs) : ru d 140 21 [l0, .int i1, l2] [w0] σ = ru d 140 22 [l0, .int i1, l2] [.int i1, w0] σ := q_iload_n t140_21 rfl
theorem t140_22 : decode (mb 140) 22 = .ok (.iconst 5, 1) := by decide +kernel
theorem s140_22 (d : Nat) (l0 : Value) (l1 : Value) (l2 : Value) (w0 w1 : Value) (σ : Hs) : ru d 140 22 [l0, l1, l2] [w0, w1] σ = ru d 140 23 [l0, l1, l2] [.int 5, w0, w1] σ := q_iconst t140_22 (by decide +kernel)
theorem t140_23 : decode (mb 140) 23 = .ok (.iconst 0, 1) := by decide +kernel
theorem s140_23 (d : Nat) (l0 : Value) (l1 : Value) (l2 : Value) (w0 w1 w2 : Value) (σ : Hs) : ru d 140 23 [l0, l1, l2] [w0, w1, w2] σ = ru d 140 24 [l0, l1, l2] [.int 0, w0, w1, w2] σ := q_iconst t140_23 (by decide +kernel)
theorem t140_24 : decode (mb 140) 24 = .ok (.aload_n 0, 1) := by decide +kernel
theorem s140_24 (d : Nat) (a0 : Nat) (l1 : Value) (l2 : Value) (w0 w1 w2 w3 : Value) (σ : Hs) : ru d 140 24 [.ref a0, l1, l2] [w0, w1, w2, w3] σ = ru d 140 25 [.ref a0, l1, l2] [.ref a0, w0, w1, w2, w3] σ := q_aload_n t140_24 rfl
theorem t140_25 : decode (mb 140) 25 = .ok (.iload_n 1, 1) := by decide +kernel
theorem s140_25 (d : Nat) (l0 : Value) (i1 : Int32) (l2 : Value) (w0 w1 w2 w3 w4 : Value) (σ : Hs) : ru d 140 25 [l0, .int i1, l2] [w0, w1, w2, w3, w4] σ = ru d 140 26 [l0, .int i1, l2] [.int i1, w0, w1, w2, w3, w4] σ := q_iload_n t140_25 rfl
theorem t140_26 : decode (mb 140) 26 = .ok (.iconst 5, 1) := by decide +kernel
theorem s140_26 (d : Nat) (l0 : Value) (l1 : Value) (l2 : Value) (w0 w1 w2 w3 w4 w5 : Value) (σ : Hs) : ru d 140 26 [l0, l1, l2] [w0, w1, w2, w3, w4, w5] σ = ru d 140 27 [l0, l1, l2] [.int 5, w0, w1, w2, w3, w4, w5] σ := q_iconst t140_26 (by decide +kernel)
theorem t140_27 : decode (mb 140) 27 = .ok (.invokevirtual 85, 3) := by decide +kernel
theorem s140_27_o87 (d : Nat) (l0 : Value) (l1 : Value) (l2 : Value) (v1 v2 : Value) (w0 : Int32) (w1 : Int32) (w2 : Int32) (w3 : Nat) (σ : Hs) : ru d 140 27 [l0, l1, l2] [v2, v1, .ref 87, .int w0, .int w1, .int w2, .ref w3] σ = kont (callD d 118 [.ref 87, v1, v2] σ) d 140 30 [l0, l1, l2] [.int w0, .int w1, .int w2, .ref w3] := q_invv t140_27 mo140 K8_85 mj118 rfl rfl rfl rfl (Nat.le_of_ble_eq_true rfl)
theorem t140_30 : decode (mb 140) 30 = .ok (.iload_n 2, 1) := by decide +kernel
theorem s140_30 (d : Nat) (l0 : Value) (l1 : Value) (i2 : Int32) (w0 w1 w2 w3 w4 : Value) (σ : Hs) : ru d 140 30 [l0, l1, .int i2] [w0, w1, w2, w3, w4] σ = ru d 140 31 [l0, l1, .int i2] [.int i2, w0, w1, w2, w3, w4] σ := q_iload_n t140_30 rfl
theorem t140_31 : decode (mb 140) 31 = .ok (.isub, 1) := by decide +kernel
theorem s140_31 (d : Nat) (l0 : Value) (l1 : Value) (l2 : Value) (x y : Int32) (w0 w1 w2 w3 : Value) (σ : Hs) : ru d 140 31 [l0, l1, l2] [.int y, .int x, w0, w1, w2, w3] σ = ru d 140 32 [l0, l1, l2] [.int (x - y), w0, w1, w2, w3] σ := q_isub t140_31
theorem t140_32 : decode (mb 140) 32 = .ok (.invokestatic 74, 3) := by decide +kernel
theorem s140_32 (d : Nat) (l0 : Value) (l1 : Value) (l2 : Value) (x y : Int32) (w0 : Int32) (w1 : Int32) (w2 : Nat) (σ : Hs) : ru d 140 32 [l0, l1, l2] [.int y, .int x, .int w0, .int w1, .ref w2] σ = ru d 140 35 [l0, l1, l2] [.int (jmax x y), .int w0, .int w1, .ref w2] σ := q_mx t140_32 mo140 (by decide +kernel) (by decide +kernel) (Nat.le_of_ble_eq_true rfl)
theorem t140_35 : decode (mb 140) 35 = .ok (.invokevirtual 96, 3) := by decide +kernel
theorem s140_35_o87 (d : Nat) (l0 : Value) (l1 : Value) (l2 : Value) (v1 v2 v3 : Value) (σ : Hs) : ru d 140 35 [l0, l1, l2] [v3, v2, v1, .ref 87] σ = kont (callD d 119 [.ref 87, v1, v2, v3] σ) d 140 38 [l0, l1, l2] [] := q_invv t140_35 mo140 K8_96 mj119 rfl rfl rfl rfl (Nat.le_of_ble_eq_true rfl)
theorem t140_38 : decode (mb 140) 38 = .ok (.return_, 1) := by decide +kernel
theorem s140_38 (d : Nat) (l0 : Value) (l1 : Value) (l2 : Value) (σ : Hs) : ru d 140 38 [l0, l1, l2] [] σ = some (none, σ) := q_vret t140_38 mr140
theorem c140 (d : Nat) (x0 : Nat) (x1 : Int32) (x2 : Int32) (σ : Hs) : callD (d + 1) 140 [.ref x0, .int x1, .int x2] σ = ru d 140 0 [.ref x0, .int x1, .int x2] [] σ := callD_ru ml140 rfl rfl (Nat.le_of_ble_eq_true rfl)
-- 141: Model.pour(II)I
theorem t141_0 : decode (mb 141) 0 = .ok (.iload_n 1, 1) := by decide +kernel
theorem s141_0 (d : Nat) (l0 : Value) (i1 : Int32) (l2 : Value) (σ : Hs) : ru d 141 0 [l0, .int i1, l2] [] σ = ru d 141 1 [l0, .int i1, l2] [.int i1] σ := q_iload_n t141_0 rfl
theorem t141_1 : decode (mb 141) 1 = .ok (.invokestatic 113, 3) := by decide +kernel
theorem s141_1 (d : Nat) (l0 : Value) (l1 : Value) (l2 : Value) (v0 : Value) (σ : Hs) : ru d 141 1 [l0, l1, l2] [v0] σ = kont (callD d 120 [v0] σ) d 141 4 [l0, l1, l2] [] := q_invs t141_1 mo141 (by decide +kernel) K8_113 mj120 (Nat.le_of_ble_eq_true rfl) rfl rfl (Nat.le_of_ble_eq_true rfl)
theorem t141_4 : decode (mb 141) 4 = .ok (.ifCond .eq 14, 3) := by decide +kernel
theorem s141_4 (d : Nat) (l0 : Value) (l1 : Value) (l2 : Value) (x : Int32) (σ : Hs) : ru d 141 4 [l0, l1, l2] [.int x] σ = if x = 0 then ru d 141 18 [l0, l1, l2] [] σ else ru d 141 7 [l0, l1, l2] [] σ := q_if_eq t141_4 (by decide +kernel)
theorem t141_7 : decode (mb 141) 7 = .ok (.iload_n 2, 1) := by decide +kernel
theorem s141_7 (d : Nat) (l0 : Value) (l1 : Value) (i2 : Int32) (σ : Hs) : ru d 141 7 [l0, l1, .int i2] [] σ = ru d 141 8 [l0, l1, .int i2] [.int i2] σ := q_iload_n t141_7 rfl
theorem t141_8 : decode (mb 141) 8 = .ok (.iconst 0, 1) := by decide +kernel
theorem s141_8 (d : Nat) (l0 : Value) (l1 : Value) (l2 : Value) (w0 : Value) (σ : Hs) : ru d 141 8 [l0, l1, l2] [w0] σ = ru d 141 9 [l0, l1, l2] [.int 0, w0] σ := q_iconst t141_8 (by decide +kernel)
theorem t141_9 : decode (mb 141) 9 = .ok (.sipush 999, 3) := by decide +kernel
theorem s141_9 (d : Nat) (l0 : Value) (l1 : Value) (l2 : Value) (w0 w1 : Value) (σ : Hs) : ru d 141 9 [l0, l1, l2] [w0, w1] σ = ru d 141 12 [l0, l1, l2] [.int 999, w0, w1] σ := q_sipush t141_9 (by decide +kernel)
theorem t141_12 : decode (mb 141) 12 = .ok (.invokestatic 81, 3) := by decide +kernel
theorem s141_12 (d : Nat) (l0 : Value) (l1 : Value) (l2 : Value) (v0 v1 v2 : Value) (σ : Hs) : ru d 141 12 [l0, l1, l2] [v2, v1, v0] σ = kont (callD d 112 [v0, v1, v2] σ) d 141 15 [l0, l1, l2] [] := q_invs t141_12 mo141 (by decide +kernel) K8_81 mj112 (Nat.le_of_ble_eq_true rfl) rfl rfl (Nat.le_of_ble_eq_true rfl)
theorem t141_15 : decode (mb 141) 15 = .ok (.ifCond .ne 10, 3) := by decide +kernel
theorem s141_15 (d : Nat) (l0 : Value) (l1 : Value) (l2 : Value) (x : Int32) (σ : Hs) : ru d 141 15 [l0, l1, l2] [.int x] σ = if x = 0 then ru d 141 18 [l0, l1, l2] [] σ else ru d 141 25 [l0, l1, l2] [] σ := q_if_ne t141_15 (by decide +kernel)
theorem t141_18 : decode (mb 141) 18 = .ok (.aload_n 0, 1) := by decide +kernel
theorem s141_18 (d : Nat) (a0 : Nat) (l1 : Value) (l2 : Value) (σ : Hs) : ru d 141 18 [.ref a0, l1, l2] [] σ = ru d 141 19 [.ref a0, l1, l2] [.ref a0] σ := q_aload_n t141_18 rfl
theorem t141_19 : decode (mb 141) 19 = .ok (.ldc 104, 2) := by decide +kernel
theorem s141_19 (d : Nat) (l0 : Value) (l1 : Value) (l2 : Value) (w0 : Value) (σ : Hs) : ru d 141 19 [l0, l1, l2] [w0] σ = ru d 141 21 [l0, l1, l2] [.int (-1000001), w0] σ := q_ldc t141_19 mo141 C8_104
theorem t141_21 : decode (mb 141) 21 = .ok (.invokevirtual 105, 3) := by decide +kernel
theorem s141_21_o87 (d : Nat) (l0 : Value) (l1 : Value) (l2 : Value) (v1 : Value) (σ : Hs) : ru d 141 21 [l0, l1, l2] [v1, .ref 87] σ = kont (callD d 111 [.ref 87, v1] σ) d 141 24 [l0, l1, l2] [] := q_invv t141_21 mo141 K8_105 mj111 rfl rfl rfl rfl (Nat.le_of_ble_eq_true rfl)
theorem t141_24 : decode (mb 141) 24 = .ok (.ireturn, 1) := by decide +kernel
theorem s141_24 (d : Nat) (l0 : Value) (l1 : Value) (l2 : Value) (x : Int32) (σ : Hs) : ru d 141 24 [l0, l1, l2] [.int x] σ = some (some (.int x), σ) := q_ireti t141_24 mr141
theorem t141_25 : decode (mb 141) 25 = .ok (.aload_n 0, 1) := by decide +kernel
theorem s141_25 (d : Nat) (a0 : Nat) (l1 : Value) (l2 : Value) (σ : Hs) : ru d 141 25 [.ref a0, l1, l2] [] σ = ru d 141 26 [.ref a0, l1, l2] [.ref a0] σ := q_aload_n t141_25 rfl
theorem t141_26 : decode (mb 141) 26 = .ok (.iload_n 1, 1) := by decide +kernel
theorem s141_26 (d : Nat) (l0 : Value) (i1 : Int32) (l2 : Value) (w0 : Value) (σ : Hs) : ru d 141 26 [l0, .int i1, l2] [w0] σ = ru d 141 27 [l0, .int i1, l2] [.int i1, w0] σ := q_iload_n t141_26 rfl
theorem t141_27 : decode (mb 141) 27 = .ok (.invokevirtual 88, 3) := by decide +kernel
theorem s141_27_o87 (d : Nat) (l0 : Value) (l1 : Value) (l2 : Value) (v1 : Value) (σ : Hs) : ru d 141 27 [l0, l1, l2] [v1, .ref 87] σ = kont (callD d 121 [.ref 87, v1] σ) d 141 30 [l0, l1, l2] [] := q_invv t141_27 mo141 K8_88 mj121 rfl rfl rfl rfl (Nat.le_of_ble_eq_true rfl)
theorem t141_30 : decode (mb 141) 30 = .ok (.ifCond .ne 10, 3) := by decide +kernel
theorem s141_30 (d : Nat) (l0 : Value) (l1 : Value) (l2 : Value) (x : Int32) (σ : Hs) : ru d 141 30 [l0, l1, l2] [.int x] σ = if x = 0 then ru d 141 33 [l0, l1, l2] [] σ else ru d 141 40 [l0, l1, l2] [] σ := q_if_ne t141_30 (by decide +kernel)
theorem t141_33 : decode (mb 141) 33 = .ok (.aload_n 0, 1) := by decide +kernel
theorem s141_33 (d : Nat) (a0 : Nat) (l1 : Value) (l2 : Value) (σ : Hs) : ru d 141 33 [.ref a0, l1, l2] [] σ = ru d 141 34 [.ref a0, l1, l2] [.ref a0] σ := q_aload_n t141_33 rfl
theorem t141_34 : decode (mb 141) 34 = .ok (.ldc 116, 2) := by decide +kernel
theorem s141_34 (d : Nat) (l0 : Value) (l1 : Value) (l2 : Value) (w0 : Value) (σ : Hs) : ru d 141 34 [l0, l1, l2] [w0] σ = ru d 141 36 [l0, l1, l2] [.int (-1000002), w0] σ := q_ldc t141_34 mo141 C8_116
theorem t141_36 : decode (mb 141) 36 = .ok (.invokevirtual 105, 3) := by decide +kernel
theorem s141_36_o87 (d : Nat) (l0 : Value) (l1 : Value) (l2 : Value) (v1 : Value) (σ : Hs) : ru d 141 36 [l0, l1, l2] [v1, .ref 87] σ = kont (callD d 111 [.ref 87, v1] σ) d 141 39 [l0, l1, l2] [] := q_invv t141_36 mo141 K8_105 mj111 rfl rfl rfl rfl (Nat.le_of_ble_eq_true rfl)
theorem t141_39 : decode (mb 141) 39 = .ok (.ireturn, 1) := by decide +kernel
theorem s141_39 (d : Nat) (l0 : Value) (l1 : Value) (l2 : Value) (x : Int32) (σ : Hs) : ru d 141 39 [l0, l1, l2] [.int x] σ = some (some (.int x), σ) := q_ireti t141_39 mr141
theorem t141_40 : decode (mb 141) 40 = .ok (.aload_n 0, 1) := by decide +kernel
theorem s141_40 (d : Nat) (a0 : Nat) (l1 : Value) (l2 : Value) (σ : Hs) : ru d 141 40 [.ref a0, l1, l2] [] σ = ru d 141 41 [.ref a0, l1, l2] [.ref a0] σ := q_aload_n t141_40 rfl
theorem t141_41 : decode (mb 141) 41 = .ok (.iload_n 1, 1) := by decide +kernel
theorem s141_41 (d : Nat) (l0 : Value) (i1 : Int32) (l2 : Value) (w0 : Value) (σ : Hs) : ru d 141 41 [l0, .int i1, l2] [w0] σ = ru d 141 42 [l0, .int i1, l2] [.int i1, w0] σ := q_iload_n t141_41 rfl
theorem t141_42 : decode (mb 141) 42 = .ok (.iload_n 2, 1) := by decide +kernel
theorem s141_42 (d : Nat) (l0 : Value) (l1 : Value) (i2 : Int32) (w0 w1 : Value) (σ : Hs) : ru d 141 42 [l0, l1, .int i2] [w0, w1] σ = ru d 141 43 [l0, l1, .int i2] [.int i2, w0, w1] σ := q_iload_n t141_42 rfl
theorem t141_43 : decode (mb 141) 43 = .ok (.invokevirtual 153, 3) := by decide +kernel
theorem s141_43_o87 (d : Nat) (l0 : Value) (l1 : Value) (l2 : Value) (v1 v2 : Value) (σ : Hs) : ru d 141 43 [l0, l1, l2] [v2, v1, .ref 87] σ = kont (callD d 140 [.ref 87, v1, v2] σ) d 141 46 [l0, l1, l2] [] := q_invv t141_43 mo141 K8_153 mj140 rfl rfl rfl rfl (Nat.le_of_ble_eq_true rfl)
theorem t141_46 : decode (mb 141) 46 = .ok (.aload_n 0, 1) := by decide +kernel
theorem s141_46 (d : Nat) (a0 : Nat) (l1 : Value) (l2 : Value) (σ : Hs) : ru d 141 46 [.ref a0, l1, l2] [] σ = ru d 141 47 [.ref a0, l1, l2] [.ref a0] σ := q_aload_n t141_46 rfl
theorem t141_47 : decode (mb 141) 47 = .ok (.iload_n 1, 1) := by decide +kernel
theorem s141_47 (d : Nat) (l0 : Value) (i1 : Int32) (l2 : Value) (w0 : Value) (σ : Hs) : ru d 141 47 [l0, .int i1, l2] [w0] σ = ru d 141 48 [l0, .int i1, l2] [.int i1, w0] σ := q_iload_n t141_47 rfl
theorem t141_48 : decode (mb 141) 48 = .ok (.iconst 3, 1) := by decide +kernel
theorem s141_48 (d : Nat) (l0 : Value) (l1 : Value) (l2 : Value) (w0 w1 : Value) (σ : Hs) : ru d 141 48 [l0, l1, l2] [w0, w1] σ = ru d 141 49 [l0, l1, l2] [.int 3, w0, w1] σ := q_iconst t141_48 (by decide +kernel)
theorem t141_49 : decode (mb 141) 49 = .ok (.invokevirtual 85, 3) := by decide +kernel
theorem s141_49_o87 (d : Nat) (l0 : Value) (l1 : Value) (l2 : Value) (v1 v2 : Value) (σ : Hs) : ru d 141 49 [l0, l1, l2] [v2, v1, .ref 87] σ = kont (callD d 118 [.ref 87, v1, v2] σ) d 141 52 [l0, l1, l2] [] := q_invv t141_49 mo141 K8_85 mj118 rfl rfl rfl rfl (Nat.le_of_ble_eq_true rfl)
theorem t141_52 : decode (mb 141) 52 = .ok (.ireturn, 1) := by decide +kernel
theorem s141_52 (d : Nat) (l0 : Value) (l1 : Value) (l2 : Value) (x : Int32) (σ : Hs) : ru d 141 52 [l0, l1, l2] [.int x] σ = some (some (.int x), σ) := q_ireti t141_52 mr141
theorem c141 (d : Nat) (x0 : Nat) (x1 : Int32) (x2 : Int32) (σ : Hs) : callD (d + 1) 141 [.ref x0, .int x1, .int x2] σ = ru d 141 0 [.ref x0, .int x1, .int x2] [] σ := callD_ru ml141 rfl rfl (Nat.le_of_ble_eq_true rfl)
-- 142: Model.set(II)I
theorem t142_0 : decode (mb 142) 0 = .ok (.iload_n 1, 1) := by decide +kernel
theorem s142_0 (d : Nat) (l0 : Value) (i1 : Int32) (l2 : Value) (σ : Hs) : ru d 142 0 [l0, .int i1, l2] [] σ = ru d 142 1 [l0, .int i1, l2] [.int i1] σ := q_iload_n t142_0 rfl
theorem t142_1 : decode (mb 142) 1 = .ok (.iconst 0, 1) := by decide +kernel
theorem s142_1 (d : Nat) (l0 : Value) (l1 : Value) (l2 : Value) (w0 : Value) (σ : Hs) : ru d 142 1 [l0, l1, l2] [w0] σ = ru d 142 2 [l0, l1, l2] [.int 0, w0] σ := q_iconst t142_1 (by decide +kernel)
theorem t142_2 : decode (mb 142) 2 = .ok (.iconst 4, 1) := by decide +kernel
theorem s142_2 (d : Nat) (l0 : Value) (l1 : Value) (l2 : Value) (w0 w1 : Value) (σ : Hs) : ru d 142 2 [l0, l1, l2] [w0, w1] σ = ru d 142 3 [l0, l1, l2] [.int 4, w0, w1] σ := q_iconst t142_2 (by decide +kernel)
theorem t142_3 : decode (mb 142) 3 = .ok (.invokestatic 81, 3) := by decide +kernel
theorem s142_3 (d : Nat) (l0 : Value) (l1 : Value) (l2 : Value) (v0 v1 v2 : Value) (σ : Hs) : ru d 142 3 [l0, l1, l2] [v2, v1, v0] σ = kont (callD d 112 [v0, v1, v2] σ) d 142 6 [l0, l1, l2] [] := q_invs t142_3 mo142 (by decide +kernel) K8_81 mj112 (Nat.le_of_ble_eq_true rfl) rfl rfl (Nat.le_of_ble_eq_true rfl)
theorem t142_6 : decode (mb 142) 6 = .ok (.ifCond .eq 28, 3) := by decide +kernel
theorem s142_6 (d : Nat) (l0 : Value) (l1 : Value) (l2 : Value) (x : Int32) (σ : Hs) : ru d 142 6 [l0, l1, l2] [.int x] σ = if x = 0 then ru d 142 34 [l0, l1, l2] [] σ else ru d 142 9 [l0, l1, l2] [] σ := q_if_eq t142_6 (by decide +kernel)
theorem t142_9 : decode (mb 142) 9 = .ok (.iload_n 2, 1) := by decide +kernel
theorem s142_9 (d : Nat) (l0 : Value) (l1 : Value) (i2 : Int32) (σ : Hs) : ru d 142 9 [l0, l1, .int i2] [] σ = ru d 142 10 [l0, l1, .int i2] [.int i2] σ := q_iload_n t142_9 rfl
theorem t142_10 : decode (mb 142) 10 = .ok (.iconst 0, 1) := by decide +kernel
theorem s142_10 (d : Nat) (l0 : Value) (l1 : Value) (l2 : Value) (w0 : Value) (σ : Hs) : ru d 142 10 [l0, l1, l2] [w0] σ = ru d 142 11 [l0, l1, l2] [.int 0, w0] σ := q_iconst t142_10 (by decide +kernel)
theorem t142_11 : decode (mb 142) 11 = .ok (.aload_n 0, 1) := by decide +kernel
theorem s142_11 (d : Nat) (a0 : Nat) (l1 : Value) (l2 : Value) (w0 w1 : Value) (σ : Hs) : ru d 142 11 [.ref a0, l1, l2] [w0, w1] σ = ru d 142 12 [.ref a0, l1, l2] [.ref a0, w0, w1] σ := q_aload_n t142_11 rfl
theorem t142_12 : decode (mb 142) 12 = .ok (.getfield 28, 3) := by decide +kernel
theorem s142_12_o87 (d : Nat) (l0 : Value) (l1 : Value) (l2 : Value) (w0 w1 : Value) (σ : Hs) : ru d 142 12 [l0, l1, l2] [.ref 87, w0, w1] σ = ru d 142 15 [l0, l1, l2] [.ref 94, w0, w1] σ := q_getf t142_12 mo142 F8_28 rfl rfl
theorem t142_15 : decode (mb 142) 15 = .ok (.iload_n 1, 1) := by decide +kernel
theorem s142_15 (d : Nat) (l0 : Value) (i1 : Int32) (l2 : Value) (w0 w1 w2 : Value) (σ : Hs) : ru d 142 15 [l0, .int i1, l2] [w0, w1, w2] σ = ru d 142 16 [l0, .int i1, l2] [.int i1, w0, w1, w2] σ := q_iload_n t142_15 rfl
theorem t142_16 : decode (mb 142) 16 = .ok (.iaload, 1) := by decide +kernel
theorem s142_16_o94 (d : Nat) (l0 : Value) (l1 : Value) (l2 : Value) (i : Int32) (w0 w1 : Value) (σ : Hs) : ru d 142 16 [l0, l1, l2] [.int i, .ref 94, w0, w1] σ = gd (vp_in i 5) (ru d 142 17 [l0, l1, l2] [.int (σ 94 i.toNatClampNeg), w0, w1] σ) := q_iald t142_16 rfl (by decide +kernel) rfl
theorem t142_17 : decode (mb 142) 17 = .ok (.invokestatic 81, 3) := by decide +kernel
theorem s142_17 (d : Nat) (l0 : Value) (l1 : Value) (l2 : Value) (v0 v1 v2 : Value) (σ : Hs) : ru d 142 17 [l0, l1, l2] [v2, v1, v0] σ = kont (callD d 112 [v0, v1, v2] σ) d 142 20 [l0, l1, l2] [] := q_invs t142_17 mo142 (by decide +kernel) K8_81 mj112 (Nat.le_of_ble_eq_true rfl) rfl rfl (Nat.le_of_ble_eq_true rfl)
theorem t142_20 : decode (mb 142) 20 = .ok (.ifCond .eq 14, 3) := by decide +kernel
theorem s142_20 (d : Nat) (l0 : Value) (l1 : Value) (l2 : Value) (x : Int32) (σ : Hs) : ru d 142 20 [l0, l1, l2] [.int x] σ = if x = 0 then ru d 142 34 [l0, l1, l2] [] σ else ru d 142 23 [l0, l1, l2] [] σ := q_if_eq t142_20 (by decide +kernel)
theorem t142_23 : decode (mb 142) 23 = .ok (.aload_n 0, 1) := by decide +kernel
theorem s142_23 (d : Nat) (a0 : Nat) (l1 : Value) (l2 : Value) (σ : Hs) : ru d 142 23 [.ref a0, l1, l2] [] σ = ru d 142 24 [.ref a0, l1, l2] [.ref a0] σ := q_aload_n t142_23 rfl
theorem t142_24 : decode (mb 142) 24 = .ok (.iconst 4, 1) := by decide +kernel
theorem s142_24 (d : Nat) (l0 : Value) (l1 : Value) (l2 : Value) (w0 : Value) (σ : Hs) : ru d 142 24 [l0, l1, l2] [w0] σ = ru d 142 25 [l0, l1, l2] [.int 4, w0] σ := q_iconst t142_24 (by decide +kernel)
theorem t142_25 : decode (mb 142) 25 = .ok (.iload_n 1, 1) := by decide +kernel
theorem s142_25 (d : Nat) (l0 : Value) (i1 : Int32) (l2 : Value) (w0 w1 : Value) (σ : Hs) : ru d 142 25 [l0, .int i1, l2] [w0, w1] σ = ru d 142 26 [l0, .int i1, l2] [.int i1, w0, w1] σ := q_iload_n t142_25 rfl
theorem t142_26 : decode (mb 142) 26 = .ok (.iadd, 1) := by decide +kernel
theorem s142_26 (d : Nat) (l0 : Value) (l1 : Value) (l2 : Value) (x y : Int32) (w0 : Value) (σ : Hs) : ru d 142 26 [l0, l1, l2] [.int y, .int x, w0] σ = ru d 142 27 [l0, l1, l2] [.int (x + y), w0] σ := q_iadd t142_26
theorem t142_27 : decode (mb 142) 27 = .ok (.iload_n 2, 1) := by decide +kernel
theorem s142_27 (d : Nat) (l0 : Value) (l1 : Value) (i2 : Int32) (w0 w1 : Value) (σ : Hs) : ru d 142 27 [l0, l1, .int i2] [w0, w1] σ = ru d 142 28 [l0, l1, .int i2] [.int i2, w0, w1] σ := q_iload_n t142_27 rfl
theorem t142_28 : decode (mb 142) 28 = .ok (.invokevirtual 135, 3) := by decide +kernel
theorem s142_28_o87 (d : Nat) (l0 : Value) (l1 : Value) (l2 : Value) (v1 v2 : Value) (σ : Hs) : ru d 142 28 [l0, l1, l2] [v2, v1, .ref 87] σ = kont (callD d 116 [.ref 87, v1, v2] σ) d 142 31 [l0, l1, l2] [] := q_invv t142_28 mo142 K8_135 mj116 rfl rfl rfl rfl (Nat.le_of_ble_eq_true rfl)
theorem t142_31 : decode (mb 142) 31 = .ok (.goto 9, 3) := by decide +kernel
theorem s142_31 (d : Nat) (l0 : Value) (l1 : Value) (l2 : Value) (w0 : Value) (σ : Hs) : ru d 142 31 [l0, l1, l2] [w0] σ = ru d 142 40 [l0, l1, l2] [w0] σ := q_goto t142_31 (by decide +kernel)
theorem t142_34 : decode (mb 142) 34 = .ok (.aload_n 0, 1) := by decide +kernel
theorem s142_34 (d : Nat) (a0 : Nat) (l1 : Value) (l2 : Value) (σ : Hs) : ru d 142 34 [.ref a0, l1, l2] [] σ = ru d 142 35 [.ref a0, l1, l2] [.ref a0] σ := q_aload_n t142_34 rfl
theorem t142_35 : decode (mb 142) 35 = .ok (.ldc 104, 2) := by decide +kernel
theorem s142_35 (d : Nat) (l0 : Value) (l1 : Value) (l2 : Value) (w0 : Value) (σ : Hs) : ru d 142 35 [l0, l1, l2] [w0] σ = ru d 142 37 [l0, l1, l2] [.int (-1000001), w0] σ := q_ldc t142_35 mo142 C8_104
theorem t142_37 : decode (mb 142) 37 = .ok (.invokevirtual 105, 3) := by decide +kernel
theorem s142_37_o87 (d : Nat) (l0 : Value) (l1 : Value) (l2 : Value) (v1 : Value) (σ : Hs) : ru d 142 37 [l0, l1, l2] [v1, .ref 87] σ = kont (callD d 111 [.ref 87, v1] σ) d 142 40 [l0, l1, l2] [] := q_invv t142_37 mo142 K8_105 mj111 rfl rfl rfl rfl (Nat.le_of_ble_eq_true rfl)
theorem t142_40 : decode (mb 142) 40 = .ok (.ireturn, 1) := by decide +kernel
theorem s142_40 (d : Nat) (l0 : Value) (l1 : Value) (l2 : Value) (x : Int32) (σ : Hs) : ru d 142 40 [l0, l1, l2] [.int x] σ = some (some (.int x), σ) := q_ireti t142_40 mr142
theorem c142 (d : Nat) (x0 : Nat) (x1 : Int32) (x2 : Int32) (σ : Hs) : callD (d + 1) 142 [.ref x0, .int x1, .int x2] σ = ru d 142 0 [.ref x0, .int x1, .int x2] [] σ := callD_ru ml142 rfl rfl (Nat.le_of_ble_eq_true rfl)
-- 143: Model.feed(JI)I
theorem t143_0 : decode (mb 143) 0 = .ok (.iload_n 3, 1) := by decide +kernel
theorem s143_0 (d : Nat) (l0 : Value) (l1 : Value) (l2 : Value) (i3 : Int32) (l4 : Value) (σ : Hs) : ru d 143 0 [l0, l1, l2, .int i3, l4] [] σ = ru d 143 1 [l0, l1, l2, .int i3, l4] [.int i3] σ := q_iload_n t143_0 rfl
theorem t143_1 : decode (mb 143) 1 = .ok (.iconst 1, 1) := by decide +kernel
theorem s143_1 (d : Nat) (l0 : Value) (l1 : Value) (l2 : Value) (l3 : Value) (l4 : Value) (w0 : Value) (σ : Hs) : ru d 143 1 [l0, l1, l2, l3, l4] [w0] σ = ru d 143 2 [l0, l1, l2, l3, l4] [.int 1, w0] σ := q_iconst t143_1 (by decide +kernel)
theorem t143_2 : decode (mb 143) 2 = .ok (.bipush 8, 2) := by decide +kernel
theorem s143_2 (d : Nat) (l0 : Value) (l1 : Value) (l2 : Value) (l3 : Value) (l4 : Value) (w0 w1 : Value) (σ : Hs) : ru d 143 2 [l0, l1, l2, l3, l4] [w0, w1] σ = ru d 143 4 [l0, l1, l2, l3, l4] [.int 8, w0, w1] σ := q_bipush t143_2 (by decide +kernel)
theorem t143_4 : decode (mb 143) 4 = .ok (.invokestatic 81, 3) := by decide +kernel
theorem s143_4 (d : Nat) (l0 : Value) (l1 : Value) (l2 : Value) (l3 : Value) (l4 : Value) (v0 v1 v2 : Value) (σ : Hs) : ru d 143 4 [l0, l1, l2, l3, l4] [v2, v1, v0] σ = kont (callD d 112 [v0, v1, v2] σ) d 143 7 [l0, l1, l2, l3, l4] [] := q_invs t143_4 mo143 (by decide +kernel) K8_81 mj112 (Nat.le_of_ble_eq_true rfl) rfl rfl (Nat.le_of_ble_eq_true rfl)
theorem t143_7 : decode (mb 143) 7 = .ok (.ifCond .ne 10, 3) := by decide +kernel
theorem s143_7 (d : Nat) (l0 : Value) (l1 : Value) (l2 : Value) (l3 : Value) (l4 : Value) (x : Int32) (σ : Hs) : ru d 143 7 [l0, l1, l2, l3, l4] [.int x] σ = if x = 0 then ru d 143 10 [l0, l1, l2, l3, l4] [] σ else ru d 143 17 [l0, l1, l2, l3, l4] [] σ := q_if_ne t143_7 (by decide +kernel)
theorem t143_10 : decode (mb 143) 10 = .ok (.aload_n 0, 1) := by decide +kernel
theorem s143_10 (d : Nat) (a0 : Nat) (l1 : Value) (l2 : Value) (l3 : Value) (l4 : Value) (σ : Hs) : ru d 143 10 [.ref a0, l1, l2, l3, l4] [] σ = ru d 143 11 [.ref a0, l1, l2, l3, l4] [.ref a0] σ := q_aload_n t143_10 rfl
theorem t143_11 : decode (mb 143) 11 = .ok (.ldc 104, 2) := by decide +kernel
theorem s143_11 (d : Nat) (l0 : Value) (l1 : Value) (l2 : Value) (l3 : Value) (l4 : Value) (w0 : Value) (σ : Hs) : ru d 143 11 [l0, l1, l2, l3, l4] [w0] σ = ru d 143 13 [l0, l1, l2, l3, l4] [.int (-1000001), w0] σ := q_ldc t143_11 mo143 C8_104
theorem t143_13 : decode (mb 143) 13 = .ok (.invokevirtual 105, 3) := by decide +kernel
theorem s143_13_o87 (d : Nat) (l0 : Value) (l1 : Value) (l2 : Value) (l3 : Value) (l4 : Value) (v1 : Value) (σ : Hs) : ru d 143 13 [l0, l1, l2, l3, l4] [v1, .ref 87] σ = kont (callD d 111 [.ref 87, v1] σ) d 143 16 [l0, l1, l2, l3, l4] [] := q_invv t143_13 mo143 K8_105 mj111 rfl rfl rfl rfl (Nat.le_of_ble_eq_true rfl)
theorem t143_16 : decode (mb 143) 16 = .ok (.ireturn, 1) := by decide +kernel
theorem s143_16 (d : Nat) (l0 : Value) (l1 : Value) (l2 : Value) (l3 : Value) (l4 : Value) (x : Int32) (σ : Hs) : ru d 143 16 [l0, l1, l2, l3, l4] [.int x] σ = some (some (.int x), σ) := q_ireti t143_16 mr143
theorem t143_17 : decode (mb 143) 17 = .ok (.aload_n 0, 1) := by decide +kernel
theorem s143_17 (d : Nat) (a0 : Nat) (l1 : Value) (l2 : Value) (l3 : Value) (l4 : Value) (σ : Hs) : ru d 143 17 [.ref a0, l1, l2, l3, l4] [] σ = ru d 143 18 [.ref a0, l1, l2, l3, l4] [.ref a0] σ := q_aload_n t143_17 rfl
theorem t143_18 : decode (mb 143) 18 = .ok (.getfield 9, 3) := by decide +kernel
theorem s143_18_o87 (d : Nat) (l0 : Value) (l1 : Value) (l2 : Value) (l3 : Value) (l4 : Value) (σ : Hs) : ru d 143 18 [l0, l1, l2, l3, l4] [.ref 87] σ = ru d 143 21 [l0, l1, l2, l3, l4] [.ref 88] σ := q_getf t143_18 mo143 F8_9 rfl rfl
theorem t143_21 : decode (mb 143) 21 = .ok (.iconst 1, 1) := by decide +kernel
theorem s143_21 (d : Nat) (l0 : Value) (l1 : Value) (l2 : Value) (l3 : Value) (l4 : Value) (w0 : Value) (σ : Hs) : ru d 143 21 [l0, l1, l2, l3, l4] [w0] σ = ru d 143 22 [l0, l1, l2, l3, l4] [.int 1, w0] σ := q_iconst t143_21 (by decide +kernel)
theorem t143_22 : decode (mb 143) 22 = .ok (.iaload, 1) := by decide +kernel
theorem s143_22_o88 (d : Nat) (l0 : Value) (l1 : Value) (l2 : Value) (l3 : Value) (l4 : Value) (i : Int32) (σ : Hs) : ru d 143 22 [l0, l1, l2, l3, l4] [.int i, .ref 88] σ = gd (vp_in i 545) (ru d 143 23 [l0, l1, l2, l3, l4] [.int (σ 88 i.toNatClampNeg)] σ) := q_iald t143_22 rfl (by decide +kernel) rfl
theorem t143_23 : decode (mb 143) 23 = .ok (.iload_n 3, 1) := by decide +kernel
theorem s143_23 (d : Nat) (l0 : Value) (l1 : Value) (l2 : Value) (i3 : Int32) (l4 : Value) (w0 : Value) (σ : Hs) : ru d 143 23 [l0, l1, l2, .int i3, l4] [w0] σ = ru d 143 24 [l0, l1, l2, .int i3, l4] [.int i3, w0] σ := q_iload_n t143_23 rfl
theorem t143_24 : decode (mb 143) 24 = .ok (.iadd, 1) := by decide +kernel
theorem s143_24 (d : Nat) (l0 : Value) (l1 : Value) (l2 : Value) (l3 : Value) (l4 : Value) (x y : Int32) (σ : Hs) : ru d 143 24 [l0, l1, l2, l3, l4] [.int y, .int x] σ = ru d 143 25 [l0, l1, l2, l3, l4] [.int (x + y)] σ := q_iadd t143_24
theorem t143_25 : decode (mb 143) 25 = .ok (.bipush 60, 2) := by decide +kernel
theorem s143_25 (d : Nat) (l0 : Value) (l1 : Value) (l2 : Value) (l3 : Value) (l4 : Value) (w0 : Value) (σ : Hs) : ru d 143 25 [l0, l1, l2, l3, l4] [w0] σ = ru d 143 27 [l0, l1, l2, l3, l4] [.int 60, w0] σ := q_bipush t143_25 (by decide +kernel)
theorem t143_27 : decode (mb 143) 27 = .ok (.if_icmp .le 10, 3) := by decide +kernel
theorem s143_27 (d : Nat) (l0 : Value) (l1 : Value) (l2 : Value) (l3 : Value) (l4 : Value) (x y : Int32) (σ : Hs) : ru d 143 27 [l0, l1, l2, l3, l4] [.int y, .int x] σ = if x ≤ y then ru d 143 37 [l0, l1, l2, l3, l4] [] σ else ru d 143 30 [l0, l1, l2, l3, l4] [] σ := q_ic_le t143_27 (by decide +kernel)
theorem t143_30 : decode (mb 143) 30 = .ok (.aload_n 0, 1) := by decide +kernel
theorem s143_30 (d : Nat) (a0 : Nat) (l1 : Value) (l2 : Value) (l3 : Value) (l4 : Value) (σ : Hs) : ru d 143 30 [.ref a0, l1, l2, l3, l4] [] σ = ru d 143 31 [.ref a0, l1, l2, l3, l4] [.ref a0] σ := q_aload_n t143_30 rfl
theorem t143_31 : decode (mb 143) 31 = .ok (.ldc 108, 2) := by decide +kernel
theorem s143_31 (d : Nat) (l0 : Value) (l1 : Value) (l2 : Value) (l3 : Value) (l4 : Value) (w0 : Value) (σ : Hs) : ru d 143 31 [l0, l1, l2, l3, l4] [w0] σ = ru d 143 33 [l0, l1, l2, l3, l4] [.int (-1000004), w0] σ := q_ldc t143_31 mo143 C8_108
theorem t143_33 : decode (mb 143) 33 = .ok (.invokevirtual 105, 3) := by decide +kernel
theorem s143_33_o87 (d : Nat) (l0 : Value) (l1 : Value) (l2 : Value) (l3 : Value) (l4 : Value) (v1 : Value) (σ : Hs) : ru d 143 33 [l0, l1, l2, l3, l4] [v1, .ref 87] σ = kont (callD d 111 [.ref 87, v1] σ) d 143 36 [l0, l1, l2, l3, l4] [] := q_invv t143_33 mo143 K8_105 mj111 rfl rfl rfl rfl (Nat.le_of_ble_eq_true rfl)
theorem t143_36 : decode (mb 143) 36 = .ok (.ireturn, 1) := by decide +kernel
theorem s143_36 (d : Nat) (l0 : Value) (l1 : Value) (l2 : Value) (l3 : Value) (l4 : Value) (x : Int32) (σ : Hs) : ru d 143 36 [l0, l1, l2, l3, l4] [.int x] σ = some (some (.int x), σ) := q_ireti t143_36 mr143
theorem t143_37 : decode (mb 143) 37 = .ok (.iconst 0, 1) := by decide +kernel
theorem s143_37 (d : Nat) (l0 : Value) (l1 : Value) (l2 : Value) (l3 : Value) (l4 : Value) (σ : Hs) : ru d 143 37 [l0, l1, l2, l3, l4] [] σ = ru d 143 38 [l0, l1, l2, l3, l4] [.int 0] σ := q_iconst t143_37 (by decide +kernel)
theorem t143_38 : decode (mb 143) 38 = .ok (.istore 4, 2) := by decide +kernel
theorem s143_38 (d : Nat) (l0 : Value) (l1 : Value) (l2 : Value) (i3 : Int32) (l4 : Value) (x : Int32) (σ : Hs) : ru d 143 38 [l0, l1, l2, .int i3, l4] [.int x] σ = ru d 143 40 [l0, l1, l2, .int i3, .int x] [] σ := q_istore t143_38 ⟨Nat.le_of_ble_eq_true rfl, rfl⟩ rfl
theorem t143_40 : decode (mb 143) 40 = .ok (.iload 4, 2) := by decide +kernel
theorem s143_40 (d : Nat) (l0 : Value) (l1 : Value) (l2 : Value) (l3 : Value) (i4 : Int32) (σ : Hs) : ru d 143 40 [l0, l1, l2, l3, .int i4] [] σ = ru d 143 42 [l0, l1, l2, l3, .int i4] [.int i4] σ := q_iload t143_40 rfl
theorem t143_42 : decode (mb 143) 42 = .ok (.iload_n 3, 1) := by decide +kernel
theorem s143_42 (d : Nat) (l0 : Value) (l1 : Value) (l2 : Value) (i3 : Int32) (l4 : Value) (w0 : Value) (σ : Hs) : ru d 143 42 [l0, l1, l2, .int i3, l4] [w0] σ = ru d 143 43 [l0, l1, l2, .int i3, l4] [.int i3, w0] σ := q_iload_n t143_42 rfl
theorem t143_43 : decode (mb 143) 43 = .ok (.if_icmp .ge 46, 3) := by decide +kernel
theorem s143_43 (d : Nat) (l0 : Value) (l1 : Value) (l2 : Value) (l3 : Value) (l4 : Value) (x y : Int32) (σ : Hs) : ru d 143 43 [l0, l1, l2, l3, l4] [.int y, .int x] σ = if y ≤ x then ru d 143 89 [l0, l1, l2, l3, l4] [] σ else ru d 143 46 [l0, l1, l2, l3, l4] [] σ := q_ic_ge t143_43 (by decide +kernel)
theorem t143_46 : decode (mb 143) 46 = .ok (.aload_n 0, 1) := by decide +kernel
theorem s143_46 (d : Nat) (a0 : Nat) (l1 : Value) (l2 : Value) (l3 : Value) (l4 : Value) (σ : Hs) : ru d 143 46 [.ref a0, l1, l2, l3, l4] [] σ = ru d 143 47 [.ref a0, l1, l2, l3, l4] [.ref a0] σ := q_aload_n t143_46 rfl
theorem t143_47 : decode (mb 143) 47 = .ok (.getfield 9, 3) := by decide +kernel
theorem s143_47_o87 (d : Nat) (l0 : Value) (l1 : Value) (l2 : Value) (l3 : Value) (l4 : Value) (σ : Hs) : ru d 143 47 [l0, l1, l2, l3, l4] [.ref 87] σ = ru d 143 50 [l0, l1, l2, l3, l4] [.ref 88] σ := q_getf t143_47 mo143 F8_9 rfl rfl
theorem t143_50 : decode (mb 143) 50 = .ok (.sipush 275, 3) := by decide +kernel
theorem s143_50 (d : Nat) (l0 : Value) (l1 : Value) (l2 : Value) (l3 : Value) (l4 : Value) (w0 : Value) (σ : Hs) : ru d 143 50 [l0, l1, l2, l3, l4] [w0] σ = ru d 143 53 [l0, l1, l2, l3, l4] [.int 275, w0] σ := q_sipush t143_50 (by decide +kernel)
theorem t143_53 : decode (mb 143) 53 = .ok (.aload_n 0, 1) := by decide +kernel
theorem s143_53 (d : Nat) (a0 : Nat) (l1 : Value) (l2 : Value) (l3 : Value) (l4 : Value) (w0 w1 : Value) (σ : Hs) : ru d 143 53 [.ref a0, l1, l2, l3, l4] [w0, w1] σ = ru d 143 54 [.ref a0, l1, l2, l3, l4] [.ref a0, w0, w1] σ := q_aload_n t143_53 rfl
theorem t143_54 : decode (mb 143) 54 = .ok (.getfield 9, 3) := by decide +kernel
theorem s143_54_o87 (d : Nat) (l0 : Value) (l1 : Value) (l2 : Value) (l3 : Value) (l4 : Value) (w0 w1 : Value) (σ : Hs) : ru d 143 54 [l0, l1, l2, l3, l4] [.ref 87, w0, w1] σ = ru d 143 57 [l0, l1, l2, l3, l4] [.ref 88, w0, w1] σ := q_getf t143_54 mo143 F8_9 rfl rfl
theorem t143_57 : decode (mb 143) 57 = .ok (.iconst 1, 1) := by decide +kernel
theorem s143_57 (d : Nat) (l0 : Value) (l1 : Value) (l2 : Value) (l3 : Value) (l4 : Value) (w0 w1 w2 : Value) (σ : Hs) : ru d 143 57 [l0, l1, l2, l3, l4] [w0, w1, w2] σ = ru d 143 58 [l0, l1, l2, l3, l4] [.int 1, w0, w1, w2] σ := q_iconst t143_57 (by decide +kernel)
theorem t143_58 : decode (mb 143) 58 = .ok (.iaload, 1) := by decide +kernel
theorem s143_58_o88 (d : Nat) (l0 : Value) (l1 : Value) (l2 : Value) (l3 : Value) (l4 : Value) (i : Int32) (w0 w1 : Value) (σ : Hs) : ru d 143 58 [l0, l1, l2, l3, l4] [.int i, .ref 88, w0, w1] σ = gd (vp_in i 545) (ru d 143 59 [l0, l1, l2, l3, l4] [.int (σ 88 i.toNatClampNeg), w0, w1] σ) := q_iald t143_58 rfl (by decide +kernel) rfl
theorem t143_59 : decode (mb 143) 59 = .ok (.iadd, 1) := by decide +kernel
theorem s143_59 (d : Nat) (l0 : Value) (l1 : Value) (l2 : Value) (l3 : Value) (l4 : Value) (x y : Int32) (w0 : Value) (σ : Hs) : ru d 143 59 [l0, l1, l2, l3, l4] [.int y, .int x, w0] σ = ru d 143 60 [l0, l1, l2, l3, l4] [.int (x + y), w0] σ := q_iadd t143_59
theorem t143_60 : decode (mb 143) 60 = .ok (.lload_n 1, 1) := by decide +kernel
theorem s143_60 (d : Nat) (l0 : Value) (j1 : Int64) (l2 : Value) (l3 : Value) (l4 : Value) (w0 w1 : Value) (σ : Hs) : ru d 143 60 [l0, .long j1, l2, l3, l4] [w0, w1] σ = ru d 143 61 [l0, .long j1, l2, l3, l4] [.long j1, w0, w1] σ := q_lload_n t143_60 rfl
theorem t143_61 : decode (mb 143) 61 = .ok (.bipush 8, 2) := by decide +kernel
theorem s143_61 (d : Nat) (l0 : Value) (l1 : Value) (l2 : Value) (l3 : Value) (l4 : Value) (w0 w1 w2 : Value) (σ : Hs) : ru d 143 61 [l0, l1, l2, l3, l4] [w0, w1, w2] σ = ru d 143 63 [l0, l1, l2, l3, l4] [.int 8, w0, w1, w2] σ := q_bipush t143_61 (by decide +kernel)
theorem t143_63 : decode (mb 143) 63 = .ok (.iload 4, 2) := by decide +kernel
theorem s143_63 (d : Nat) (l0 : Value) (l1 : Value) (l2 : Value) (l3 : Value) (i4 : Int32) (w0 w1 w2 w3 : Value) (σ : Hs) : ru d 143 63 [l0, l1, l2, l3, .int i4] [w0, w1, w2, w3] σ = ru d 143 65 [l0, l1, l2, l3, .int i4] [.int i4, w0, w1, w2, w3] σ := q_iload t143_63 rfl
theorem t143_65 : decode (mb 143) 65 = .ok (.imul, 1) := by decide +kernel
theorem s143_65 (d : Nat) (l0 : Value) (l1 : Value) (l2 : Value) (l3 : Value) (l4 : Value) (x y : Int32) (w0 w1 w2 : Value) (σ : Hs) : ru d 143 65 [l0, l1, l2, l3, l4] [.int y, .int x, w0, w1, w2] σ = ru d 143 66 [l0, l1, l2, l3, l4] [.int (x * y), w0, w1, w2] σ := q_imul t143_65
theorem t143_66 : decode (mb 143) 66 = .ok (.lshr, 1) := by decide +kernel
theorem s143_66 (d : Nat) (l0 : Value) (l1 : Value) (l2 : Value) (l3 : Value) (l4 : Value) (x : Int64) (y : Int32) (w0 w1 : Value) (σ : Hs) : ru d 143 66 [l0, l1, l2, l3, l4] [.int y, .long x, w0, w1] σ = ru d 143 67 [l0, l1, l2, l3, l4] [.long (x >>> (y.toInt64 &&& 63)), w0, w1] σ := q_lshr t143_66
theorem t143_67 : decode (mb 143) 67 = .ok (.ldc2_w 157, 3) := by decide +kernel
theorem s143_67 (d : Nat) (l0 : Value) (l1 : Value) (l2 : Value) (l3 : Value) (l4 : Value) (w0 w1 w2 : Value) (σ : Hs) : ru d 143 67 [l0, l1, l2, l3, l4] [w0, w1, w2] σ = ru d 143 70 [l0, l1, l2, l3, l4] [.long 255, w0, w1, w2] σ := q_ldc2 t143_67 mo143 L8_157
theorem t143_70 : decode (mb 143) 70 = .ok (.land, 1) := by decide +kernel
theorem s143_70 (d : Nat) (l0 : Value) (l1 : Value) (l2 : Value) (l3 : Value) (l4 : Value) (x y : Int64) (w0 w1 : Value) (σ : Hs) : ru d 143 70 [l0, l1, l2, l3, l4] [.long y, .long x, w0, w1] σ = ru d 143 71 [l0, l1, l2, l3, l4] [.long (x &&& y), w0, w1] σ := q_land t143_70
theorem t143_71 : decode (mb 143) 71 = .ok (.l2i, 1) := by decide +kernel
theorem s143_71 (d : Nat) (l0 : Value) (l1 : Value) (l2 : Value) (l3 : Value) (l4 : Value) (x : Int64) (w0 w1 : Value) (σ : Hs) : ru d 143 71 [l0, l1, l2, l3, l4] [.long x, w0, w1] σ = ru d 143 72 [l0, l1, l2, l3, l4] [.int x.toInt32, w0, w1] σ := q_l2i t143_71
theorem t143_72 : decode (mb 143) 72 = .ok (.iastore, 1) := by decide +kernel
theorem s143_72_o88 (d : Nat) (l0 : Value) (l1 : Value) (l2 : Value) (l3 : Value) (l4 : Value) (i x : Int32) (σ : Hs) : ru d 143 72 [l0, l1, l2, l3, l4] [.int x, .int i, .ref 88] σ = gd (vp_in i 545) (ru d 143 73 [l0, l1, l2, l3, l4] [] (up2 σ 88 i.toNatClampNeg x)) := q_iast t143_72 (by decide +kernel) rfl rfl
theorem t143_73 : decode (mb 143) 73 = .ok (.aload_n 0, 1) := by decide +kernel
theorem s143_73 (d : Nat) (a0 : Nat) (l1 : Value) (l2 : Value) (l3 : Value) (l4 : Value) (σ : Hs) : ru d 143 73 [.ref a0, l1, l2, l3, l4] [] σ = ru d 143 74 [.ref a0, l1, l2, l3, l4] [.ref a0] σ := q_aload_n t143_73 rfl
theorem t143_74 : decode (mb 143) 74 = .ok (.getfield 9, 3) := by decide +kernel
theorem s143_74_o87 (d : Nat) (l0 : Value) (l1 : Value) (l2 : Value) (l3 : Value) (l4 : Value) (σ : Hs) : ru d 143 74 [l0, l1, l2, l3, l4] [.ref 87] σ = ru d 143 77 [l0, l1, l2, l3, l4] [.ref 88] σ := q_getf t143_74 mo143 F8_9 rfl rfl
theorem t143_77 : decode (mb 143) 77 = .ok (.iconst 1, 1) := by decide +kernel
theorem s143_77 (d : Nat) (l0 : Value) (l1 : Value) (l2 : Value) (l3 : Value) (l4 : Value) (w0 : Value) (σ : Hs) : ru d 143 77 [l0, l1, l2, l3, l4] [w0] σ = ru d 143 78 [l0, l1, l2, l3, l4] [.int 1, w0] σ := q_iconst t143_77 (by decide +kernel)
theorem t143_78 : decode (mb 143) 78 = .ok (.dup2, 1) := by decide +kernel
theorem s143_78 (d : Nat) (l0 : Value) (l1 : Value) (l2 : Value) (l3 : Value) (l4 : Value) (x0 : Int32) (x1 : Nat) (σ : Hs) : ru d 143 78 [l0, l1, l2, l3, l4] [.int x0, .ref x1] σ = ru d 143 79 [l0, l1, l2, l3, l4] [.int x0, .ref x1, .int x0, .ref x1] σ := q_dup2 t143_78 rfl rfl
theorem t143_79 : decode (mb 143) 79 = .ok (.iaload, 1) := by decide +kernel
theorem s143_79_o88 (d : Nat) (l0 : Value) (l1 : Value) (l2 : Value) (l3 : Value) (l4 : Value) (i : Int32) (w0 w1 : Value) (σ : Hs) : ru d 143 79 [l0, l1, l2, l3, l4] [.int i, .ref 88, w0, w1] σ = gd (vp_in i 545) (ru d 143 80 [l0, l1, l2, l3, l4] [.int (σ 88 i.toNatClampNeg), w0, w1] σ) := q_iald t143_79 rfl (by decide +kernel) rfl
theorem t143_80 : decode (mb 143) 80 = .ok (.iconst 1, 1) := by decide +kernel
theorem s143_80 (d : Nat) (l0 : Value) (l1 : Value) (l2 : Value) (l3 : Value) (l4 : Value) (w0 w1 w2 : Value) (σ : Hs) : ru d 143 80 [l0, l1, l2, l3, l4] [w0, w1, w2] σ = ru d 143 81 [l0, l1, l2, l3, l4] [.int 1, w0, w1, w2] σ := q_iconst t143_80 (by decide +kernel)
theorem t143_81 : decode (mb 143) 81 = .ok (.iadd, 1) := by decide +kernel
theorem s143_81 (d : Nat) (l0 : Value) (l1 : Value) (l2 : Value) (l3 : Value) (l4 : Value) (x y : Int32) (w0 w1 : Value) (σ : Hs) : ru d 143 81 [l0, l1, l2, l3, l4] [.int y, .int x, w0, w1] σ = ru d 143 82 [l0, l1, l2, l3, l4] [.int (x + y), w0, w1] σ := q_iadd t143_81
theorem t143_82 : decode (mb 143) 82 = .ok (.iastore, 1) := by decide +kernel
theorem s143_82_o88 (d : Nat) (l0 : Value) (l1 : Value) (l2 : Value) (l3 : Value) (l4 : Value) (i x : Int32) (σ : Hs) : ru d 143 82 [l0, l1, l2, l3, l4] [.int x, .int i, .ref 88] σ = gd (vp_in i 545) (ru d 143 83 [l0, l1, l2, l3, l4] [] (up2 σ 88 i.toNatClampNeg x)) := q_iast t143_82 (by decide +kernel) rfl rfl
theorem t143_83 : decode (mb 143) 83 = .ok (.iinc 4 1, 3) := by decide +kernel
theorem s143_83 (d : Nat) (l0 : Value) (l1 : Value) (l2 : Value) (i3 : Int32) (i4 : Int32) (σ : Hs) : ru d 143 83 [l0, l1, l2, .int i3, .int i4] [] σ = ru d 143 86 [l0, l1, l2, .int i3, .int (i4 + 1)] [] σ := q_iinc t143_83 ⟨Nat.le_of_ble_eq_true rfl, rfl⟩ rfl (by decide +kernel) rfl
theorem t143_86 : decode (mb 143) 86 = .ok (.goto (-46), 3) := by decide +kernel
theorem s143_86 (d : Nat) (l0 : Value) (l1 : Value) (l2 : Value) (l3 : Value) (l4 : Value) (σ : Hs) : ru d 143 86 [l0, l1, l2, l3, l4] [] σ = ru d 143 40 [l0, l1, l2, l3, l4] [] σ := q_goto t143_86 (by decide +kernel)
theorem t143_89 : decode (mb 143) 89 = .ok (.aload_n 0, 1) := by decide +kernel
theorem s143_89 (d : Nat) (a0 : Nat) (l1 : Value) (l2 : Value) (l3 : Value) (l4 : Value) (σ : Hs) : ru d 143 89 [.ref a0, l1, l2, l3, l4] [] σ = ru d 143 90 [.ref a0, l1, l2, l3, l4] [.ref a0] σ := q_aload_n t143_89 rfl
theorem t143_90 : decode (mb 143) 90 = .ok (.getfield 9, 3) := by decide +kernel
theorem s143_90_o87 (d : Nat) (l0 : Value) (l1 : Value) (l2 : Value) (l3 : Value) (l4 : Value) (σ : Hs) : ru d 143 90 [l0, l1, l2, l3, l4] [.ref 87] σ = ru d 143 93 [l0, l1, l2, l3, l4] [.ref 88] σ := q_getf t143_90 mo143 F8_9 rfl rfl
theorem t143_93 : decode (mb 143) 93 = .ok (.iconst 1, 1) := by decide +kernel
theorem s143_93 (d : Nat) (l0 : Value) (l1 : Value) (l2 : Value) (l3 : Value) (l4 : Value) (w0 : Value) (σ : Hs) : ru d 143 93 [l0, l1, l2, l3, l4] [w0] σ = ru d 143 94 [l0, l1, l2, l3, l4] [.int 1, w0] σ := q_iconst t143_93 (by decide +kernel)
theorem t143_94 : decode (mb 143) 94 = .ok (.iaload, 1) := by decide +kernel
theorem s143_94_o88 (d : Nat) (l0 : Value) (l1 : Value) (l2 : Value) (l3 : Value) (l4 : Value) (i : Int32) (σ : Hs) : ru d 143 94 [l0, l1, l2, l3, l4] [.int i, .ref 88] σ = gd (vp_in i 545) (ru d 143 95 [l0, l1, l2, l3, l4] [.int (σ 88 i.toNatClampNeg)] σ) := q_iald t143_94 rfl (by decide +kernel) rfl
theorem t143_95 : decode (mb 143) 95 = .ok (.ireturn, 1) := by decide +kernel
theorem s143_95 (d : Nat) (l0 : Value) (l1 : Value) (l2 : Value) (l3 : Value) (l4 : Value) (x : Int32) (σ : Hs) : ru d 143 95 [l0, l1, l2, l3, l4] [.int x] σ = some (some (.int x), σ) := q_ireti t143_95 mr143
theorem c143 (d : Nat) (x0 : Nat) (x1 : Int64) (x2 : Int32) (σ : Hs) : callD (d + 1) 143 [.ref x0, .long x1, .int x2] σ = ru d 143 0 [.ref x0, .long x1, uu, .int x2, uu] [] σ := callD_ru ml143 rfl rfl (Nat.le_of_ble_eq_true rfl)
-- 144: Model.here()I
theorem t144_0 : decode (mb 144) 0 = .ok (.aload_n 0, 1) := by decide +kernel
theorem s144_0 (d : Nat) (a0 : Nat) (σ : Hs) : ru d 144 0 [.ref a0] [] σ = ru d 144 1 [.ref a0] [.ref a0] σ := q_aload_n t144_0 rfl
theorem t144_1 : decode (mb 144) 1 = .ok (.getfield 159, 3) := by decide +kernel
theorem s144_1_o87 (d : Nat) (l0 : Value) (σ : Hs) : ru d 144 1 [l0] [.ref 87] σ = ru d 144 4 [l0] [.int (σ 87 12)] σ := q_getf t144_1 mo144 F8_159 rfl rfl
theorem t144_4 : decode (mb 144) 4 = .ok (.ifCond .ne 32, 3) := by decide +kernel
theorem s144_4 (d : Nat) (l0 : Value) (x : Int32) (σ : Hs) : ru d 144 4 [l0] [.int x] σ = if x = 0 then ru d 144 7 [l0] [] σ else ru d 144 36 [l0] [] σ := q_if_ne t144_4 (by decide +kernel)
theorem t144_7 : decode (mb 144) 7 = .ok (.aload_n 0, 1) := by decide +kernel
theorem s144_7 (d : Nat) (a0 : Nat) (σ : Hs) : ru d 144 7 [.ref a0] [] σ = ru d 144 8 [.ref a0] [.ref a0] σ := q_aload_n t144_7 rfl
theorem t144_8 : decode (mb 144) 8 = .ok (.getfield 163, 3) := by decide +kernel
theorem s144_8_o87 (d : Nat) (l0 : Value) (σ : Hs) : ru d 144 8 [l0] [.ref 87] σ = ru d 144 11 [l0] [.int (σ 87 9)] σ := q_getf t144_8 mo144 F8_163 rfl rfl
theorem t144_11 : decode (mb 144) 11 = .ok (.aload_n 0, 1) := by decide +kernel
theorem s144_11 (d : Nat) (a0 : Nat) (w0 : Value) (σ : Hs) : ru d 144 11 [.ref a0] [w0] σ = ru d 144 12 [.ref a0] [.ref a0, w0] σ := q_aload_n t144_11 rfl
theorem t144_12 : decode (mb 144) 12 = .ok (.getfield 9, 3) := by decide +kernel
theorem s144_12_o87 (d : Nat) (l0 : Value) (w0 : Value) (σ : Hs) : ru d 144 12 [l0] [.ref 87, w0] σ = ru d 144 15 [l0] [.ref 88, w0] σ := q_getf t144_12 mo144 F8_9 rfl rfl
theorem t144_15 : decode (mb 144) 15 = .ok (.iconst 1, 1) := by decide +kernel
theorem s144_15 (d : Nat) (l0 : Value) (w0 w1 : Value) (σ : Hs) : ru d 144 15 [l0] [w0, w1] σ = ru d 144 16 [l0] [.int 1, w0, w1] σ := q_iconst t144_15 (by decide +kernel)
theorem t144_16 : decode (mb 144) 16 = .ok (.iaload, 1) := by decide +kernel
theorem s144_16_o88 (d : Nat) (l0 : Value) (i : Int32) (w0 : Value) (σ : Hs) : ru d 144 16 [l0] [.int i, .ref 88, w0] σ = gd (vp_in i 545) (ru d 144 17 [l0] [.int (σ 88 i.toNatClampNeg), w0] σ) := q_iald t144_16 rfl (by decide +kernel) rfl
theorem t144_17 : decode (mb 144) 17 = .ok (.if_icmp .ge 19, 3) := by decide +kernel
theorem s144_17 (d : Nat) (l0 : Value) (x y : Int32) (σ : Hs) : ru d 144 17 [l0] [.int y, .int x] σ = if y ≤ x then ru d 144 36 [l0] [] σ else ru d 144 20 [l0] [] σ := q_ic_ge t144_17 (by decide +kernel)
theorem t144_20 : decode (mb 144) 20 = .ok (.aload_n 0, 1) := by decide +kernel
theorem s144_20 (d : Nat) (a0 : Nat) (σ : Hs) : ru d 144 20 [.ref a0] [] σ = ru d 144 21 [.ref a0] [.ref a0] σ := q_aload_n t144_20 rfl
theorem t144_21 : decode (mb 144) 21 = .ok (.getfield 9, 3) := by decide +kernel
theorem s144_21_o87 (d : Nat) (l0 : Value) (σ : Hs) : ru d 144 21 [l0] [.ref 87] σ = ru d 144 24 [l0] [.ref 88] σ := q_getf t144_21 mo144 F8_9 rfl rfl
theorem t144_24 : decode (mb 144) 24 = .ok (.sipush 275, 3) := by decide +kernel
theorem s144_24 (d : Nat) (l0 : Value) (w0 : Value) (σ : Hs) : ru d 144 24 [l0] [w0] σ = ru d 144 27 [l0] [.int 275, w0] σ := q_sipush t144_24 (by decide +kernel)
theorem t144_27 : decode (mb 144) 27 = .ok (.aload_n 0, 1) := by decide +kernel
theorem s144_27 (d : Nat) (a0 : Nat) (w0 w1 : Value) (σ : Hs) : ru d 144 27 [.ref a0] [w0, w1] σ = ru d 144 28 [.ref a0] [.ref a0, w0, w1] σ := q_aload_n t144_27 rfl
theorem t144_28 : decode (mb 144) 28 = .ok (.getfield 163, 3) := by decide +kernel
theorem s144_28_o87 (d : Nat) (l0 : Value) (w0 w1 : Value) (σ : Hs) : ru d 144 28 [l0] [.ref 87, w0, w1] σ = ru d 144 31 [l0] [.int (σ 87 9), w0, w1] σ := q_getf t144_28 mo144 F8_163 rfl rfl
theorem t144_31 : decode (mb 144) 31 = .ok (.iadd, 1) := by decide +kernel
theorem s144_31 (d : Nat) (l0 : Value) (x y : Int32) (w0 : Value) (σ : Hs) : ru d 144 31 [l0] [.int y, .int x, w0] σ = ru d 144 32 [l0] [.int (x + y), w0] σ := q_iadd t144_31
theorem t144_32 : decode (mb 144) 32 = .ok (.iaload, 1) := by decide +kernel
theorem s144_32_o88 (d : Nat) (l0 : Value) (i : Int32) (σ : Hs) : ru d 144 32 [l0] [.int i, .ref 88] σ = gd (vp_in i 545) (ru d 144 33 [l0] [.int (σ 88 i.toNatClampNeg)] σ) := q_iald t144_32 rfl (by decide +kernel) rfl
theorem t144_33 : decode (mb 144) 33 = .ok (.goto 4, 3) := by decide +kernel
theorem s144_33 (d : Nat) (l0 : Value) (w0 : Value) (σ : Hs) : ru d 144 33 [l0] [w0] σ = ru d 144 37 [l0] [w0] σ := q_goto t144_33 (by decide +kernel)
theorem t144_36 : decode (mb 144) 36 = .ok (.iconst (-1), 1) := by decide +kernel
theorem s144_36 (d : Nat) (l0 : Value) (σ : Hs) : ru d 144 36 [l0] [] σ = ru d 144 37 [l0] [.int (-1)] σ := q_iconst t144_36 (by decide +kernel)
theorem t144_37 : decode (mb 144) 37 = .ok (.ireturn, 1) := by decide +kernel
theorem s144_37 (d : Nat) (l0 : Value) (x : Int32) (σ : Hs) : ru d 144 37 [l0] [.int x] σ = some (some (.int x), σ) := q_ireti t144_37 mr144
theorem c144 (d : Nat) (x0 : Nat) (σ : Hs) : callD (d + 1) 144 [.ref x0] σ = ru d 144 0 [.ref x0] [] σ := callD_ru ml144 rfl rfl (Nat.le_of_ble_eq_true rfl)
-- 145: Model.takes(I)Z
theorem t145_0 : decode (mb 145) 0 = .ok (.aload_n 0, 1) := by decide +kernel
theorem s145_0 (d : Nat) (a0 : Nat) (l1 : Value) (l2 : Value) (σ : Hs) : ru d 145 0 [.ref a0, l1, l2] [] σ = ru d 145 1 [.ref a0, l1, l2] [.ref a0] σ := q_aload_n t145_0 rfl
theorem t145_1 : decode (mb 145) 1 = .ok (.invokevirtual 167, 3) := by decide +kernel
theorem s145_1_o87 (d : Nat) (l0 : Value) (l1 : Value) (l2 : Value) (σ : Hs) : ru d 145 1 [l0, l1, l2] [.ref 87] σ = kont (callD d 144 [.ref 87] σ) d 145 4 [l0, l1, l2] [] := q_invv t145_1 mo145 K8_167 mj144 rfl rfl rfl rfl (Nat.le_of_ble_eq_true rfl)
theorem t145_4 : decode (mb 145) 4 = .ok (.iload_n 1, 1) := by decide +kernel
theorem s145_4 (d : Nat) (l0 : Value) (i1 : Int32) (l2 : Value) (w0 : Value) (σ : Hs) : ru d 145 4 [l0, .int i1, l2] [w0] σ = ru d 145 5 [l0, .int i1, l2] [.int i1, w0] σ := q_iload_n t145_4 rfl
theorem t145_5 : decode (mb 145) 5 = .ok (.if_icmp .ne 7, 3) := by decide +kernel
theorem s145_5 (d : Nat) (l0 : Value) (l1 : Value) (l2 : Value) (x y : Int32) (σ : Hs) : ru d 145 5 [l0, l1, l2] [.int y, .int x] σ = if x = y then ru d 145 8 [l0, l1, l2] [] σ else ru d 145 12 [l0, l1, l2] [] σ := q_ic_ne t145_5 (by decide +kernel)
theorem t145_8 : decode (mb 145) 8 = .ok (.iconst 1, 1) := by decide +kernel
theorem s145_8 (d : Nat) (l0 : Value) (l1 : Value) (l2 : Value) (σ : Hs) : ru d 145 8 [l0, l1, l2] [] σ = ru d 145 9 [l0, l1, l2] [.int 1] σ := q_iconst t145_8 (by decide +kernel)
theorem t145_9 : decode (mb 145) 9 = .ok (.goto 4, 3) := by decide +kernel
theorem s145_9 (d : Nat) (l0 : Value) (l1 : Value) (l2 : Value) (w0 : Value) (σ : Hs) : ru d 145 9 [l0, l1, l2] [w0] σ = ru d 145 13 [l0, l1, l2] [w0] σ := q_goto t145_9 (by decide +kernel)
theorem t145_12 : decode (mb 145) 12 = .ok (.iconst 0, 1) := by decide +kernel
theorem s145_12 (d : Nat) (l0 : Value) (l1 : Value) (l2 : Value) (σ : Hs) : ru d 145 12 [l0, l1, l2] [] σ = ru d 145 13 [l0, l1, l2] [.int 0] σ := q_iconst t145_12 (by decide +kernel)
theorem t145_13 : decode (mb 145) 13 = .ok (.istore_n 2, 1) := by decide +kernel
theorem s145_13 (d : Nat) (l0 : Value) (i1 : Int32) (l2 : Value) (x : Int32) (σ : Hs) : ru d 145 13 [l0, .int i1, l2] [.int x] σ = ru d 145 14 [l0, .int i1, .int x] [] σ := q_istore_n t145_13 ⟨Nat.le_of_ble_eq_true rfl, rfl⟩ rfl
theorem t145_14 : decode (mb 145) 14 = .ok (.aload_n 0, 1) := by decide +kernel
theorem s145_14 (d : Nat) (a0 : Nat) (l1 : Value) (l2 : Value) (σ : Hs) : ru d 145 14 [.ref a0, l1, l2] [] σ = ru d 145 15 [.ref a0, l1, l2] [.ref a0] σ := q_aload_n t145_14 rfl
theorem t145_15 : decode (mb 145) 15 = .ok (.dup, 1) := by decide +kernel
theorem s145_15 (d : Nat) (l0 : Value) (l1 : Value) (l2 : Value) (x : Nat) (σ : Hs) : ru d 145 15 [l0, l1, l2] [.ref x] σ = ru d 145 16 [l0, l1, l2] [.ref x, .ref x] σ := q_dup t145_15 rfl
theorem t145_16 : decode (mb 145) 16 = .ok (.getfield 163, 3) := by decide +kernel
theorem s145_16_o87 (d : Nat) (l0 : Value) (l1 : Value) (l2 : Value) (w0 : Value) (σ : Hs) : ru d 145 16 [l0, l1, l2] [.ref 87, w0] σ = ru d 145 19 [l0, l1, l2] [.int (σ 87 9), w0] σ := q_getf t145_16 mo145 F8_163 rfl rfl
theorem t145_19 : decode (mb 145) 19 = .ok (.iload_n 2, 1) := by decide +kernel
theorem s145_19 (d : Nat) (l0 : Value) (l1 : Value) (i2 : Int32) (w0 w1 : Value) (σ : Hs) : ru d 145 19 [l0, l1, .int i2] [w0, w1] σ = ru d 145 20 [l0, l1, .int i2] [.int i2, w0, w1] σ := q_iload_n t145_19 rfl
theorem t145_20 : decode (mb 145) 20 = .ok (.ifCond .eq 7, 3) := by decide +kernel
theorem s145_20 (d : Nat) (l0 : Value) (l1 : Value) (l2 : Value) (x : Int32) (w0 w1 : Value) (σ : Hs) : ru d 145 20 [l0, l1, l2] [.int x, w0, w1] σ = if x = 0 then ru d 145 27 [l0, l1, l2] [w0, w1] σ else ru d 145 23 [l0, l1, l2] [w0, w1] σ := q_if_eq t145_20 (by decide +kernel)
theorem t145_23 : decode (mb 145) 23 = .ok (.iconst 1, 1) := by decide +kernel
theorem s145_23 (d : Nat) (l0 : Value) (l1 : Value) (l2 : Value) (w0 w1 : Value) (σ : Hs) : ru d 145 23 [l0, l1, l2] [w0, w1] σ = ru d 145 24 [l0, l1, l2] [.int 1, w0, w1] σ := q_iconst t145_23 (by decide +kernel)
theorem t145_24 : decode (mb 145) 24 = .ok (.goto 4, 3) := by decide +kernel
theorem s145_24 (d : Nat) (l0 : Value) (l1 : Value) (l2 : Value) (w0 w1 w2 : Value) (σ : Hs) : ru d 145 24 [l0, l1, l2] [w0, w1, w2] σ = ru d 145 28 [l0, l1, l2] [w0, w1, w2] σ := q_goto t145_24 (by decide +kernel)
theorem t145_27 : decode (mb 145) 27 = .ok (.iconst 0, 1) := by decide +kernel
theorem s145_27 (d : Nat) (l0 : Value) (l1 : Value) (l2 : Value) (w0 w1 : Value) (σ : Hs) : ru d 145 27 [l0, l1, l2] [w0, w1] σ = ru d 145 28 [l0, l1, l2] [.int 0, w0, w1] σ := q_iconst t145_27 (by decide +kernel)
theorem t145_28 : decode (mb 145) 28 = .ok (.iadd, 1) := by decide +kernel
theorem s145_28 (d : Nat) (l0 : Value) (l1 : Value) (l2 : Value) (x y : Int32) (w0 : Value) (σ : Hs) : ru d 145 28 [l0, l1, l2] [.int y, .int x, w0] σ = ru d 145 29 [l0, l1, l2] [.int (x + y), w0] σ := q_iadd t145_28
theorem t145_29 : decode (mb 145) 29 = .ok (.putfield 163, 3) := by decide +kernel
theorem s145_29_o87 (d : Nat) (l0 : Value) (l1 : Value) (l2 : Value) (x : Int32) (σ : Hs) : ru d 145 29 [l0, l1, l2] [.int x, .ref 87] σ = ru d 145 32 [l0, l1, l2] [] (up2 σ 87 9 x) := q_puti t145_29 mo145 F8_163 (by decide +kernel) rfl rfl
theorem t145_32 : decode (mb 145) 32 = .ok (.iload_n 2, 1) := by decide +kernel
theorem s145_32 (d : Nat) (l0 : Value) (l1 : Value) (i2 : Int32) (σ : Hs) : ru d 145 32 [l0, l1, .int i2] [] σ = ru d 145 33 [l0, l1, .int i2] [.int i2] σ := q_iload_n t145_32 rfl
theorem t145_33 : decode (mb 145) 33 = .ok (.ireturn, 1) := by decide +kernel
theorem s145_33 (d : Nat) (l0 : Value) (l1 : Value) (l2 : Value) (x : Int32) (hx : isB x) (σ : Hs) : ru d 145 33 [l0, l1, l2] [.int x] σ = some (some (.int x), σ) := q_iretz t145_33 mr145 hx
theorem c145 (d : Nat) (x0 : Nat) (x1 : Int32) (σ : Hs) : callD (d + 1) 145 [.ref x0, .int x1] σ = ru d 145 0 [.ref x0, .int x1, uu] [] σ := callD_ru ml145 rfl rfl (Nat.le_of_ble_eq_true rfl)
-- 146: Model.codes(I)V
theorem t146_0 : decode (mb 146) 0 = .ok (.aload_n 0, 1) := by decide +kernel
theorem s146_0 (d : Nat) (a0 : Nat) (l1 : Value) (σ : Hs) : ru d 146 0 [.ref a0, l1] [] σ = ru d 146 1 [.ref a0, l1] [.ref a0] σ := q_aload_n t146_0 rfl
theorem t146_1 : decode (mb 146) 1 = .ok (.getfield 159, 3) := by decide +kernel
theorem s146_1_o87 (d : Nat) (l0 : Value) (l1 : Value) (σ : Hs) : ru d 146 1 [l0, l1] [.ref 87] σ = ru d 146 4 [l0, l1] [.int (σ 87 12)] σ := q_getf t146_1 mo146 F8_159 rfl rfl
theorem t146_4 : decode (mb 146) 4 = .ok (.ifCond .ne 23, 3) := by decide +kernel
theorem s146_4 (d : Nat) (l0 : Value) (l1 : Value) (x : Int32) (σ : Hs) : ru d 146 4 [l0, l1] [.int x] σ = if x = 0 then ru d 146 7 [l0, l1] [] σ else ru d 146 27 [l0, l1] [] σ := q_if_ne t146_4 (by decide +kernel)
theorem t146_7 : decode (mb 146) 7 = .ok (.aload_n 0, 1) := by decide +kernel
theorem s146_7 (d : Nat) (a0 : Nat) (l1 : Value) (σ : Hs) : ru d 146 7 [.ref a0, l1] [] σ = ru d 146 8 [.ref a0, l1] [.ref a0] σ := q_aload_n t146_7 rfl
theorem t146_8 : decode (mb 146) 8 = .ok (.getfield 43, 3) := by decide +kernel
theorem s146_8_o87 (d : Nat) (l0 : Value) (l1 : Value) (σ : Hs) : ru d 146 8 [l0, l1] [.ref 87] σ = ru d 146 11 [l0, l1] [.ref 96] σ := q_getf t146_8 mo146 F8_43 rfl rfl
theorem t146_11 : decode (mb 146) 11 = .ok (.aload_n 0, 1) := by decide +kernel
theorem s146_11 (d : Nat) (a0 : Nat) (l1 : Value) (w0 : Value) (σ : Hs) : ru d 146 11 [.ref a0, l1] [w0] σ = ru d 146 12 [.ref a0, l1] [.ref a0, w0] σ := q_aload_n t146_11 rfl
theorem t146_12 : decode (mb 146) 12 = .ok (.getfield 171, 3) := by decide +kernel
theorem s146_12_o87 (d : Nat) (l0 : Value) (l1 : Value) (w0 : Value) (σ : Hs) : ru d 146 12 [l0, l1] [.ref 87, w0] σ = ru d 146 15 [l0, l1] [.int (σ 87 14), w0] σ := q_getf t146_12 mo146 F8_171 rfl rfl
theorem t146_15 : decode (mb 146) 15 = .ok (.iload_n 1, 1) := by decide +kernel
theorem s146_15 (d : Nat) (l0 : Value) (i1 : Int32) (w0 w1 : Value) (σ : Hs) : ru d 146 15 [l0, .int i1] [w0, w1] σ = ru d 146 16 [l0, .int i1] [.int i1, w0, w1] σ := q_iload_n t146_15 rfl
theorem t146_16 : decode (mb 146) 16 = .ok (.iastore, 1) := by decide +kernel
theorem s146_16_o96 (d : Nat) (l0 : Value) (l1 : Value) (i x : Int32) (σ : Hs) : ru d 146 16 [l0, l1] [.int x, .int i, .ref 96] σ = gd (vp_in i 60) (ru d 146 17 [l0, l1] [] (up2 σ 96 i.toNatClampNeg x)) := q_iast t146_16 (by decide +kernel) rfl rfl
theorem t146_17 : decode (mb 146) 17 = .ok (.aload_n 0, 1) := by decide +kernel
theorem s146_17 (d : Nat) (a0 : Nat) (l1 : Value) (σ : Hs) : ru d 146 17 [.ref a0, l1] [] σ = ru d 146 18 [.ref a0, l1] [.ref a0] σ := q_aload_n t146_17 rfl
theorem t146_18 : decode (mb 146) 18 = .ok (.dup, 1) := by decide +kernel
theorem s146_18 (d : Nat) (l0 : Value) (l1 : Value) (x : Nat) (σ : Hs) : ru d 146 18 [l0, l1] [.ref x] σ = ru d 146 19 [l0, l1] [.ref x, .ref x] σ := q_dup t146_18 rfl
theorem t146_19 : decode (mb 146) 19 = .ok (.getfield 171, 3) := by decide +kernel
theorem s146_19_o87 (d : Nat) (l0 : Value) (l1 : Value) (w0 : Value) (σ : Hs) : ru d 146 19 [l0, l1] [.ref 87, w0] σ = ru d 146 22 [l0, l1] [.int (σ 87 14), w0] σ := q_getf t146_19 mo146 F8_171 rfl rfl
theorem t146_22 : decode (mb 146) 22 = .ok (.iconst 1, 1) := by decide +kernel
theorem s146_22 (d : Nat) (l0 : Value) (l1 : Value) (w0 w1 : Value) (σ : Hs) : ru d 146 22 [l0, l1] [w0, w1] σ = ru d 146 23 [l0, l1] [.int 1, w0, w1] σ := q_iconst t146_22 (by decide +kernel)
theorem t146_23 : decode (mb 146) 23 = .ok (.iadd, 1) := by decide +kernel
theorem s146_23 (d : Nat) (l0 : Value) (l1 : Value) (x y : Int32) (w0 : Value) (σ : Hs) : ru d 146 23 [l0, l1] [.int y, .int x, w0] σ = ru d 146 24 [l0, l1] [.int (x + y), w0] σ := q_iadd t146_23
theorem t146_24 : decode (mb 146) 24 = .ok (.putfield 171, 3) := by decide +kernel
theorem s146_24_o87 (d : Nat) (l0 : Value) (l1 : Value) (x : Int32) (σ : Hs) : ru d 146 24 [l0, l1] [.int x, .ref 87] σ = ru d 146 27 [l0, l1] [] (up2 σ 87 14 x) := q_puti t146_24 mo146 F8_171 (by decide +kernel) rfl rfl
theorem t146_27 : decode (mb 146) 27 = .ok (.return_, 1) := by decide +kernel
theorem s146_27 (d : Nat) (l0 : Value) (l1 : Value) (σ : Hs) : ru d 146 27 [l0, l1] [] σ = some (none, σ) := q_vret t146_27 mr146
theorem c146 (d : Nat) (x0 : Nat) (x1 : Int32) (σ : Hs) : callD (d + 1) 146 [.ref x0, .int x1] σ = ru d 146 0 [.ref x0, .int x1] [] σ := callD_ru ml146 rfl rfl (Nat.le_of_ble_eq_true rfl)
-- 147: Model.either()V
theorem t147_0 : decode (mb 147) 0 = .ok (.aload_n 0, 1) := by decide +kernel
theorem s147_0 (d : Nat) (a0 : Nat) (σ : Hs) : ru d 147 0 [.ref a0] [] σ = ru d 147 1 [.ref a0] [.ref a0] σ := q_aload_n t147_0 rfl
theorem t147_1 : decode (mb 147) 1 = .ok (.invokevirtual 174, 3) := by decide +kernel
theorem s147_1_o87 (d : Nat) (l0 : Value) (σ : Hs) : ru d 147 1 [l0] [.ref 87] σ = kont (callD d 148 [.ref 87] σ) d 147 4 [l0] [] := q_invv t147_1 mo147 K8_174 mj148 rfl rfl rfl rfl (Nat.le_of_ble_eq_true rfl)
theorem t147_4 : decode (mb 147) 4 = .ok (.aload_n 0, 1) := by decide +kernel
theorem s147_4 (d : Nat) (a0 : Nat) (σ : Hs) : ru d 147 4 [.ref a0] [] σ = ru d 147 5 [.ref a0] [.ref a0] σ := q_aload_n t147_4 rfl
theorem t147_5 : decode (mb 147) 5 = .ok (.bipush 124, 2) := by decide +kernel
theorem s147_5 (d : Nat) (l0 : Value) (w0 : Value) (σ : Hs) : ru d 147 5 [l0] [w0] σ = ru d 147 7 [l0] [.int 124, w0] σ := q_bipush t147_5 (by decide +kernel)
theorem t147_7 : decode (mb 147) 7 = .ok (.invokevirtual 177, 3) := by decide +kernel
theorem s147_7_o87 (d : Nat) (l0 : Value) (v1 : Value) (σ : Hs) : ru d 147 7 [l0] [v1, .ref 87] σ = kont (callD d 145 [.ref 87, v1] σ) d 147 10 [l0] [] := q_invv t147_7 mo147 K8_177 mj145 rfl rfl rfl rfl (Nat.le_of_ble_eq_true rfl)
theorem t147_10 : decode (mb 147) 10 = .ok (.ifCond .eq 17, 3) := by decide +kernel
theorem s147_10 (d : Nat) (l0 : Value) (x : Int32) (σ : Hs) : ru d 147 10 [l0] [.int x] σ = if x = 0 then ru d 147 27 [l0] [] σ else ru d 147 13 [l0] [] σ := q_if_eq t147_10 (by decide +kernel)
theorem t147_13 : decode (mb 147) 13 = .ok (.aload_n 0, 1) := by decide +kernel
theorem s147_13 (d : Nat) (a0 : Nat) (σ : Hs) : ru d 147 13 [.ref a0] [] σ = ru d 147 14 [.ref a0] [.ref a0] σ := q_aload_n t147_13 rfl
theorem t147_14 : decode (mb 147) 14 = .ok (.invokevirtual 174, 3) := by decide +kernel
theorem s147_14_o87 (d : Nat) (l0 : Value) (σ : Hs) : ru d 147 14 [l0] [.ref 87] σ = kont (callD d 148 [.ref 87] σ) d 147 17 [l0] [] := q_invv t147_14 mo147 K8_174 mj148 rfl rfl rfl rfl (Nat.le_of_ble_eq_true rfl)
theorem t147_17 : decode (mb 147) 17 = .ok (.aload_n 0, 1) := by decide +kernel
theorem s147_17 (d : Nat) (a0 : Nat) (σ : Hs) : ru d 147 17 [.ref a0] [] σ = ru d 147 18 [.ref a0] [.ref a0] σ := q_aload_n t147_17 rfl
theorem t147_18 : decode (mb 147) 18 = .ok (.sipush 20000, 3) := by decide +kernel
theorem s147_18 (d : Nat) (l0 : Value) (w0 : Value) (σ : Hs) : ru d 147 18 [l0] [w0] σ = ru d 147 21 [l0] [.int 20000, w0] σ := q_sipush t147_18 (by decide +kernel)
theorem t147_21 : decode (mb 147) 21 = .ok (.invokevirtual 180, 3) := by decide +kernel
theorem s147_21_o87 (d : Nat) (l0 : Value) (v1 : Value) (σ : Hs) : ru d 147 21 [l0] [v1, .ref 87] σ = kont (callD d 146 [.ref 87, v1] σ) d 147 24 [l0] [] := q_invv t147_21 mo147 K8_180 mj146 rfl rfl rfl rfl (Nat.le_of_ble_eq_true rfl)
theorem t147_24 : decode (mb 147) 24 = .ok (.goto (-20), 3) := by decide +kernel
theorem s147_24 (d : Nat) (l0 : Value) (σ : Hs) : ru d 147 24 [l0] [] σ = ru d 147 4 [l0] [] σ := q_goto t147_24 (by decide +kernel)
theorem t147_27 : decode (mb 147) 27 = .ok (.return_, 1) := by decide +kernel
theorem s147_27 (d : Nat) (l0 : Value) (σ : Hs) : ru d 147 27 [l0] [] σ = some (none, σ) := q_vret t147_27 mr147
theorem c147 (d : Nat) (x0 : Nat) (σ : Hs) : callD (d + 1) 147 [.ref x0] σ = ru d 147 0 [.ref x0] [] σ := callD_ru ml147 rfl rfl (Nat.le_of_ble_eq_true rfl)
-- 148: Model.both()V
theorem t148_0 : decode (mb 148) 0 = .ok (.aload_n 0, 1) := by decide +kernel
theorem s148_0 (d : Nat) (a0 : Nat) (σ : Hs) : ru d 148 0 [.ref a0] [] σ = ru d 148 1 [.ref a0] [.ref a0] σ := q_aload_n t148_0 rfl
theorem t148_1 : decode (mb 148) 1 = .ok (.invokevirtual 183, 3) := by decide +kernel
theorem s148_1_o87 (d : Nat) (l0 : Value) (σ : Hs) : ru d 148 1 [l0] [.ref 87] σ = kont (callD d 149 [.ref 87] σ) d 148 4 [l0] [] := q_invv t148_1 mo148 K8_183 mj149 rfl rfl rfl rfl (Nat.le_of_ble_eq_true rfl)
theorem t148_4 : decode (mb 148) 4 = .ok (.aload_n 0, 1) := by decide +kernel
theorem s148_4 (d : Nat) (a0 : Nat) (σ : Hs) : ru d 148 4 [.ref a0] [] σ = ru d 148 5 [.ref a0] [.ref a0] σ := q_aload_n t148_4 rfl
theorem t148_5 : decode (mb 148) 5 = .ok (.bipush 38, 2) := by decide +kernel
theorem s148_5 (d : Nat) (l0 : Value) (w0 : Value) (σ : Hs) : ru d 148 5 [l0] [w0] σ = ru d 148 7 [l0] [.int 38, w0] σ := q_bipush t148_5 (by decide +kernel)
theorem t148_7 : decode (mb 148) 7 = .ok (.invokevirtual 177, 3) := by decide +kernel
theorem s148_7_o87 (d : Nat) (l0 : Value) (v1 : Value) (σ : Hs) : ru d 148 7 [l0] [v1, .ref 87] σ = kont (callD d 145 [.ref 87, v1] σ) d 148 10 [l0] [] := q_invv t148_7 mo148 K8_177 mj145 rfl rfl rfl rfl (Nat.le_of_ble_eq_true rfl)
theorem t148_10 : decode (mb 148) 10 = .ok (.ifCond .eq 17, 3) := by decide +kernel
theorem s148_10 (d : Nat) (l0 : Value) (x : Int32) (σ : Hs) : ru d 148 10 [l0] [.int x] σ = if x = 0 then ru d 148 27 [l0] [] σ else ru d 148 13 [l0] [] σ := q_if_eq t148_10 (by decide +kernel)
theorem t148_13 : decode (mb 148) 13 = .ok (.aload_n 0, 1) := by decide +kernel
theorem s148_13 (d : Nat) (a0 : Nat) (σ : Hs) : ru d 148 13 [.ref a0] [] σ = ru d 148 14 [.ref a0] [.ref a0] σ := q_aload_n t148_13 rfl
theorem t148_14 : decode (mb 148) 14 = .ok (.invokevirtual 183, 3) := by decide +kernel
theorem s148_14_o87 (d : Nat) (l0 : Value) (σ : Hs) : ru d 148 14 [l0] [.ref 87] σ = kont (callD d 149 [.ref 87] σ) d 148 17 [l0] [] := q_invv t148_14 mo148 K8_183 mj149 rfl rfl rfl rfl (Nat.le_of_ble_eq_true rfl)
theorem t148_17 : decode (mb 148) 17 = .ok (.aload_n 0, 1) := by decide +kernel
theorem s148_17 (d : Nat) (a0 : Nat) (σ : Hs) : ru d 148 17 [.ref a0] [] σ = ru d 148 18 [.ref a0] [.ref a0] σ := q_aload_n t148_17 rfl
theorem t148_18 : decode (mb 148) 18 = .ok (.sipush 20001, 3) := by decide +kernel
theorem s148_18 (d : Nat) (l0 : Value) (w0 : Value) (σ : Hs) : ru d 148 18 [l0] [w0] σ = ru d 148 21 [l0] [.int 20001, w0] σ := q_sipush t148_18 (by decide +kernel)
theorem t148_21 : decode (mb 148) 21 = .ok (.invokevirtual 180, 3) := by decide +kernel
theorem s148_21_o87 (d : Nat) (l0 : Value) (v1 : Value) (σ : Hs) : ru d 148 21 [l0] [v1, .ref 87] σ = kont (callD d 146 [.ref 87, v1] σ) d 148 24 [l0] [] := q_invv t148_21 mo148 K8_180 mj146 rfl rfl rfl rfl (Nat.le_of_ble_eq_true rfl)
theorem t148_24 : decode (mb 148) 24 = .ok (.goto (-20), 3) := by decide +kernel
theorem s148_24 (d : Nat) (l0 : Value) (σ : Hs) : ru d 148 24 [l0] [] σ = ru d 148 4 [l0] [] σ := q_goto t148_24 (by decide +kernel)
theorem t148_27 : decode (mb 148) 27 = .ok (.return_, 1) := by decide +kernel
theorem s148_27 (d : Nat) (l0 : Value) (σ : Hs) : ru d 148 27 [l0] [] σ = some (none, σ) := q_vret t148_27 mr148
theorem c148 (d : Nat) (x0 : Nat) (σ : Hs) : callD (d + 1) 148 [.ref x0] σ = ru d 148 0 [.ref x0] [] σ := callD_ru ml148 rfl rfl (Nat.le_of_ble_eq_true rfl)
