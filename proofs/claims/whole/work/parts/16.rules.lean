-- 122: Model.is(I)Z
theorem t122_0 : decode (mb 122) 0 = .ok (.aload_n 0, 1) := by decide +kernel
theorem s122_0 (d : Nat) (a0 : Nat) (l1 : Value) (σ : Hs) : ru d 122 0 [.ref a0, l1] [] σ = ru d 122 1 [.ref a0, l1] [.ref a0] σ := q_aload_n t122_0 rfl
theorem t122_1 : decode (mb 122) 1 = .ok (.iload_n 1, 1) := by decide +kernel
theorem s122_1 (d : Nat) (l0 : Value) (i1 : Int32) (w0 : Value) (σ : Hs) : ru d 122 1 [l0, .int i1] [w0] σ = ru d 122 2 [l0, .int i1] [.int i1, w0] σ := q_iload_n t122_1 rfl
theorem t122_2 : decode (mb 122) 2 = .ok (.iconst 0, 1) := by decide +kernel
theorem s122_2 (d : Nat) (l0 : Value) (l1 : Value) (w0 w1 : Value) (σ : Hs) : ru d 122 2 [l0, l1] [w0, w1] σ = ru d 122 3 [l0, l1] [.int 0, w0, w1] σ := q_iconst t122_2 (by decide +kernel)
theorem t122_3 : decode (mb 122) 3 = .ok (.invokevirtual 85, 3) := by decide +kernel
theorem s122_3_o87 (d : Nat) (l0 : Value) (l1 : Value) (v1 v2 : Value) (σ : Hs) : ru d 122 3 [l0, l1] [v2, v1, .ref 87] σ = kont (callD d 119 [.ref 87, v1, v2] σ) d 122 6 [l0, l1] [] := q_invv t122_3 mo122 K8_85 mj119 rfl rfl rfl rfl (Nat.le_of_ble_eq_true rfl)
theorem t122_6 : decode (mb 122) 6 = .ok (.iconst 1, 1) := by decide +kernel
theorem s122_6 (d : Nat) (l0 : Value) (l1 : Value) (w0 : Value) (σ : Hs) : ru d 122 6 [l0, l1] [w0] σ = ru d 122 7 [l0, l1] [.int 1, w0] σ := q_iconst t122_6 (by decide +kernel)
theorem t122_7 : decode (mb 122) 7 = .ok (.if_icmp .ne 7, 3) := by decide +kernel
theorem s122_7 (d : Nat) (l0 : Value) (l1 : Value) (x y : Int32) (σ : Hs) : ru d 122 7 [l0, l1] [.int y, .int x] σ = if x = y then ru d 122 10 [l0, l1] [] σ else ru d 122 14 [l0, l1] [] σ := q_ic_ne t122_7 (by decide +kernel)
theorem t122_10 : decode (mb 122) 10 = .ok (.iconst 1, 1) := by decide +kernel
theorem s122_10 (d : Nat) (l0 : Value) (l1 : Value) (σ : Hs) : ru d 122 10 [l0, l1] [] σ = ru d 122 11 [l0, l1] [.int 1] σ := q_iconst t122_10 (by decide +kernel)
theorem t122_11 : decode (mb 122) 11 = .ok (.goto 4, 3) := by decide +kernel
theorem s122_11 (d : Nat) (l0 : Value) (l1 : Value) (w0 : Value) (σ : Hs) : ru d 122 11 [l0, l1] [w0] σ = ru d 122 15 [l0, l1] [w0] σ := q_goto t122_11 (by decide +kernel)
theorem t122_14 : decode (mb 122) 14 = .ok (.iconst 0, 1) := by decide +kernel
theorem s122_14 (d : Nat) (l0 : Value) (l1 : Value) (σ : Hs) : ru d 122 14 [l0, l1] [] σ = ru d 122 15 [l0, l1] [.int 0] σ := q_iconst t122_14 (by decide +kernel)
theorem t122_15 : decode (mb 122) 15 = .ok (.ireturn, 1) := by decide +kernel
theorem s122_15 (d : Nat) (l0 : Value) (l1 : Value) (x : Int32) (hx : isB x) (σ : Hs) : ru d 122 15 [l0, l1] [.int x] σ = some (some (.int x), σ) := q_iretz t122_15 mr122 hx
theorem c122 (d : Nat) (x0 : Nat) (x1 : Int32) (σ : Hs) : callD (d + 1) 122 [.ref x0, .int x1] σ = ru d 122 0 [.ref x0, .int x1] [] σ := callD_ru ml122 rfl rfl (Nat.le_of_ble_eq_true rfl)
-- 123: Model.isLit(I)Z
theorem t123_0 : decode (mb 123) 0 = .ok (.aload_n 0, 1) := by decide +kernel
theorem s123_0 (d : Nat) (a0 : Nat) (l1 : Value) (σ : Hs) : ru d 123 0 [.ref a0, l1] [] σ = ru d 123 1 [.ref a0, l1] [.ref a0] σ := q_aload_n t123_0 rfl
theorem t123_1 : decode (mb 123) 1 = .ok (.iload_n 1, 1) := by decide +kernel
theorem s123_1 (d : Nat) (l0 : Value) (i1 : Int32) (w0 : Value) (σ : Hs) : ru d 123 1 [l0, .int i1] [w0] σ = ru d 123 2 [l0, .int i1] [.int i1, w0] σ := q_iload_n t123_1 rfl
theorem t123_2 : decode (mb 123) 2 = .ok (.bipush 6, 2) := by decide +kernel
theorem s123_2 (d : Nat) (l0 : Value) (l1 : Value) (w0 w1 : Value) (σ : Hs) : ru d 123 2 [l0, l1] [w0, w1] σ = ru d 123 4 [l0, l1] [.int 6, w0, w1] σ := q_bipush t123_2 (by decide +kernel)
theorem t123_4 : decode (mb 123) 4 = .ok (.invokevirtual 85, 3) := by decide +kernel
theorem s123_4_o87 (d : Nat) (l0 : Value) (l1 : Value) (v1 v2 : Value) (σ : Hs) : ru d 123 4 [l0, l1] [v2, v1, .ref 87] σ = kont (callD d 119 [.ref 87, v1, v2] σ) d 123 7 [l0, l1] [] := q_invv t123_4 mo123 K8_85 mj119 rfl rfl rfl rfl (Nat.le_of_ble_eq_true rfl)
theorem t123_7 : decode (mb 123) 7 = .ok (.iconst 1, 1) := by decide +kernel
theorem s123_7 (d : Nat) (l0 : Value) (l1 : Value) (w0 : Value) (σ : Hs) : ru d 123 7 [l0, l1] [w0] σ = ru d 123 8 [l0, l1] [.int 1, w0] σ := q_iconst t123_7 (by decide +kernel)
theorem t123_8 : decode (mb 123) 8 = .ok (.if_icmp .ne 7, 3) := by decide +kernel
theorem s123_8 (d : Nat) (l0 : Value) (l1 : Value) (x y : Int32) (σ : Hs) : ru d 123 8 [l0, l1] [.int y, .int x] σ = if x = y then ru d 123 11 [l0, l1] [] σ else ru d 123 15 [l0, l1] [] σ := q_ic_ne t123_8 (by decide +kernel)
theorem t123_11 : decode (mb 123) 11 = .ok (.iconst 1, 1) := by decide +kernel
theorem s123_11 (d : Nat) (l0 : Value) (l1 : Value) (σ : Hs) : ru d 123 11 [l0, l1] [] σ = ru d 123 12 [l0, l1] [.int 1] σ := q_iconst t123_11 (by decide +kernel)
theorem t123_12 : decode (mb 123) 12 = .ok (.goto 4, 3) := by decide +kernel
theorem s123_12 (d : Nat) (l0 : Value) (l1 : Value) (w0 : Value) (σ : Hs) : ru d 123 12 [l0, l1] [w0] σ = ru d 123 16 [l0, l1] [w0] σ := q_goto t123_12 (by decide +kernel)
theorem t123_15 : decode (mb 123) 15 = .ok (.iconst 0, 1) := by decide +kernel
theorem s123_15 (d : Nat) (l0 : Value) (l1 : Value) (σ : Hs) : ru d 123 15 [l0, l1] [] σ = ru d 123 16 [l0, l1] [.int 0] σ := q_iconst t123_15 (by decide +kernel)
theorem t123_16 : decode (mb 123) 16 = .ok (.ireturn, 1) := by decide +kernel
theorem s123_16 (d : Nat) (l0 : Value) (l1 : Value) (x : Int32) (hx : isB x) (σ : Hs) : ru d 123 16 [l0, l1] [.int x] σ = some (some (.int x), σ) := q_iretz t123_16 mr123 hx
theorem c123 (d : Nat) (x0 : Nat) (x1 : Int32) (σ : Hs) : callD (d + 1) 123 [.ref x0, .int x1] σ = ru d 123 0 [.ref x0, .int x1] [] σ := callD_ru ml123 rfl rfl (Nat.le_of_ble_eq_true rfl)
-- 124: Model.highOf(I)I
theorem t124_0 : decode (mb 124) 0 = .ok (.iconst 0, 1) := by decide +kernel
theorem s124_0 (d : Nat) (l0 : Value) (l1 : Value) (l2 : Value) (σ : Hs) : ru d 124 0 [l0, l1, l2] [] σ = ru d 124 1 [l0, l1, l2] [.int 0] σ := q_iconst t124_0 (by decide +kernel)
theorem t124_1 : decode (mb 124) 1 = .ok (.istore_n 2, 1) := by decide +kernel
theorem s124_1 (d : Nat) (l0 : Value) (i1 : Int32) (l2 : Value) (x : Int32) (σ : Hs) : ru d 124 1 [l0, .int i1, l2] [.int x] σ = ru d 124 2 [l0, .int i1, .int x] [] σ := q_istore_n t124_1 ⟨Nat.le_of_ble_eq_true rfl, rfl⟩ rfl
theorem t124_2 : decode (mb 124) 2 = .ok (.iload_n 2, 1) := by decide +kernel
theorem s124_2 (d : Nat) (l0 : Value) (l1 : Value) (i2 : Int32) (σ : Hs) : ru d 124 2 [l0, l1, .int i2] [] σ = ru d 124 3 [l0, l1, .int i2] [.int i2] σ := q_iload_n t124_2 rfl
theorem t124_3 : decode (mb 124) 3 = .ok (.iconst 5, 1) := by decide +kernel
theorem s124_3 (d : Nat) (l0 : Value) (l1 : Value) (l2 : Value) (w0 : Value) (σ : Hs) : ru d 124 3 [l0, l1, l2] [w0] σ = ru d 124 4 [l0, l1, l2] [.int 5, w0] σ := q_iconst t124_3 (by decide +kernel)
theorem t124_4 : decode (mb 124) 4 = .ok (.if_icmp .ge 22, 3) := by decide +kernel
theorem s124_4 (d : Nat) (l0 : Value) (l1 : Value) (l2 : Value) (x y : Int32) (σ : Hs) : ru d 124 4 [l0, l1, l2] [.int y, .int x] σ = if y ≤ x then ru d 124 26 [l0, l1, l2] [] σ else ru d 124 7 [l0, l1, l2] [] σ := q_ic_ge t124_4 (by decide +kernel)
theorem t124_7 : decode (mb 124) 7 = .ok (.aload_n 0, 1) := by decide +kernel
theorem s124_7 (d : Nat) (a0 : Nat) (l1 : Value) (l2 : Value) (σ : Hs) : ru d 124 7 [.ref a0, l1, l2] [] σ = ru d 124 8 [.ref a0, l1, l2] [.ref a0] σ := q_aload_n t124_7 rfl
theorem t124_8 : decode (mb 124) 8 = .ok (.bipush 6, 2) := by decide +kernel
theorem s124_8 (d : Nat) (l0 : Value) (l1 : Value) (l2 : Value) (w0 : Value) (σ : Hs) : ru d 124 8 [l0, l1, l2] [w0] σ = ru d 124 10 [l0, l1, l2] [.int 6, w0] σ := q_bipush t124_8 (by decide +kernel)
theorem t124_10 : decode (mb 124) 10 = .ok (.iload_n 2, 1) := by decide +kernel
theorem s124_10 (d : Nat) (l0 : Value) (l1 : Value) (i2 : Int32) (w0 w1 : Value) (σ : Hs) : ru d 124 10 [l0, l1, .int i2] [w0, w1] σ = ru d 124 11 [l0, l1, .int i2] [.int i2, w0, w1] σ := q_iload_n t124_10 rfl
theorem t124_11 : decode (mb 124) 11 = .ok (.imul, 1) := by decide +kernel
theorem s124_11 (d : Nat) (l0 : Value) (l1 : Value) (l2 : Value) (x y : Int32) (w0 : Value) (σ : Hs) : ru d 124 11 [l0, l1, l2] [.int y, .int x, w0] σ = ru d 124 12 [l0, l1, l2] [.int (x * y), w0] σ := q_imul t124_11
theorem t124_12 : decode (mb 124) 12 = .ok (.iload_n 1, 1) := by decide +kernel
theorem s124_12 (d : Nat) (l0 : Value) (i1 : Int32) (l2 : Value) (w0 w1 : Value) (σ : Hs) : ru d 124 12 [l0, .int i1, l2] [w0, w1] σ = ru d 124 13 [l0, .int i1, l2] [.int i1, w0, w1] σ := q_iload_n t124_12 rfl
theorem t124_13 : decode (mb 124) 13 = .ok (.iadd, 1) := by decide +kernel
theorem s124_13 (d : Nat) (l0 : Value) (l1 : Value) (l2 : Value) (x y : Int32) (w0 : Value) (σ : Hs) : ru d 124 13 [l0, l1, l2] [.int y, .int x, w0] σ = ru d 124 14 [l0, l1, l2] [.int (x + y), w0] σ := q_iadd t124_13
theorem t124_14 : decode (mb 124) 14 = .ok (.invokevirtual 88, 3) := by decide +kernel
theorem s124_14_o87 (d : Nat) (l0 : Value) (l1 : Value) (l2 : Value) (v1 : Value) (σ : Hs) : ru d 124 14 [l0, l1, l2] [v1, .ref 87] σ = kont (callD d 122 [.ref 87, v1] σ) d 124 17 [l0, l1, l2] [] := q_invv t124_14 mo124 K8_88 mj122 rfl rfl rfl rfl (Nat.le_of_ble_eq_true rfl)
theorem t124_17 : decode (mb 124) 17 = .ok (.ifCond .eq 9, 3) := by decide +kernel
theorem s124_17 (d : Nat) (l0 : Value) (l1 : Value) (l2 : Value) (x : Int32) (σ : Hs) : ru d 124 17 [l0, l1, l2] [.int x] σ = if x = 0 then ru d 124 26 [l0, l1, l2] [] σ else ru d 124 20 [l0, l1, l2] [] σ := q_if_eq t124_17 (by decide +kernel)
theorem t124_20 : decode (mb 124) 20 = .ok (.iinc 2 1, 3) := by decide +kernel
theorem s124_20 (d : Nat) (l0 : Value) (i1 : Int32) (i2 : Int32) (σ : Hs) : ru d 124 20 [l0, .int i1, .int i2] [] σ = ru d 124 23 [l0, .int i1, .int (i2 + 1)] [] σ := q_iinc t124_20 ⟨Nat.le_of_ble_eq_true rfl, rfl⟩ rfl (by decide +kernel) rfl
theorem t124_23 : decode (mb 124) 23 = .ok (.goto (-21), 3) := by decide +kernel
theorem s124_23 (d : Nat) (l0 : Value) (l1 : Value) (l2 : Value) (σ : Hs) : ru d 124 23 [l0, l1, l2] [] σ = ru d 124 2 [l0, l1, l2] [] σ := q_goto t124_23 (by decide +kernel)
theorem t124_26 : decode (mb 124) 26 = .ok (.iload_n 2, 1) := by decide +kernel
theorem s124_26 (d : Nat) (l0 : Value) (l1 : Value) (i2 : Int32) (σ : Hs) : ru d 124 26 [l0, l1, .int i2] [] σ = ru d 124 27 [l0, l1, .int i2] [.int i2] σ := q_iload_n t124_26 rfl
theorem t124_27 : decode (mb 124) 27 = .ok (.ireturn, 1) := by decide +kernel
theorem s124_27 (d : Nat) (l0 : Value) (l1 : Value) (l2 : Value) (x : Int32) (σ : Hs) : ru d 124 27 [l0, l1, l2] [.int x] σ = some (some (.int x), σ) := q_ireti t124_27 mr124
theorem c124 (d : Nat) (x0 : Nat) (x1 : Int32) (σ : Hs) : callD (d + 1) 124 [.ref x0, .int x1] σ = ru d 124 0 [.ref x0, .int x1, uu] [] σ := callD_ru ml124 rfl rfl (Nat.le_of_ble_eq_true rfl)
-- 125: Model.isAsTold(IIII)Z
theorem t125_0 : decode (mb 125) 0 = .ok (.iload_n 1, 1) := by decide +kernel
theorem s125_0 (d : Nat) (l0 : Value) (i1 : Int32) (l2 : Value) (l3 : Value) (l4 : Value) (σ : Hs) : ru d 125 0 [l0, .int i1, l2, l3, l4] [] σ = ru d 125 1 [l0, .int i1, l2, l3, l4] [.int i1] σ := q_iload_n t125_0 rfl
theorem t125_1 : decode (mb 125) 1 = .ok (.iconst 0, 1) := by decide +kernel
theorem s125_1 (d : Nat) (l0 : Value) (l1 : Value) (l2 : Value) (l3 : Value) (l4 : Value) (w0 : Value) (σ : Hs) : ru d 125 1 [l0, l1, l2, l3, l4] [w0] σ = ru d 125 2 [l0, l1, l2, l3, l4] [.int 0, w0] σ := q_iconst t125_1 (by decide +kernel)
theorem t125_2 : decode (mb 125) 2 = .ok (.bipush 6, 2) := by decide +kernel
theorem s125_2 (d : Nat) (l0 : Value) (l1 : Value) (l2 : Value) (l3 : Value) (l4 : Value) (w0 w1 : Value) (σ : Hs) : ru d 125 2 [l0, l1, l2, l3, l4] [w0, w1] σ = ru d 125 4 [l0, l1, l2, l3, l4] [.int 6, w0, w1] σ := q_bipush t125_2 (by decide +kernel)
theorem t125_4 : decode (mb 125) 4 = .ok (.invokestatic 81, 3) := by decide +kernel
theorem s125_4 (d : Nat) (l0 : Value) (l1 : Value) (l2 : Value) (l3 : Value) (l4 : Value) (v0 v1 v2 : Value) (σ : Hs) : ru d 125 4 [l0, l1, l2, l3, l4] [v2, v1, v0] σ = kont (callD d 113 [v0, v1, v2] σ) d 125 7 [l0, l1, l2, l3, l4] [] := q_invs t125_4 mo125 (by decide +kernel) K8_81 mj113 (Nat.le_of_ble_eq_true rfl) rfl rfl (Nat.le_of_ble_eq_true rfl)
theorem t125_7 : decode (mb 125) 7 = .ok (.ifCond .eq 39, 3) := by decide +kernel
theorem s125_7 (d : Nat) (l0 : Value) (l1 : Value) (l2 : Value) (l3 : Value) (l4 : Value) (x : Int32) (σ : Hs) : ru d 125 7 [l0, l1, l2, l3, l4] [.int x] σ = if x = 0 then ru d 125 46 [l0, l1, l2, l3, l4] [] σ else ru d 125 10 [l0, l1, l2, l3, l4] [] σ := q_if_eq t125_7 (by decide +kernel)
theorem t125_10 : decode (mb 125) 10 = .ok (.iload_n 2, 1) := by decide +kernel
theorem s125_10 (d : Nat) (l0 : Value) (l1 : Value) (i2 : Int32) (l3 : Value) (l4 : Value) (σ : Hs) : ru d 125 10 [l0, l1, .int i2, l3, l4] [] σ = ru d 125 11 [l0, l1, .int i2, l3, l4] [.int i2] σ := q_iload_n t125_10 rfl
theorem t125_11 : decode (mb 125) 11 = .ok (.iconst 0, 1) := by decide +kernel
theorem s125_11 (d : Nat) (l0 : Value) (l1 : Value) (l2 : Value) (l3 : Value) (l4 : Value) (w0 : Value) (σ : Hs) : ru d 125 11 [l0, l1, l2, l3, l4] [w0] σ = ru d 125 12 [l0, l1, l2, l3, l4] [.int 0, w0] σ := q_iconst t125_11 (by decide +kernel)
theorem t125_12 : decode (mb 125) 12 = .ok (.iconst 5, 1) := by decide +kernel
theorem s125_12 (d : Nat) (l0 : Value) (l1 : Value) (l2 : Value) (l3 : Value) (l4 : Value) (w0 w1 : Value) (σ : Hs) : ru d 125 12 [l0, l1, l2, l3, l4] [w0, w1] σ = ru d 125 13 [l0, l1, l2, l3, l4] [.int 5, w0, w1] σ := q_iconst t125_12 (by decide +kernel)
theorem t125_13 : decode (mb 125) 13 = .ok (.invokestatic 81, 3) := by decide +kernel
theorem s125_13 (d : Nat) (l0 : Value) (l1 : Value) (l2 : Value) (l3 : Value) (l4 : Value) (v0 v1 v2 : Value) (σ : Hs) : ru d 125 13 [l0, l1, l2, l3, l4] [v2, v1, v0] σ = kont (callD d 113 [v0, v1, v2] σ) d 125 16 [l0, l1, l2, l3, l4] [] := q_invs t125_13 mo125 (by decide +kernel) K8_81 mj113 (Nat.le_of_ble_eq_true rfl) rfl rfl (Nat.le_of_ble_eq_true rfl)
theorem t125_16 : decode (mb 125) 16 = .ok (.ifCond .eq 30, 3) := by decide +kernel
theorem s125_16 (d : Nat) (l0 : Value) (l1 : Value) (l2 : Value) (l3 : Value) (l4 : Value) (x : Int32) (σ : Hs) : ru d 125 16 [l0, l1, l2, l3, l4] [.int x] σ = if x = 0 then ru d 125 46 [l0, l1, l2, l3, l4] [] σ else ru d 125 19 [l0, l1, l2, l3, l4] [] σ := q_if_eq t125_16 (by decide +kernel)
theorem t125_19 : decode (mb 125) 19 = .ok (.iload_n 3, 1) := by decide +kernel
theorem s125_19 (d : Nat) (l0 : Value) (l1 : Value) (l2 : Value) (i3 : Int32) (l4 : Value) (σ : Hs) : ru d 125 19 [l0, l1, l2, .int i3, l4] [] σ = ru d 125 20 [l0, l1, l2, .int i3, l4] [.int i3] σ := q_iload_n t125_19 rfl
theorem t125_20 : decode (mb 125) 20 = .ok (.iconst 1, 1) := by decide +kernel
theorem s125_20 (d : Nat) (l0 : Value) (l1 : Value) (l2 : Value) (l3 : Value) (l4 : Value) (w0 : Value) (σ : Hs) : ru d 125 20 [l0, l1, l2, l3, l4] [w0] σ = ru d 125 21 [l0, l1, l2, l3, l4] [.int 1, w0] σ := q_iconst t125_20 (by decide +kernel)
theorem t125_21 : decode (mb 125) 21 = .ok (.sipush 999, 3) := by decide +kernel
theorem s125_21 (d : Nat) (l0 : Value) (l1 : Value) (l2 : Value) (l3 : Value) (l4 : Value) (w0 w1 : Value) (σ : Hs) : ru d 125 21 [l0, l1, l2, l3, l4] [w0, w1] σ = ru d 125 24 [l0, l1, l2, l3, l4] [.int 999, w0, w1] σ := q_sipush t125_21 (by decide +kernel)
theorem t125_24 : decode (mb 125) 24 = .ok (.invokestatic 81, 3) := by decide +kernel
theorem s125_24 (d : Nat) (l0 : Value) (l1 : Value) (l2 : Value) (l3 : Value) (l4 : Value) (v0 v1 v2 : Value) (σ : Hs) : ru d 125 24 [l0, l1, l2, l3, l4] [v2, v1, v0] σ = kont (callD d 113 [v0, v1, v2] σ) d 125 27 [l0, l1, l2, l3, l4] [] := q_invs t125_24 mo125 (by decide +kernel) K8_81 mj113 (Nat.le_of_ble_eq_true rfl) rfl rfl (Nat.le_of_ble_eq_true rfl)
theorem t125_27 : decode (mb 125) 27 = .ok (.ifCond .eq 19, 3) := by decide +kernel
theorem s125_27 (d : Nat) (l0 : Value) (l1 : Value) (l2 : Value) (l3 : Value) (l4 : Value) (x : Int32) (σ : Hs) : ru d 125 27 [l0, l1, l2, l3, l4] [.int x] σ = if x = 0 then ru d 125 46 [l0, l1, l2, l3, l4] [] σ else ru d 125 30 [l0, l1, l2, l3, l4] [] σ := q_if_eq t125_27 (by decide +kernel)
theorem t125_30 : decode (mb 125) 30 = .ok (.iload 4, 2) := by decide +kernel
theorem s125_30 (d : Nat) (l0 : Value) (l1 : Value) (l2 : Value) (l3 : Value) (i4 : Int32) (σ : Hs) : ru d 125 30 [l0, l1, l2, l3, .int i4] [] σ = ru d 125 32 [l0, l1, l2, l3, .int i4] [.int i4] σ := q_iload t125_30 rfl
theorem t125_32 : decode (mb 125) 32 = .ok (.iconst 0, 1) := by decide +kernel
theorem s125_32 (d : Nat) (l0 : Value) (l1 : Value) (l2 : Value) (l3 : Value) (l4 : Value) (w0 : Value) (σ : Hs) : ru d 125 32 [l0, l1, l2, l3, l4] [w0] σ = ru d 125 33 [l0, l1, l2, l3, l4] [.int 0, w0] σ := q_iconst t125_32 (by decide +kernel)
theorem t125_33 : decode (mb 125) 33 = .ok (.sipush 999, 3) := by decide +kernel
theorem s125_33 (d : Nat) (l0 : Value) (l1 : Value) (l2 : Value) (l3 : Value) (l4 : Value) (w0 w1 : Value) (σ : Hs) : ru d 125 33 [l0, l1, l2, l3, l4] [w0, w1] σ = ru d 125 36 [l0, l1, l2, l3, l4] [.int 999, w0, w1] σ := q_sipush t125_33 (by decide +kernel)
theorem t125_36 : decode (mb 125) 36 = .ok (.invokestatic 81, 3) := by decide +kernel
theorem s125_36 (d : Nat) (l0 : Value) (l1 : Value) (l2 : Value) (l3 : Value) (l4 : Value) (v0 v1 v2 : Value) (σ : Hs) : ru d 125 36 [l0, l1, l2, l3, l4] [v2, v1, v0] σ = kont (callD d 113 [v0, v1, v2] σ) d 125 39 [l0, l1, l2, l3, l4] [] := q_invs t125_36 mo125 (by decide +kernel) K8_81 mj113 (Nat.le_of_ble_eq_true rfl) rfl rfl (Nat.le_of_ble_eq_true rfl)
theorem t125_39 : decode (mb 125) 39 = .ok (.ifCond .eq 7, 3) := by decide +kernel
theorem s125_39 (d : Nat) (l0 : Value) (l1 : Value) (l2 : Value) (l3 : Value) (l4 : Value) (x : Int32) (σ : Hs) : ru d 125 39 [l0, l1, l2, l3, l4] [.int x] σ = if x = 0 then ru d 125 46 [l0, l1, l2, l3, l4] [] σ else ru d 125 42 [l0, l1, l2, l3, l4] [] σ := q_if_eq t125_39 (by decide +kernel)
theorem t125_42 : decode (mb 125) 42 = .ok (.iconst 1, 1) := by decide +kernel
theorem s125_42 (d : Nat) (l0 : Value) (l1 : Value) (l2 : Value) (l3 : Value) (l4 : Value) (σ : Hs) : ru d 125 42 [l0, l1, l2, l3, l4] [] σ = ru d 125 43 [l0, l1, l2, l3, l4] [.int 1] σ := q_iconst t125_42 (by decide +kernel)
theorem t125_43 : decode (mb 125) 43 = .ok (.goto 4, 3) := by decide +kernel
theorem s125_43 (d : Nat) (l0 : Value) (l1 : Value) (l2 : Value) (l3 : Value) (l4 : Value) (w0 : Value) (σ : Hs) : ru d 125 43 [l0, l1, l2, l3, l4] [w0] σ = ru d 125 47 [l0, l1, l2, l3, l4] [w0] σ := q_goto t125_43 (by decide +kernel)
theorem t125_46 : decode (mb 125) 46 = .ok (.iconst 0, 1) := by decide +kernel
theorem s125_46 (d : Nat) (l0 : Value) (l1 : Value) (l2 : Value) (l3 : Value) (l4 : Value) (σ : Hs) : ru d 125 46 [l0, l1, l2, l3, l4] [] σ = ru d 125 47 [l0, l1, l2, l3, l4] [.int 0] σ := q_iconst t125_46 (by decide +kernel)
theorem t125_47 : decode (mb 125) 47 = .ok (.ireturn, 1) := by decide +kernel
theorem s125_47 (d : Nat) (l0 : Value) (l1 : Value) (l2 : Value) (l3 : Value) (l4 : Value) (x : Int32) (hx : isB x) (σ : Hs) : ru d 125 47 [l0, l1, l2, l3, l4] [.int x] σ = some (some (.int x), σ) := q_iretz t125_47 mr125 hx
theorem c125 (d : Nat) (x0 : Nat) (x1 : Int32) (x2 : Int32) (x3 : Int32) (x4 : Int32) (σ : Hs) : callD (d + 1) 125 [.ref x0, .int x1, .int x2, .int x3, .int x4] σ = ru d 125 0 [.ref x0, .int x1, .int x2, .int x3, .int x4] [] σ := callD_ru ml125 rfl rfl (Nat.le_of_ble_eq_true rfl)
-- 126: Model.lays(IIII)I
theorem t126_0 : decode (mb 126) 0 = .ok (.bipush 6, 2) := by decide +kernel
theorem s126_0 (d : Nat) (l0 : Value) (l1 : Value) (l2 : Value) (l3 : Value) (l4 : Value) (l5 : Value) (σ : Hs) : ru d 126 0 [l0, l1, l2, l3, l4, l5] [] σ = ru d 126 2 [l0, l1, l2, l3, l4, l5] [.int 6] σ := q_bipush t126_0 (by decide +kernel)
theorem t126_2 : decode (mb 126) 2 = .ok (.aload_n 0, 1) := by decide +kernel
theorem s126_2 (d : Nat) (a0 : Nat) (l1 : Value) (l2 : Value) (l3 : Value) (l4 : Value) (l5 : Value) (w0 : Value) (σ : Hs) : ru d 126 2 [.ref a0, l1, l2, l3, l4, l5] [w0] σ = ru d 126 3 [.ref a0, l1, l2, l3, l4, l5] [.ref a0, w0] σ := q_aload_n t126_2 rfl
theorem t126_3 : decode (mb 126) 3 = .ok (.iload_n 2, 1) := by decide +kernel
theorem s126_3 (d : Nat) (l0 : Value) (l1 : Value) (i2 : Int32) (l3 : Value) (l4 : Value) (l5 : Value) (w0 w1 : Value) (σ : Hs) : ru d 126 3 [l0, l1, .int i2, l3, l4, l5] [w0, w1] σ = ru d 126 4 [l0, l1, .int i2, l3, l4, l5] [.int i2, w0, w1] σ := q_iload_n t126_3 rfl
theorem t126_4 : decode (mb 126) 4 = .ok (.invokevirtual 92, 3) := by decide +kernel
theorem s126_4_o87 (d : Nat) (l0 : Value) (l1 : Value) (l2 : Value) (l3 : Value) (l4 : Value) (l5 : Value) (v1 : Value) (w0 : Int32) (σ : Hs) : ru d 126 4 [l0, l1, l2, l3, l4, l5] [v1, .ref 87, .int w0] σ = kont (callD d 124 [.ref 87, v1] σ) d 126 7 [l0, l1, l2, l3, l4, l5] [.int w0] := q_invv t126_4 mo126 K8_92 mj124 rfl rfl rfl rfl (Nat.le_of_ble_eq_true rfl)
theorem t126_7 : decode (mb 126) 7 = .ok (.imul, 1) := by decide +kernel
theorem s126_7 (d : Nat) (l0 : Value) (l1 : Value) (l2 : Value) (l3 : Value) (l4 : Value) (l5 : Value) (x y : Int32) (σ : Hs) : ru d 126 7 [l0, l1, l2, l3, l4, l5] [.int y, .int x] σ = ru d 126 8 [l0, l1, l2, l3, l4, l5] [.int (x * y)] σ := q_imul t126_7
theorem t126_8 : decode (mb 126) 8 = .ok (.iload_n 2, 1) := by decide +kernel
theorem s126_8 (d : Nat) (l0 : Value) (l1 : Value) (i2 : Int32) (l3 : Value) (l4 : Value) (l5 : Value) (w0 : Value) (σ : Hs) : ru d 126 8 [l0, l1, .int i2, l3, l4, l5] [w0] σ = ru d 126 9 [l0, l1, .int i2, l3, l4, l5] [.int i2, w0] σ := q_iload_n t126_8 rfl
theorem t126_9 : decode (mb 126) 9 = .ok (.iadd, 1) := by decide +kernel
theorem s126_9 (d : Nat) (l0 : Value) (l1 : Value) (l2 : Value) (l3 : Value) (l4 : Value) (l5 : Value) (x y : Int32) (σ : Hs) : ru d 126 9 [l0, l1, l2, l3, l4, l5] [.int y, .int x] σ = ru d 126 10 [l0, l1, l2, l3, l4, l5] [.int (x + y)] σ := q_iadd t126_9
theorem t126_10 : decode (mb 126) 10 = .ok (.istore 5, 2) := by decide +kernel
theorem s126_10 (d : Nat) (l0 : Value) (l1 : Value) (l2 : Value) (l3 : Value) (i4 : Int32) (l5 : Value) (x : Int32) (σ : Hs) : ru d 126 10 [l0, l1, l2, l3, .int i4, l5] [.int x] σ = ru d 126 12 [l0, l1, l2, l3, .int i4, .int x] [] σ := q_istore t126_10 ⟨Nat.le_of_ble_eq_true rfl, rfl⟩ rfl
theorem t126_12 : decode (mb 126) 12 = .ok (.aload_n 0, 1) := by decide +kernel
theorem s126_12 (d : Nat) (a0 : Nat) (l1 : Value) (l2 : Value) (l3 : Value) (l4 : Value) (l5 : Value) (σ : Hs) : ru d 126 12 [.ref a0, l1, l2, l3, l4, l5] [] σ = ru d 126 13 [.ref a0, l1, l2, l3, l4, l5] [.ref a0] σ := q_aload_n t126_12 rfl
theorem t126_13 : decode (mb 126) 13 = .ok (.iload 5, 2) := by decide +kernel
theorem s126_13 (d : Nat) (l0 : Value) (l1 : Value) (l2 : Value) (l3 : Value) (l4 : Value) (i5 : Int32) (w0 : Value) (σ : Hs) : ru d 126 13 [l0, l1, l2, l3, l4, .int i5] [w0] σ = ru d 126 15 [l0, l1, l2, l3, l4, .int i5] [.int i5, w0] σ := q_iload t126_13 rfl
theorem t126_15 : decode (mb 126) 15 = .ok (.iconst 0, 1) := by decide +kernel
theorem s126_15 (d : Nat) (l0 : Value) (l1 : Value) (l2 : Value) (l3 : Value) (l4 : Value) (l5 : Value) (w0 w1 : Value) (σ : Hs) : ru d 126 15 [l0, l1, l2, l3, l4, l5] [w0, w1] σ = ru d 126 16 [l0, l1, l2, l3, l4, l5] [.int 0, w0, w1] σ := q_iconst t126_15 (by decide +kernel)
theorem t126_16 : decode (mb 126) 16 = .ok (.iconst 1, 1) := by decide +kernel
theorem s126_16 (d : Nat) (l0 : Value) (l1 : Value) (l2 : Value) (l3 : Value) (l4 : Value) (l5 : Value) (w0 w1 w2 : Value) (σ : Hs) : ru d 126 16 [l0, l1, l2, l3, l4, l5] [w0, w1, w2] σ = ru d 126 17 [l0, l1, l2, l3, l4, l5] [.int 1, w0, w1, w2] σ := q_iconst t126_16 (by decide +kernel)
theorem t126_17 : decode (mb 126) 17 = .ok (.invokevirtual 96, 3) := by decide +kernel
theorem s126_17_o87 (d : Nat) (l0 : Value) (l1 : Value) (l2 : Value) (l3 : Value) (l4 : Value) (l5 : Value) (v1 v2 v3 : Value) (σ : Hs) : ru d 126 17 [l0, l1, l2, l3, l4, l5] [v3, v2, v1, .ref 87] σ = kont (callD d 120 [.ref 87, v1, v2, v3] σ) d 126 20 [l0, l1, l2, l3, l4, l5] [] := q_invv t126_17 mo126 K8_96 mj120 rfl rfl rfl rfl (Nat.le_of_ble_eq_true rfl)
theorem t126_20 : decode (mb 126) 20 = .ok (.aload_n 0, 1) := by decide +kernel
theorem s126_20 (d : Nat) (a0 : Nat) (l1 : Value) (l2 : Value) (l3 : Value) (l4 : Value) (l5 : Value) (σ : Hs) : ru d 126 20 [.ref a0, l1, l2, l3, l4, l5] [] σ = ru d 126 21 [.ref a0, l1, l2, l3, l4, l5] [.ref a0] σ := q_aload_n t126_20 rfl
theorem t126_21 : decode (mb 126) 21 = .ok (.iload 5, 2) := by decide +kernel
theorem s126_21 (d : Nat) (l0 : Value) (l1 : Value) (l2 : Value) (l3 : Value) (l4 : Value) (i5 : Int32) (w0 : Value) (σ : Hs) : ru d 126 21 [l0, l1, l2, l3, l4, .int i5] [w0] σ = ru d 126 23 [l0, l1, l2, l3, l4, .int i5] [.int i5, w0] σ := q_iload t126_21 rfl
theorem t126_23 : decode (mb 126) 23 = .ok (.iconst 1, 1) := by decide +kernel
theorem s126_23 (d : Nat) (l0 : Value) (l1 : Value) (l2 : Value) (l3 : Value) (l4 : Value) (l5 : Value) (w0 w1 : Value) (σ : Hs) : ru d 126 23 [l0, l1, l2, l3, l4, l5] [w0, w1] σ = ru d 126 24 [l0, l1, l2, l3, l4, l5] [.int 1, w0, w1] σ := q_iconst t126_23 (by decide +kernel)
theorem t126_24 : decode (mb 126) 24 = .ok (.iload_n 1, 1) := by decide +kernel
theorem s126_24 (d : Nat) (l0 : Value) (i1 : Int32) (l2 : Value) (l3 : Value) (l4 : Value) (l5 : Value) (w0 w1 w2 : Value) (σ : Hs) : ru d 126 24 [l0, .int i1, l2, l3, l4, l5] [w0, w1, w2] σ = ru d 126 25 [l0, .int i1, l2, l3, l4, l5] [.int i1, w0, w1, w2] σ := q_iload_n t126_24 rfl
theorem t126_25 : decode (mb 126) 25 = .ok (.invokevirtual 96, 3) := by decide +kernel
theorem s126_25_o87 (d : Nat) (l0 : Value) (l1 : Value) (l2 : Value) (l3 : Value) (l4 : Value) (l5 : Value) (v1 v2 v3 : Value) (σ : Hs) : ru d 126 25 [l0, l1, l2, l3, l4, l5] [v3, v2, v1, .ref 87] σ = kont (callD d 120 [.ref 87, v1, v2, v3] σ) d 126 28 [l0, l1, l2, l3, l4, l5] [] := q_invv t126_25 mo126 K8_96 mj120 rfl rfl rfl rfl (Nat.le_of_ble_eq_true rfl)
theorem t126_28 : decode (mb 126) 28 = .ok (.aload_n 0, 1) := by decide +kernel
theorem s126_28 (d : Nat) (a0 : Nat) (l1 : Value) (l2 : Value) (l3 : Value) (l4 : Value) (l5 : Value) (σ : Hs) : ru d 126 28 [.ref a0, l1, l2, l3, l4, l5] [] σ = ru d 126 29 [.ref a0, l1, l2, l3, l4, l5] [.ref a0] σ := q_aload_n t126_28 rfl
theorem t126_29 : decode (mb 126) 29 = .ok (.iload 5, 2) := by decide +kernel
theorem s126_29 (d : Nat) (l0 : Value) (l1 : Value) (l2 : Value) (l3 : Value) (l4 : Value) (i5 : Int32) (w0 : Value) (σ : Hs) : ru d 126 29 [l0, l1, l2, l3, l4, .int i5] [w0] σ = ru d 126 31 [l0, l1, l2, l3, l4, .int i5] [.int i5, w0] σ := q_iload t126_29 rfl
theorem t126_31 : decode (mb 126) 31 = .ok (.iconst 2, 1) := by decide +kernel
theorem s126_31 (d : Nat) (l0 : Value) (l1 : Value) (l2 : Value) (l3 : Value) (l4 : Value) (l5 : Value) (w0 w1 : Value) (σ : Hs) : ru d 126 31 [l0, l1, l2, l3, l4, l5] [w0, w1] σ = ru d 126 32 [l0, l1, l2, l3, l4, l5] [.int 2, w0, w1] σ := q_iconst t126_31 (by decide +kernel)
theorem t126_32 : decode (mb 126) 32 = .ok (.iload_n 3, 1) := by decide +kernel
theorem s126_32 (d : Nat) (l0 : Value) (l1 : Value) (l2 : Value) (i3 : Int32) (l4 : Value) (l5 : Value) (w0 w1 w2 : Value) (σ : Hs) : ru d 126 32 [l0, l1, l2, .int i3, l4, l5] [w0, w1, w2] σ = ru d 126 33 [l0, l1, l2, .int i3, l4, l5] [.int i3, w0, w1, w2] σ := q_iload_n t126_32 rfl
theorem t126_33 : decode (mb 126) 33 = .ok (.invokevirtual 96, 3) := by decide +kernel
theorem s126_33_o87 (d : Nat) (l0 : Value) (l1 : Value) (l2 : Value) (l3 : Value) (l4 : Value) (l5 : Value) (v1 v2 v3 : Value) (σ : Hs) : ru d 126 33 [l0, l1, l2, l3, l4, l5] [v3, v2, v1, .ref 87] σ = kont (callD d 120 [.ref 87, v1, v2, v3] σ) d 126 36 [l0, l1, l2, l3, l4, l5] [] := q_invv t126_33 mo126 K8_96 mj120 rfl rfl rfl rfl (Nat.le_of_ble_eq_true rfl)
theorem t126_36 : decode (mb 126) 36 = .ok (.aload_n 0, 1) := by decide +kernel
theorem s126_36 (d : Nat) (a0 : Nat) (l1 : Value) (l2 : Value) (l3 : Value) (l4 : Value) (l5 : Value) (σ : Hs) : ru d 126 36 [.ref a0, l1, l2, l3, l4, l5] [] σ = ru d 126 37 [.ref a0, l1, l2, l3, l4, l5] [.ref a0] σ := q_aload_n t126_36 rfl
theorem t126_37 : decode (mb 126) 37 = .ok (.iload 5, 2) := by decide +kernel
theorem s126_37 (d : Nat) (l0 : Value) (l1 : Value) (l2 : Value) (l3 : Value) (l4 : Value) (i5 : Int32) (w0 : Value) (σ : Hs) : ru d 126 37 [l0, l1, l2, l3, l4, .int i5] [w0] σ = ru d 126 39 [l0, l1, l2, l3, l4, .int i5] [.int i5, w0] σ := q_iload t126_37 rfl
theorem t126_39 : decode (mb 126) 39 = .ok (.iconst 3, 1) := by decide +kernel
theorem s126_39 (d : Nat) (l0 : Value) (l1 : Value) (l2 : Value) (l3 : Value) (l4 : Value) (l5 : Value) (w0 w1 : Value) (σ : Hs) : ru d 126 39 [l0, l1, l2, l3, l4, l5] [w0, w1] σ = ru d 126 40 [l0, l1, l2, l3, l4, l5] [.int 3, w0, w1] σ := q_iconst t126_39 (by decide +kernel)
theorem t126_40 : decode (mb 126) 40 = .ok (.iload 4, 2) := by decide +kernel
theorem s126_40 (d : Nat) (l0 : Value) (l1 : Value) (l2 : Value) (l3 : Value) (i4 : Int32) (l5 : Value) (w0 w1 w2 : Value) (σ : Hs) : ru d 126 40 [l0, l1, l2, l3, .int i4, l5] [w0, w1, w2] σ = ru d 126 42 [l0, l1, l2, l3, .int i4, l5] [.int i4, w0, w1, w2] σ := q_iload t126_40 rfl
theorem t126_42 : decode (mb 126) 42 = .ok (.invokevirtual 96, 3) := by decide +kernel
theorem s126_42_o87 (d : Nat) (l0 : Value) (l1 : Value) (l2 : Value) (l3 : Value) (l4 : Value) (l5 : Value) (v1 v2 v3 : Value) (σ : Hs) : ru d 126 42 [l0, l1, l2, l3, l4, l5] [v3, v2, v1, .ref 87] σ = kont (callD d 120 [.ref 87, v1, v2, v3] σ) d 126 45 [l0, l1, l2, l3, l4, l5] [] := q_invv t126_42 mo126 K8_96 mj120 rfl rfl rfl rfl (Nat.le_of_ble_eq_true rfl)
theorem t126_45 : decode (mb 126) 45 = .ok (.aload_n 0, 1) := by decide +kernel
theorem s126_45 (d : Nat) (a0 : Nat) (l1 : Value) (l2 : Value) (l3 : Value) (l4 : Value) (l5 : Value) (σ : Hs) : ru d 126 45 [.ref a0, l1, l2, l3, l4, l5] [] σ = ru d 126 46 [.ref a0, l1, l2, l3, l4, l5] [.ref a0] σ := q_aload_n t126_45 rfl
theorem t126_46 : decode (mb 126) 46 = .ok (.iload 5, 2) := by decide +kernel
theorem s126_46 (d : Nat) (l0 : Value) (l1 : Value) (l2 : Value) (l3 : Value) (l4 : Value) (i5 : Int32) (w0 : Value) (σ : Hs) : ru d 126 46 [l0, l1, l2, l3, l4, .int i5] [w0] σ = ru d 126 48 [l0, l1, l2, l3, l4, .int i5] [.int i5, w0] σ := q_iload t126_46 rfl
theorem t126_48 : decode (mb 126) 48 = .ok (.iconst 4, 1) := by decide +kernel
theorem s126_48 (d : Nat) (l0 : Value) (l1 : Value) (l2 : Value) (l3 : Value) (l4 : Value) (l5 : Value) (w0 w1 : Value) (σ : Hs) : ru d 126 48 [l0, l1, l2, l3, l4, l5] [w0, w1] σ = ru d 126 49 [l0, l1, l2, l3, l4, l5] [.int 4, w0, w1] σ := q_iconst t126_48 (by decide +kernel)
theorem t126_49 : decode (mb 126) 49 = .ok (.iconst 3, 1) := by decide +kernel
theorem s126_49 (d : Nat) (l0 : Value) (l1 : Value) (l2 : Value) (l3 : Value) (l4 : Value) (l5 : Value) (w0 w1 w2 : Value) (σ : Hs) : ru d 126 49 [l0, l1, l2, l3, l4, l5] [w0, w1, w2] σ = ru d 126 50 [l0, l1, l2, l3, l4, l5] [.int 3, w0, w1, w2] σ := q_iconst t126_49 (by decide +kernel)
theorem t126_50 : decode (mb 126) 50 = .ok (.invokevirtual 96, 3) := by decide +kernel
theorem s126_50_o87 (d : Nat) (l0 : Value) (l1 : Value) (l2 : Value) (l3 : Value) (l4 : Value) (l5 : Value) (v1 v2 v3 : Value) (σ : Hs) : ru d 126 50 [l0, l1, l2, l3, l4, l5] [v3, v2, v1, .ref 87] σ = kont (callD d 120 [.ref 87, v1, v2, v3] σ) d 126 53 [l0, l1, l2, l3, l4, l5] [] := q_invv t126_50 mo126 K8_96 mj120 rfl rfl rfl rfl (Nat.le_of_ble_eq_true rfl)
theorem t126_53 : decode (mb 126) 53 = .ok (.aload_n 0, 1) := by decide +kernel
theorem s126_53 (d : Nat) (a0 : Nat) (l1 : Value) (l2 : Value) (l3 : Value) (l4 : Value) (l5 : Value) (σ : Hs) : ru d 126 53 [.ref a0, l1, l2, l3, l4, l5] [] σ = ru d 126 54 [.ref a0, l1, l2, l3, l4, l5] [.ref a0] σ := q_aload_n t126_53 rfl
theorem t126_54 : decode (mb 126) 54 = .ok (.iload 5, 2) := by decide +kernel
theorem s126_54 (d : Nat) (l0 : Value) (l1 : Value) (l2 : Value) (l3 : Value) (l4 : Value) (i5 : Int32) (w0 : Value) (σ : Hs) : ru d 126 54 [l0, l1, l2, l3, l4, .int i5] [w0] σ = ru d 126 56 [l0, l1, l2, l3, l4, .int i5] [.int i5, w0] σ := q_iload t126_54 rfl
theorem t126_56 : decode (mb 126) 56 = .ok (.iconst 5, 1) := by decide +kernel
theorem s126_56 (d : Nat) (l0 : Value) (l1 : Value) (l2 : Value) (l3 : Value) (l4 : Value) (l5 : Value) (w0 w1 : Value) (σ : Hs) : ru d 126 56 [l0, l1, l2, l3, l4, l5] [w0, w1] σ = ru d 126 57 [l0, l1, l2, l3, l4, l5] [.int 5, w0, w1] σ := q_iconst t126_56 (by decide +kernel)
theorem t126_57 : decode (mb 126) 57 = .ok (.iconst 0, 1) := by decide +kernel
theorem s126_57 (d : Nat) (l0 : Value) (l1 : Value) (l2 : Value) (l3 : Value) (l4 : Value) (l5 : Value) (w0 w1 w2 : Value) (σ : Hs) : ru d 126 57 [l0, l1, l2, l3, l4, l5] [w0, w1, w2] σ = ru d 126 58 [l0, l1, l2, l3, l4, l5] [.int 0, w0, w1, w2] σ := q_iconst t126_57 (by decide +kernel)
theorem t126_58 : decode (mb 126) 58 = .ok (.invokevirtual 96, 3) := by decide +kernel
theorem s126_58_o87 (d : Nat) (l0 : Value) (l1 : Value) (l2 : Value) (l3 : Value) (l4 : Value) (l5 : Value) (v1 v2 v3 : Value) (σ : Hs) : ru d 126 58 [l0, l1, l2, l3, l4, l5] [v3, v2, v1, .ref 87] σ = kont (callD d 120 [.ref 87, v1, v2, v3] σ) d 126 61 [l0, l1, l2, l3, l4, l5] [] := q_invv t126_58 mo126 K8_96 mj120 rfl rfl rfl rfl (Nat.le_of_ble_eq_true rfl)
theorem t126_61 : decode (mb 126) 61 = .ok (.aload_n 0, 1) := by decide +kernel
theorem s126_61 (d : Nat) (a0 : Nat) (l1 : Value) (l2 : Value) (l3 : Value) (l4 : Value) (l5 : Value) (σ : Hs) : ru d 126 61 [.ref a0, l1, l2, l3, l4, l5] [] σ = ru d 126 62 [.ref a0, l1, l2, l3, l4, l5] [.ref a0] σ := q_aload_n t126_61 rfl
theorem t126_62 : decode (mb 126) 62 = .ok (.iload 5, 2) := by decide +kernel
theorem s126_62 (d : Nat) (l0 : Value) (l1 : Value) (l2 : Value) (l3 : Value) (l4 : Value) (i5 : Int32) (w0 : Value) (σ : Hs) : ru d 126 62 [l0, l1, l2, l3, l4, .int i5] [w0] σ = ru d 126 64 [l0, l1, l2, l3, l4, .int i5] [.int i5, w0] σ := q_iload t126_62 rfl
theorem t126_64 : decode (mb 126) 64 = .ok (.bipush 6, 2) := by decide +kernel
theorem s126_64 (d : Nat) (l0 : Value) (l1 : Value) (l2 : Value) (l3 : Value) (l4 : Value) (l5 : Value) (w0 w1 : Value) (σ : Hs) : ru d 126 64 [l0, l1, l2, l3, l4, l5] [w0, w1] σ = ru d 126 66 [l0, l1, l2, l3, l4, l5] [.int 6, w0, w1] σ := q_bipush t126_64 (by decide +kernel)
theorem t126_66 : decode (mb 126) 66 = .ok (.iconst 0, 1) := by decide +kernel
theorem s126_66 (d : Nat) (l0 : Value) (l1 : Value) (l2 : Value) (l3 : Value) (l4 : Value) (l5 : Value) (w0 w1 w2 : Value) (σ : Hs) : ru d 126 66 [l0, l1, l2, l3, l4, l5] [w0, w1, w2] σ = ru d 126 67 [l0, l1, l2, l3, l4, l5] [.int 0, w0, w1, w2] σ := q_iconst t126_66 (by decide +kernel)
theorem t126_67 : decode (mb 126) 67 = .ok (.invokevirtual 96, 3) := by decide +kernel
theorem s126_67_o87 (d : Nat) (l0 : Value) (l1 : Value) (l2 : Value) (l3 : Value) (l4 : Value) (l5 : Value) (v1 v2 v3 : Value) (σ : Hs) : ru d 126 67 [l0, l1, l2, l3, l4, l5] [v3, v2, v1, .ref 87] σ = kont (callD d 120 [.ref 87, v1, v2, v3] σ) d 126 70 [l0, l1, l2, l3, l4, l5] [] := q_invv t126_67 mo126 K8_96 mj120 rfl rfl rfl rfl (Nat.le_of_ble_eq_true rfl)
theorem t126_70 : decode (mb 126) 70 = .ok (.iload 5, 2) := by decide +kernel
theorem s126_70 (d : Nat) (l0 : Value) (l1 : Value) (l2 : Value) (l3 : Value) (l4 : Value) (i5 : Int32) (σ : Hs) : ru d 126 70 [l0, l1, l2, l3, l4, .int i5] [] σ = ru d 126 72 [l0, l1, l2, l3, l4, .int i5] [.int i5] σ := q_iload t126_70 rfl
theorem t126_72 : decode (mb 126) 72 = .ok (.ireturn, 1) := by decide +kernel
theorem s126_72 (d : Nat) (l0 : Value) (l1 : Value) (l2 : Value) (l3 : Value) (l4 : Value) (l5 : Value) (x : Int32) (σ : Hs) : ru d 126 72 [l0, l1, l2, l3, l4, l5] [.int x] σ = some (some (.int x), σ) := q_ireti t126_72 mr126
theorem c126 (d : Nat) (x0 : Nat) (x1 : Int32) (x2 : Int32) (x3 : Int32) (x4 : Int32) (σ : Hs) : callD (d + 1) 126 [.ref x0, .int x1, .int x2, .int x3, .int x4] σ = ru d 126 0 [.ref x0, .int x1, .int x2, .int x3, .int x4, uu] [] σ := callD_ru ml126 rfl rfl (Nat.le_of_ble_eq_true rfl)
-- 127: Model.lay(IIII)I
theorem t127_0 : decode (mb 127) 0 = .ok (.aload_n 0, 1) := by decide +kernel
theorem s127_0 (d : Nat) (a0 : Nat) (l1 : Value) (l2 : Value) (l3 : Value) (l4 : Value) (σ : Hs) : ru d 127 0 [.ref a0, l1, l2, l3, l4] [] σ = ru d 127 1 [.ref a0, l1, l2, l3, l4] [.ref a0] σ := q_aload_n t127_0 rfl
theorem t127_1 : decode (mb 127) 1 = .ok (.iload_n 1, 1) := by decide +kernel
theorem s127_1 (d : Nat) (l0 : Value) (i1 : Int32) (l2 : Value) (l3 : Value) (l4 : Value) (w0 : Value) (σ : Hs) : ru d 127 1 [l0, .int i1, l2, l3, l4] [w0] σ = ru d 127 2 [l0, .int i1, l2, l3, l4] [.int i1, w0] σ := q_iload_n t127_1 rfl
theorem t127_2 : decode (mb 127) 2 = .ok (.iload_n 2, 1) := by decide +kernel
theorem s127_2 (d : Nat) (l0 : Value) (l1 : Value) (i2 : Int32) (l3 : Value) (l4 : Value) (w0 w1 : Value) (σ : Hs) : ru d 127 2 [l0, l1, .int i2, l3, l4] [w0, w1] σ = ru d 127 3 [l0, l1, .int i2, l3, l4] [.int i2, w0, w1] σ := q_iload_n t127_2 rfl
theorem t127_3 : decode (mb 127) 3 = .ok (.iload_n 3, 1) := by decide +kernel
theorem s127_3 (d : Nat) (l0 : Value) (l1 : Value) (l2 : Value) (i3 : Int32) (l4 : Value) (w0 w1 w2 : Value) (σ : Hs) : ru d 127 3 [l0, l1, l2, .int i3, l4] [w0, w1, w2] σ = ru d 127 4 [l0, l1, l2, .int i3, l4] [.int i3, w0, w1, w2] σ := q_iload_n t127_3 rfl
theorem t127_4 : decode (mb 127) 4 = .ok (.iload 4, 2) := by decide +kernel
theorem s127_4 (d : Nat) (l0 : Value) (l1 : Value) (l2 : Value) (l3 : Value) (i4 : Int32) (w0 w1 w2 w3 : Value) (σ : Hs) : ru d 127 4 [l0, l1, l2, l3, .int i4] [w0, w1, w2, w3] σ = ru d 127 6 [l0, l1, l2, l3, .int i4] [.int i4, w0, w1, w2, w3] σ := q_iload t127_4 rfl
theorem t127_6 : decode (mb 127) 6 = .ok (.invokevirtual 100, 3) := by decide +kernel
theorem s127_6_o87 (d : Nat) (l0 : Value) (l1 : Value) (l2 : Value) (l3 : Value) (l4 : Value) (v1 v2 v3 v4 : Value) (σ : Hs) : ru d 127 6 [l0, l1, l2, l3, l4] [v4, v3, v2, v1, .ref 87] σ = kont (callD d 125 [.ref 87, v1, v2, v3, v4] σ) d 127 9 [l0, l1, l2, l3, l4] [] := q_invv t127_6 mo127 K8_100 mj125 rfl rfl rfl rfl (Nat.le_of_ble_eq_true rfl)
theorem t127_9 : decode (mb 127) 9 = .ok (.ifCond .ne 10, 3) := by decide +kernel
theorem s127_9 (d : Nat) (l0 : Value) (l1 : Value) (l2 : Value) (l3 : Value) (l4 : Value) (x : Int32) (σ : Hs) : ru d 127 9 [l0, l1, l2, l3, l4] [.int x] σ = if x = 0 then ru d 127 12 [l0, l1, l2, l3, l4] [] σ else ru d 127 19 [l0, l1, l2, l3, l4] [] σ := q_if_ne t127_9 (by decide +kernel)
theorem t127_12 : decode (mb 127) 12 = .ok (.aload_n 0, 1) := by decide +kernel
theorem s127_12 (d : Nat) (a0 : Nat) (l1 : Value) (l2 : Value) (l3 : Value) (l4 : Value) (σ : Hs) : ru d 127 12 [.ref a0, l1, l2, l3, l4] [] σ = ru d 127 13 [.ref a0, l1, l2, l3, l4] [.ref a0] σ := q_aload_n t127_12 rfl
theorem t127_13 : decode (mb 127) 13 = .ok (.ldc 104, 2) := by decide +kernel
theorem s127_13 (d : Nat) (l0 : Value) (l1 : Value) (l2 : Value) (l3 : Value) (l4 : Value) (w0 : Value) (σ : Hs) : ru d 127 13 [l0, l1, l2, l3, l4] [w0] σ = ru d 127 15 [l0, l1, l2, l3, l4] [.int (-1000001), w0] σ := q_ldc t127_13 mo127 C8_104
theorem t127_15 : decode (mb 127) 15 = .ok (.invokevirtual 105, 3) := by decide +kernel
theorem s127_15_o87 (d : Nat) (l0 : Value) (l1 : Value) (l2 : Value) (l3 : Value) (l4 : Value) (v1 : Value) (σ : Hs) : ru d 127 15 [l0, l1, l2, l3, l4] [v1, .ref 87] σ = kont (callD d 112 [.ref 87, v1] σ) d 127 18 [l0, l1, l2, l3, l4] [] := q_invv t127_15 mo127 K8_105 mj112 rfl rfl rfl rfl (Nat.le_of_ble_eq_true rfl)
theorem t127_18 : decode (mb 127) 18 = .ok (.ireturn, 1) := by decide +kernel
theorem s127_18 (d : Nat) (l0 : Value) (l1 : Value) (l2 : Value) (l3 : Value) (l4 : Value) (x : Int32) (σ : Hs) : ru d 127 18 [l0, l1, l2, l3, l4] [.int x] σ = some (some (.int x), σ) := q_ireti t127_18 mr127
theorem t127_19 : decode (mb 127) 19 = .ok (.aload_n 0, 1) := by decide +kernel
theorem s127_19 (d : Nat) (a0 : Nat) (l1 : Value) (l2 : Value) (l3 : Value) (l4 : Value) (σ : Hs) : ru d 127 19 [.ref a0, l1, l2, l3, l4] [] σ = ru d 127 20 [.ref a0, l1, l2, l3, l4] [.ref a0] σ := q_aload_n t127_19 rfl
theorem t127_20 : decode (mb 127) 20 = .ok (.iload_n 2, 1) := by decide +kernel
theorem s127_20 (d : Nat) (l0 : Value) (l1 : Value) (i2 : Int32) (l3 : Value) (l4 : Value) (w0 : Value) (σ : Hs) : ru d 127 20 [l0, l1, .int i2, l3, l4] [w0] σ = ru d 127 21 [l0, l1, .int i2, l3, l4] [.int i2, w0] σ := q_iload_n t127_20 rfl
theorem t127_21 : decode (mb 127) 21 = .ok (.invokevirtual 92, 3) := by decide +kernel
theorem s127_21_o87 (d : Nat) (l0 : Value) (l1 : Value) (l2 : Value) (l3 : Value) (l4 : Value) (v1 : Value) (σ : Hs) : ru d 127 21 [l0, l1, l2, l3, l4] [v1, .ref 87] σ = kont (callD d 124 [.ref 87, v1] σ) d 127 24 [l0, l1, l2, l3, l4] [] := q_invv t127_21 mo127 K8_92 mj124 rfl rfl rfl rfl (Nat.le_of_ble_eq_true rfl)
theorem t127_24 : decode (mb 127) 24 = .ok (.iconst 5, 1) := by decide +kernel
theorem s127_24 (d : Nat) (l0 : Value) (l1 : Value) (l2 : Value) (l3 : Value) (l4 : Value) (w0 : Value) (σ : Hs) : ru d 127 24 [l0, l1, l2, l3, l4] [w0] σ = ru d 127 25 [l0, l1, l2, l3, l4] [.int 5, w0] σ := q_iconst t127_24 (by decide +kernel)
theorem t127_25 : decode (mb 127) 25 = .ok (.if_icmp .ne 12, 3) := by decide +kernel
theorem s127_25 (d : Nat) (l0 : Value) (l1 : Value) (l2 : Value) (l3 : Value) (l4 : Value) (x y : Int32) (σ : Hs) : ru d 127 25 [l0, l1, l2, l3, l4] [.int y, .int x] σ = if x = y then ru d 127 28 [l0, l1, l2, l3, l4] [] σ else ru d 127 37 [l0, l1, l2, l3, l4] [] σ := q_ic_ne t127_25 (by decide +kernel)
theorem t127_28 : decode (mb 127) 28 = .ok (.aload_n 0, 1) := by decide +kernel
theorem s127_28 (d : Nat) (a0 : Nat) (l1 : Value) (l2 : Value) (l3 : Value) (l4 : Value) (σ : Hs) : ru d 127 28 [.ref a0, l1, l2, l3, l4] [] σ = ru d 127 29 [.ref a0, l1, l2, l3, l4] [.ref a0] σ := q_aload_n t127_28 rfl
theorem t127_29 : decode (mb 127) 29 = .ok (.ldc 108, 2) := by decide +kernel
theorem s127_29 (d : Nat) (l0 : Value) (l1 : Value) (l2 : Value) (l3 : Value) (l4 : Value) (w0 : Value) (σ : Hs) : ru d 127 29 [l0, l1, l2, l3, l4] [w0] σ = ru d 127 31 [l0, l1, l2, l3, l4] [.int (-1000004), w0] σ := q_ldc t127_29 mo127 C8_108
theorem t127_31 : decode (mb 127) 31 = .ok (.invokevirtual 105, 3) := by decide +kernel
theorem s127_31_o87 (d : Nat) (l0 : Value) (l1 : Value) (l2 : Value) (l3 : Value) (l4 : Value) (v1 : Value) (σ : Hs) : ru d 127 31 [l0, l1, l2, l3, l4] [v1, .ref 87] σ = kont (callD d 112 [.ref 87, v1] σ) d 127 34 [l0, l1, l2, l3, l4] [] := q_invv t127_31 mo127 K8_105 mj112 rfl rfl rfl rfl (Nat.le_of_ble_eq_true rfl)
theorem t127_34 : decode (mb 127) 34 = .ok (.goto 12, 3) := by decide +kernel
theorem s127_34 (d : Nat) (l0 : Value) (l1 : Value) (l2 : Value) (l3 : Value) (l4 : Value) (w0 : Value) (σ : Hs) : ru d 127 34 [l0, l1, l2, l3, l4] [w0] σ = ru d 127 46 [l0, l1, l2, l3, l4] [w0] σ := q_goto t127_34 (by decide +kernel)
theorem t127_37 : decode (mb 127) 37 = .ok (.aload_n 0, 1) := by decide +kernel
theorem s127_37 (d : Nat) (a0 : Nat) (l1 : Value) (l2 : Value) (l3 : Value) (l4 : Value) (σ : Hs) : ru d 127 37 [.ref a0, l1, l2, l3, l4] [] σ = ru d 127 38 [.ref a0, l1, l2, l3, l4] [.ref a0] σ := q_aload_n t127_37 rfl
theorem t127_38 : decode (mb 127) 38 = .ok (.iload_n 1, 1) := by decide +kernel
theorem s127_38 (d : Nat) (l0 : Value) (i1 : Int32) (l2 : Value) (l3 : Value) (l4 : Value) (w0 : Value) (σ : Hs) : ru d 127 38 [l0, .int i1, l2, l3, l4] [w0] σ = ru d 127 39 [l0, .int i1, l2, l3, l4] [.int i1, w0] σ := q_iload_n t127_38 rfl
theorem t127_39 : decode (mb 127) 39 = .ok (.iload_n 2, 1) := by decide +kernel
theorem s127_39 (d : Nat) (l0 : Value) (l1 : Value) (i2 : Int32) (l3 : Value) (l4 : Value) (w0 w1 : Value) (σ : Hs) : ru d 127 39 [l0, l1, .int i2, l3, l4] [w0, w1] σ = ru d 127 40 [l0, l1, .int i2, l3, l4] [.int i2, w0, w1] σ := q_iload_n t127_39 rfl
theorem t127_40 : decode (mb 127) 40 = .ok (.iload_n 3, 1) := by decide +kernel
theorem s127_40 (d : Nat) (l0 : Value) (l1 : Value) (l2 : Value) (i3 : Int32) (l4 : Value) (w0 w1 w2 : Value) (σ : Hs) : ru d 127 40 [l0, l1, l2, .int i3, l4] [w0, w1, w2] σ = ru d 127 41 [l0, l1, l2, .int i3, l4] [.int i3, w0, w1, w2] σ := q_iload_n t127_40 rfl
theorem t127_41 : decode (mb 127) 41 = .ok (.iload 4, 2) := by decide +kernel
theorem s127_41 (d : Nat) (l0 : Value) (l1 : Value) (l2 : Value) (l3 : Value) (i4 : Int32) (w0 w1 w2 w3 : Value) (σ : Hs) : ru d 127 41 [l0, l1, l2, l3, .int i4] [w0, w1, w2, w3] σ = ru d 127 43 [l0, l1, l2, l3, .int i4] [.int i4, w0, w1, w2, w3] σ := q_iload t127_41 rfl
theorem t127_43 : decode (mb 127) 43 = .ok (.invokevirtual 109, 3) := by decide +kernel
theorem s127_43_o87 (d : Nat) (l0 : Value) (l1 : Value) (l2 : Value) (l3 : Value) (l4 : Value) (v1 v2 v3 v4 : Value) (σ : Hs) : ru d 127 43 [l0, l1, l2, l3, l4] [v4, v3, v2, v1, .ref 87] σ = kont (callD d 126 [.ref 87, v1, v2, v3, v4] σ) d 127 46 [l0, l1, l2, l3, l4] [] := q_invv t127_43 mo127 K8_109 mj126 rfl rfl rfl rfl (Nat.le_of_ble_eq_true rfl)
theorem t127_46 : decode (mb 127) 46 = .ok (.ireturn, 1) := by decide +kernel
theorem s127_46 (d : Nat) (l0 : Value) (l1 : Value) (l2 : Value) (l3 : Value) (l4 : Value) (x : Int32) (σ : Hs) : ru d 127 46 [l0, l1, l2, l3, l4] [.int x] σ = some (some (.int x), σ) := q_ireti t127_46 mr127
theorem c127 (d : Nat) (x0 : Nat) (x1 : Int32) (x2 : Int32) (x3 : Int32) (x4 : Int32) (σ : Hs) : callD (d + 1) 127 [.ref x0, .int x1, .int x2, .int x3, .int x4] σ = ru d 127 0 [.ref x0, .int x1, .int x2, .int x3, .int x4] [] σ := callD_ru ml127 rfl rfl (Nat.le_of_ble_eq_true rfl)
-- 128: Model.goes(I)V
theorem t128_0 : decode (mb 128) 0 = .ok (.iload_n 1, 1) := by decide +kernel
theorem s128_0 (d : Nat) (l0 : Value) (i1 : Int32) (l2 : Value) (l3 : Value) (σ : Hs) : ru d 128 0 [l0, .int i1, l2, l3] [] σ = ru d 128 1 [l0, .int i1, l2, l3] [.int i1] σ := q_iload_n t128_0 rfl
theorem t128_1 : decode (mb 128) 1 = .ok (.istore_n 2, 1) := by decide +kernel
theorem s128_1 (d : Nat) (l0 : Value) (i1 : Int32) (l2 : Value) (l3 : Value) (x : Int32) (σ : Hs) : ru d 128 1 [l0, .int i1, l2, l3] [.int x] σ = ru d 128 2 [l0, .int i1, .int x, l3] [] σ := q_istore_n t128_1 ⟨Nat.le_of_ble_eq_true rfl, rfl⟩ rfl
theorem t128_2 : decode (mb 128) 2 = .ok (.iload_n 2, 1) := by decide +kernel
theorem s128_2 (d : Nat) (l0 : Value) (l1 : Value) (i2 : Int32) (l3 : Value) (σ : Hs) : ru d 128 2 [l0, l1, .int i2, l3] [] σ = ru d 128 3 [l0, l1, .int i2, l3] [.int i2] σ := q_iload_n t128_2 rfl
theorem t128_3 : decode (mb 128) 3 = .ok (.bipush 30, 2) := by decide +kernel
theorem s128_3 (d : Nat) (l0 : Value) (l1 : Value) (l2 : Value) (l3 : Value) (w0 : Value) (σ : Hs) : ru d 128 3 [l0, l1, l2, l3] [w0] σ = ru d 128 5 [l0, l1, l2, l3] [.int 30, w0] σ := q_bipush t128_3 (by decide +kernel)
theorem t128_5 : decode (mb 128) 5 = .ok (.if_icmp .ge 51, 3) := by decide +kernel
theorem s128_5 (d : Nat) (l0 : Value) (l1 : Value) (l2 : Value) (l3 : Value) (x y : Int32) (σ : Hs) : ru d 128 5 [l0, l1, l2, l3] [.int y, .int x] σ = if y ≤ x then ru d 128 56 [l0, l1, l2, l3] [] σ else ru d 128 8 [l0, l1, l2, l3] [] σ := q_ic_ge t128_5 (by decide +kernel)
theorem t128_8 : decode (mb 128) 8 = .ok (.iconst 0, 1) := by decide +kernel
theorem s128_8 (d : Nat) (l0 : Value) (l1 : Value) (l2 : Value) (l3 : Value) (σ : Hs) : ru d 128 8 [l0, l1, l2, l3] [] σ = ru d 128 9 [l0, l1, l2, l3] [.int 0] σ := q_iconst t128_8 (by decide +kernel)
theorem t128_9 : decode (mb 128) 9 = .ok (.istore_n 3, 1) := by decide +kernel
theorem s128_9 (d : Nat) (l0 : Value) (l1 : Value) (i2 : Int32) (l3 : Value) (x : Int32) (σ : Hs) : ru d 128 9 [l0, l1, .int i2, l3] [.int x] σ = ru d 128 10 [l0, l1, .int i2, .int x] [] σ := q_istore_n t128_9 ⟨Nat.le_of_ble_eq_true rfl, rfl⟩ rfl
theorem t128_10 : decode (mb 128) 10 = .ok (.iload_n 3, 1) := by decide +kernel
theorem s128_10 (d : Nat) (l0 : Value) (l1 : Value) (l2 : Value) (i3 : Int32) (σ : Hs) : ru d 128 10 [l0, l1, l2, .int i3] [] σ = ru d 128 11 [l0, l1, l2, .int i3] [.int i3] σ := q_iload_n t128_10 rfl
theorem t128_11 : decode (mb 128) 11 = .ok (.bipush 7, 2) := by decide +kernel
theorem s128_11 (d : Nat) (l0 : Value) (l1 : Value) (l2 : Value) (l3 : Value) (w0 : Value) (σ : Hs) : ru d 128 11 [l0, l1, l2, l3] [w0] σ = ru d 128 13 [l0, l1, l2, l3] [.int 7, w0] σ := q_bipush t128_11 (by decide +kernel)
theorem t128_13 : decode (mb 128) 13 = .ok (.if_icmp .ge 37, 3) := by decide +kernel
theorem s128_13 (d : Nat) (l0 : Value) (l1 : Value) (l2 : Value) (l3 : Value) (x y : Int32) (σ : Hs) : ru d 128 13 [l0, l1, l2, l3] [.int y, .int x] σ = if y ≤ x then ru d 128 50 [l0, l1, l2, l3] [] σ else ru d 128 16 [l0, l1, l2, l3] [] σ := q_ic_ge t128_13 (by decide +kernel)
theorem t128_16 : decode (mb 128) 16 = .ok (.aload_n 0, 1) := by decide +kernel
theorem s128_16 (d : Nat) (a0 : Nat) (l1 : Value) (l2 : Value) (l3 : Value) (σ : Hs) : ru d 128 16 [.ref a0, l1, l2, l3] [] σ = ru d 128 17 [.ref a0, l1, l2, l3] [.ref a0] σ := q_aload_n t128_16 rfl
theorem t128_17 : decode (mb 128) 17 = .ok (.iload_n 2, 1) := by decide +kernel
theorem s128_17 (d : Nat) (l0 : Value) (l1 : Value) (i2 : Int32) (l3 : Value) (w0 : Value) (σ : Hs) : ru d 128 17 [l0, l1, .int i2, l3] [w0] σ = ru d 128 18 [l0, l1, .int i2, l3] [.int i2, w0] σ := q_iload_n t128_17 rfl
theorem t128_18 : decode (mb 128) 18 = .ok (.iload_n 3, 1) := by decide +kernel
theorem s128_18 (d : Nat) (l0 : Value) (l1 : Value) (l2 : Value) (i3 : Int32) (w0 w1 : Value) (σ : Hs) : ru d 128 18 [l0, l1, l2, .int i3] [w0, w1] σ = ru d 128 19 [l0, l1, l2, .int i3] [.int i3, w0, w1] σ := q_iload_n t128_18 rfl
theorem t128_19 : decode (mb 128) 19 = .ok (.iload_n 2, 1) := by decide +kernel
theorem s128_19 (d : Nat) (l0 : Value) (l1 : Value) (i2 : Int32) (l3 : Value) (w0 w1 w2 : Value) (σ : Hs) : ru d 128 19 [l0, l1, .int i2, l3] [w0, w1, w2] σ = ru d 128 20 [l0, l1, .int i2, l3] [.int i2, w0, w1, w2] σ := q_iload_n t128_19 rfl
theorem t128_20 : decode (mb 128) 20 = .ok (.bipush 6, 2) := by decide +kernel
theorem s128_20 (d : Nat) (l0 : Value) (l1 : Value) (l2 : Value) (l3 : Value) (w0 w1 w2 w3 : Value) (σ : Hs) : ru d 128 20 [l0, l1, l2, l3] [w0, w1, w2, w3] σ = ru d 128 22 [l0, l1, l2, l3] [.int 6, w0, w1, w2, w3] σ := q_bipush t128_20 (by decide +kernel)
theorem t128_22 : decode (mb 128) 22 = .ok (.iadd, 1) := by decide +kernel
theorem s128_22 (d : Nat) (l0 : Value) (l1 : Value) (l2 : Value) (l3 : Value) (x y : Int32) (w0 w1 w2 : Value) (σ : Hs) : ru d 128 22 [l0, l1, l2, l3] [.int y, .int x, w0, w1, w2] σ = ru d 128 23 [l0, l1, l2, l3] [.int (x + y), w0, w1, w2] σ := q_iadd t128_22
theorem t128_23 : decode (mb 128) 23 = .ok (.bipush 30, 2) := by decide +kernel
theorem s128_23 (d : Nat) (l0 : Value) (l1 : Value) (l2 : Value) (l3 : Value) (w0 w1 w2 w3 : Value) (σ : Hs) : ru d 128 23 [l0, l1, l2, l3] [w0, w1, w2, w3] σ = ru d 128 25 [l0, l1, l2, l3] [.int 30, w0, w1, w2, w3] σ := q_bipush t128_23 (by decide +kernel)
theorem t128_25 : decode (mb 128) 25 = .ok (.if_icmp .ge 15, 3) := by decide +kernel
theorem s128_25 (d : Nat) (l0 : Value) (l1 : Value) (l2 : Value) (l3 : Value) (x y : Int32) (w0 w1 w2 : Value) (σ : Hs) : ru d 128 25 [l0, l1, l2, l3] [.int y, .int x, w0, w1, w2] σ = if y ≤ x then ru d 128 40 [l0, l1, l2, l3] [w0, w1, w2] σ else ru d 128 28 [l0, l1, l2, l3] [w0, w1, w2] σ := q_ic_ge t128_25 (by decide +kernel)
theorem t128_28 : decode (mb 128) 28 = .ok (.aload_n 0, 1) := by decide +kernel
theorem s128_28 (d : Nat) (a0 : Nat) (l1 : Value) (l2 : Value) (l3 : Value) (w0 w1 w2 : Value) (σ : Hs) : ru d 128 28 [.ref a0, l1, l2, l3] [w0, w1, w2] σ = ru d 128 29 [.ref a0, l1, l2, l3] [.ref a0, w0, w1, w2] σ := q_aload_n t128_28 rfl
theorem t128_29 : decode (mb 128) 29 = .ok (.iload_n 2, 1) := by decide +kernel
theorem s128_29 (d : Nat) (l0 : Value) (l1 : Value) (i2 : Int32) (l3 : Value) (w0 w1 w2 w3 : Value) (σ : Hs) : ru d 128 29 [l0, l1, .int i2, l3] [w0, w1, w2, w3] σ = ru d 128 30 [l0, l1, .int i2, l3] [.int i2, w0, w1, w2, w3] σ := q_iload_n t128_29 rfl
theorem t128_30 : decode (mb 128) 30 = .ok (.bipush 6, 2) := by decide +kernel
theorem s128_30 (d : Nat) (l0 : Value) (l1 : Value) (l2 : Value) (l3 : Value) (w0 w1 w2 w3 w4 : Value) (σ : Hs) : ru d 128 30 [l0, l1, l2, l3] [w0, w1, w2, w3, w4] σ = ru d 128 32 [l0, l1, l2, l3] [.int 6, w0, w1, w2, w3, w4] σ := q_bipush t128_30 (by decide +kernel)
theorem t128_32 : decode (mb 128) 32 = .ok (.iadd, 1) := by decide +kernel
theorem s128_32 (d : Nat) (l0 : Value) (l1 : Value) (l2 : Value) (l3 : Value) (x y : Int32) (w0 w1 w2 w3 : Value) (σ : Hs) : ru d 128 32 [l0, l1, l2, l3] [.int y, .int x, w0, w1, w2, w3] σ = ru d 128 33 [l0, l1, l2, l3] [.int (x + y), w0, w1, w2, w3] σ := q_iadd t128_32
theorem t128_33 : decode (mb 128) 33 = .ok (.iload_n 3, 1) := by decide +kernel
theorem s128_33 (d : Nat) (l0 : Value) (l1 : Value) (l2 : Value) (i3 : Int32) (w0 w1 w2 w3 w4 : Value) (σ : Hs) : ru d 128 33 [l0, l1, l2, .int i3] [w0, w1, w2, w3, w4] σ = ru d 128 34 [l0, l1, l2, .int i3] [.int i3, w0, w1, w2, w3, w4] σ := q_iload_n t128_33 rfl
theorem t128_34 : decode (mb 128) 34 = .ok (.invokevirtual 85, 3) := by decide +kernel
theorem s128_34_o87 (d : Nat) (l0 : Value) (l1 : Value) (l2 : Value) (l3 : Value) (v1 v2 : Value) (w0 : Int32) (w1 : Int32) (w2 : Nat) (σ : Hs) : ru d 128 34 [l0, l1, l2, l3] [v2, v1, .ref 87, .int w0, .int w1, .ref w2] σ = kont (callD d 119 [.ref 87, v1, v2] σ) d 128 37 [l0, l1, l2, l3] [.int w0, .int w1, .ref w2] := q_invv t128_34 mo128 K8_85 mj119 rfl rfl rfl rfl (Nat.le_of_ble_eq_true rfl)
theorem t128_37 : decode (mb 128) 37 = .ok (.goto 4, 3) := by decide +kernel
theorem s128_37 (d : Nat) (l0 : Value) (l1 : Value) (l2 : Value) (l3 : Value) (w0 w1 w2 w3 : Value) (σ : Hs) : ru d 128 37 [l0, l1, l2, l3] [w0, w1, w2, w3] σ = ru d 128 41 [l0, l1, l2, l3] [w0, w1, w2, w3] σ := q_goto t128_37 (by decide +kernel)
theorem t128_40 : decode (mb 128) 40 = .ok (.iconst 0, 1) := by decide +kernel
theorem s128_40 (d : Nat) (l0 : Value) (l1 : Value) (l2 : Value) (l3 : Value) (w0 w1 w2 : Value) (σ : Hs) : ru d 128 40 [l0, l1, l2, l3] [w0, w1, w2] σ = ru d 128 41 [l0, l1, l2, l3] [.int 0, w0, w1, w2] σ := q_iconst t128_40 (by decide +kernel)
theorem t128_41 : decode (mb 128) 41 = .ok (.invokevirtual 96, 3) := by decide +kernel
theorem s128_41_o87 (d : Nat) (l0 : Value) (l1 : Value) (l2 : Value) (l3 : Value) (v1 v2 v3 : Value) (σ : Hs) : ru d 128 41 [l0, l1, l2, l3] [v3, v2, v1, .ref 87] σ = kont (callD d 120 [.ref 87, v1, v2, v3] σ) d 128 44 [l0, l1, l2, l3] [] := q_invv t128_41 mo128 K8_96 mj120 rfl rfl rfl rfl (Nat.le_of_ble_eq_true rfl)
theorem t128_44 : decode (mb 128) 44 = .ok (.iinc 3 1, 3) := by decide +kernel
theorem s128_44 (d : Nat) (l0 : Value) (l1 : Value) (i2 : Int32) (i3 : Int32) (σ : Hs) : ru d 128 44 [l0, l1, .int i2, .int i3] [] σ = ru d 128 47 [l0, l1, .int i2, .int (i3 + 1)] [] σ := q_iinc t128_44 ⟨Nat.le_of_ble_eq_true rfl, rfl⟩ rfl (by decide +kernel) rfl
theorem t128_47 : decode (mb 128) 47 = .ok (.goto (-37), 3) := by decide +kernel
theorem s128_47 (d : Nat) (l0 : Value) (l1 : Value) (l2 : Value) (l3 : Value) (σ : Hs) : ru d 128 47 [l0, l1, l2, l3] [] σ = ru d 128 10 [l0, l1, l2, l3] [] σ := q_goto t128_47 (by decide +kernel)
theorem t128_50 : decode (mb 128) 50 = .ok (.iinc 2 6, 3) := by decide +kernel
theorem s128_50 (d : Nat) (l0 : Value) (i1 : Int32) (i2 : Int32) (l3 : Value) (σ : Hs) : ru d 128 50 [l0, .int i1, .int i2, l3] [] σ = ru d 128 53 [l0, .int i1, .int (i2 + 6), l3] [] σ := q_iinc t128_50 ⟨Nat.le_of_ble_eq_true rfl, rfl⟩ rfl (by decide +kernel) rfl
theorem t128_53 : decode (mb 128) 53 = .ok (.goto (-51), 3) := by decide +kernel
theorem s128_53 (d : Nat) (l0 : Value) (l1 : Value) (l2 : Value) (l3 : Value) (σ : Hs) : ru d 128 53 [l0, l1, l2, l3] [] σ = ru d 128 2 [l0, l1, l2, l3] [] σ := q_goto t128_53 (by decide +kernel)
theorem t128_56 : decode (mb 128) 56 = .ok (.return_, 1) := by decide +kernel
theorem s128_56 (d : Nat) (l0 : Value) (l1 : Value) (l2 : Value) (l3 : Value) (σ : Hs) : ru d 128 56 [l0, l1, l2, l3] [] σ = some (none, σ) := q_vret t128_56 mr128
theorem c128 (d : Nat) (x0 : Nat) (x1 : Int32) (σ : Hs) : callD (d + 1) 128 [.ref x0, .int x1] σ = ru d 128 0 [.ref x0, .int x1, uu, uu] [] σ := callD_ru ml128 rfl rfl (Nat.le_of_ble_eq_true rfl)
-- 129: Model.take(I)I
theorem t129_0 : decode (mb 129) 0 = .ok (.iload_n 1, 1) := by decide +kernel
theorem s129_0 (d : Nat) (l0 : Value) (i1 : Int32) (l2 : Value) (σ : Hs) : ru d 129 0 [l0, .int i1, l2] [] σ = ru d 129 1 [l0, .int i1, l2] [.int i1] σ := q_iload_n t129_0 rfl
theorem t129_1 : decode (mb 129) 1 = .ok (.invokestatic 113, 3) := by decide +kernel
theorem s129_1 (d : Nat) (l0 : Value) (l1 : Value) (l2 : Value) (v0 : Value) (σ : Hs) : ru d 129 1 [l0, l1, l2] [v0] σ = kont (callD d 121 [v0] σ) d 129 4 [l0, l1, l2] [] := q_invs t129_1 mo129 (by decide +kernel) K8_113 mj121 (Nat.le_of_ble_eq_true rfl) rfl rfl (Nat.le_of_ble_eq_true rfl)
theorem t129_4 : decode (mb 129) 4 = .ok (.ifCond .ne 10, 3) := by decide +kernel
theorem s129_4 (d : Nat) (l0 : Value) (l1 : Value) (l2 : Value) (x : Int32) (σ : Hs) : ru d 129 4 [l0, l1, l2] [.int x] σ = if x = 0 then ru d 129 7 [l0, l1, l2] [] σ else ru d 129 14 [l0, l1, l2] [] σ := q_if_ne t129_4 (by decide +kernel)
theorem t129_7 : decode (mb 129) 7 = .ok (.aload_n 0, 1) := by decide +kernel
theorem s129_7 (d : Nat) (a0 : Nat) (l1 : Value) (l2 : Value) (σ : Hs) : ru d 129 7 [.ref a0, l1, l2] [] σ = ru d 129 8 [.ref a0, l1, l2] [.ref a0] σ := q_aload_n t129_7 rfl
theorem t129_8 : decode (mb 129) 8 = .ok (.ldc 104, 2) := by decide +kernel
theorem s129_8 (d : Nat) (l0 : Value) (l1 : Value) (l2 : Value) (w0 : Value) (σ : Hs) : ru d 129 8 [l0, l1, l2] [w0] σ = ru d 129 10 [l0, l1, l2] [.int (-1000001), w0] σ := q_ldc t129_8 mo129 C8_104
theorem t129_10 : decode (mb 129) 10 = .ok (.invokevirtual 105, 3) := by decide +kernel
theorem s129_10_o87 (d : Nat) (l0 : Value) (l1 : Value) (l2 : Value) (v1 : Value) (σ : Hs) : ru d 129 10 [l0, l1, l2] [v1, .ref 87] σ = kont (callD d 112 [.ref 87, v1] σ) d 129 13 [l0, l1, l2] [] := q_invv t129_10 mo129 K8_105 mj112 rfl rfl rfl rfl (Nat.le_of_ble_eq_true rfl)
theorem t129_13 : decode (mb 129) 13 = .ok (.ireturn, 1) := by decide +kernel
theorem s129_13 (d : Nat) (l0 : Value) (l1 : Value) (l2 : Value) (x : Int32) (σ : Hs) : ru d 129 13 [l0, l1, l2] [.int x] σ = some (some (.int x), σ) := q_ireti t129_13 mr129
theorem t129_14 : decode (mb 129) 14 = .ok (.aload_n 0, 1) := by decide +kernel
theorem s129_14 (d : Nat) (a0 : Nat) (l1 : Value) (l2 : Value) (σ : Hs) : ru d 129 14 [.ref a0, l1, l2] [] σ = ru d 129 15 [.ref a0, l1, l2] [.ref a0] σ := q_aload_n t129_14 rfl
theorem t129_15 : decode (mb 129) 15 = .ok (.iload_n 1, 1) := by decide +kernel
theorem s129_15 (d : Nat) (l0 : Value) (i1 : Int32) (l2 : Value) (w0 : Value) (σ : Hs) : ru d 129 15 [l0, .int i1, l2] [w0] σ = ru d 129 16 [l0, .int i1, l2] [.int i1, w0] σ := q_iload_n t129_15 rfl
theorem t129_16 : decode (mb 129) 16 = .ok (.invokevirtual 88, 3) := by decide +kernel
theorem s129_16_o87 (d : Nat) (l0 : Value) (l1 : Value) (l2 : Value) (v1 : Value) (σ : Hs) : ru d 129 16 [l0, l1, l2] [v1, .ref 87] σ = kont (callD d 122 [.ref 87, v1] σ) d 129 19 [l0, l1, l2] [] := q_invv t129_16 mo129 K8_88 mj122 rfl rfl rfl rfl (Nat.le_of_ble_eq_true rfl)
theorem t129_19 : decode (mb 129) 19 = .ok (.ifCond .ne 10, 3) := by decide +kernel
theorem s129_19 (d : Nat) (l0 : Value) (l1 : Value) (l2 : Value) (x : Int32) (σ : Hs) : ru d 129 19 [l0, l1, l2] [.int x] σ = if x = 0 then ru d 129 22 [l0, l1, l2] [] σ else ru d 129 29 [l0, l1, l2] [] σ := q_if_ne t129_19 (by decide +kernel)
theorem t129_22 : decode (mb 129) 22 = .ok (.aload_n 0, 1) := by decide +kernel
theorem s129_22 (d : Nat) (a0 : Nat) (l1 : Value) (l2 : Value) (σ : Hs) : ru d 129 22 [.ref a0, l1, l2] [] σ = ru d 129 23 [.ref a0, l1, l2] [.ref a0] σ := q_aload_n t129_22 rfl
theorem t129_23 : decode (mb 129) 23 = .ok (.ldc 116, 2) := by decide +kernel
theorem s129_23 (d : Nat) (l0 : Value) (l1 : Value) (l2 : Value) (w0 : Value) (σ : Hs) : ru d 129 23 [l0, l1, l2] [w0] σ = ru d 129 25 [l0, l1, l2] [.int (-1000002), w0] σ := q_ldc t129_23 mo129 C8_116
theorem t129_25 : decode (mb 129) 25 = .ok (.invokevirtual 105, 3) := by decide +kernel
theorem s129_25_o87 (d : Nat) (l0 : Value) (l1 : Value) (l2 : Value) (v1 : Value) (σ : Hs) : ru d 129 25 [l0, l1, l2] [v1, .ref 87] σ = kont (callD d 112 [.ref 87, v1] σ) d 129 28 [l0, l1, l2] [] := q_invv t129_25 mo129 K8_105 mj112 rfl rfl rfl rfl (Nat.le_of_ble_eq_true rfl)
theorem t129_28 : decode (mb 129) 28 = .ok (.ireturn, 1) := by decide +kernel
theorem s129_28 (d : Nat) (l0 : Value) (l1 : Value) (l2 : Value) (x : Int32) (σ : Hs) : ru d 129 28 [l0, l1, l2] [.int x] σ = some (some (.int x), σ) := q_ireti t129_28 mr129
theorem t129_29 : decode (mb 129) 29 = .ok (.aload_n 0, 1) := by decide +kernel
theorem s129_29 (d : Nat) (a0 : Nat) (l1 : Value) (l2 : Value) (σ : Hs) : ru d 129 29 [.ref a0, l1, l2] [] σ = ru d 129 30 [.ref a0, l1, l2] [.ref a0] σ := q_aload_n t129_29 rfl
theorem t129_30 : decode (mb 129) 30 = .ok (.iload_n 1, 1) := by decide +kernel
theorem s129_30 (d : Nat) (l0 : Value) (i1 : Int32) (l2 : Value) (w0 : Value) (σ : Hs) : ru d 129 30 [l0, .int i1, l2] [w0] σ = ru d 129 31 [l0, .int i1, l2] [.int i1, w0] σ := q_iload_n t129_30 rfl
theorem t129_31 : decode (mb 129) 31 = .ok (.iconst 2, 1) := by decide +kernel
theorem s129_31 (d : Nat) (l0 : Value) (l1 : Value) (l2 : Value) (w0 w1 : Value) (σ : Hs) : ru d 129 31 [l0, l1, l2] [w0, w1] σ = ru d 129 32 [l0, l1, l2] [.int 2, w0, w1] σ := q_iconst t129_31 (by decide +kernel)
theorem t129_32 : decode (mb 129) 32 = .ok (.invokevirtual 85, 3) := by decide +kernel
theorem s129_32_o87 (d : Nat) (l0 : Value) (l1 : Value) (l2 : Value) (v1 v2 : Value) (σ : Hs) : ru d 129 32 [l0, l1, l2] [v2, v1, .ref 87] σ = kont (callD d 119 [.ref 87, v1, v2] σ) d 129 35 [l0, l1, l2] [] := q_invv t129_32 mo129 K8_85 mj119 rfl rfl rfl rfl (Nat.le_of_ble_eq_true rfl)
theorem t129_35 : decode (mb 129) 35 = .ok (.istore_n 2, 1) := by decide +kernel
theorem s129_35 (d : Nat) (l0 : Value) (i1 : Int32) (l2 : Value) (x : Int32) (σ : Hs) : ru d 129 35 [l0, .int i1, l2] [.int x] σ = ru d 129 36 [l0, .int i1, .int x] [] σ := q_istore_n t129_35 ⟨Nat.le_of_ble_eq_true rfl, rfl⟩ rfl
theorem t129_36 : decode (mb 129) 36 = .ok (.aload_n 0, 1) := by decide +kernel
theorem s129_36 (d : Nat) (a0 : Nat) (l1 : Value) (l2 : Value) (σ : Hs) : ru d 129 36 [.ref a0, l1, l2] [] σ = ru d 129 37 [.ref a0, l1, l2] [.ref a0] σ := q_aload_n t129_36 rfl
theorem t129_37 : decode (mb 129) 37 = .ok (.iload_n 1, 1) := by decide +kernel
theorem s129_37 (d : Nat) (l0 : Value) (i1 : Int32) (l2 : Value) (w0 : Value) (σ : Hs) : ru d 129 37 [l0, .int i1, l2] [w0] σ = ru d 129 38 [l0, .int i1, l2] [.int i1, w0] σ := q_iload_n t129_37 rfl
theorem t129_38 : decode (mb 129) 38 = .ok (.invokevirtual 117, 3) := by decide +kernel
theorem s129_38_o87 (d : Nat) (l0 : Value) (l1 : Value) (l2 : Value) (v1 : Value) (σ : Hs) : ru d 129 38 [l0, l1, l2] [v1, .ref 87] σ = kont (callD d 128 [.ref 87, v1] σ) d 129 41 [l0, l1, l2] [] := q_invv t129_38 mo129 K8_117 mj128 rfl rfl rfl rfl (Nat.le_of_ble_eq_true rfl)
theorem t129_41 : decode (mb 129) 41 = .ok (.iload_n 2, 1) := by decide +kernel
theorem s129_41 (d : Nat) (l0 : Value) (l1 : Value) (i2 : Int32) (σ : Hs) : ru d 129 41 [l0, l1, .int i2] [] σ = ru d 129 42 [l0, l1, .int i2] [.int i2] σ := q_iload_n t129_41 rfl
theorem t129_42 : decode (mb 129) 42 = .ok (.ireturn, 1) := by decide +kernel
theorem s129_42 (d : Nat) (l0 : Value) (l1 : Value) (l2 : Value) (x : Int32) (σ : Hs) : ru d 129 42 [l0, l1, l2] [.int x] σ = some (some (.int x), σ) := q_ireti t129_42 mr129
theorem c129 (d : Nat) (x0 : Nat) (x1 : Int32) (σ : Hs) : callD (d + 1) 129 [.ref x0, .int x1] σ = ru d 129 0 [.ref x0, .int x1, uu] [] σ := callD_ru ml129 rfl rfl (Nat.le_of_ble_eq_true rfl)
-- 130: Model.beside(II)I
theorem t130_0 : decode (mb 130) 0 = .ok (.iload_n 1, 1) := by decide +kernel
theorem s130_0 (d : Nat) (l0 : Value) (i1 : Int32) (σ : Hs) : ru d 130 0 [l0, .int i1] [] σ = ru d 130 1 [l0, .int i1] [.int i1] σ := q_iload_n t130_0 rfl
theorem t130_1 : decode (mb 130) 1 = .ok (.tableswitch 76 0 2 #[27, 42, 58], 27) := by decide +kernel
theorem f130_1 (x : Int32) : (tsw 0 2 #[27, 42, 58] 76 x.toInt).bind (tgt 1) = some (if x = 0 then 28 else (if x = 1 then 43 else (if x = 2 then 59 else 77))) := by
  by_cases h0 : x = 0
  · subst h0; decide +kernel
  by_cases h1 : x = 1
  · subst h1; decide +kernel
  by_cases h2 : x = 2
  · subst h2; decide +kernel
  have e0 : ¬ x.toInt = 0 := fun h => h0 (Int32.toInt_inj.mp (h.trans (by decide +kernel)))
  have e1 : ¬ x.toInt = 1 := fun h => h1 (Int32.toInt_inj.mp (h.trans (by decide +kernel)))
  have e2 : ¬ x.toInt = 2 := fun h => h2 (Int32.toInt_inj.mp (h.trans (by decide +kernel)))
  have e : x.toInt < 0 ∨ 2 < x.toInt := by omega
  unfold tsw
  rw [if_pos e, if_neg h0, if_neg h1, if_neg h2]
  decide +kernel
theorem s130_1 (d : Nat) (l0 : Value) (l1 : Value) (x : Int32) (σ : Hs) : ru d 130 1 [l0, l1] [.int x] σ = if x = 0 then ru d 130 28 [l0, l1] [] σ else if x = 1 then ru d 130 43 [l0, l1] [] σ else if x = 2 then ru d 130 59 [l0, l1] [] σ else ru d 130 77 [l0, l1] [] σ := by
  refine (q_tsw t130_1 (fun x => (if x = 0 then 28 else (if x = 1 then 43 else (if x = 2 then 59 else 77)))) (f130_1 x)).trans ?_
  by_cases h0 : x = 0
  · rw [if_pos h0, if_pos h0]
  rw [if_neg h0, if_neg h0]
  by_cases h1 : x = 1
  · rw [if_pos h1, if_pos h1]
  rw [if_neg h1, if_neg h1]
  by_cases h2 : x = 2
  · rw [if_pos h2, if_pos h2]
  rw [if_neg h2, if_neg h2]
theorem t130_28 : decode (mb 130) 28 = .ok (.iload_n 0, 1) := by decide +kernel
theorem s130_28 (d : Nat) (i0 : Int32) (l1 : Value) (σ : Hs) : ru d 130 28 [.int i0, l1] [] σ = ru d 130 29 [.int i0, l1] [.int i0] σ := q_iload_n t130_28 rfl
theorem t130_29 : decode (mb 130) 29 = .ok (.bipush 6, 2) := by decide +kernel
theorem s130_29 (d : Nat) (l0 : Value) (l1 : Value) (w0 : Value) (σ : Hs) : ru d 130 29 [l0, l1] [w0] σ = ru d 130 31 [l0, l1] [.int 6, w0] σ := q_bipush t130_29 (by decide +kernel)
theorem t130_31 : decode (mb 130) 31 = .ok (.irem, 1) := by decide +kernel
theorem s130_31 (d : Nat) (l0 : Value) (l1 : Value) (x y : Int32) (σ : Hs) : ru d 130 31 [l0, l1] [.int y, .int x] σ = gd (¬ y = 0) (ru d 130 32 [l0, l1] [.int (x - x / y * y)] σ) := q_irem t130_31
theorem t130_32 : decode (mb 130) 32 = .ok (.ifCond .le 9, 3) := by decide +kernel
theorem s130_32 (d : Nat) (l0 : Value) (l1 : Value) (x : Int32) (σ : Hs) : ru d 130 32 [l0, l1] [.int x] σ = if x ≤ 0 then ru d 130 41 [l0, l1] [] σ else ru d 130 35 [l0, l1] [] σ := q_if_le t130_32 (by decide +kernel)
theorem t130_35 : decode (mb 130) 35 = .ok (.iload_n 0, 1) := by decide +kernel
theorem s130_35 (d : Nat) (i0 : Int32) (l1 : Value) (σ : Hs) : ru d 130 35 [.int i0, l1] [] σ = ru d 130 36 [.int i0, l1] [.int i0] σ := q_iload_n t130_35 rfl
theorem t130_36 : decode (mb 130) 36 = .ok (.iconst 1, 1) := by decide +kernel
theorem s130_36 (d : Nat) (l0 : Value) (l1 : Value) (w0 : Value) (σ : Hs) : ru d 130 36 [l0, l1] [w0] σ = ru d 130 37 [l0, l1] [.int 1, w0] σ := q_iconst t130_36 (by decide +kernel)
theorem t130_37 : decode (mb 130) 37 = .ok (.isub, 1) := by decide +kernel
theorem s130_37 (d : Nat) (l0 : Value) (l1 : Value) (x y : Int32) (σ : Hs) : ru d 130 37 [l0, l1] [.int y, .int x] σ = ru d 130 38 [l0, l1] [.int (x - y)] σ := q_isub t130_37
theorem t130_38 : decode (mb 130) 38 = .ok (.goto 4, 3) := by decide +kernel
theorem s130_38 (d : Nat) (l0 : Value) (l1 : Value) (w0 : Value) (σ : Hs) : ru d 130 38 [l0, l1] [w0] σ = ru d 130 42 [l0, l1] [w0] σ := q_goto t130_38 (by decide +kernel)
theorem t130_41 : decode (mb 130) 41 = .ok (.iconst (-1), 1) := by decide +kernel
theorem s130_41 (d : Nat) (l0 : Value) (l1 : Value) (σ : Hs) : ru d 130 41 [l0, l1] [] σ = ru d 130 42 [l0, l1] [.int (-1)] σ := q_iconst t130_41 (by decide +kernel)
theorem t130_42 : decode (mb 130) 42 = .ok (.ireturn, 1) := by decide +kernel
theorem s130_42 (d : Nat) (l0 : Value) (l1 : Value) (x : Int32) (σ : Hs) : ru d 130 42 [l0, l1] [.int x] σ = some (some (.int x), σ) := q_ireti t130_42 mr130
theorem t130_43 : decode (mb 130) 43 = .ok (.iload_n 0, 1) := by decide +kernel
theorem s130_43 (d : Nat) (i0 : Int32) (l1 : Value) (σ : Hs) : ru d 130 43 [.int i0, l1] [] σ = ru d 130 44 [.int i0, l1] [.int i0] σ := q_iload_n t130_43 rfl
theorem t130_44 : decode (mb 130) 44 = .ok (.bipush 6, 2) := by decide +kernel
theorem s130_44 (d : Nat) (l0 : Value) (l1 : Value) (w0 : Value) (σ : Hs) : ru d 130 44 [l0, l1] [w0] σ = ru d 130 46 [l0, l1] [.int 6, w0] σ := q_bipush t130_44 (by decide +kernel)
theorem t130_46 : decode (mb 130) 46 = .ok (.irem, 1) := by decide +kernel
theorem s130_46 (d : Nat) (l0 : Value) (l1 : Value) (x y : Int32) (σ : Hs) : ru d 130 46 [l0, l1] [.int y, .int x] σ = gd (¬ y = 0) (ru d 130 47 [l0, l1] [.int (x - x / y * y)] σ) := q_irem t130_46
theorem t130_47 : decode (mb 130) 47 = .ok (.iconst 5, 1) := by decide +kernel
theorem s130_47 (d : Nat) (l0 : Value) (l1 : Value) (w0 : Value) (σ : Hs) : ru d 130 47 [l0, l1] [w0] σ = ru d 130 48 [l0, l1] [.int 5, w0] σ := q_iconst t130_47 (by decide +kernel)
theorem t130_48 : decode (mb 130) 48 = .ok (.if_icmp .ge 9, 3) := by decide +kernel
theorem s130_48 (d : Nat) (l0 : Value) (l1 : Value) (x y : Int32) (σ : Hs) : ru d 130 48 [l0, l1] [.int y, .int x] σ = if y ≤ x then ru d 130 57 [l0, l1] [] σ else ru d 130 51 [l0, l1] [] σ := q_ic_ge t130_48 (by decide +kernel)
theorem t130_51 : decode (mb 130) 51 = .ok (.iload_n 0, 1) := by decide +kernel
theorem s130_51 (d : Nat) (i0 : Int32) (l1 : Value) (σ : Hs) : ru d 130 51 [.int i0, l1] [] σ = ru d 130 52 [.int i0, l1] [.int i0] σ := q_iload_n t130_51 rfl
theorem t130_52 : decode (mb 130) 52 = .ok (.iconst 1, 1) := by decide +kernel
theorem s130_52 (d : Nat) (l0 : Value) (l1 : Value) (w0 : Value) (σ : Hs) : ru d 130 52 [l0, l1] [w0] σ = ru d 130 53 [l0, l1] [.int 1, w0] σ := q_iconst t130_52 (by decide +kernel)
theorem t130_53 : decode (mb 130) 53 = .ok (.iadd, 1) := by decide +kernel
theorem s130_53 (d : Nat) (l0 : Value) (l1 : Value) (x y : Int32) (σ : Hs) : ru d 130 53 [l0, l1] [.int y, .int x] σ = ru d 130 54 [l0, l1] [.int (x + y)] σ := q_iadd t130_53
theorem t130_54 : decode (mb 130) 54 = .ok (.goto 4, 3) := by decide +kernel
theorem s130_54 (d : Nat) (l0 : Value) (l1 : Value) (w0 : Value) (σ : Hs) : ru d 130 54 [l0, l1] [w0] σ = ru d 130 58 [l0, l1] [w0] σ := q_goto t130_54 (by decide +kernel)
theorem t130_57 : decode (mb 130) 57 = .ok (.iconst (-1), 1) := by decide +kernel
theorem s130_57 (d : Nat) (l0 : Value) (l1 : Value) (σ : Hs) : ru d 130 57 [l0, l1] [] σ = ru d 130 58 [l0, l1] [.int (-1)] σ := q_iconst t130_57 (by decide +kernel)
theorem t130_58 : decode (mb 130) 58 = .ok (.ireturn, 1) := by decide +kernel
theorem s130_58 (d : Nat) (l0 : Value) (l1 : Value) (x : Int32) (σ : Hs) : ru d 130 58 [l0, l1] [.int x] σ = some (some (.int x), σ) := q_ireti t130_58 mr130
theorem t130_59 : decode (mb 130) 59 = .ok (.iload_n 0, 1) := by decide +kernel
theorem s130_59 (d : Nat) (i0 : Int32) (l1 : Value) (σ : Hs) : ru d 130 59 [.int i0, l1] [] σ = ru d 130 60 [.int i0, l1] [.int i0] σ := q_iload_n t130_59 rfl
theorem t130_60 : decode (mb 130) 60 = .ok (.bipush 6, 2) := by decide +kernel
theorem s130_60 (d : Nat) (l0 : Value) (l1 : Value) (w0 : Value) (σ : Hs) : ru d 130 60 [l0, l1] [w0] σ = ru d 130 62 [l0, l1] [.int 6, w0] σ := q_bipush t130_60 (by decide +kernel)
theorem t130_62 : decode (mb 130) 62 = .ok (.iadd, 1) := by decide +kernel
theorem s130_62 (d : Nat) (l0 : Value) (l1 : Value) (x y : Int32) (σ : Hs) : ru d 130 62 [l0, l1] [.int y, .int x] σ = ru d 130 63 [l0, l1] [.int (x + y)] σ := q_iadd t130_62
theorem t130_63 : decode (mb 130) 63 = .ok (.bipush 30, 2) := by decide +kernel
theorem s130_63 (d : Nat) (l0 : Value) (l1 : Value) (w0 : Value) (σ : Hs) : ru d 130 63 [l0, l1] [w0] σ = ru d 130 65 [l0, l1] [.int 30, w0] σ := q_bipush t130_63 (by decide +kernel)
theorem t130_65 : decode (mb 130) 65 = .ok (.if_icmp .ge 10, 3) := by decide +kernel
theorem s130_65 (d : Nat) (l0 : Value) (l1 : Value) (x y : Int32) (σ : Hs) : ru d 130 65 [l0, l1] [.int y, .int x] σ = if y ≤ x then ru d 130 75 [l0, l1] [] σ else ru d 130 68 [l0, l1] [] σ := q_ic_ge t130_65 (by decide +kernel)
theorem t130_68 : decode (mb 130) 68 = .ok (.iload_n 0, 1) := by decide +kernel
theorem s130_68 (d : Nat) (i0 : Int32) (l1 : Value) (σ : Hs) : ru d 130 68 [.int i0, l1] [] σ = ru d 130 69 [.int i0, l1] [.int i0] σ := q_iload_n t130_68 rfl
theorem t130_69 : decode (mb 130) 69 = .ok (.bipush 6, 2) := by decide +kernel
theorem s130_69 (d : Nat) (l0 : Value) (l1 : Value) (w0 : Value) (σ : Hs) : ru d 130 69 [l0, l1] [w0] σ = ru d 130 71 [l0, l1] [.int 6, w0] σ := q_bipush t130_69 (by decide +kernel)
theorem t130_71 : decode (mb 130) 71 = .ok (.iadd, 1) := by decide +kernel
theorem s130_71 (d : Nat) (l0 : Value) (l1 : Value) (x y : Int32) (σ : Hs) : ru d 130 71 [l0, l1] [.int y, .int x] σ = ru d 130 72 [l0, l1] [.int (x + y)] σ := q_iadd t130_71
theorem t130_72 : decode (mb 130) 72 = .ok (.goto 4, 3) := by decide +kernel
theorem s130_72 (d : Nat) (l0 : Value) (l1 : Value) (w0 : Value) (σ : Hs) : ru d 130 72 [l0, l1] [w0] σ = ru d 130 76 [l0, l1] [w0] σ := q_goto t130_72 (by decide +kernel)
theorem t130_75 : decode (mb 130) 75 = .ok (.iconst (-1), 1) := by decide +kernel
theorem s130_75 (d : Nat) (l0 : Value) (l1 : Value) (σ : Hs) : ru d 130 75 [l0, l1] [] σ = ru d 130 76 [l0, l1] [.int (-1)] σ := q_iconst t130_75 (by decide +kernel)
theorem t130_76 : decode (mb 130) 76 = .ok (.ireturn, 1) := by decide +kernel
theorem s130_76 (d : Nat) (l0 : Value) (l1 : Value) (x : Int32) (σ : Hs) : ru d 130 76 [l0, l1] [.int x] σ = some (some (.int x), σ) := q_ireti t130_76 mr130
theorem t130_77 : decode (mb 130) 77 = .ok (.iload_n 0, 1) := by decide +kernel
theorem s130_77 (d : Nat) (i0 : Int32) (l1 : Value) (σ : Hs) : ru d 130 77 [.int i0, l1] [] σ = ru d 130 78 [.int i0, l1] [.int i0] σ := q_iload_n t130_77 rfl
theorem t130_78 : decode (mb 130) 78 = .ok (.bipush 6, 2) := by decide +kernel
theorem s130_78 (d : Nat) (l0 : Value) (l1 : Value) (w0 : Value) (σ : Hs) : ru d 130 78 [l0, l1] [w0] σ = ru d 130 80 [l0, l1] [.int 6, w0] σ := q_bipush t130_78 (by decide +kernel)
theorem t130_80 : decode (mb 130) 80 = .ok (.if_icmp .lt 10, 3) := by decide +kernel
theorem s130_80 (d : Nat) (l0 : Value) (l1 : Value) (x y : Int32) (σ : Hs) : ru d 130 80 [l0, l1] [.int y, .int x] σ = if x < y then ru d 130 90 [l0, l1] [] σ else ru d 130 83 [l0, l1] [] σ := q_ic_lt t130_80 (by decide +kernel)
theorem t130_83 : decode (mb 130) 83 = .ok (.iload_n 0, 1) := by decide +kernel
theorem s130_83 (d : Nat) (i0 : Int32) (l1 : Value) (σ : Hs) : ru d 130 83 [.int i0, l1] [] σ = ru d 130 84 [.int i0, l1] [.int i0] σ := q_iload_n t130_83 rfl
theorem t130_84 : decode (mb 130) 84 = .ok (.bipush 6, 2) := by decide +kernel
theorem s130_84 (d : Nat) (l0 : Value) (l1 : Value) (w0 : Value) (σ : Hs) : ru d 130 84 [l0, l1] [w0] σ = ru d 130 86 [l0, l1] [.int 6, w0] σ := q_bipush t130_84 (by decide +kernel)
theorem t130_86 : decode (mb 130) 86 = .ok (.isub, 1) := by decide +kernel
theorem s130_86 (d : Nat) (l0 : Value) (l1 : Value) (x y : Int32) (σ : Hs) : ru d 130 86 [l0, l1] [.int y, .int x] σ = ru d 130 87 [l0, l1] [.int (x - y)] σ := q_isub t130_86
theorem t130_87 : decode (mb 130) 87 = .ok (.goto 5, 3) := by decide +kernel
theorem s130_87 (d : Nat) (l0 : Value) (l1 : Value) (w0 : Value) (σ : Hs) : ru d 130 87 [l0, l1] [w0] σ = ru d 130 92 [l0, l1] [w0] σ := q_goto t130_87 (by decide +kernel)
theorem t130_90 : decode (mb 130) 90 = .ok (.bipush (-2), 2) := by decide +kernel
theorem s130_90 (d : Nat) (l0 : Value) (l1 : Value) (σ : Hs) : ru d 130 90 [l0, l1] [] σ = ru d 130 92 [l0, l1] [.int (-2)] σ := q_bipush t130_90 (by decide +kernel)
theorem t130_92 : decode (mb 130) 92 = .ok (.ireturn, 1) := by decide +kernel
theorem s130_92 (d : Nat) (l0 : Value) (l1 : Value) (x : Int32) (σ : Hs) : ru d 130 92 [l0, l1] [.int x] σ = some (some (.int x), σ) := q_ireti t130_92 mr130
theorem c130 (d : Nat) (x0 : Int32) (x1 : Int32) (σ : Hs) : callD (d + 1) 130 [.int x0, .int x1] σ = ru d 130 0 [.int x0, .int x1] [] σ := callD_ru ml130 rfl rfl (Nat.le_of_ble_eq_true rfl)
-- 131: Model.isOpen(II)Z
theorem t131_0 : decode (mb 131) 0 = .ok (.iload_n 1, 1) := by decide +kernel
theorem s131_0 (d : Nat) (l0 : Value) (i1 : Int32) (l2 : Value) (l3 : Value) (σ : Hs) : ru d 131 0 [l0, .int i1, l2, l3] [] σ = ru d 131 1 [l0, .int i1, l2, l3] [.int i1] σ := q_iload_n t131_0 rfl
theorem t131_1 : decode (mb 131) 1 = .ok (.iload_n 2, 1) := by decide +kernel
theorem s131_1 (d : Nat) (l0 : Value) (l1 : Value) (i2 : Int32) (l3 : Value) (w0 : Value) (σ : Hs) : ru d 131 1 [l0, l1, .int i2, l3] [w0] σ = ru d 131 2 [l0, l1, .int i2, l3] [.int i2, w0] σ := q_iload_n t131_1 rfl
theorem t131_2 : decode (mb 131) 2 = .ok (.invokestatic 121, 3) := by decide +kernel
theorem s131_2 (d : Nat) (l0 : Value) (l1 : Value) (l2 : Value) (l3 : Value) (v0 v1 : Value) (σ : Hs) : ru d 131 2 [l0, l1, l2, l3] [v1, v0] σ = kont (callD d 130 [v0, v1] σ) d 131 5 [l0, l1, l2, l3] [] := q_invs t131_2 mo131 (by decide +kernel) K8_121 mj130 (Nat.le_of_ble_eq_true rfl) rfl rfl (Nat.le_of_ble_eq_true rfl)
theorem t131_5 : decode (mb 131) 5 = .ok (.istore_n 3, 1) := by decide +kernel
theorem s131_5 (d : Nat) (l0 : Value) (l1 : Value) (i2 : Int32) (l3 : Value) (x : Int32) (σ : Hs) : ru d 131 5 [l0, l1, .int i2, l3] [.int x] σ = ru d 131 6 [l0, l1, .int i2, .int x] [] σ := q_istore_n t131_5 ⟨Nat.le_of_ble_eq_true rfl, rfl⟩ rfl
theorem t131_6 : decode (mb 131) 6 = .ok (.iload_n 3, 1) := by decide +kernel
theorem s131_6 (d : Nat) (l0 : Value) (l1 : Value) (l2 : Value) (i3 : Int32) (σ : Hs) : ru d 131 6 [l0, l1, l2, .int i3] [] σ = ru d 131 7 [l0, l1, l2, .int i3] [.int i3] σ := q_iload_n t131_6 rfl
theorem t131_7 : decode (mb 131) 7 = .ok (.iconst (-1), 1) := by decide +kernel
theorem s131_7 (d : Nat) (l0 : Value) (l1 : Value) (l2 : Value) (l3 : Value) (w0 : Value) (σ : Hs) : ru d 131 7 [l0, l1, l2, l3] [w0] σ = ru d 131 8 [l0, l1, l2, l3] [.int (-1), w0] σ := q_iconst t131_7 (by decide +kernel)
theorem t131_8 : decode (mb 131) 8 = .ok (.if_icmp .eq 15, 3) := by decide +kernel
theorem s131_8 (d : Nat) (l0 : Value) (l1 : Value) (l2 : Value) (l3 : Value) (x y : Int32) (σ : Hs) : ru d 131 8 [l0, l1, l2, l3] [.int y, .int x] σ = if x = y then ru d 131 23 [l0, l1, l2, l3] [] σ else ru d 131 11 [l0, l1, l2, l3] [] σ := q_ic_eq t131_8 (by decide +kernel)
theorem t131_11 : decode (mb 131) 11 = .ok (.iload_n 3, 1) := by decide +kernel
theorem s131_11 (d : Nat) (l0 : Value) (l1 : Value) (l2 : Value) (i3 : Int32) (σ : Hs) : ru d 131 11 [l0, l1, l2, .int i3] [] σ = ru d 131 12 [l0, l1, l2, .int i3] [.int i3] σ := q_iload_n t131_11 rfl
theorem t131_12 : decode (mb 131) 12 = .ok (.ifCond .lt 15, 3) := by decide +kernel
theorem s131_12 (d : Nat) (l0 : Value) (l1 : Value) (l2 : Value) (l3 : Value) (x : Int32) (σ : Hs) : ru d 131 12 [l0, l1, l2, l3] [.int x] σ = if x < 0 then ru d 131 27 [l0, l1, l2, l3] [] σ else ru d 131 15 [l0, l1, l2, l3] [] σ := q_if_lt t131_12 (by decide +kernel)
theorem t131_15 : decode (mb 131) 15 = .ok (.aload_n 0, 1) := by decide +kernel
theorem s131_15 (d : Nat) (a0 : Nat) (l1 : Value) (l2 : Value) (l3 : Value) (σ : Hs) : ru d 131 15 [.ref a0, l1, l2, l3] [] σ = ru d 131 16 [.ref a0, l1, l2, l3] [.ref a0] σ := q_aload_n t131_15 rfl
theorem t131_16 : decode (mb 131) 16 = .ok (.iload_n 3, 1) := by decide +kernel
theorem s131_16 (d : Nat) (l0 : Value) (l1 : Value) (l2 : Value) (i3 : Int32) (w0 : Value) (σ : Hs) : ru d 131 16 [l0, l1, l2, .int i3] [w0] σ = ru d 131 17 [l0, l1, l2, .int i3] [.int i3, w0] σ := q_iload_n t131_16 rfl
theorem t131_17 : decode (mb 131) 17 = .ok (.invokevirtual 88, 3) := by decide +kernel
theorem s131_17_o87 (d : Nat) (l0 : Value) (l1 : Value) (l2 : Value) (l3 : Value) (v1 : Value) (σ : Hs) : ru d 131 17 [l0, l1, l2, l3] [v1, .ref 87] σ = kont (callD d 122 [.ref 87, v1] σ) d 131 20 [l0, l1, l2, l3] [] := q_invv t131_17 mo131 K8_88 mj122 rfl rfl rfl rfl (Nat.le_of_ble_eq_true rfl)
theorem t131_20 : decode (mb 131) 20 = .ok (.ifCond .ne 7, 3) := by decide +kernel
theorem s131_20 (d : Nat) (l0 : Value) (l1 : Value) (l2 : Value) (l3 : Value) (x : Int32) (σ : Hs) : ru d 131 20 [l0, l1, l2, l3] [.int x] σ = if x = 0 then ru d 131 23 [l0, l1, l2, l3] [] σ else ru d 131 27 [l0, l1, l2, l3] [] σ := q_if_ne t131_20 (by decide +kernel)
theorem t131_23 : decode (mb 131) 23 = .ok (.iconst 1, 1) := by decide +kernel
theorem s131_23 (d : Nat) (l0 : Value) (l1 : Value) (l2 : Value) (l3 : Value) (σ : Hs) : ru d 131 23 [l0, l1, l2, l3] [] σ = ru d 131 24 [l0, l1, l2, l3] [.int 1] σ := q_iconst t131_23 (by decide +kernel)
theorem t131_24 : decode (mb 131) 24 = .ok (.goto 4, 3) := by decide +kernel
theorem s131_24 (d : Nat) (l0 : Value) (l1 : Value) (l2 : Value) (l3 : Value) (w0 : Value) (σ : Hs) : ru d 131 24 [l0, l1, l2, l3] [w0] σ = ru d 131 28 [l0, l1, l2, l3] [w0] σ := q_goto t131_24 (by decide +kernel)
theorem t131_27 : decode (mb 131) 27 = .ok (.iconst 0, 1) := by decide +kernel
theorem s131_27 (d : Nat) (l0 : Value) (l1 : Value) (l2 : Value) (l3 : Value) (σ : Hs) : ru d 131 27 [l0, l1, l2, l3] [] σ = ru d 131 28 [l0, l1, l2, l3] [.int 0] σ := q_iconst t131_27 (by decide +kernel)
theorem t131_28 : decode (mb 131) 28 = .ok (.ireturn, 1) := by decide +kernel
theorem s131_28 (d : Nat) (l0 : Value) (l1 : Value) (l2 : Value) (l3 : Value) (x : Int32) (hx : isB x) (σ : Hs) : ru d 131 28 [l0, l1, l2, l3] [.int x] σ = some (some (.int x), σ) := q_iretz t131_28 mr131 hx
theorem c131 (d : Nat) (x0 : Nat) (x1 : Int32) (x2 : Int32) (σ : Hs) : callD (d + 1) 131 [.ref x0, .int x1, .int x2] σ = ru d 131 0 [.ref x0, .int x1, .int x2, uu] [] σ := callD_ru ml131 rfl rfl (Nat.le_of_ble_eq_true rfl)
-- 132: Model.draughtOf(I)I
theorem t132_0 : decode (mb 132) 0 = .ok (.iconst 0, 1) := by decide +kernel
theorem s132_0 (d : Nat) (l0 : Value) (l1 : Value) (l2 : Value) (l3 : Value) (l4 : Value) (σ : Hs) : ru d 132 0 [l0, l1, l2, l3, l4] [] σ = ru d 132 1 [l0, l1, l2, l3, l4] [.int 0] σ := q_iconst t132_0 (by decide +kernel)
theorem t132_1 : decode (mb 132) 1 = .ok (.istore_n 2, 1) := by decide +kernel
theorem s132_1 (d : Nat) (l0 : Value) (i1 : Int32) (l2 : Value) (l3 : Value) (l4 : Value) (x : Int32) (σ : Hs) : ru d 132 1 [l0, .int i1, l2, l3, l4] [.int x] σ = ru d 132 2 [l0, .int i1, .int x, l3, l4] [] σ := q_istore_n t132_1 ⟨Nat.le_of_ble_eq_true rfl, rfl⟩ rfl
theorem t132_2 : decode (mb 132) 2 = .ok (.iconst 0, 1) := by decide +kernel
theorem s132_2 (d : Nat) (l0 : Value) (l1 : Value) (l2 : Value) (l3 : Value) (l4 : Value) (σ : Hs) : ru d 132 2 [l0, l1, l2, l3, l4] [] σ = ru d 132 3 [l0, l1, l2, l3, l4] [.int 0] σ := q_iconst t132_2 (by decide +kernel)
theorem t132_3 : decode (mb 132) 3 = .ok (.istore_n 3, 1) := by decide +kernel
theorem s132_3 (d : Nat) (l0 : Value) (l1 : Value) (i2 : Int32) (l3 : Value) (l4 : Value) (x : Int32) (σ : Hs) : ru d 132 3 [l0, l1, .int i2, l3, l4] [.int x] σ = ru d 132 4 [l0, l1, .int i2, .int x, l4] [] σ := q_istore_n t132_3 ⟨Nat.le_of_ble_eq_true rfl, rfl⟩ rfl
theorem t132_4 : decode (mb 132) 4 = .ok (.iload_n 3, 1) := by decide +kernel
theorem s132_4 (d : Nat) (l0 : Value) (l1 : Value) (l2 : Value) (i3 : Int32) (l4 : Value) (σ : Hs) : ru d 132 4 [l0, l1, l2, .int i3, l4] [] σ = ru d 132 5 [l0, l1, l2, .int i3, l4] [.int i3] σ := q_iload_n t132_4 rfl
theorem t132_5 : decode (mb 132) 5 = .ok (.iconst 4, 1) := by decide +kernel
theorem s132_5 (d : Nat) (l0 : Value) (l1 : Value) (l2 : Value) (l3 : Value) (l4 : Value) (w0 : Value) (σ : Hs) : ru d 132 5 [l0, l1, l2, l3, l4] [w0] σ = ru d 132 6 [l0, l1, l2, l3, l4] [.int 4, w0] σ := q_iconst t132_5 (by decide +kernel)
theorem t132_6 : decode (mb 132) 6 = .ok (.if_icmp .ge 26, 3) := by decide +kernel
theorem s132_6 (d : Nat) (l0 : Value) (l1 : Value) (l2 : Value) (l3 : Value) (l4 : Value) (x y : Int32) (σ : Hs) : ru d 132 6 [l0, l1, l2, l3, l4] [.int y, .int x] σ = if y ≤ x then ru d 132 32 [l0, l1, l2, l3, l4] [] σ else ru d 132 9 [l0, l1, l2, l3, l4] [] σ := q_ic_ge t132_6 (by decide +kernel)
theorem t132_9 : decode (mb 132) 9 = .ok (.iload_n 2, 1) := by decide +kernel
theorem s132_9 (d : Nat) (l0 : Value) (l1 : Value) (i2 : Int32) (l3 : Value) (l4 : Value) (σ : Hs) : ru d 132 9 [l0, l1, .int i2, l3, l4] [] σ = ru d 132 10 [l0, l1, .int i2, l3, l4] [.int i2] σ := q_iload_n t132_9 rfl
theorem t132_10 : decode (mb 132) 10 = .ok (.aload_n 0, 1) := by decide +kernel
theorem s132_10 (d : Nat) (a0 : Nat) (l1 : Value) (l2 : Value) (l3 : Value) (l4 : Value) (w0 : Value) (σ : Hs) : ru d 132 10 [.ref a0, l1, l2, l3, l4] [w0] σ = ru d 132 11 [.ref a0, l1, l2, l3, l4] [.ref a0, w0] σ := q_aload_n t132_10 rfl
theorem t132_11 : decode (mb 132) 11 = .ok (.iload_n 1, 1) := by decide +kernel
theorem s132_11 (d : Nat) (l0 : Value) (i1 : Int32) (l2 : Value) (l3 : Value) (l4 : Value) (w0 w1 : Value) (σ : Hs) : ru d 132 11 [l0, .int i1, l2, l3, l4] [w0, w1] σ = ru d 132 12 [l0, .int i1, l2, l3, l4] [.int i1, w0, w1] σ := q_iload_n t132_11 rfl
theorem t132_12 : decode (mb 132) 12 = .ok (.iload_n 3, 1) := by decide +kernel
theorem s132_12 (d : Nat) (l0 : Value) (l1 : Value) (l2 : Value) (i3 : Int32) (l4 : Value) (w0 w1 w2 : Value) (σ : Hs) : ru d 132 12 [l0, l1, l2, .int i3, l4] [w0, w1, w2] σ = ru d 132 13 [l0, l1, l2, .int i3, l4] [.int i3, w0, w1, w2] σ := q_iload_n t132_12 rfl
theorem t132_13 : decode (mb 132) 13 = .ok (.invokevirtual 124, 3) := by decide +kernel
theorem s132_13_o87 (d : Nat) (l0 : Value) (l1 : Value) (l2 : Value) (l3 : Value) (l4 : Value) (v1 v2 : Value) (w0 : Int32) (σ : Hs) : ru d 132 13 [l0, l1, l2, l3, l4] [v2, v1, .ref 87, .int w0] σ = kont (callD d 131 [.ref 87, v1, v2] σ) d 132 16 [l0, l1, l2, l3, l4] [.int w0] := q_invv t132_13 mo132 K8_124 mj131 rfl rfl rfl rfl (Nat.le_of_ble_eq_true rfl)
theorem t132_16 : decode (mb 132) 16 = .ok (.ifCond .eq 7, 3) := by decide +kernel
theorem s132_16 (d : Nat) (l0 : Value) (l1 : Value) (l2 : Value) (l3 : Value) (l4 : Value) (x : Int32) (w0 : Value) (σ : Hs) : ru d 132 16 [l0, l1, l2, l3, l4] [.int x, w0] σ = if x = 0 then ru d 132 23 [l0, l1, l2, l3, l4] [w0] σ else ru d 132 19 [l0, l1, l2, l3, l4] [w0] σ := q_if_eq t132_16 (by decide +kernel)
theorem t132_19 : decode (mb 132) 19 = .ok (.iconst 1, 1) := by decide +kernel
theorem s132_19 (d : Nat) (l0 : Value) (l1 : Value) (l2 : Value) (l3 : Value) (l4 : Value) (w0 : Value) (σ : Hs) : ru d 132 19 [l0, l1, l2, l3, l4] [w0] σ = ru d 132 20 [l0, l1, l2, l3, l4] [.int 1, w0] σ := q_iconst t132_19 (by decide +kernel)
theorem t132_20 : decode (mb 132) 20 = .ok (.goto 4, 3) := by decide +kernel
theorem s132_20 (d : Nat) (l0 : Value) (l1 : Value) (l2 : Value) (l3 : Value) (l4 : Value) (w0 w1 : Value) (σ : Hs) : ru d 132 20 [l0, l1, l2, l3, l4] [w0, w1] σ = ru d 132 24 [l0, l1, l2, l3, l4] [w0, w1] σ := q_goto t132_20 (by decide +kernel)
theorem t132_23 : decode (mb 132) 23 = .ok (.iconst 0, 1) := by decide +kernel
theorem s132_23 (d : Nat) (l0 : Value) (l1 : Value) (l2 : Value) (l3 : Value) (l4 : Value) (w0 : Value) (σ : Hs) : ru d 132 23 [l0, l1, l2, l3, l4] [w0] σ = ru d 132 24 [l0, l1, l2, l3, l4] [.int 0, w0] σ := q_iconst t132_23 (by decide +kernel)
theorem t132_24 : decode (mb 132) 24 = .ok (.iadd, 1) := by decide +kernel
theorem s132_24 (d : Nat) (l0 : Value) (l1 : Value) (l2 : Value) (l3 : Value) (l4 : Value) (x y : Int32) (σ : Hs) : ru d 132 24 [l0, l1, l2, l3, l4] [.int y, .int x] σ = ru d 132 25 [l0, l1, l2, l3, l4] [.int (x + y)] σ := q_iadd t132_24
theorem t132_25 : decode (mb 132) 25 = .ok (.istore_n 2, 1) := by decide +kernel
theorem s132_25 (d : Nat) (l0 : Value) (i1 : Int32) (l2 : Value) (l3 : Value) (l4 : Value) (x : Int32) (σ : Hs) : ru d 132 25 [l0, .int i1, l2, l3, l4] [.int x] σ = ru d 132 26 [l0, .int i1, .int x, l3, l4] [] σ := q_istore_n t132_25 ⟨Nat.le_of_ble_eq_true rfl, rfl⟩ rfl
theorem t132_26 : decode (mb 132) 26 = .ok (.iinc 3 1, 3) := by decide +kernel
theorem s132_26 (d : Nat) (l0 : Value) (l1 : Value) (i2 : Int32) (i3 : Int32) (l4 : Value) (σ : Hs) : ru d 132 26 [l0, l1, .int i2, .int i3, l4] [] σ = ru d 132 29 [l0, l1, .int i2, .int (i3 + 1), l4] [] σ := q_iinc t132_26 ⟨Nat.le_of_ble_eq_true rfl, rfl⟩ rfl (by decide +kernel) rfl
theorem t132_29 : decode (mb 132) 29 = .ok (.goto (-25), 3) := by decide +kernel
theorem s132_29 (d : Nat) (l0 : Value) (l1 : Value) (l2 : Value) (l3 : Value) (l4 : Value) (σ : Hs) : ru d 132 29 [l0, l1, l2, l3, l4] [] σ = ru d 132 4 [l0, l1, l2, l3, l4] [] σ := q_goto t132_29 (by decide +kernel)
theorem t132_32 : decode (mb 132) 32 = .ok (.aload_n 0, 1) := by decide +kernel
theorem s132_32 (d : Nat) (a0 : Nat) (l1 : Value) (l2 : Value) (l3 : Value) (l4 : Value) (σ : Hs) : ru d 132 32 [.ref a0, l1, l2, l3, l4] [] σ = ru d 132 33 [.ref a0, l1, l2, l3, l4] [.ref a0] σ := q_aload_n t132_32 rfl
theorem t132_33 : decode (mb 132) 33 = .ok (.getfield 9, 3) := by decide +kernel
theorem s132_33_o87 (d : Nat) (l0 : Value) (l1 : Value) (l2 : Value) (l3 : Value) (l4 : Value) (σ : Hs) : ru d 132 33 [l0, l1, l2, l3, l4] [.ref 87] σ = ru d 132 36 [l0, l1, l2, l3, l4] [.ref 88] σ := q_getf t132_33 mo132 F8_9 rfl rfl
theorem t132_36 : decode (mb 132) 36 = .ok (.bipush 6, 2) := by decide +kernel
theorem s132_36 (d : Nat) (l0 : Value) (l1 : Value) (l2 : Value) (l3 : Value) (l4 : Value) (w0 : Value) (σ : Hs) : ru d 132 36 [l0, l1, l2, l3, l4] [w0] σ = ru d 132 38 [l0, l1, l2, l3, l4] [.int 6, w0] σ := q_bipush t132_36 (by decide +kernel)
theorem t132_38 : decode (mb 132) 38 = .ok (.iaload, 1) := by decide +kernel
theorem s132_38_o88 (d : Nat) (l0 : Value) (l1 : Value) (l2 : Value) (l3 : Value) (l4 : Value) (i : Int32) (σ : Hs) : ru d 132 38 [l0, l1, l2, l3, l4] [.int i, .ref 88] σ = gd (vp_in i 545) (ru d 132 39 [l0, l1, l2, l3, l4] [.int (σ 88 i.toNatClampNeg)] σ) := q_iald t132_38 rfl (by decide +kernel) rfl
theorem t132_39 : decode (mb 132) 39 = .ok (.istore_n 3, 1) := by decide +kernel
theorem s132_39 (d : Nat) (l0 : Value) (l1 : Value) (i2 : Int32) (l3 : Value) (l4 : Value) (x : Int32) (σ : Hs) : ru d 132 39 [l0, l1, .int i2, l3, l4] [.int x] σ = ru d 132 40 [l0, l1, .int i2, .int x, l4] [] σ := q_istore_n t132_39 ⟨Nat.le_of_ble_eq_true rfl, rfl⟩ rfl
theorem t132_40 : decode (mb 132) 40 = .ok (.iload_n 3, 1) := by decide +kernel
theorem s132_40 (d : Nat) (l0 : Value) (l1 : Value) (l2 : Value) (i3 : Int32) (l4 : Value) (σ : Hs) : ru d 132 40 [l0, l1, l2, .int i3, l4] [] σ = ru d 132 41 [l0, l1, l2, .int i3, l4] [.int i3] σ := q_iload_n t132_40 rfl
theorem t132_41 : decode (mb 132) 41 = .ok (.ifCond .ne 7, 3) := by decide +kernel
theorem s132_41 (d : Nat) (l0 : Value) (l1 : Value) (l2 : Value) (l3 : Value) (l4 : Value) (x : Int32) (σ : Hs) : ru d 132 41 [l0, l1, l2, l3, l4] [.int x] σ = if x = 0 then ru d 132 44 [l0, l1, l2, l3, l4] [] σ else ru d 132 48 [l0, l1, l2, l3, l4] [] σ := q_if_ne t132_41 (by decide +kernel)
theorem t132_44 : decode (mb 132) 44 = .ok (.iconst 0, 1) := by decide +kernel
theorem s132_44 (d : Nat) (l0 : Value) (l1 : Value) (l2 : Value) (l3 : Value) (l4 : Value) (σ : Hs) : ru d 132 44 [l0, l1, l2, l3, l4] [] σ = ru d 132 45 [l0, l1, l2, l3, l4] [.int 0] σ := q_iconst t132_44 (by decide +kernel)
theorem t132_45 : decode (mb 132) 45 = .ok (.goto 13, 3) := by decide +kernel
theorem s132_45 (d : Nat) (l0 : Value) (l1 : Value) (l2 : Value) (l3 : Value) (l4 : Value) (w0 : Value) (σ : Hs) : ru d 132 45 [l0, l1, l2, l3, l4] [w0] σ = ru d 132 58 [l0, l1, l2, l3, l4] [w0] σ := q_goto t132_45 (by decide +kernel)
theorem t132_48 : decode (mb 132) 48 = .ok (.iload_n 3, 1) := by decide +kernel
theorem s132_48 (d : Nat) (l0 : Value) (l1 : Value) (l2 : Value) (i3 : Int32) (l4 : Value) (σ : Hs) : ru d 132 48 [l0, l1, l2, .int i3, l4] [] σ = ru d 132 49 [l0, l1, l2, .int i3, l4] [.int i3] σ := q_iload_n t132_48 rfl
theorem t132_49 : decode (mb 132) 49 = .ok (.iconst 2, 1) := by decide +kernel
theorem s132_49 (d : Nat) (l0 : Value) (l1 : Value) (l2 : Value) (l3 : Value) (l4 : Value) (w0 : Value) (σ : Hs) : ru d 132 49 [l0, l1, l2, l3, l4] [w0] σ = ru d 132 50 [l0, l1, l2, l3, l4] [.int 2, w0] σ := q_iconst t132_49 (by decide +kernel)
theorem t132_50 : decode (mb 132) 50 = .ok (.if_icmp .ne 7, 3) := by decide +kernel
theorem s132_50 (d : Nat) (l0 : Value) (l1 : Value) (l2 : Value) (l3 : Value) (l4 : Value) (x y : Int32) (σ : Hs) : ru d 132 50 [l0, l1, l2, l3, l4] [.int y, .int x] σ = if x = y then ru d 132 53 [l0, l1, l2, l3, l4] [] σ else ru d 132 57 [l0, l1, l2, l3, l4] [] σ := q_ic_ne t132_50 (by decide +kernel)
theorem t132_53 : decode (mb 132) 53 = .ok (.iconst 1, 1) := by decide +kernel
theorem s132_53 (d : Nat) (l0 : Value) (l1 : Value) (l2 : Value) (l3 : Value) (l4 : Value) (σ : Hs) : ru d 132 53 [l0, l1, l2, l3, l4] [] σ = ru d 132 54 [l0, l1, l2, l3, l4] [.int 1] σ := q_iconst t132_53 (by decide +kernel)
theorem t132_54 : decode (mb 132) 54 = .ok (.goto 4, 3) := by decide +kernel
theorem s132_54 (d : Nat) (l0 : Value) (l1 : Value) (l2 : Value) (l3 : Value) (l4 : Value) (w0 : Value) (σ : Hs) : ru d 132 54 [l0, l1, l2, l3, l4] [w0] σ = ru d 132 58 [l0, l1, l2, l3, l4] [w0] σ := q_goto t132_54 (by decide +kernel)
theorem t132_57 : decode (mb 132) 57 = .ok (.iconst 2, 1) := by decide +kernel
theorem s132_57 (d : Nat) (l0 : Value) (l1 : Value) (l2 : Value) (l3 : Value) (l4 : Value) (σ : Hs) : ru d 132 57 [l0, l1, l2, l3, l4] [] σ = ru d 132 58 [l0, l1, l2, l3, l4] [.int 2] σ := q_iconst t132_57 (by decide +kernel)
theorem t132_58 : decode (mb 132) 58 = .ok (.istore 4, 2) := by decide +kernel
theorem s132_58 (d : Nat) (l0 : Value) (l1 : Value) (l2 : Value) (i3 : Int32) (l4 : Value) (x : Int32) (σ : Hs) : ru d 132 58 [l0, l1, l2, .int i3, l4] [.int x] σ = ru d 132 60 [l0, l1, l2, .int i3, .int x] [] σ := q_istore t132_58 ⟨Nat.le_of_ble_eq_true rfl, rfl⟩ rfl
theorem t132_60 : decode (mb 132) 60 = .ok (.iload_n 2, 1) := by decide +kernel
theorem s132_60 (d : Nat) (l0 : Value) (l1 : Value) (i2 : Int32) (l3 : Value) (l4 : Value) (σ : Hs) : ru d 132 60 [l0, l1, .int i2, l3, l4] [] σ = ru d 132 61 [l0, l1, .int i2, l3, l4] [.int i2] σ := q_iload_n t132_60 rfl
theorem t132_61 : decode (mb 132) 61 = .ok (.aload_n 0, 1) := by decide +kernel
theorem s132_61 (d : Nat) (a0 : Nat) (l1 : Value) (l2 : Value) (l3 : Value) (l4 : Value) (w0 : Value) (σ : Hs) : ru d 132 61 [.ref a0, l1, l2, l3, l4] [w0] σ = ru d 132 62 [.ref a0, l1, l2, l3, l4] [.ref a0, w0] σ := q_aload_n t132_61 rfl
theorem t132_62 : decode (mb 132) 62 = .ok (.iload_n 1, 1) := by decide +kernel
theorem s132_62 (d : Nat) (l0 : Value) (i1 : Int32) (l2 : Value) (l3 : Value) (l4 : Value) (w0 w1 : Value) (σ : Hs) : ru d 132 62 [l0, .int i1, l2, l3, l4] [w0, w1] σ = ru d 132 63 [l0, .int i1, l2, l3, l4] [.int i1, w0, w1] σ := q_iload_n t132_62 rfl
theorem t132_63 : decode (mb 132) 63 = .ok (.iconst 4, 1) := by decide +kernel
theorem s132_63 (d : Nat) (l0 : Value) (l1 : Value) (l2 : Value) (l3 : Value) (l4 : Value) (w0 w1 w2 : Value) (σ : Hs) : ru d 132 63 [l0, l1, l2, l3, l4] [w0, w1, w2] σ = ru d 132 64 [l0, l1, l2, l3, l4] [.int 4, w0, w1, w2] σ := q_iconst t132_63 (by decide +kernel)
theorem t132_64 : decode (mb 132) 64 = .ok (.invokevirtual 85, 3) := by decide +kernel
theorem s132_64_o87 (d : Nat) (l0 : Value) (l1 : Value) (l2 : Value) (l3 : Value) (l4 : Value) (v1 v2 : Value) (w0 : Int32) (σ : Hs) : ru d 132 64 [l0, l1, l2, l3, l4] [v2, v1, .ref 87, .int w0] σ = kont (callD d 119 [.ref 87, v1, v2] σ) d 132 67 [l0, l1, l2, l3, l4] [.int w0] := q_invv t132_64 mo132 K8_85 mj119 rfl rfl rfl rfl (Nat.le_of_ble_eq_true rfl)
theorem t132_67 : decode (mb 132) 67 = .ok (.imul, 1) := by decide +kernel
theorem s132_67 (d : Nat) (l0 : Value) (l1 : Value) (l2 : Value) (l3 : Value) (l4 : Value) (x y : Int32) (σ : Hs) : ru d 132 67 [l0, l1, l2, l3, l4] [.int y, .int x] σ = ru d 132 68 [l0, l1, l2, l3, l4] [.int (x * y)] σ := q_imul t132_67
theorem t132_68 : decode (mb 132) 68 = .ok (.aload_n 0, 1) := by decide +kernel
theorem s132_68 (d : Nat) (a0 : Nat) (l1 : Value) (l2 : Value) (l3 : Value) (l4 : Value) (w0 : Value) (σ : Hs) : ru d 132 68 [.ref a0, l1, l2, l3, l4] [w0] σ = ru d 132 69 [.ref a0, l1, l2, l3, l4] [.ref a0, w0] σ := q_aload_n t132_68 rfl
theorem t132_69 : decode (mb 132) 69 = .ok (.iload_n 1, 1) := by decide +kernel
theorem s132_69 (d : Nat) (l0 : Value) (i1 : Int32) (l2 : Value) (l3 : Value) (l4 : Value) (w0 w1 : Value) (σ : Hs) : ru d 132 69 [l0, .int i1, l2, l3, l4] [w0, w1] σ = ru d 132 70 [l0, .int i1, l2, l3, l4] [.int i1, w0, w1] σ := q_iload_n t132_69 rfl
theorem t132_70 : decode (mb 132) 70 = .ok (.iload 4, 2) := by decide +kernel
theorem s132_70 (d : Nat) (l0 : Value) (l1 : Value) (l2 : Value) (l3 : Value) (i4 : Int32) (w0 w1 w2 : Value) (σ : Hs) : ru d 132 70 [l0, l1, l2, l3, .int i4] [w0, w1, w2] σ = ru d 132 72 [l0, l1, l2, l3, .int i4] [.int i4, w0, w1, w2] σ := q_iload t132_70 rfl
theorem t132_72 : decode (mb 132) 72 = .ok (.invokevirtual 124, 3) := by decide +kernel
theorem s132_72_o87 (d : Nat) (l0 : Value) (l1 : Value) (l2 : Value) (l3 : Value) (l4 : Value) (v1 v2 : Value) (w0 : Int32) (σ : Hs) : ru d 132 72 [l0, l1, l2, l3, l4] [v2, v1, .ref 87, .int w0] σ = kont (callD d 131 [.ref 87, v1, v2] σ) d 132 75 [l0, l1, l2, l3, l4] [.int w0] := q_invv t132_72 mo132 K8_124 mj131 rfl rfl rfl rfl (Nat.le_of_ble_eq_true rfl)
theorem t132_75 : decode (mb 132) 75 = .ok (.ifCond .eq 12, 3) := by decide +kernel
theorem s132_75 (d : Nat) (l0 : Value) (l1 : Value) (l2 : Value) (l3 : Value) (l4 : Value) (x : Int32) (w0 : Value) (σ : Hs) : ru d 132 75 [l0, l1, l2, l3, l4] [.int x, w0] σ = if x = 0 then ru d 132 87 [l0, l1, l2, l3, l4] [w0] σ else ru d 132 78 [l0, l1, l2, l3, l4] [w0] σ := q_if_eq t132_75 (by decide +kernel)
theorem t132_78 : decode (mb 132) 78 = .ok (.aload_n 0, 1) := by decide +kernel
theorem s132_78 (d : Nat) (a0 : Nat) (l1 : Value) (l2 : Value) (l3 : Value) (l4 : Value) (w0 : Value) (σ : Hs) : ru d 132 78 [.ref a0, l1, l2, l3, l4] [w0] σ = ru d 132 79 [.ref a0, l1, l2, l3, l4] [.ref a0, w0] σ := q_aload_n t132_78 rfl
theorem t132_79 : decode (mb 132) 79 = .ok (.getfield 9, 3) := by decide +kernel
theorem s132_79_o87 (d : Nat) (l0 : Value) (l1 : Value) (l2 : Value) (l3 : Value) (l4 : Value) (w0 : Value) (σ : Hs) : ru d 132 79 [l0, l1, l2, l3, l4] [.ref 87, w0] σ = ru d 132 82 [l0, l1, l2, l3, l4] [.ref 88, w0] σ := q_getf t132_79 mo132 F8_9 rfl rfl
theorem t132_82 : decode (mb 132) 82 = .ok (.iconst 5, 1) := by decide +kernel
theorem s132_82 (d : Nat) (l0 : Value) (l1 : Value) (l2 : Value) (l3 : Value) (l4 : Value) (w0 w1 : Value) (σ : Hs) : ru d 132 82 [l0, l1, l2, l3, l4] [w0, w1] σ = ru d 132 83 [l0, l1, l2, l3, l4] [.int 5, w0, w1] σ := q_iconst t132_82 (by decide +kernel)
theorem t132_83 : decode (mb 132) 83 = .ok (.iaload, 1) := by decide +kernel
theorem s132_83_o88 (d : Nat) (l0 : Value) (l1 : Value) (l2 : Value) (l3 : Value) (l4 : Value) (i : Int32) (w0 : Value) (σ : Hs) : ru d 132 83 [l0, l1, l2, l3, l4] [.int i, .ref 88, w0] σ = gd (vp_in i 545) (ru d 132 84 [l0, l1, l2, l3, l4] [.int (σ 88 i.toNatClampNeg), w0] σ) := q_iald t132_83 rfl (by decide +kernel) rfl
theorem t132_84 : decode (mb 132) 84 = .ok (.goto 4, 3) := by decide +kernel
theorem s132_84 (d : Nat) (l0 : Value) (l1 : Value) (l2 : Value) (l3 : Value) (l4 : Value) (w0 w1 : Value) (σ : Hs) : ru d 132 84 [l0, l1, l2, l3, l4] [w0, w1] σ = ru d 132 88 [l0, l1, l2, l3, l4] [w0, w1] σ := q_goto t132_84 (by decide +kernel)
theorem t132_87 : decode (mb 132) 87 = .ok (.iconst 0, 1) := by decide +kernel
theorem s132_87 (d : Nat) (l0 : Value) (l1 : Value) (l2 : Value) (l3 : Value) (l4 : Value) (w0 : Value) (σ : Hs) : ru d 132 87 [l0, l1, l2, l3, l4] [w0] σ = ru d 132 88 [l0, l1, l2, l3, l4] [.int 0, w0] σ := q_iconst t132_87 (by decide +kernel)
theorem t132_88 : decode (mb 132) 88 = .ok (.iadd, 1) := by decide +kernel
theorem s132_88 (d : Nat) (l0 : Value) (l1 : Value) (l2 : Value) (l3 : Value) (l4 : Value) (x y : Int32) (σ : Hs) : ru d 132 88 [l0, l1, l2, l3, l4] [.int y, .int x] σ = ru d 132 89 [l0, l1, l2, l3, l4] [.int (x + y)] σ := q_iadd t132_88
theorem t132_89 : decode (mb 132) 89 = .ok (.ireturn, 1) := by decide +kernel
theorem s132_89 (d : Nat) (l0 : Value) (l1 : Value) (l2 : Value) (l3 : Value) (l4 : Value) (x : Int32) (σ : Hs) : ru d 132 89 [l0, l1, l2, l3, l4] [.int x] σ = some (some (.int x), σ) := q_ireti t132_89 mr132
theorem c132 (d : Nat) (x0 : Nat) (x1 : Int32) (σ : Hs) : callD (d + 1) 132 [.ref x0, .int x1] σ = ru d 132 0 [.ref x0, .int x1, uu, uu, uu] [] σ := callD_ru ml132 rfl rfl (Nat.le_of_ble_eq_true rfl)
-- 133: Model.armful(II)I
theorem t133_0 : decode (mb 133) 0 = .ok (.iload_n 1, 1) := by decide +kernel
theorem s133_0 (d : Nat) (l0 : Value) (i1 : Int32) (l2 : Value) (l3 : Value) (σ : Hs) : ru d 133 0 [l0, .int i1, l2, l3] [] σ = ru d 133 1 [l0, .int i1, l2, l3] [.int i1] σ := q_iload_n t133_0 rfl
theorem t133_1 : decode (mb 133) 1 = .ok (.invokestatic 113, 3) := by decide +kernel
theorem s133_1 (d : Nat) (l0 : Value) (l1 : Value) (l2 : Value) (l3 : Value) (v0 : Value) (σ : Hs) : ru d 133 1 [l0, l1, l2, l3] [v0] σ = kont (callD d 121 [v0] σ) d 133 4 [l0, l1, l2, l3] [] := q_invs t133_1 mo133 (by decide +kernel) K8_113 mj121 (Nat.le_of_ble_eq_true rfl) rfl rfl (Nat.le_of_ble_eq_true rfl)
theorem t133_4 : decode (mb 133) 4 = .ok (.ifCond .eq 13, 3) := by decide +kernel
theorem s133_4 (d : Nat) (l0 : Value) (l1 : Value) (l2 : Value) (l3 : Value) (x : Int32) (σ : Hs) : ru d 133 4 [l0, l1, l2, l3] [.int x] σ = if x = 0 then ru d 133 17 [l0, l1, l2, l3] [] σ else ru d 133 7 [l0, l1, l2, l3] [] σ := q_if_eq t133_4 (by decide +kernel)
theorem t133_7 : decode (mb 133) 7 = .ok (.iload_n 2, 1) := by decide +kernel
theorem s133_7 (d : Nat) (l0 : Value) (l1 : Value) (i2 : Int32) (l3 : Value) (σ : Hs) : ru d 133 7 [l0, l1, .int i2, l3] [] σ = ru d 133 8 [l0, l1, .int i2, l3] [.int i2] σ := q_iload_n t133_7 rfl
theorem t133_8 : decode (mb 133) 8 = .ok (.iconst 0, 1) := by decide +kernel
theorem s133_8 (d : Nat) (l0 : Value) (l1 : Value) (l2 : Value) (l3 : Value) (w0 : Value) (σ : Hs) : ru d 133 8 [l0, l1, l2, l3] [w0] σ = ru d 133 9 [l0, l1, l2, l3] [.int 0, w0] σ := q_iconst t133_8 (by decide +kernel)
theorem t133_9 : decode (mb 133) 9 = .ok (.bipush 8, 2) := by decide +kernel
theorem s133_9 (d : Nat) (l0 : Value) (l1 : Value) (l2 : Value) (l3 : Value) (w0 w1 : Value) (σ : Hs) : ru d 133 9 [l0, l1, l2, l3] [w0, w1] σ = ru d 133 11 [l0, l1, l2, l3] [.int 8, w0, w1] σ := q_bipush t133_9 (by decide +kernel)
theorem t133_11 : decode (mb 133) 11 = .ok (.invokestatic 81, 3) := by decide +kernel
theorem s133_11 (d : Nat) (l0 : Value) (l1 : Value) (l2 : Value) (l3 : Value) (v0 v1 v2 : Value) (σ : Hs) : ru d 133 11 [l0, l1, l2, l3] [v2, v1, v0] σ = kont (callD d 113 [v0, v1, v2] σ) d 133 14 [l0, l1, l2, l3] [] := q_invs t133_11 mo133 (by decide +kernel) K8_81 mj113 (Nat.le_of_ble_eq_true rfl) rfl rfl (Nat.le_of_ble_eq_true rfl)
theorem t133_14 : decode (mb 133) 14 = .ok (.ifCond .ne 10, 3) := by decide +kernel
theorem s133_14 (d : Nat) (l0 : Value) (l1 : Value) (l2 : Value) (l3 : Value) (x : Int32) (σ : Hs) : ru d 133 14 [l0, l1, l2, l3] [.int x] σ = if x = 0 then ru d 133 17 [l0, l1, l2, l3] [] σ else ru d 133 24 [l0, l1, l2, l3] [] σ := q_if_ne t133_14 (by decide +kernel)
theorem t133_17 : decode (mb 133) 17 = .ok (.aload_n 0, 1) := by decide +kernel
theorem s133_17 (d : Nat) (a0 : Nat) (l1 : Value) (l2 : Value) (l3 : Value) (σ : Hs) : ru d 133 17 [.ref a0, l1, l2, l3] [] σ = ru d 133 18 [.ref a0, l1, l2, l3] [.ref a0] σ := q_aload_n t133_17 rfl
theorem t133_18 : decode (mb 133) 18 = .ok (.ldc 104, 2) := by decide +kernel
theorem s133_18 (d : Nat) (l0 : Value) (l1 : Value) (l2 : Value) (l3 : Value) (w0 : Value) (σ : Hs) : ru d 133 18 [l0, l1, l2, l3] [w0] σ = ru d 133 20 [l0, l1, l2, l3] [.int (-1000001), w0] σ := q_ldc t133_18 mo133 C8_104
theorem t133_20 : decode (mb 133) 20 = .ok (.invokevirtual 105, 3) := by decide +kernel
theorem s133_20_o87 (d : Nat) (l0 : Value) (l1 : Value) (l2 : Value) (l3 : Value) (v1 : Value) (σ : Hs) : ru d 133 20 [l0, l1, l2, l3] [v1, .ref 87] σ = kont (callD d 112 [.ref 87, v1] σ) d 133 23 [l0, l1, l2, l3] [] := q_invv t133_20 mo133 K8_105 mj112 rfl rfl rfl rfl (Nat.le_of_ble_eq_true rfl)
theorem t133_23 : decode (mb 133) 23 = .ok (.ireturn, 1) := by decide +kernel
theorem s133_23 (d : Nat) (l0 : Value) (l1 : Value) (l2 : Value) (l3 : Value) (x : Int32) (σ : Hs) : ru d 133 23 [l0, l1, l2, l3] [.int x] σ = some (some (.int x), σ) := q_ireti t133_23 mr133
theorem t133_24 : decode (mb 133) 24 = .ok (.aload_n 0, 1) := by decide +kernel
theorem s133_24 (d : Nat) (a0 : Nat) (l1 : Value) (l2 : Value) (l3 : Value) (σ : Hs) : ru d 133 24 [.ref a0, l1, l2, l3] [] σ = ru d 133 25 [.ref a0, l1, l2, l3] [.ref a0] σ := q_aload_n t133_24 rfl
theorem t133_25 : decode (mb 133) 25 = .ok (.iload_n 1, 1) := by decide +kernel
theorem s133_25 (d : Nat) (l0 : Value) (i1 : Int32) (l2 : Value) (l3 : Value) (w0 : Value) (σ : Hs) : ru d 133 25 [l0, .int i1, l2, l3] [w0] σ = ru d 133 26 [l0, .int i1, l2, l3] [.int i1, w0] σ := q_iload_n t133_25 rfl
theorem t133_26 : decode (mb 133) 26 = .ok (.invokevirtual 88, 3) := by decide +kernel
theorem s133_26_o87 (d : Nat) (l0 : Value) (l1 : Value) (l2 : Value) (l3 : Value) (v1 : Value) (σ : Hs) : ru d 133 26 [l0, l1, l2, l3] [v1, .ref 87] σ = kont (callD d 122 [.ref 87, v1] σ) d 133 29 [l0, l1, l2, l3] [] := q_invv t133_26 mo133 K8_88 mj122 rfl rfl rfl rfl (Nat.le_of_ble_eq_true rfl)
theorem t133_29 : decode (mb 133) 29 = .ok (.ifCond .ne 10, 3) := by decide +kernel
theorem s133_29 (d : Nat) (l0 : Value) (l1 : Value) (l2 : Value) (l3 : Value) (x : Int32) (σ : Hs) : ru d 133 29 [l0, l1, l2, l3] [.int x] σ = if x = 0 then ru d 133 32 [l0, l1, l2, l3] [] σ else ru d 133 39 [l0, l1, l2, l3] [] σ := q_if_ne t133_29 (by decide +kernel)
theorem t133_32 : decode (mb 133) 32 = .ok (.aload_n 0, 1) := by decide +kernel
theorem s133_32 (d : Nat) (a0 : Nat) (l1 : Value) (l2 : Value) (l3 : Value) (σ : Hs) : ru d 133 32 [.ref a0, l1, l2, l3] [] σ = ru d 133 33 [.ref a0, l1, l2, l3] [.ref a0] σ := q_aload_n t133_32 rfl
theorem t133_33 : decode (mb 133) 33 = .ok (.ldc 116, 2) := by decide +kernel
theorem s133_33 (d : Nat) (l0 : Value) (l1 : Value) (l2 : Value) (l3 : Value) (w0 : Value) (σ : Hs) : ru d 133 33 [l0, l1, l2, l3] [w0] σ = ru d 133 35 [l0, l1, l2, l3] [.int (-1000002), w0] σ := q_ldc t133_33 mo133 C8_116
theorem t133_35 : decode (mb 133) 35 = .ok (.invokevirtual 105, 3) := by decide +kernel
theorem s133_35_o87 (d : Nat) (l0 : Value) (l1 : Value) (l2 : Value) (l3 : Value) (v1 : Value) (σ : Hs) : ru d 133 35 [l0, l1, l2, l3] [v1, .ref 87] σ = kont (callD d 112 [.ref 87, v1] σ) d 133 38 [l0, l1, l2, l3] [] := q_invv t133_35 mo133 K8_105 mj112 rfl rfl rfl rfl (Nat.le_of_ble_eq_true rfl)
theorem t133_38 : decode (mb 133) 38 = .ok (.ireturn, 1) := by decide +kernel
theorem s133_38 (d : Nat) (l0 : Value) (l1 : Value) (l2 : Value) (l3 : Value) (x : Int32) (σ : Hs) : ru d 133 38 [l0, l1, l2, l3] [.int x] σ = some (some (.int x), σ) := q_ireti t133_38 mr133
theorem t133_39 : decode (mb 133) 39 = .ok (.aload_n 0, 1) := by decide +kernel
theorem s133_39 (d : Nat) (a0 : Nat) (l1 : Value) (l2 : Value) (l3 : Value) (σ : Hs) : ru d 133 39 [.ref a0, l1, l2, l3] [] σ = ru d 133 40 [.ref a0, l1, l2, l3] [.ref a0] σ := q_aload_n t133_39 rfl
theorem t133_40 : decode (mb 133) 40 = .ok (.iload_n 1, 1) := by decide +kernel
theorem s133_40 (d : Nat) (l0 : Value) (i1 : Int32) (l2 : Value) (l3 : Value) (w0 : Value) (σ : Hs) : ru d 133 40 [l0, .int i1, l2, l3] [w0] σ = ru d 133 41 [l0, .int i1, l2, l3] [.int i1, w0] σ := q_iload_n t133_40 rfl
theorem t133_41 : decode (mb 133) 41 = .ok (.iconst 1, 1) := by decide +kernel
theorem s133_41 (d : Nat) (l0 : Value) (l1 : Value) (l2 : Value) (l3 : Value) (w0 w1 : Value) (σ : Hs) : ru d 133 41 [l0, l1, l2, l3] [w0, w1] σ = ru d 133 42 [l0, l1, l2, l3] [.int 1, w0, w1] σ := q_iconst t133_41 (by decide +kernel)
theorem t133_42 : decode (mb 133) 42 = .ok (.invokevirtual 85, 3) := by decide +kernel
theorem s133_42_o87 (d : Nat) (l0 : Value) (l1 : Value) (l2 : Value) (l3 : Value) (v1 v2 : Value) (σ : Hs) : ru d 133 42 [l0, l1, l2, l3] [v2, v1, .ref 87] σ = kont (callD d 119 [.ref 87, v1, v2] σ) d 133 45 [l0, l1, l2, l3] [] := q_invv t133_42 mo133 K8_85 mj119 rfl rfl rfl rfl (Nat.le_of_ble_eq_true rfl)
theorem t133_45 : decode (mb 133) 45 = .ok (.istore_n 3, 1) := by decide +kernel
theorem s133_45 (d : Nat) (l0 : Value) (l1 : Value) (i2 : Int32) (l3 : Value) (x : Int32) (σ : Hs) : ru d 133 45 [l0, l1, .int i2, l3] [.int x] σ = ru d 133 46 [l0, l1, .int i2, .int x] [] σ := q_istore_n t133_45 ⟨Nat.le_of_ble_eq_true rfl, rfl⟩ rfl
theorem t133_46 : decode (mb 133) 46 = .ok (.iload_n 2, 1) := by decide +kernel
theorem s133_46 (d : Nat) (l0 : Value) (l1 : Value) (i2 : Int32) (l3 : Value) (σ : Hs) : ru d 133 46 [l0, l1, .int i2, l3] [] σ = ru d 133 47 [l0, l1, .int i2, l3] [.int i2] σ := q_iload_n t133_46 rfl
theorem t133_47 : decode (mb 133) 47 = .ok (.bipush 6, 2) := by decide +kernel
theorem s133_47 (d : Nat) (l0 : Value) (l1 : Value) (l2 : Value) (l3 : Value) (w0 : Value) (σ : Hs) : ru d 133 47 [l0, l1, l2, l3] [w0] σ = ru d 133 49 [l0, l1, l2, l3] [.int 6, w0] σ := q_bipush t133_47 (by decide +kernel)
theorem t133_49 : decode (mb 133) 49 = .ok (.if_icmp .ge 14, 3) := by decide +kernel
theorem s133_49 (d : Nat) (l0 : Value) (l1 : Value) (l2 : Value) (l3 : Value) (x y : Int32) (σ : Hs) : ru d 133 49 [l0, l1, l2, l3] [.int y, .int x] σ = if y ≤ x then ru d 133 63 [l0, l1, l2, l3] [] σ else ru d 133 52 [l0, l1, l2, l3] [] σ := q_ic_ge t133_49 (by decide +kernel)
theorem t133_52 : decode (mb 133) 52 = .ok (.aload_n 0, 1) := by decide +kernel
theorem s133_52 (d : Nat) (a0 : Nat) (l1 : Value) (l2 : Value) (l3 : Value) (σ : Hs) : ru d 133 52 [.ref a0, l1, l2, l3] [] σ = ru d 133 53 [.ref a0, l1, l2, l3] [.ref a0] σ := q_aload_n t133_52 rfl
theorem t133_53 : decode (mb 133) 53 = .ok (.iload_n 1, 1) := by decide +kernel
theorem s133_53 (d : Nat) (l0 : Value) (i1 : Int32) (l2 : Value) (l3 : Value) (w0 : Value) (σ : Hs) : ru d 133 53 [l0, .int i1, l2, l3] [w0] σ = ru d 133 54 [l0, .int i1, l2, l3] [.int i1, w0] σ := q_iload_n t133_53 rfl
theorem t133_54 : decode (mb 133) 54 = .ok (.iconst 1, 1) := by decide +kernel
theorem s133_54 (d : Nat) (l0 : Value) (l1 : Value) (l2 : Value) (l3 : Value) (w0 w1 : Value) (σ : Hs) : ru d 133 54 [l0, l1, l2, l3] [w0, w1] σ = ru d 133 55 [l0, l1, l2, l3] [.int 1, w0, w1] σ := q_iconst t133_54 (by decide +kernel)
theorem t133_55 : decode (mb 133) 55 = .ok (.iload_n 2, 1) := by decide +kernel
theorem s133_55 (d : Nat) (l0 : Value) (l1 : Value) (i2 : Int32) (l3 : Value) (w0 w1 w2 : Value) (σ : Hs) : ru d 133 55 [l0, l1, .int i2, l3] [w0, w1, w2] σ = ru d 133 56 [l0, l1, .int i2, l3] [.int i2, w0, w1, w2] σ := q_iload_n t133_55 rfl
theorem t133_56 : decode (mb 133) 56 = .ok (.iadd, 1) := by decide +kernel
theorem s133_56 (d : Nat) (l0 : Value) (l1 : Value) (l2 : Value) (l3 : Value) (x y : Int32) (w0 w1 : Value) (σ : Hs) : ru d 133 56 [l0, l1, l2, l3] [.int y, .int x, w0, w1] σ = ru d 133 57 [l0, l1, l2, l3] [.int (x + y), w0, w1] σ := q_iadd t133_56
theorem t133_57 : decode (mb 133) 57 = .ok (.invokevirtual 85, 3) := by decide +kernel
theorem s133_57_o87 (d : Nat) (l0 : Value) (l1 : Value) (l2 : Value) (l3 : Value) (v1 v2 : Value) (σ : Hs) : ru d 133 57 [l0, l1, l2, l3] [v2, v1, .ref 87] σ = kont (callD d 119 [.ref 87, v1, v2] σ) d 133 60 [l0, l1, l2, l3] [] := q_invv t133_57 mo133 K8_85 mj119 rfl rfl rfl rfl (Nat.le_of_ble_eq_true rfl)
theorem t133_60 : decode (mb 133) 60 = .ok (.goto 38, 3) := by decide +kernel
theorem s133_60 (d : Nat) (l0 : Value) (l1 : Value) (l2 : Value) (l3 : Value) (w0 : Value) (σ : Hs) : ru d 133 60 [l0, l1, l2, l3] [w0] σ = ru d 133 98 [l0, l1, l2, l3] [w0] σ := q_goto t133_60 (by decide +kernel)
theorem t133_63 : decode (mb 133) 63 = .ok (.iload_n 2, 1) := by decide +kernel
theorem s133_63 (d : Nat) (l0 : Value) (l1 : Value) (i2 : Int32) (l3 : Value) (σ : Hs) : ru d 133 63 [l0, l1, .int i2, l3] [] σ = ru d 133 64 [l0, l1, .int i2, l3] [.int i2] σ := q_iload_n t133_63 rfl
theorem t133_64 : decode (mb 133) 64 = .ok (.bipush 6, 2) := by decide +kernel
theorem s133_64 (d : Nat) (l0 : Value) (l1 : Value) (l2 : Value) (l3 : Value) (w0 : Value) (σ : Hs) : ru d 133 64 [l0, l1, l2, l3] [w0] σ = ru d 133 66 [l0, l1, l2, l3] [.int 6, w0] σ := q_bipush t133_64 (by decide +kernel)
theorem t133_66 : decode (mb 133) 66 = .ok (.if_icmp .ne 11, 3) := by decide +kernel
theorem s133_66 (d : Nat) (l0 : Value) (l1 : Value) (l2 : Value) (l3 : Value) (x y : Int32) (σ : Hs) : ru d 133 66 [l0, l1, l2, l3] [.int y, .int x] σ = if x = y then ru d 133 69 [l0, l1, l2, l3] [] σ else ru d 133 77 [l0, l1, l2, l3] [] σ := q_ic_ne t133_66 (by decide +kernel)
theorem t133_69 : decode (mb 133) 69 = .ok (.aload_n 0, 1) := by decide +kernel
theorem s133_69 (d : Nat) (a0 : Nat) (l1 : Value) (l2 : Value) (l3 : Value) (σ : Hs) : ru d 133 69 [.ref a0, l1, l2, l3] [] σ = ru d 133 70 [.ref a0, l1, l2, l3] [.ref a0] σ := q_aload_n t133_69 rfl
theorem t133_70 : decode (mb 133) 70 = .ok (.iload_n 1, 1) := by decide +kernel
theorem s133_70 (d : Nat) (l0 : Value) (i1 : Int32) (l2 : Value) (l3 : Value) (w0 : Value) (σ : Hs) : ru d 133 70 [l0, .int i1, l2, l3] [w0] σ = ru d 133 71 [l0, .int i1, l2, l3] [.int i1, w0] σ := q_iload_n t133_70 rfl
theorem t133_71 : decode (mb 133) 71 = .ok (.invokevirtual 128, 3) := by decide +kernel
theorem s133_71_o87 (d : Nat) (l0 : Value) (l1 : Value) (l2 : Value) (l3 : Value) (v1 : Value) (σ : Hs) : ru d 133 71 [l0, l1, l2, l3] [v1, .ref 87] σ = kont (callD d 132 [.ref 87, v1] σ) d 133 74 [l0, l1, l2, l3] [] := q_invv t133_71 mo133 K8_128 mj132 rfl rfl rfl rfl (Nat.le_of_ble_eq_true rfl)
theorem t133_74 : decode (mb 133) 74 = .ok (.goto 24, 3) := by decide +kernel
theorem s133_74 (d : Nat) (l0 : Value) (l1 : Value) (l2 : Value) (l3 : Value) (w0 : Value) (σ : Hs) : ru d 133 74 [l0, l1, l2, l3] [w0] σ = ru d 133 98 [l0, l1, l2, l3] [w0] σ := q_goto t133_74 (by decide +kernel)
theorem t133_77 : decode (mb 133) 77 = .ok (.iload_n 2, 1) := by decide +kernel
theorem s133_77 (d : Nat) (l0 : Value) (l1 : Value) (i2 : Int32) (l3 : Value) (σ : Hs) : ru d 133 77 [l0, l1, .int i2, l3] [] σ = ru d 133 78 [l0, l1, .int i2, l3] [.int i2] σ := q_iload_n t133_77 rfl
theorem t133_78 : decode (mb 133) 78 = .ok (.bipush 7, 2) := by decide +kernel
theorem s133_78 (d : Nat) (l0 : Value) (l1 : Value) (l2 : Value) (l3 : Value) (w0 : Value) (σ : Hs) : ru d 133 78 [l0, l1, l2, l3] [w0] σ = ru d 133 80 [l0, l1, l2, l3] [.int 7, w0] σ := q_bipush t133_78 (by decide +kernel)
theorem t133_80 : decode (mb 133) 80 = .ok (.if_icmp .ne 12, 3) := by decide +kernel
theorem s133_80 (d : Nat) (l0 : Value) (l1 : Value) (l2 : Value) (l3 : Value) (x y : Int32) (σ : Hs) : ru d 133 80 [l0, l1, l2, l3] [.int y, .int x] σ = if x = y then ru d 133 83 [l0, l1, l2, l3] [] σ else ru d 133 92 [l0, l1, l2, l3] [] σ := q_ic_ne t133_80 (by decide +kernel)
theorem t133_83 : decode (mb 133) 83 = .ok (.aload_n 0, 1) := by decide +kernel
theorem s133_83 (d : Nat) (a0 : Nat) (l1 : Value) (l2 : Value) (l3 : Value) (σ : Hs) : ru d 133 83 [.ref a0, l1, l2, l3] [] σ = ru d 133 84 [.ref a0, l1, l2, l3] [.ref a0] σ := q_aload_n t133_83 rfl
theorem t133_84 : decode (mb 133) 84 = .ok (.getfield 22, 3) := by decide +kernel
theorem s133_84_o87 (d : Nat) (l0 : Value) (l1 : Value) (l2 : Value) (l3 : Value) (σ : Hs) : ru d 133 84 [l0, l1, l2, l3] [.ref 87] σ = ru d 133 87 [l0, l1, l2, l3] [.ref 92] σ := q_getf t133_84 mo133 F8_22 rfl rfl
theorem t133_87 : decode (mb 133) 87 = .ok (.iload_n 3, 1) := by decide +kernel
theorem s133_87 (d : Nat) (l0 : Value) (l1 : Value) (l2 : Value) (i3 : Int32) (w0 : Value) (σ : Hs) : ru d 133 87 [l0, l1, l2, .int i3] [w0] σ = ru d 133 88 [l0, l1, l2, .int i3] [.int i3, w0] σ := q_iload_n t133_87 rfl
theorem t133_88 : decode (mb 133) 88 = .ok (.iaload, 1) := by decide +kernel
theorem s133_88_o92 (d : Nat) (l0 : Value) (l1 : Value) (l2 : Value) (l3 : Value) (i : Int32) (σ : Hs) : ru d 133 88 [l0, l1, l2, l3] [.int i, .ref 92] σ = gd (vp_in i 7) (ru d 133 89 [l0, l1, l2, l3] [.int (σ 92 i.toNatClampNeg)] σ) := q_iald t133_88 rfl (by decide +kernel) rfl
theorem t133_89 : decode (mb 133) 89 = .ok (.goto 9, 3) := by decide +kernel
theorem s133_89 (d : Nat) (l0 : Value) (l1 : Value) (l2 : Value) (l3 : Value) (w0 : Value) (σ : Hs) : ru d 133 89 [l0, l1, l2, l3] [w0] σ = ru d 133 98 [l0, l1, l2, l3] [w0] σ := q_goto t133_89 (by decide +kernel)
theorem t133_92 : decode (mb 133) 92 = .ok (.aload_n 0, 1) := by decide +kernel
theorem s133_92 (d : Nat) (a0 : Nat) (l1 : Value) (l2 : Value) (l3 : Value) (σ : Hs) : ru d 133 92 [.ref a0, l1, l2, l3] [] σ = ru d 133 93 [.ref a0, l1, l2, l3] [.ref a0] σ := q_aload_n t133_92 rfl
theorem t133_93 : decode (mb 133) 93 = .ok (.getfield 25, 3) := by decide +kernel
theorem s133_93_o87 (d : Nat) (l0 : Value) (l1 : Value) (l2 : Value) (l3 : Value) (σ : Hs) : ru d 133 93 [l0, l1, l2, l3] [.ref 87] σ = ru d 133 96 [l0, l1, l2, l3] [.ref 93] σ := q_getf t133_93 mo133 F8_25 rfl rfl
theorem t133_96 : decode (mb 133) 96 = .ok (.iload_n 3, 1) := by decide +kernel
theorem s133_96 (d : Nat) (l0 : Value) (l1 : Value) (l2 : Value) (i3 : Int32) (w0 : Value) (σ : Hs) : ru d 133 96 [l0, l1, l2, .int i3] [w0] σ = ru d 133 97 [l0, l1, l2, .int i3] [.int i3, w0] σ := q_iload_n t133_96 rfl
theorem t133_97 : decode (mb 133) 97 = .ok (.iaload, 1) := by decide +kernel
theorem s133_97_o93 (d : Nat) (l0 : Value) (l1 : Value) (l2 : Value) (l3 : Value) (i : Int32) (σ : Hs) : ru d 133 97 [l0, l1, l2, l3] [.int i, .ref 93] σ = gd (vp_in i 7) (ru d 133 98 [l0, l1, l2, l3] [.int (σ 93 i.toNatClampNeg)] σ) := q_iald t133_97 rfl (by decide +kernel) rfl
theorem t133_98 : decode (mb 133) 98 = .ok (.ireturn, 1) := by decide +kernel
theorem s133_98 (d : Nat) (l0 : Value) (l1 : Value) (l2 : Value) (l3 : Value) (x : Int32) (σ : Hs) : ru d 133 98 [l0, l1, l2, l3] [.int x] σ = some (some (.int x), σ) := q_ireti t133_98 mr133
theorem c133 (d : Nat) (x0 : Nat) (x1 : Int32) (x2 : Int32) (σ : Hs) : callD (d + 1) 133 [.ref x0, .int x1, .int x2] σ = ru d 133 0 [.ref x0, .int x1, .int x2, uu] [] σ := callD_ru ml133 rfl rfl (Nat.le_of_ble_eq_true rfl)
-- 134: Model.above(I)I
theorem t134_0 : decode (mb 134) 0 = .ok (.iload_n 0, 1) := by decide +kernel
theorem s134_0 (d : Nat) (i0 : Int32) (σ : Hs) : ru d 134 0 [.int i0] [] σ = ru d 134 1 [.int i0] [.int i0] σ := q_iload_n t134_0 rfl
theorem t134_1 : decode (mb 134) 1 = .ok (.ifCond .ne 7, 3) := by decide +kernel
theorem s134_1 (d : Nat) (l0 : Value) (x : Int32) (σ : Hs) : ru d 134 1 [l0] [.int x] σ = if x = 0 then ru d 134 4 [l0] [] σ else ru d 134 8 [l0] [] σ := q_if_ne t134_1 (by decide +kernel)
theorem t134_4 : decode (mb 134) 4 = .ok (.iconst (-1), 1) := by decide +kernel
theorem s134_4 (d : Nat) (l0 : Value) (σ : Hs) : ru d 134 4 [l0] [] σ = ru d 134 5 [l0] [.int (-1)] σ := q_iconst t134_4 (by decide +kernel)
theorem t134_5 : decode (mb 134) 5 = .ok (.goto 32, 3) := by decide +kernel
theorem s134_5 (d : Nat) (l0 : Value) (w0 : Value) (σ : Hs) : ru d 134 5 [l0] [w0] σ = ru d 134 37 [l0] [w0] σ := q_goto t134_5 (by decide +kernel)
theorem t134_8 : decode (mb 134) 8 = .ok (.iload_n 0, 1) := by decide +kernel
theorem s134_8 (d : Nat) (i0 : Int32) (σ : Hs) : ru d 134 8 [.int i0] [] σ = ru d 134 9 [.int i0] [.int i0] σ := q_iload_n t134_8 rfl
theorem t134_9 : decode (mb 134) 9 = .ok (.iconst 3, 1) := by decide +kernel
theorem s134_9 (d : Nat) (l0 : Value) (w0 : Value) (σ : Hs) : ru d 134 9 [l0] [w0] σ = ru d 134 10 [l0] [.int 3, w0] σ := q_iconst t134_9 (by decide +kernel)
theorem t134_10 : decode (mb 134) 10 = .ok (.if_icmp .ne 7, 3) := by decide +kernel
theorem s134_10 (d : Nat) (l0 : Value) (x y : Int32) (σ : Hs) : ru d 134 10 [l0] [.int y, .int x] σ = if x = y then ru d 134 13 [l0] [] σ else ru d 134 17 [l0] [] σ := q_ic_ne t134_10 (by decide +kernel)
theorem t134_13 : decode (mb 134) 13 = .ok (.iconst 1, 1) := by decide +kernel
theorem s134_13 (d : Nat) (l0 : Value) (σ : Hs) : ru d 134 13 [l0] [] σ = ru d 134 14 [l0] [.int 1] σ := q_iconst t134_13 (by decide +kernel)
theorem t134_14 : decode (mb 134) 14 = .ok (.goto 23, 3) := by decide +kernel
theorem s134_14 (d : Nat) (l0 : Value) (w0 : Value) (σ : Hs) : ru d 134 14 [l0] [w0] σ = ru d 134 37 [l0] [w0] σ := q_goto t134_14 (by decide +kernel)
theorem t134_17 : decode (mb 134) 17 = .ok (.iload_n 0, 1) := by decide +kernel
theorem s134_17 (d : Nat) (i0 : Int32) (σ : Hs) : ru d 134 17 [.int i0] [] σ = ru d 134 18 [.int i0] [.int i0] σ := q_iload_n t134_17 rfl
theorem t134_18 : decode (mb 134) 18 = .ok (.iconst 4, 1) := by decide +kernel
theorem s134_18 (d : Nat) (l0 : Value) (w0 : Value) (σ : Hs) : ru d 134 18 [l0] [w0] σ = ru d 134 19 [l0] [.int 4, w0] σ := q_iconst t134_18 (by decide +kernel)
theorem t134_19 : decode (mb 134) 19 = .ok (.if_icmp .ne 7, 3) := by decide +kernel
theorem s134_19 (d : Nat) (l0 : Value) (x y : Int32) (σ : Hs) : ru d 134 19 [l0] [.int y, .int x] σ = if x = y then ru d 134 22 [l0] [] σ else ru d 134 26 [l0] [] σ := q_ic_ne t134_19 (by decide +kernel)
theorem t134_22 : decode (mb 134) 22 = .ok (.iconst 2, 1) := by decide +kernel
theorem s134_22 (d : Nat) (l0 : Value) (σ : Hs) : ru d 134 22 [l0] [] σ = ru d 134 23 [l0] [.int 2] σ := q_iconst t134_22 (by decide +kernel)
theorem t134_23 : decode (mb 134) 23 = .ok (.goto 14, 3) := by decide +kernel
theorem s134_23 (d : Nat) (l0 : Value) (w0 : Value) (σ : Hs) : ru d 134 23 [l0] [w0] σ = ru d 134 37 [l0] [w0] σ := q_goto t134_23 (by decide +kernel)
theorem t134_26 : decode (mb 134) 26 = .ok (.iload_n 0, 1) := by decide +kernel
theorem s134_26 (d : Nat) (i0 : Int32) (σ : Hs) : ru d 134 26 [.int i0] [] σ = ru d 134 27 [.int i0] [.int i0] σ := q_iload_n t134_26 rfl
theorem t134_27 : decode (mb 134) 27 = .ok (.bipush 6, 2) := by decide +kernel
theorem s134_27 (d : Nat) (l0 : Value) (w0 : Value) (σ : Hs) : ru d 134 27 [l0] [w0] σ = ru d 134 29 [l0] [.int 6, w0] σ := q_bipush t134_27 (by decide +kernel)
theorem t134_29 : decode (mb 134) 29 = .ok (.if_icmp .ne 7, 3) := by decide +kernel
theorem s134_29 (d : Nat) (l0 : Value) (x y : Int32) (σ : Hs) : ru d 134 29 [l0] [.int y, .int x] σ = if x = y then ru d 134 32 [l0] [] σ else ru d 134 36 [l0] [] σ := q_ic_ne t134_29 (by decide +kernel)
theorem t134_32 : decode (mb 134) 32 = .ok (.iconst 5, 1) := by decide +kernel
theorem s134_32 (d : Nat) (l0 : Value) (σ : Hs) : ru d 134 32 [l0] [] σ = ru d 134 33 [l0] [.int 5] σ := q_iconst t134_32 (by decide +kernel)
theorem t134_33 : decode (mb 134) 33 = .ok (.goto 4, 3) := by decide +kernel
theorem s134_33 (d : Nat) (l0 : Value) (w0 : Value) (σ : Hs) : ru d 134 33 [l0] [w0] σ = ru d 134 37 [l0] [w0] σ := q_goto t134_33 (by decide +kernel)
theorem t134_36 : decode (mb 134) 36 = .ok (.iconst 0, 1) := by decide +kernel
theorem s134_36 (d : Nat) (l0 : Value) (σ : Hs) : ru d 134 36 [l0] [] σ = ru d 134 37 [l0] [.int 0] σ := q_iconst t134_36 (by decide +kernel)
theorem t134_37 : decode (mb 134) 37 = .ok (.ireturn, 1) := by decide +kernel
theorem s134_37 (d : Nat) (l0 : Value) (x : Int32) (σ : Hs) : ru d 134 37 [l0] [.int x] σ = some (some (.int x), σ) := q_ireti t134_37 mr134
theorem c134 (d : Nat) (x0 : Int32) (σ : Hs) : callD (d + 1) 134 [.int x0] σ = ru d 134 0 [.int x0] [] σ := callD_ru ml134 rfl rfl (Nat.le_of_ble_eq_true rfl)
-- 135: Model.as(II)I
theorem t135_0 : decode (mb 135) 0 = .ok (.iload_n 1, 1) := by decide +kernel
theorem s135_0 (d : Nat) (l0 : Value) (i1 : Int32) (l2 : Value) (l3 : Value) (σ : Hs) : ru d 135 0 [l0, .int i1, l2, l3] [] σ = ru d 135 1 [l0, .int i1, l2, l3] [.int i1] σ := q_iload_n t135_0 rfl
theorem t135_1 : decode (mb 135) 1 = .ok (.invokestatic 113, 3) := by decide +kernel
theorem s135_1 (d : Nat) (l0 : Value) (l1 : Value) (l2 : Value) (l3 : Value) (v0 : Value) (σ : Hs) : ru d 135 1 [l0, l1, l2, l3] [v0] σ = kont (callD d 121 [v0] σ) d 135 4 [l0, l1, l2, l3] [] := q_invs t135_1 mo135 (by decide +kernel) K8_113 mj121 (Nat.le_of_ble_eq_true rfl) rfl rfl (Nat.le_of_ble_eq_true rfl)
theorem t135_4 : decode (mb 135) 4 = .ok (.ifCond .eq 13, 3) := by decide +kernel
theorem s135_4 (d : Nat) (l0 : Value) (l1 : Value) (l2 : Value) (l3 : Value) (x : Int32) (σ : Hs) : ru d 135 4 [l0, l1, l2, l3] [.int x] σ = if x = 0 then ru d 135 17 [l0, l1, l2, l3] [] σ else ru d 135 7 [l0, l1, l2, l3] [] σ := q_if_eq t135_4 (by decide +kernel)
theorem t135_7 : decode (mb 135) 7 = .ok (.iload_n 2, 1) := by decide +kernel
theorem s135_7 (d : Nat) (l0 : Value) (l1 : Value) (i2 : Int32) (l3 : Value) (σ : Hs) : ru d 135 7 [l0, l1, .int i2, l3] [] σ = ru d 135 8 [l0, l1, .int i2, l3] [.int i2] σ := q_iload_n t135_7 rfl
theorem t135_8 : decode (mb 135) 8 = .ok (.iconst 0, 1) := by decide +kernel
theorem s135_8 (d : Nat) (l0 : Value) (l1 : Value) (l2 : Value) (l3 : Value) (w0 : Value) (σ : Hs) : ru d 135 8 [l0, l1, l2, l3] [w0] σ = ru d 135 9 [l0, l1, l2, l3] [.int 0, w0] σ := q_iconst t135_8 (by decide +kernel)
theorem t135_9 : decode (mb 135) 9 = .ok (.bipush 6, 2) := by decide +kernel
theorem s135_9 (d : Nat) (l0 : Value) (l1 : Value) (l2 : Value) (l3 : Value) (w0 w1 : Value) (σ : Hs) : ru d 135 9 [l0, l1, l2, l3] [w0, w1] σ = ru d 135 11 [l0, l1, l2, l3] [.int 6, w0, w1] σ := q_bipush t135_9 (by decide +kernel)
theorem t135_11 : decode (mb 135) 11 = .ok (.invokestatic 81, 3) := by decide +kernel
theorem s135_11 (d : Nat) (l0 : Value) (l1 : Value) (l2 : Value) (l3 : Value) (v0 v1 v2 : Value) (σ : Hs) : ru d 135 11 [l0, l1, l2, l3] [v2, v1, v0] σ = kont (callD d 113 [v0, v1, v2] σ) d 135 14 [l0, l1, l2, l3] [] := q_invs t135_11 mo135 (by decide +kernel) K8_81 mj113 (Nat.le_of_ble_eq_true rfl) rfl rfl (Nat.le_of_ble_eq_true rfl)
theorem t135_14 : decode (mb 135) 14 = .ok (.ifCond .ne 10, 3) := by decide +kernel
theorem s135_14 (d : Nat) (l0 : Value) (l1 : Value) (l2 : Value) (l3 : Value) (x : Int32) (σ : Hs) : ru d 135 14 [l0, l1, l2, l3] [.int x] σ = if x = 0 then ru d 135 17 [l0, l1, l2, l3] [] σ else ru d 135 24 [l0, l1, l2, l3] [] σ := q_if_ne t135_14 (by decide +kernel)
theorem t135_17 : decode (mb 135) 17 = .ok (.aload_n 0, 1) := by decide +kernel
theorem s135_17 (d : Nat) (a0 : Nat) (l1 : Value) (l2 : Value) (l3 : Value) (σ : Hs) : ru d 135 17 [.ref a0, l1, l2, l3] [] σ = ru d 135 18 [.ref a0, l1, l2, l3] [.ref a0] σ := q_aload_n t135_17 rfl
theorem t135_18 : decode (mb 135) 18 = .ok (.ldc 104, 2) := by decide +kernel
theorem s135_18 (d : Nat) (l0 : Value) (l1 : Value) (l2 : Value) (l3 : Value) (w0 : Value) (σ : Hs) : ru d 135 18 [l0, l1, l2, l3] [w0] σ = ru d 135 20 [l0, l1, l2, l3] [.int (-1000001), w0] σ := q_ldc t135_18 mo135 C8_104
theorem t135_20 : decode (mb 135) 20 = .ok (.invokevirtual 105, 3) := by decide +kernel
theorem s135_20_o87 (d : Nat) (l0 : Value) (l1 : Value) (l2 : Value) (l3 : Value) (v1 : Value) (σ : Hs) : ru d 135 20 [l0, l1, l2, l3] [v1, .ref 87] σ = kont (callD d 112 [.ref 87, v1] σ) d 135 23 [l0, l1, l2, l3] [] := q_invv t135_20 mo135 K8_105 mj112 rfl rfl rfl rfl (Nat.le_of_ble_eq_true rfl)
theorem t135_23 : decode (mb 135) 23 = .ok (.ireturn, 1) := by decide +kernel
theorem s135_23 (d : Nat) (l0 : Value) (l1 : Value) (l2 : Value) (l3 : Value) (x : Int32) (σ : Hs) : ru d 135 23 [l0, l1, l2, l3] [.int x] σ = some (some (.int x), σ) := q_ireti t135_23 mr135
theorem t135_24 : decode (mb 135) 24 = .ok (.aload_n 0, 1) := by decide +kernel
theorem s135_24 (d : Nat) (a0 : Nat) (l1 : Value) (l2 : Value) (l3 : Value) (σ : Hs) : ru d 135 24 [.ref a0, l1, l2, l3] [] σ = ru d 135 25 [.ref a0, l1, l2, l3] [.ref a0] σ := q_aload_n t135_24 rfl
theorem t135_25 : decode (mb 135) 25 = .ok (.iload_n 1, 1) := by decide +kernel
theorem s135_25 (d : Nat) (l0 : Value) (i1 : Int32) (l2 : Value) (l3 : Value) (w0 : Value) (σ : Hs) : ru d 135 25 [l0, .int i1, l2, l3] [w0] σ = ru d 135 26 [l0, .int i1, l2, l3] [.int i1, w0] σ := q_iload_n t135_25 rfl
theorem t135_26 : decode (mb 135) 26 = .ok (.invokevirtual 88, 3) := by decide +kernel
theorem s135_26_o87 (d : Nat) (l0 : Value) (l1 : Value) (l2 : Value) (l3 : Value) (v1 : Value) (σ : Hs) : ru d 135 26 [l0, l1, l2, l3] [v1, .ref 87] σ = kont (callD d 122 [.ref 87, v1] σ) d 135 29 [l0, l1, l2, l3] [] := q_invv t135_26 mo135 K8_88 mj122 rfl rfl rfl rfl (Nat.le_of_ble_eq_true rfl)
theorem t135_29 : decode (mb 135) 29 = .ok (.ifCond .ne 10, 3) := by decide +kernel
theorem s135_29 (d : Nat) (l0 : Value) (l1 : Value) (l2 : Value) (l3 : Value) (x : Int32) (σ : Hs) : ru d 135 29 [l0, l1, l2, l3] [.int x] σ = if x = 0 then ru d 135 32 [l0, l1, l2, l3] [] σ else ru d 135 39 [l0, l1, l2, l3] [] σ := q_if_ne t135_29 (by decide +kernel)
theorem t135_32 : decode (mb 135) 32 = .ok (.aload_n 0, 1) := by decide +kernel
theorem s135_32 (d : Nat) (a0 : Nat) (l1 : Value) (l2 : Value) (l3 : Value) (σ : Hs) : ru d 135 32 [.ref a0, l1, l2, l3] [] σ = ru d 135 33 [.ref a0, l1, l2, l3] [.ref a0] σ := q_aload_n t135_32 rfl
theorem t135_33 : decode (mb 135) 33 = .ok (.ldc 116, 2) := by decide +kernel
theorem s135_33 (d : Nat) (l0 : Value) (l1 : Value) (l2 : Value) (l3 : Value) (w0 : Value) (σ : Hs) : ru d 135 33 [l0, l1, l2, l3] [w0] σ = ru d 135 35 [l0, l1, l2, l3] [.int (-1000002), w0] σ := q_ldc t135_33 mo135 C8_116
theorem t135_35 : decode (mb 135) 35 = .ok (.invokevirtual 105, 3) := by decide +kernel
theorem s135_35_o87 (d : Nat) (l0 : Value) (l1 : Value) (l2 : Value) (l3 : Value) (v1 : Value) (σ : Hs) : ru d 135 35 [l0, l1, l2, l3] [v1, .ref 87] σ = kont (callD d 112 [.ref 87, v1] σ) d 135 38 [l0, l1, l2, l3] [] := q_invv t135_35 mo135 K8_105 mj112 rfl rfl rfl rfl (Nat.le_of_ble_eq_true rfl)
theorem t135_38 : decode (mb 135) 38 = .ok (.ireturn, 1) := by decide +kernel
theorem s135_38 (d : Nat) (l0 : Value) (l1 : Value) (l2 : Value) (l3 : Value) (x : Int32) (σ : Hs) : ru d 135 38 [l0, l1, l2, l3] [.int x] σ = some (some (.int x), σ) := q_ireti t135_38 mr135
theorem t135_39 : decode (mb 135) 39 = .ok (.aload_n 0, 1) := by decide +kernel
theorem s135_39 (d : Nat) (a0 : Nat) (l1 : Value) (l2 : Value) (l3 : Value) (σ : Hs) : ru d 135 39 [.ref a0, l1, l2, l3] [] σ = ru d 135 40 [.ref a0, l1, l2, l3] [.ref a0] σ := q_aload_n t135_39 rfl
theorem t135_40 : decode (mb 135) 40 = .ok (.iload_n 1, 1) := by decide +kernel
theorem s135_40 (d : Nat) (l0 : Value) (i1 : Int32) (l2 : Value) (l3 : Value) (w0 : Value) (σ : Hs) : ru d 135 40 [l0, .int i1, l2, l3] [w0] σ = ru d 135 41 [l0, .int i1, l2, l3] [.int i1, w0] σ := q_iload_n t135_40 rfl
theorem t135_41 : decode (mb 135) 41 = .ok (.iconst 1, 1) := by decide +kernel
theorem s135_41 (d : Nat) (l0 : Value) (l1 : Value) (l2 : Value) (l3 : Value) (w0 w1 : Value) (σ : Hs) : ru d 135 41 [l0, l1, l2, l3] [w0, w1] σ = ru d 135 42 [l0, l1, l2, l3] [.int 1, w0, w1] σ := q_iconst t135_41 (by decide +kernel)
theorem t135_42 : decode (mb 135) 42 = .ok (.invokevirtual 85, 3) := by decide +kernel
theorem s135_42_o87 (d : Nat) (l0 : Value) (l1 : Value) (l2 : Value) (l3 : Value) (v1 v2 : Value) (σ : Hs) : ru d 135 42 [l0, l1, l2, l3] [v2, v1, .ref 87] σ = kont (callD d 119 [.ref 87, v1, v2] σ) d 135 45 [l0, l1, l2, l3] [] := q_invv t135_42 mo135 K8_85 mj119 rfl rfl rfl rfl (Nat.le_of_ble_eq_true rfl)
theorem t135_45 : decode (mb 135) 45 = .ok (.istore_n 3, 1) := by decide +kernel
theorem s135_45 (d : Nat) (l0 : Value) (l1 : Value) (i2 : Int32) (l3 : Value) (x : Int32) (σ : Hs) : ru d 135 45 [l0, l1, .int i2, l3] [.int x] σ = ru d 135 46 [l0, l1, .int i2, .int x] [] σ := q_istore_n t135_45 ⟨Nat.le_of_ble_eq_true rfl, rfl⟩ rfl
theorem t135_46 : decode (mb 135) 46 = .ok (.iload_n 3, 1) := by decide +kernel
theorem s135_46 (d : Nat) (l0 : Value) (l1 : Value) (l2 : Value) (i3 : Int32) (σ : Hs) : ru d 135 46 [l0, l1, l2, .int i3] [] σ = ru d 135 47 [l0, l1, l2, .int i3] [.int i3] σ := q_iload_n t135_46 rfl
theorem t135_47 : decode (mb 135) 47 = .ok (.ifCond .lt 16, 3) := by decide +kernel
theorem s135_47 (d : Nat) (l0 : Value) (l1 : Value) (l2 : Value) (l3 : Value) (x : Int32) (σ : Hs) : ru d 135 47 [l0, l1, l2, l3] [.int x] σ = if x < 0 then ru d 135 63 [l0, l1, l2, l3] [] σ else ru d 135 50 [l0, l1, l2, l3] [] σ := q_if_lt t135_47 (by decide +kernel)
theorem t135_50 : decode (mb 135) 50 = .ok (.iload_n 3, 1) := by decide +kernel
theorem s135_50 (d : Nat) (l0 : Value) (l1 : Value) (l2 : Value) (i3 : Int32) (σ : Hs) : ru d 135 50 [l0, l1, l2, .int i3] [] σ = ru d 135 51 [l0, l1, l2, .int i3] [.int i3] σ := q_iload_n t135_50 rfl
theorem t135_51 : decode (mb 135) 51 = .ok (.iload_n 2, 1) := by decide +kernel
theorem s135_51 (d : Nat) (l0 : Value) (l1 : Value) (i2 : Int32) (l3 : Value) (w0 : Value) (σ : Hs) : ru d 135 51 [l0, l1, .int i2, l3] [w0] σ = ru d 135 52 [l0, l1, .int i2, l3] [.int i2, w0] σ := q_iload_n t135_51 rfl
theorem t135_52 : decode (mb 135) 52 = .ok (.if_icmp .eq 11, 3) := by decide +kernel
theorem s135_52 (d : Nat) (l0 : Value) (l1 : Value) (l2 : Value) (l3 : Value) (x y : Int32) (σ : Hs) : ru d 135 52 [l0, l1, l2, l3] [.int y, .int x] σ = if x = y then ru d 135 63 [l0, l1, l2, l3] [] σ else ru d 135 55 [l0, l1, l2, l3] [] σ := q_ic_eq t135_52 (by decide +kernel)
theorem t135_55 : decode (mb 135) 55 = .ok (.iload_n 3, 1) := by decide +kernel
theorem s135_55 (d : Nat) (l0 : Value) (l1 : Value) (l2 : Value) (i3 : Int32) (σ : Hs) : ru d 135 55 [l0, l1, l2, .int i3] [] σ = ru d 135 56 [l0, l1, l2, .int i3] [.int i3] σ := q_iload_n t135_55 rfl
theorem t135_56 : decode (mb 135) 56 = .ok (.invokestatic 131, 3) := by decide +kernel
theorem s135_56 (d : Nat) (l0 : Value) (l1 : Value) (l2 : Value) (l3 : Value) (v0 : Value) (σ : Hs) : ru d 135 56 [l0, l1, l2, l3] [v0] σ = kont (callD d 134 [v0] σ) d 135 59 [l0, l1, l2, l3] [] := q_invs t135_56 mo135 (by decide +kernel) K8_131 mj134 (Nat.le_of_ble_eq_true rfl) rfl rfl (Nat.le_of_ble_eq_true rfl)
theorem t135_59 : decode (mb 135) 59 = .ok (.istore_n 3, 1) := by decide +kernel
theorem s135_59 (d : Nat) (l0 : Value) (l1 : Value) (i2 : Int32) (l3 : Value) (x : Int32) (σ : Hs) : ru d 135 59 [l0, l1, .int i2, l3] [.int x] σ = ru d 135 60 [l0, l1, .int i2, .int x] [] σ := q_istore_n t135_59 ⟨Nat.le_of_ble_eq_true rfl, rfl⟩ rfl
theorem t135_60 : decode (mb 135) 60 = .ok (.goto (-14), 3) := by decide +kernel
theorem s135_60 (d : Nat) (l0 : Value) (l1 : Value) (l2 : Value) (l3 : Value) (σ : Hs) : ru d 135 60 [l0, l1, l2, l3] [] σ = ru d 135 46 [l0, l1, l2, l3] [] σ := q_goto t135_60 (by decide +kernel)
theorem t135_63 : decode (mb 135) 63 = .ok (.iload_n 3, 1) := by decide +kernel
theorem s135_63 (d : Nat) (l0 : Value) (l1 : Value) (l2 : Value) (i3 : Int32) (σ : Hs) : ru d 135 63 [l0, l1, l2, .int i3] [] σ = ru d 135 64 [l0, l1, l2, .int i3] [.int i3] σ := q_iload_n t135_63 rfl
theorem t135_64 : decode (mb 135) 64 = .ok (.ifCond .ge 12, 3) := by decide +kernel
theorem s135_64 (d : Nat) (l0 : Value) (l1 : Value) (l2 : Value) (l3 : Value) (x : Int32) (σ : Hs) : ru d 135 64 [l0, l1, l2, l3] [.int x] σ = if 0 ≤ x then ru d 135 76 [l0, l1, l2, l3] [] σ else ru d 135 67 [l0, l1, l2, l3] [] σ := q_if_ge t135_64 (by decide +kernel)
theorem t135_67 : decode (mb 135) 67 = .ok (.aload_n 0, 1) := by decide +kernel
theorem s135_67 (d : Nat) (a0 : Nat) (l1 : Value) (l2 : Value) (l3 : Value) (σ : Hs) : ru d 135 67 [.ref a0, l1, l2, l3] [] σ = ru d 135 68 [.ref a0, l1, l2, l3] [.ref a0] σ := q_aload_n t135_67 rfl
theorem t135_68 : decode (mb 135) 68 = .ok (.ldc 134, 2) := by decide +kernel
theorem s135_68 (d : Nat) (l0 : Value) (l1 : Value) (l2 : Value) (l3 : Value) (w0 : Value) (σ : Hs) : ru d 135 68 [l0, l1, l2, l3] [w0] σ = ru d 135 70 [l0, l1, l2, l3] [.int (-1000005), w0] σ := q_ldc t135_68 mo135 C8_134
theorem t135_70 : decode (mb 135) 70 = .ok (.invokevirtual 105, 3) := by decide +kernel
theorem s135_70_o87 (d : Nat) (l0 : Value) (l1 : Value) (l2 : Value) (l3 : Value) (v1 : Value) (σ : Hs) : ru d 135 70 [l0, l1, l2, l3] [v1, .ref 87] σ = kont (callD d 112 [.ref 87, v1] σ) d 135 73 [l0, l1, l2, l3] [] := q_invv t135_70 mo135 K8_105 mj112 rfl rfl rfl rfl (Nat.le_of_ble_eq_true rfl)
theorem t135_73 : decode (mb 135) 73 = .ok (.goto 9, 3) := by decide +kernel
theorem s135_73 (d : Nat) (l0 : Value) (l1 : Value) (l2 : Value) (l3 : Value) (w0 : Value) (σ : Hs) : ru d 135 73 [l0, l1, l2, l3] [w0] σ = ru d 135 82 [l0, l1, l2, l3] [w0] σ := q_goto t135_73 (by decide +kernel)
theorem t135_76 : decode (mb 135) 76 = .ok (.aload_n 0, 1) := by decide +kernel
theorem s135_76 (d : Nat) (a0 : Nat) (l1 : Value) (l2 : Value) (l3 : Value) (σ : Hs) : ru d 135 76 [.ref a0, l1, l2, l3] [] σ = ru d 135 77 [.ref a0, l1, l2, l3] [.ref a0] σ := q_aload_n t135_76 rfl
theorem t135_77 : decode (mb 135) 77 = .ok (.iload_n 1, 1) := by decide +kernel
theorem s135_77 (d : Nat) (l0 : Value) (i1 : Int32) (l2 : Value) (l3 : Value) (w0 : Value) (σ : Hs) : ru d 135 77 [l0, .int i1, l2, l3] [w0] σ = ru d 135 78 [l0, .int i1, l2, l3] [.int i1, w0] σ := q_iload_n t135_77 rfl
theorem t135_78 : decode (mb 135) 78 = .ok (.iconst 2, 1) := by decide +kernel
theorem s135_78 (d : Nat) (l0 : Value) (l1 : Value) (l2 : Value) (l3 : Value) (w0 w1 : Value) (σ : Hs) : ru d 135 78 [l0, l1, l2, l3] [w0, w1] σ = ru d 135 79 [l0, l1, l2, l3] [.int 2, w0, w1] σ := q_iconst t135_78 (by decide +kernel)
theorem t135_79 : decode (mb 135) 79 = .ok (.invokevirtual 85, 3) := by decide +kernel
theorem s135_79_o87 (d : Nat) (l0 : Value) (l1 : Value) (l2 : Value) (l3 : Value) (v1 v2 : Value) (σ : Hs) : ru d 135 79 [l0, l1, l2, l3] [v2, v1, .ref 87] σ = kont (callD d 119 [.ref 87, v1, v2] σ) d 135 82 [l0, l1, l2, l3] [] := q_invv t135_79 mo135 K8_85 mj119 rfl rfl rfl rfl (Nat.le_of_ble_eq_true rfl)
theorem t135_82 : decode (mb 135) 82 = .ok (.ireturn, 1) := by decide +kernel
theorem s135_82 (d : Nat) (l0 : Value) (l1 : Value) (l2 : Value) (l3 : Value) (x : Int32) (σ : Hs) : ru d 135 82 [l0, l1, l2, l3] [.int x] σ = some (some (.int x), σ) := q_ireti t135_82 mr135
theorem c135 (d : Nat) (x0 : Nat) (x1 : Int32) (x2 : Int32) (σ : Hs) : callD (d + 1) 135 [.ref x0, .int x1, .int x2] σ = ru d 135 0 [.ref x0, .int x1, .int x2, uu] [] σ := callD_ru ml135 rfl rfl (Nat.le_of_ble_eq_true rfl)
-- 136: Model.changes(ZIII)I
theorem t136_0 : decode (mb 136) 0 = .ok (.iload_n 2, 1) := by decide +kernel
theorem s136_0 (d : Nat) (l0 : Value) (l1 : Value) (i2 : Int32) (l3 : Value) (l4 : Value) (σ : Hs) : ru d 136 0 [l0, l1, .int i2, l3, l4] [] σ = ru d 136 1 [l0, l1, .int i2, l3, l4] [.int i2] σ := q_iload_n t136_0 rfl
theorem t136_1 : decode (mb 136) 1 = .ok (.invokestatic 113, 3) := by decide +kernel
theorem s136_1 (d : Nat) (l0 : Value) (l1 : Value) (l2 : Value) (l3 : Value) (l4 : Value) (v0 : Value) (σ : Hs) : ru d 136 1 [l0, l1, l2, l3, l4] [v0] σ = kont (callD d 121 [v0] σ) d 136 4 [l0, l1, l2, l3, l4] [] := q_invs t136_1 mo136 (by decide +kernel) K8_113 mj121 (Nat.le_of_ble_eq_true rfl) rfl rfl (Nat.le_of_ble_eq_true rfl)
theorem t136_4 : decode (mb 136) 4 = .ok (.ifCond .eq 7, 3) := by decide +kernel
theorem s136_4 (d : Nat) (l0 : Value) (l1 : Value) (l2 : Value) (l3 : Value) (l4 : Value) (x : Int32) (σ : Hs) : ru d 136 4 [l0, l1, l2, l3, l4] [.int x] σ = if x = 0 then ru d 136 11 [l0, l1, l2, l3, l4] [] σ else ru d 136 7 [l0, l1, l2, l3, l4] [] σ := q_if_eq t136_4 (by decide +kernel)
theorem t136_7 : decode (mb 136) 7 = .ok (.iload_n 1, 1) := by decide +kernel
theorem s136_7 (d : Nat) (l0 : Value) (i1 : Int32) (l2 : Value) (l3 : Value) (l4 : Value) (σ : Hs) : ru d 136 7 [l0, .int i1, l2, l3, l4] [] σ = ru d 136 8 [l0, .int i1, l2, l3, l4] [.int i1] σ := q_iload_n t136_7 rfl
theorem t136_8 : decode (mb 136) 8 = .ok (.ifCond .ne 10, 3) := by decide +kernel
theorem s136_8 (d : Nat) (l0 : Value) (l1 : Value) (l2 : Value) (l3 : Value) (l4 : Value) (x : Int32) (σ : Hs) : ru d 136 8 [l0, l1, l2, l3, l4] [.int x] σ = if x = 0 then ru d 136 11 [l0, l1, l2, l3, l4] [] σ else ru d 136 18 [l0, l1, l2, l3, l4] [] σ := q_if_ne t136_8 (by decide +kernel)
theorem t136_11 : decode (mb 136) 11 = .ok (.aload_n 0, 1) := by decide +kernel
theorem s136_11 (d : Nat) (a0 : Nat) (l1 : Value) (l2 : Value) (l3 : Value) (l4 : Value) (σ : Hs) : ru d 136 11 [.ref a0, l1, l2, l3, l4] [] σ = ru d 136 12 [.ref a0, l1, l2, l3, l4] [.ref a0] σ := q_aload_n t136_11 rfl
theorem t136_12 : decode (mb 136) 12 = .ok (.ldc 104, 2) := by decide +kernel
theorem s136_12 (d : Nat) (l0 : Value) (l1 : Value) (l2 : Value) (l3 : Value) (l4 : Value) (w0 : Value) (σ : Hs) : ru d 136 12 [l0, l1, l2, l3, l4] [w0] σ = ru d 136 14 [l0, l1, l2, l3, l4] [.int (-1000001), w0] σ := q_ldc t136_12 mo136 C8_104
theorem t136_14 : decode (mb 136) 14 = .ok (.invokevirtual 105, 3) := by decide +kernel
theorem s136_14_o87 (d : Nat) (l0 : Value) (l1 : Value) (l2 : Value) (l3 : Value) (l4 : Value) (v1 : Value) (σ : Hs) : ru d 136 14 [l0, l1, l2, l3, l4] [v1, .ref 87] σ = kont (callD d 112 [.ref 87, v1] σ) d 136 17 [l0, l1, l2, l3, l4] [] := q_invv t136_14 mo136 K8_105 mj112 rfl rfl rfl rfl (Nat.le_of_ble_eq_true rfl)
theorem t136_17 : decode (mb 136) 17 = .ok (.ireturn, 1) := by decide +kernel
theorem s136_17 (d : Nat) (l0 : Value) (l1 : Value) (l2 : Value) (l3 : Value) (l4 : Value) (x : Int32) (σ : Hs) : ru d 136 17 [l0, l1, l2, l3, l4] [.int x] σ = some (some (.int x), σ) := q_ireti t136_17 mr136
theorem t136_18 : decode (mb 136) 18 = .ok (.aload_n 0, 1) := by decide +kernel
theorem s136_18 (d : Nat) (a0 : Nat) (l1 : Value) (l2 : Value) (l3 : Value) (l4 : Value) (σ : Hs) : ru d 136 18 [.ref a0, l1, l2, l3, l4] [] σ = ru d 136 19 [.ref a0, l1, l2, l3, l4] [.ref a0] σ := q_aload_n t136_18 rfl
theorem t136_19 : decode (mb 136) 19 = .ok (.iload_n 2, 1) := by decide +kernel
theorem s136_19 (d : Nat) (l0 : Value) (l1 : Value) (i2 : Int32) (l3 : Value) (l4 : Value) (w0 : Value) (σ : Hs) : ru d 136 19 [l0, l1, .int i2, l3, l4] [w0] σ = ru d 136 20 [l0, l1, .int i2, l3, l4] [.int i2, w0] σ := q_iload_n t136_19 rfl
theorem t136_20 : decode (mb 136) 20 = .ok (.invokevirtual 88, 3) := by decide +kernel
theorem s136_20_o87 (d : Nat) (l0 : Value) (l1 : Value) (l2 : Value) (l3 : Value) (l4 : Value) (v1 : Value) (σ : Hs) : ru d 136 20 [l0, l1, l2, l3, l4] [v1, .ref 87] σ = kont (callD d 122 [.ref 87, v1] σ) d 136 23 [l0, l1, l2, l3, l4] [] := q_invv t136_20 mo136 K8_88 mj122 rfl rfl rfl rfl (Nat.le_of_ble_eq_true rfl)
theorem t136_23 : decode (mb 136) 23 = .ok (.ifCond .eq 21, 3) := by decide +kernel
theorem s136_23 (d : Nat) (l0 : Value) (l1 : Value) (l2 : Value) (l3 : Value) (l4 : Value) (x : Int32) (σ : Hs) : ru d 136 23 [l0, l1, l2, l3, l4] [.int x] σ = if x = 0 then ru d 136 44 [l0, l1, l2, l3, l4] [] σ else ru d 136 26 [l0, l1, l2, l3, l4] [] σ := q_if_eq t136_23 (by decide +kernel)
theorem t136_26 : decode (mb 136) 26 = .ok (.aload_n 0, 1) := by decide +kernel
theorem s136_26 (d : Nat) (a0 : Nat) (l1 : Value) (l2 : Value) (l3 : Value) (l4 : Value) (σ : Hs) : ru d 136 26 [.ref a0, l1, l2, l3, l4] [] σ = ru d 136 27 [.ref a0, l1, l2, l3, l4] [.ref a0] σ := q_aload_n t136_26 rfl
theorem t136_27 : decode (mb 136) 27 = .ok (.bipush 14, 2) := by decide +kernel
theorem s136_27 (d : Nat) (l0 : Value) (l1 : Value) (l2 : Value) (l3 : Value) (l4 : Value) (w0 : Value) (σ : Hs) : ru d 136 27 [l0, l1, l2, l3, l4] [w0] σ = ru d 136 29 [l0, l1, l2, l3, l4] [.int 14, w0] σ := q_bipush t136_27 (by decide +kernel)
theorem t136_29 : decode (mb 136) 29 = .ok (.bipush 7, 2) := by decide +kernel
theorem s136_29 (d : Nat) (l0 : Value) (l1 : Value) (l2 : Value) (l3 : Value) (l4 : Value) (w0 w1 : Value) (σ : Hs) : ru d 136 29 [l0, l1, l2, l3, l4] [w0, w1] σ = ru d 136 31 [l0, l1, l2, l3, l4] [.int 7, w0, w1] σ := q_bipush t136_29 (by decide +kernel)
theorem t136_31 : decode (mb 136) 31 = .ok (.iload_n 2, 1) := by decide +kernel
theorem s136_31 (d : Nat) (l0 : Value) (l1 : Value) (i2 : Int32) (l3 : Value) (l4 : Value) (w0 w1 w2 : Value) (σ : Hs) : ru d 136 31 [l0, l1, .int i2, l3, l4] [w0, w1, w2] σ = ru d 136 32 [l0, l1, .int i2, l3, l4] [.int i2, w0, w1, w2] σ := q_iload_n t136_31 rfl
theorem t136_32 : decode (mb 136) 32 = .ok (.imul, 1) := by decide +kernel
theorem s136_32 (d : Nat) (l0 : Value) (l1 : Value) (l2 : Value) (l3 : Value) (l4 : Value) (x y : Int32) (w0 w1 : Value) (σ : Hs) : ru d 136 32 [l0, l1, l2, l3, l4] [.int y, .int x, w0, w1] σ = ru d 136 33 [l0, l1, l2, l3, l4] [.int (x * y), w0, w1] σ := q_imul t136_32
theorem t136_33 : decode (mb 136) 33 = .ok (.iadd, 1) := by decide +kernel
theorem s136_33 (d : Nat) (l0 : Value) (l1 : Value) (l2 : Value) (l3 : Value) (l4 : Value) (x y : Int32) (w0 : Value) (σ : Hs) : ru d 136 33 [l0, l1, l2, l3, l4] [.int y, .int x, w0] σ = ru d 136 34 [l0, l1, l2, l3, l4] [.int (x + y), w0] σ := q_iadd t136_33
theorem t136_34 : decode (mb 136) 34 = .ok (.iload_n 3, 1) := by decide +kernel
theorem s136_34 (d : Nat) (l0 : Value) (l1 : Value) (l2 : Value) (i3 : Int32) (l4 : Value) (w0 w1 : Value) (σ : Hs) : ru d 136 34 [l0, l1, l2, .int i3, l4] [w0, w1] σ = ru d 136 35 [l0, l1, l2, .int i3, l4] [.int i3, w0, w1] σ := q_iload_n t136_34 rfl
theorem t136_35 : decode (mb 136) 35 = .ok (.iadd, 1) := by decide +kernel
theorem s136_35 (d : Nat) (l0 : Value) (l1 : Value) (l2 : Value) (l3 : Value) (l4 : Value) (x y : Int32) (w0 : Value) (σ : Hs) : ru d 136 35 [l0, l1, l2, l3, l4] [.int y, .int x, w0] σ = ru d 136 36 [l0, l1, l2, l3, l4] [.int (x + y), w0] σ := q_iadd t136_35
theorem t136_36 : decode (mb 136) 36 = .ok (.iload 4, 2) := by decide +kernel
theorem s136_36 (d : Nat) (l0 : Value) (l1 : Value) (l2 : Value) (l3 : Value) (i4 : Int32) (w0 w1 : Value) (σ : Hs) : ru d 136 36 [l0, l1, l2, l3, .int i4] [w0, w1] σ = ru d 136 38 [l0, l1, l2, l3, .int i4] [.int i4, w0, w1] σ := q_iload t136_36 rfl
theorem t136_38 : decode (mb 136) 38 = .ok (.invokevirtual 135, 3) := by decide +kernel
theorem s136_38_o87 (d : Nat) (l0 : Value) (l1 : Value) (l2 : Value) (l3 : Value) (l4 : Value) (v1 v2 : Value) (σ : Hs) : ru d 136 38 [l0, l1, l2, l3, l4] [v2, v1, .ref 87] σ = kont (callD d 117 [.ref 87, v1, v2] σ) d 136 41 [l0, l1, l2, l3, l4] [] := q_invv t136_38 mo136 K8_135 mj117 rfl rfl rfl rfl (Nat.le_of_ble_eq_true rfl)
theorem t136_41 : decode (mb 136) 41 = .ok (.goto 9, 3) := by decide +kernel
theorem s136_41 (d : Nat) (l0 : Value) (l1 : Value) (l2 : Value) (l3 : Value) (l4 : Value) (w0 : Value) (σ : Hs) : ru d 136 41 [l0, l1, l2, l3, l4] [w0] σ = ru d 136 50 [l0, l1, l2, l3, l4] [w0] σ := q_goto t136_41 (by decide +kernel)
theorem t136_44 : decode (mb 136) 44 = .ok (.aload_n 0, 1) := by decide +kernel
theorem s136_44 (d : Nat) (a0 : Nat) (l1 : Value) (l2 : Value) (l3 : Value) (l4 : Value) (σ : Hs) : ru d 136 44 [.ref a0, l1, l2, l3, l4] [] σ = ru d 136 45 [.ref a0, l1, l2, l3, l4] [.ref a0] σ := q_aload_n t136_44 rfl
theorem t136_45 : decode (mb 136) 45 = .ok (.ldc 116, 2) := by decide +kernel
theorem s136_45 (d : Nat) (l0 : Value) (l1 : Value) (l2 : Value) (l3 : Value) (l4 : Value) (w0 : Value) (σ : Hs) : ru d 136 45 [l0, l1, l2, l3, l4] [w0] σ = ru d 136 47 [l0, l1, l2, l3, l4] [.int (-1000002), w0] σ := q_ldc t136_45 mo136 C8_116
theorem t136_47 : decode (mb 136) 47 = .ok (.invokevirtual 105, 3) := by decide +kernel
theorem s136_47_o87 (d : Nat) (l0 : Value) (l1 : Value) (l2 : Value) (l3 : Value) (l4 : Value) (v1 : Value) (σ : Hs) : ru d 136 47 [l0, l1, l2, l3, l4] [v1, .ref 87] σ = kont (callD d 112 [.ref 87, v1] σ) d 136 50 [l0, l1, l2, l3, l4] [] := q_invv t136_47 mo136 K8_105 mj112 rfl rfl rfl rfl (Nat.le_of_ble_eq_true rfl)
theorem t136_50 : decode (mb 136) 50 = .ok (.ireturn, 1) := by decide +kernel
theorem s136_50 (d : Nat) (l0 : Value) (l1 : Value) (l2 : Value) (l3 : Value) (l4 : Value) (x : Int32) (σ : Hs) : ru d 136 50 [l0, l1, l2, l3, l4] [.int x] σ = some (some (.int x), σ) := q_ireti t136_50 mr136
theorem c136 (d : Nat) (x0 : Nat) (x1 : Int32) (x2 : Int32) (x3 : Int32) (x4 : Int32) (σ : Hs) : callD (d + 1) 136 [.ref x0, .int x1, .int x2, .int x3, .int x4] σ = ru d 136 0 [.ref x0, .int x1, .int x2, .int x3, .int x4] [] σ := callD_ru ml136 rfl rfl (Nat.le_of_ble_eq_true rfl)
-- 137: Model.become(II)I
theorem t137_0 : decode (mb 137) 0 = .ok (.aload_n 0, 1) := by decide +kernel
theorem s137_0 (d : Nat) (a0 : Nat) (l1 : Value) (l2 : Value) (σ : Hs) : ru d 137 0 [.ref a0, l1, l2] [] σ = ru d 137 1 [.ref a0, l1, l2] [.ref a0] σ := q_aload_n t137_0 rfl
theorem t137_1 : decode (mb 137) 1 = .ok (.iload_n 2, 1) := by decide +kernel
theorem s137_1 (d : Nat) (l0 : Value) (l1 : Value) (i2 : Int32) (w0 : Value) (σ : Hs) : ru d 137 1 [l0, l1, .int i2] [w0] σ = ru d 137 2 [l0, l1, .int i2] [.int i2, w0] σ := q_iload_n t137_1 rfl
theorem t137_2 : decode (mb 137) 2 = .ok (.iconst 0, 1) := by decide +kernel
theorem s137_2 (d : Nat) (l0 : Value) (l1 : Value) (l2 : Value) (w0 w1 : Value) (σ : Hs) : ru d 137 2 [l0, l1, l2] [w0, w1] σ = ru d 137 3 [l0, l1, l2] [.int 0, w0, w1] σ := q_iconst t137_2 (by decide +kernel)
theorem t137_3 : decode (mb 137) 3 = .ok (.bipush 6, 2) := by decide +kernel
theorem s137_3 (d : Nat) (l0 : Value) (l1 : Value) (l2 : Value) (w0 w1 w2 : Value) (σ : Hs) : ru d 137 3 [l0, l1, l2] [w0, w1, w2] σ = ru d 137 5 [l0, l1, l2] [.int 6, w0, w1, w2] σ := q_bipush t137_3 (by decide +kernel)
theorem t137_5 : decode (mb 137) 5 = .ok (.invokestatic 81, 3) := by decide +kernel
theorem s137_5 (d : Nat) (l0 : Value) (l1 : Value) (l2 : Value) (v0 v1 v2 : Value) (w0 : Nat) (σ : Hs) : ru d 137 5 [l0, l1, l2] [v2, v1, v0, .ref w0] σ = kont (callD d 113 [v0, v1, v2] σ) d 137 8 [l0, l1, l2] [.ref w0] := q_invs t137_5 mo137 (by decide +kernel) K8_81 mj113 (Nat.le_of_ble_eq_true rfl) rfl rfl (Nat.le_of_ble_eq_true rfl)
theorem t137_8 : decode (mb 137) 8 = .ok (.iload_n 1, 1) := by decide +kernel
theorem s137_8 (d : Nat) (l0 : Value) (i1 : Int32) (l2 : Value) (w0 w1 : Value) (σ : Hs) : ru d 137 8 [l0, .int i1, l2] [w0, w1] σ = ru d 137 9 [l0, .int i1, l2] [.int i1, w0, w1] σ := q_iload_n t137_8 rfl
theorem t137_9 : decode (mb 137) 9 = .ok (.iconst 1, 1) := by decide +kernel
theorem s137_9 (d : Nat) (l0 : Value) (l1 : Value) (l2 : Value) (w0 w1 w2 : Value) (σ : Hs) : ru d 137 9 [l0, l1, l2] [w0, w1, w2] σ = ru d 137 10 [l0, l1, l2] [.int 1, w0, w1, w2] σ := q_iconst t137_9 (by decide +kernel)
theorem t137_10 : decode (mb 137) 10 = .ok (.iload_n 2, 1) := by decide +kernel
theorem s137_10 (d : Nat) (l0 : Value) (l1 : Value) (i2 : Int32) (w0 w1 w2 w3 : Value) (σ : Hs) : ru d 137 10 [l0, l1, .int i2] [w0, w1, w2, w3] σ = ru d 137 11 [l0, l1, .int i2] [.int i2, w0, w1, w2, w3] σ := q_iload_n t137_10 rfl
theorem t137_11 : decode (mb 137) 11 = .ok (.invokevirtual 138, 3) := by decide +kernel
theorem s137_11_o87 (d : Nat) (l0 : Value) (l1 : Value) (l2 : Value) (v1 v2 v3 v4 : Value) (σ : Hs) : ru d 137 11 [l0, l1, l2] [v4, v3, v2, v1, .ref 87] σ = kont (callD d 136 [.ref 87, v1, v2, v3, v4] σ) d 137 14 [l0, l1, l2] [] := q_invv t137_11 mo137 K8_138 mj136 rfl rfl rfl rfl (Nat.le_of_ble_eq_true rfl)
theorem t137_14 : decode (mb 137) 14 = .ok (.ireturn, 1) := by decide +kernel
theorem s137_14 (d : Nat) (l0 : Value) (l1 : Value) (l2 : Value) (x : Int32) (σ : Hs) : ru d 137 14 [l0, l1, l2] [.int x] σ = some (some (.int x), σ) := q_ireti t137_14 mr137
theorem c137 (d : Nat) (x0 : Nat) (x1 : Int32) (x2 : Int32) (σ : Hs) : callD (d + 1) 137 [.ref x0, .int x1, .int x2] σ = ru d 137 0 [.ref x0, .int x1, .int x2] [] σ := callD_ru ml137 rfl rfl (Nat.le_of_ble_eq_true rfl)
-- 138: Model.fork(II)I
theorem t138_0 : decode (mb 138) 0 = .ok (.aload_n 0, 1) := by decide +kernel
theorem s138_0 (d : Nat) (a0 : Nat) (l1 : Value) (l2 : Value) (σ : Hs) : ru d 138 0 [.ref a0, l1, l2] [] σ = ru d 138 1 [.ref a0, l1, l2] [.ref a0] σ := q_aload_n t138_0 rfl
theorem t138_1 : decode (mb 138) 1 = .ok (.iload_n 2, 1) := by decide +kernel
theorem s138_1 (d : Nat) (l0 : Value) (l1 : Value) (i2 : Int32) (w0 : Value) (σ : Hs) : ru d 138 1 [l0, l1, .int i2] [w0] σ = ru d 138 2 [l0, l1, .int i2] [.int i2, w0] σ := q_iload_n t138_1 rfl
theorem t138_2 : decode (mb 138) 2 = .ok (.iconst 0, 1) := by decide +kernel
theorem s138_2 (d : Nat) (l0 : Value) (l1 : Value) (l2 : Value) (w0 w1 : Value) (σ : Hs) : ru d 138 2 [l0, l1, l2] [w0, w1] σ = ru d 138 3 [l0, l1, l2] [.int 0, w0, w1] σ := q_iconst t138_2 (by decide +kernel)
theorem t138_3 : decode (mb 138) 3 = .ok (.bipush 9, 2) := by decide +kernel
theorem s138_3 (d : Nat) (l0 : Value) (l1 : Value) (l2 : Value) (w0 w1 w2 : Value) (σ : Hs) : ru d 138 3 [l0, l1, l2] [w0, w1, w2] σ = ru d 138 5 [l0, l1, l2] [.int 9, w0, w1, w2] σ := q_bipush t138_3 (by decide +kernel)
theorem t138_5 : decode (mb 138) 5 = .ok (.invokestatic 81, 3) := by decide +kernel
theorem s138_5 (d : Nat) (l0 : Value) (l1 : Value) (l2 : Value) (v0 v1 v2 : Value) (w0 : Nat) (σ : Hs) : ru d 138 5 [l0, l1, l2] [v2, v1, v0, .ref w0] σ = kont (callD d 113 [v0, v1, v2] σ) d 138 8 [l0, l1, l2] [.ref w0] := q_invs t138_5 mo138 (by decide +kernel) K8_81 mj113 (Nat.le_of_ble_eq_true rfl) rfl rfl (Nat.le_of_ble_eq_true rfl)
theorem t138_8 : decode (mb 138) 8 = .ok (.iload_n 1, 1) := by decide +kernel
theorem s138_8 (d : Nat) (l0 : Value) (i1 : Int32) (l2 : Value) (w0 w1 : Value) (σ : Hs) : ru d 138 8 [l0, .int i1, l2] [w0, w1] σ = ru d 138 9 [l0, .int i1, l2] [.int i1, w0, w1] σ := q_iload_n t138_8 rfl
theorem t138_9 : decode (mb 138) 9 = .ok (.iconst 4, 1) := by decide +kernel
theorem s138_9 (d : Nat) (l0 : Value) (l1 : Value) (l2 : Value) (w0 w1 w2 : Value) (σ : Hs) : ru d 138 9 [l0, l1, l2] [w0, w1, w2] σ = ru d 138 10 [l0, l1, l2] [.int 4, w0, w1, w2] σ := q_iconst t138_9 (by decide +kernel)
theorem t138_10 : decode (mb 138) 10 = .ok (.iload_n 2, 1) := by decide +kernel
theorem s138_10 (d : Nat) (l0 : Value) (l1 : Value) (i2 : Int32) (w0 w1 w2 w3 : Value) (σ : Hs) : ru d 138 10 [l0, l1, .int i2] [w0, w1, w2, w3] σ = ru d 138 11 [l0, l1, .int i2] [.int i2, w0, w1, w2, w3] σ := q_iload_n t138_10 rfl
theorem t138_11 : decode (mb 138) 11 = .ok (.invokevirtual 138, 3) := by decide +kernel
theorem s138_11_o87 (d : Nat) (l0 : Value) (l1 : Value) (l2 : Value) (v1 v2 v3 v4 : Value) (σ : Hs) : ru d 138 11 [l0, l1, l2] [v4, v3, v2, v1, .ref 87] σ = kont (callD d 136 [.ref 87, v1, v2, v3, v4] σ) d 138 14 [l0, l1, l2] [] := q_invv t138_11 mo138 K8_138 mj136 rfl rfl rfl rfl (Nat.le_of_ble_eq_true rfl)
theorem t138_14 : decode (mb 138) 14 = .ok (.ireturn, 1) := by decide +kernel
theorem s138_14 (d : Nat) (l0 : Value) (l1 : Value) (l2 : Value) (x : Int32) (σ : Hs) : ru d 138 14 [l0, l1, l2] [.int x] σ = some (some (.int x), σ) := q_ireti t138_14 mr138
theorem c138 (d : Nat) (x0 : Nat) (x1 : Int32) (x2 : Int32) (σ : Hs) : callD (d + 1) 138 [.ref x0, .int x1, .int x2] σ = ru d 138 0 [.ref x0, .int x1, .int x2] [] σ := callD_ru ml138 rfl rfl (Nat.le_of_ble_eq_true rfl)
-- 139: Model.lights(I)V
theorem t139_0 : decode (mb 139) 0 = .ok (.aload_n 0, 1) := by decide +kernel
theorem s139_0 (d : Nat) (a0 : Nat) (l1 : Value) (σ : Hs) : ru d 139 0 [.ref a0, l1] [] σ = ru d 139 1 [.ref a0, l1] [.ref a0] σ := q_aload_n t139_0 rfl
theorem t139_1 : decode (mb 139) 1 = .ok (.iload_n 1, 1) := by decide +kernel
theorem s139_1 (d : Nat) (l0 : Value) (i1 : Int32) (w0 : Value) (σ : Hs) : ru d 139 1 [l0, .int i1] [w0] σ = ru d 139 2 [l0, .int i1] [.int i1, w0] σ := q_iload_n t139_1 rfl
theorem t139_2 : decode (mb 139) 2 = .ok (.bipush 6, 2) := by decide +kernel
theorem s139_2 (d : Nat) (l0 : Value) (l1 : Value) (w0 w1 : Value) (σ : Hs) : ru d 139 2 [l0, l1] [w0, w1] σ = ru d 139 4 [l0, l1] [.int 6, w0, w1] σ := q_bipush t139_2 (by decide +kernel)
theorem t139_4 : decode (mb 139) 4 = .ok (.iconst 1, 1) := by decide +kernel
theorem s139_4 (d : Nat) (l0 : Value) (l1 : Value) (w0 w1 w2 : Value) (σ : Hs) : ru d 139 4 [l0, l1] [w0, w1, w2] σ = ru d 139 5 [l0, l1] [.int 1, w0, w1, w2] σ := q_iconst t139_4 (by decide +kernel)
theorem t139_5 : decode (mb 139) 5 = .ok (.invokevirtual 96, 3) := by decide +kernel
theorem s139_5_o87 (d : Nat) (l0 : Value) (l1 : Value) (v1 v2 v3 : Value) (σ : Hs) : ru d 139 5 [l0, l1] [v3, v2, v1, .ref 87] σ = kont (callD d 120 [.ref 87, v1, v2, v3] σ) d 139 8 [l0, l1] [] := q_invv t139_5 mo139 K8_96 mj120 rfl rfl rfl rfl (Nat.le_of_ble_eq_true rfl)
theorem t139_8 : decode (mb 139) 8 = .ok (.aload_n 0, 1) := by decide +kernel
theorem s139_8 (d : Nat) (a0 : Nat) (l1 : Value) (σ : Hs) : ru d 139 8 [.ref a0, l1] [] σ = ru d 139 9 [.ref a0, l1] [.ref a0] σ := q_aload_n t139_8 rfl
theorem t139_9 : decode (mb 139) 9 = .ok (.iload_n 1, 1) := by decide +kernel
theorem s139_9 (d : Nat) (l0 : Value) (i1 : Int32) (w0 : Value) (σ : Hs) : ru d 139 9 [l0, .int i1] [w0] σ = ru d 139 10 [l0, .int i1] [.int i1, w0] σ := q_iload_n t139_9 rfl
theorem t139_10 : decode (mb 139) 10 = .ok (.iconst 5, 1) := by decide +kernel
theorem s139_10 (d : Nat) (l0 : Value) (l1 : Value) (w0 w1 : Value) (σ : Hs) : ru d 139 10 [l0, l1] [w0, w1] σ = ru d 139 11 [l0, l1] [.int 5, w0, w1] σ := q_iconst t139_10 (by decide +kernel)
theorem t139_11 : decode (mb 139) 11 = .ok (.bipush 100, 2) := by decide +kernel
theorem s139_11 (d : Nat) (l0 : Value) (l1 : Value) (w0 w1 w2 : Value) (σ : Hs) : ru d 139 11 [l0, l1] [w0, w1, w2] σ = ru d 139 13 [l0, l1] [.int 100, w0, w1, w2] σ := q_bipush t139_11 (by decide +kernel)
theorem t139_13 : decode (mb 139) 13 = .ok (.aload_n 0, 1) := by decide +kernel
theorem s139_13 (d : Nat) (a0 : Nat) (l1 : Value) (w0 w1 w2 w3 : Value) (σ : Hs) : ru d 139 13 [.ref a0, l1] [w0, w1, w2, w3] σ = ru d 139 14 [.ref a0, l1] [.ref a0, w0, w1, w2, w3] σ := q_aload_n t139_13 rfl
theorem t139_14 : decode (mb 139) 14 = .ok (.iload_n 1, 1) := by decide +kernel
theorem s139_14 (d : Nat) (l0 : Value) (i1 : Int32) (w0 w1 w2 w3 w4 : Value) (σ : Hs) : ru d 139 14 [l0, .int i1] [w0, w1, w2, w3, w4] σ = ru d 139 15 [l0, .int i1] [.int i1, w0, w1, w2, w3, w4] σ := q_iload_n t139_14 rfl
theorem t139_15 : decode (mb 139) 15 = .ok (.iconst 5, 1) := by decide +kernel
theorem s139_15 (d : Nat) (l0 : Value) (l1 : Value) (w0 w1 w2 w3 w4 w5 : Value) (σ : Hs) : ru d 139 15 [l0, l1] [w0, w1, w2, w3, w4, w5] σ = ru d 139 16 [l0, l1] [.int 5, w0, w1, w2, w3, w4, w5] σ := q_iconst t139_15 (by decide +kernel)
theorem t139_16 : decode (mb 139) 16 = .ok (.invokevirtual 85, 3) := by decide +kernel
theorem s139_16_o87 (d : Nat) (l0 : Value) (l1 : Value) (v1 v2 : Value) (w0 : Int32) (w1 : Int32) (w2 : Int32) (w3 : Nat) (σ : Hs) : ru d 139 16 [l0, l1] [v2, v1, .ref 87, .int w0, .int w1, .int w2, .ref w3] σ = kont (callD d 119 [.ref 87, v1, v2] σ) d 139 19 [l0, l1] [.int w0, .int w1, .int w2, .ref w3] := q_invv t139_16 mo139 K8_85 mj119 rfl rfl rfl rfl (Nat.le_of_ble_eq_true rfl)
theorem t139_19 : decode (mb 139) 19 = .ok (.invokestatic 74, 3) := by decide +kernel
theorem s139_19 (d : Nat) (l0 : Value) (l1 : Value) (x y : Int32) (w0 : Int32) (w1 : Int32) (w2 : Nat) (σ : Hs) : ru d 139 19 [l0, l1] [.int y, .int x, .int w0, .int w1, .ref w2] σ = ru d 139 22 [l0, l1] [.int (jmax x y), .int w0, .int w1, .ref w2] σ := q_mx t139_19 mo139 (by decide +kernel) (by decide +kernel) (Nat.le_of_ble_eq_true rfl)
theorem t139_22 : decode (mb 139) 22 = .ok (.invokevirtual 96, 3) := by decide +kernel
theorem s139_22_o87 (d : Nat) (l0 : Value) (l1 : Value) (v1 v2 v3 : Value) (σ : Hs) : ru d 139 22 [l0, l1] [v3, v2, v1, .ref 87] σ = kont (callD d 120 [.ref 87, v1, v2, v3] σ) d 139 25 [l0, l1] [] := q_invv t139_22 mo139 K8_96 mj120 rfl rfl rfl rfl (Nat.le_of_ble_eq_true rfl)
theorem t139_25 : decode (mb 139) 25 = .ok (.return_, 1) := by decide +kernel
theorem s139_25 (d : Nat) (l0 : Value) (l1 : Value) (σ : Hs) : ru d 139 25 [l0, l1] [] σ = some (none, σ) := q_vret t139_25 mr139
theorem c139 (d : Nat) (x0 : Nat) (x1 : Int32) (σ : Hs) : callD (d + 1) 139 [.ref x0, .int x1] σ = ru d 139 0 [.ref x0, .int x1] [] σ := callD_ru ml139 rfl rfl (Nat.le_of_ble_eq_true rfl)
-- 140: Model.light(I)I
theorem t140_0 : decode (mb 140) 0 = .ok (.iload_n 1, 1) := by decide +kernel
theorem s140_0 (d : Nat) (l0 : Value) (i1 : Int32) (σ : Hs) : ru d 140 0 [l0, .int i1] [] σ = ru d 140 1 [l0, .int i1] [.int i1] σ := q_iload_n t140_0 rfl
theorem t140_1 : decode (mb 140) 1 = .ok (.invokestatic 113, 3) := by decide +kernel
theorem s140_1 (d : Nat) (l0 : Value) (l1 : Value) (v0 : Value) (σ : Hs) : ru d 140 1 [l0, l1] [v0] σ = kont (callD d 121 [v0] σ) d 140 4 [l0, l1] [] := q_invs t140_1 mo140 (by decide +kernel) K8_113 mj121 (Nat.le_of_ble_eq_true rfl) rfl rfl (Nat.le_of_ble_eq_true rfl)
theorem t140_4 : decode (mb 140) 4 = .ok (.ifCond .ne 10, 3) := by decide +kernel
theorem s140_4 (d : Nat) (l0 : Value) (l1 : Value) (x : Int32) (σ : Hs) : ru d 140 4 [l0, l1] [.int x] σ = if x = 0 then ru d 140 7 [l0, l1] [] σ else ru d 140 14 [l0, l1] [] σ := q_if_ne t140_4 (by decide +kernel)
theorem t140_7 : decode (mb 140) 7 = .ok (.aload_n 0, 1) := by decide +kernel
theorem s140_7 (d : Nat) (a0 : Nat) (l1 : Value) (σ : Hs) : ru d 140 7 [.ref a0, l1] [] σ = ru d 140 8 [.ref a0, l1] [.ref a0] σ := q_aload_n t140_7 rfl
theorem t140_8 : decode (mb 140) 8 = .ok (.ldc 104, 2) := by decide +kernel
theorem s140_8 (d : Nat) (l0 : Value) (l1 : Value) (w0 : Value) (σ : Hs) : ru d 140 8 [l0, l1] [w0] σ = ru d 140 10 [l0, l1] [.int (-1000001), w0] σ := q_ldc t140_8 mo140 C8_104
theorem t140_10 : decode (mb 140) 10 = .ok (.invokevirtual 105, 3) := by decide +kernel
theorem s140_10_o87 (d : Nat) (l0 : Value) (l1 : Value) (v1 : Value) (σ : Hs) : ru d 140 10 [l0, l1] [v1, .ref 87] σ = kont (callD d 112 [.ref 87, v1] σ) d 140 13 [l0, l1] [] := q_invv t140_10 mo140 K8_105 mj112 rfl rfl rfl rfl (Nat.le_of_ble_eq_true rfl)
theorem t140_13 : decode (mb 140) 13 = .ok (.ireturn, 1) := by decide +kernel
theorem s140_13 (d : Nat) (l0 : Value) (l1 : Value) (x : Int32) (σ : Hs) : ru d 140 13 [l0, l1] [.int x] σ = some (some (.int x), σ) := q_ireti t140_13 mr140
theorem t140_14 : decode (mb 140) 14 = .ok (.aload_n 0, 1) := by decide +kernel
theorem s140_14 (d : Nat) (a0 : Nat) (l1 : Value) (σ : Hs) : ru d 140 14 [.ref a0, l1] [] σ = ru d 140 15 [.ref a0, l1] [.ref a0] σ := q_aload_n t140_14 rfl
theorem t140_15 : decode (mb 140) 15 = .ok (.iload_n 1, 1) := by decide +kernel
theorem s140_15 (d : Nat) (l0 : Value) (i1 : Int32) (w0 : Value) (σ : Hs) : ru d 140 15 [l0, .int i1] [w0] σ = ru d 140 16 [l0, .int i1] [.int i1, w0] σ := q_iload_n t140_15 rfl
theorem t140_16 : decode (mb 140) 16 = .ok (.invokevirtual 88, 3) := by decide +kernel
theorem s140_16_o87 (d : Nat) (l0 : Value) (l1 : Value) (v1 : Value) (σ : Hs) : ru d 140 16 [l0, l1] [v1, .ref 87] σ = kont (callD d 122 [.ref 87, v1] σ) d 140 19 [l0, l1] [] := q_invv t140_16 mo140 K8_88 mj122 rfl rfl rfl rfl (Nat.le_of_ble_eq_true rfl)
theorem t140_19 : decode (mb 140) 19 = .ok (.ifCond .ne 10, 3) := by decide +kernel
theorem s140_19 (d : Nat) (l0 : Value) (l1 : Value) (x : Int32) (σ : Hs) : ru d 140 19 [l0, l1] [.int x] σ = if x = 0 then ru d 140 22 [l0, l1] [] σ else ru d 140 29 [l0, l1] [] σ := q_if_ne t140_19 (by decide +kernel)
theorem t140_22 : decode (mb 140) 22 = .ok (.aload_n 0, 1) := by decide +kernel
theorem s140_22 (d : Nat) (a0 : Nat) (l1 : Value) (σ : Hs) : ru d 140 22 [.ref a0, l1] [] σ = ru d 140 23 [.ref a0, l1] [.ref a0] σ := q_aload_n t140_22 rfl
theorem t140_23 : decode (mb 140) 23 = .ok (.ldc 116, 2) := by decide +kernel
theorem s140_23 (d : Nat) (l0 : Value) (l1 : Value) (w0 : Value) (σ : Hs) : ru d 140 23 [l0, l1] [w0] σ = ru d 140 25 [l0, l1] [.int (-1000002), w0] σ := q_ldc t140_23 mo140 C8_116
theorem t140_25 : decode (mb 140) 25 = .ok (.invokevirtual 105, 3) := by decide +kernel
theorem s140_25_o87 (d : Nat) (l0 : Value) (l1 : Value) (v1 : Value) (σ : Hs) : ru d 140 25 [l0, l1] [v1, .ref 87] σ = kont (callD d 112 [.ref 87, v1] σ) d 140 28 [l0, l1] [] := q_invv t140_25 mo140 K8_105 mj112 rfl rfl rfl rfl (Nat.le_of_ble_eq_true rfl)
theorem t140_28 : decode (mb 140) 28 = .ok (.ireturn, 1) := by decide +kernel
theorem s140_28 (d : Nat) (l0 : Value) (l1 : Value) (x : Int32) (σ : Hs) : ru d 140 28 [l0, l1] [.int x] σ = some (some (.int x), σ) := q_ireti t140_28 mr140
theorem t140_29 : decode (mb 140) 29 = .ok (.aload_n 0, 1) := by decide +kernel
theorem s140_29 (d : Nat) (a0 : Nat) (l1 : Value) (σ : Hs) : ru d 140 29 [.ref a0, l1] [] σ = ru d 140 30 [.ref a0, l1] [.ref a0] σ := q_aload_n t140_29 rfl
theorem t140_30 : decode (mb 140) 30 = .ok (.iload_n 1, 1) := by decide +kernel
theorem s140_30 (d : Nat) (l0 : Value) (i1 : Int32) (w0 : Value) (σ : Hs) : ru d 140 30 [l0, .int i1] [w0] σ = ru d 140 31 [l0, .int i1] [.int i1, w0] σ := q_iload_n t140_30 rfl
theorem t140_31 : decode (mb 140) 31 = .ok (.invokevirtual 142, 3) := by decide +kernel
theorem s140_31_o87 (d : Nat) (l0 : Value) (l1 : Value) (v1 : Value) (σ : Hs) : ru d 140 31 [l0, l1] [v1, .ref 87] σ = kont (callD d 123 [.ref 87, v1] σ) d 140 34 [l0, l1] [] := q_invv t140_31 mo140 K8_142 mj123 rfl rfl rfl rfl (Nat.le_of_ble_eq_true rfl)
theorem t140_34 : decode (mb 140) 34 = .ok (.ifCond .ne 37, 3) := by decide +kernel
theorem s140_34 (d : Nat) (l0 : Value) (l1 : Value) (x : Int32) (σ : Hs) : ru d 140 34 [l0, l1] [.int x] σ = if x = 0 then ru d 140 37 [l0, l1] [] σ else ru d 140 71 [l0, l1] [] σ := q_if_ne t140_34 (by decide +kernel)
theorem t140_37 : decode (mb 140) 37 = .ok (.aload_n 0, 1) := by decide +kernel
theorem s140_37 (d : Nat) (a0 : Nat) (l1 : Value) (σ : Hs) : ru d 140 37 [.ref a0, l1] [] σ = ru d 140 38 [.ref a0, l1] [.ref a0] σ := q_aload_n t140_37 rfl
theorem t140_38 : decode (mb 140) 38 = .ok (.iload_n 1, 1) := by decide +kernel
theorem s140_38 (d : Nat) (l0 : Value) (i1 : Int32) (w0 : Value) (σ : Hs) : ru d 140 38 [l0, .int i1] [w0] σ = ru d 140 39 [l0, .int i1] [.int i1, w0] σ := q_iload_n t140_38 rfl
theorem t140_39 : decode (mb 140) 39 = .ok (.iconst 3, 1) := by decide +kernel
theorem s140_39 (d : Nat) (l0 : Value) (l1 : Value) (w0 w1 : Value) (σ : Hs) : ru d 140 39 [l0, l1] [w0, w1] σ = ru d 140 40 [l0, l1] [.int 3, w0, w1] σ := q_iconst t140_39 (by decide +kernel)
theorem t140_40 : decode (mb 140) 40 = .ok (.invokevirtual 85, 3) := by decide +kernel
theorem s140_40_o87 (d : Nat) (l0 : Value) (l1 : Value) (v1 v2 : Value) (σ : Hs) : ru d 140 40 [l0, l1] [v2, v1, .ref 87] σ = kont (callD d 119 [.ref 87, v1, v2] σ) d 140 43 [l0, l1] [] := q_invv t140_40 mo140 K8_85 mj119 rfl rfl rfl rfl (Nat.le_of_ble_eq_true rfl)
theorem t140_43 : decode (mb 140) 43 = .ok (.aload_n 0, 1) := by decide +kernel
theorem s140_43 (d : Nat) (a0 : Nat) (l1 : Value) (w0 : Value) (σ : Hs) : ru d 140 43 [.ref a0, l1] [w0] σ = ru d 140 44 [.ref a0, l1] [.ref a0, w0] σ := q_aload_n t140_43 rfl
theorem t140_44 : decode (mb 140) 44 = .ok (.getfield 9, 3) := by decide +kernel
theorem s140_44_o87 (d : Nat) (l0 : Value) (l1 : Value) (w0 : Value) (σ : Hs) : ru d 140 44 [l0, l1] [.ref 87, w0] σ = ru d 140 47 [l0, l1] [.ref 88, w0] σ := q_getf t140_44 mo140 F8_9 rfl rfl
theorem t140_47 : decode (mb 140) 47 = .ok (.bipush 7, 2) := by decide +kernel
theorem s140_47 (d : Nat) (l0 : Value) (l1 : Value) (w0 w1 : Value) (σ : Hs) : ru d 140 47 [l0, l1] [w0, w1] σ = ru d 140 49 [l0, l1] [.int 7, w0, w1] σ := q_bipush t140_47 (by decide +kernel)
theorem t140_49 : decode (mb 140) 49 = .ok (.iaload, 1) := by decide +kernel
theorem s140_49_o88 (d : Nat) (l0 : Value) (l1 : Value) (i : Int32) (w0 : Value) (σ : Hs) : ru d 140 49 [l0, l1] [.int i, .ref 88, w0] σ = gd (vp_in i 545) (ru d 140 50 [l0, l1] [.int (σ 88 i.toNatClampNeg), w0] σ) := q_iald t140_49 rfl (by decide +kernel) rfl
theorem t140_50 : decode (mb 140) 50 = .ok (.if_icmp .gt 21, 3) := by decide +kernel
theorem s140_50 (d : Nat) (l0 : Value) (l1 : Value) (x y : Int32) (σ : Hs) : ru d 140 50 [l0, l1] [.int y, .int x] σ = if y < x then ru d 140 71 [l0, l1] [] σ else ru d 140 53 [l0, l1] [] σ := q_ic_gt t140_50 (by decide +kernel)
theorem t140_53 : decode (mb 140) 53 = .ok (.aload_n 0, 1) := by decide +kernel
theorem s140_53 (d : Nat) (a0 : Nat) (l1 : Value) (σ : Hs) : ru d 140 53 [.ref a0, l1] [] σ = ru d 140 54 [.ref a0, l1] [.ref a0] σ := q_aload_n t140_53 rfl
theorem t140_54 : decode (mb 140) 54 = .ok (.iload_n 1, 1) := by decide +kernel
theorem s140_54 (d : Nat) (l0 : Value) (i1 : Int32) (w0 : Value) (σ : Hs) : ru d 140 54 [l0, .int i1] [w0] σ = ru d 140 55 [l0, .int i1] [.int i1, w0] σ := q_iload_n t140_54 rfl
theorem t140_55 : decode (mb 140) 55 = .ok (.iconst 1, 1) := by decide +kernel
theorem s140_55 (d : Nat) (l0 : Value) (l1 : Value) (w0 w1 : Value) (σ : Hs) : ru d 140 55 [l0, l1] [w0, w1] σ = ru d 140 56 [l0, l1] [.int 1, w0, w1] σ := q_iconst t140_55 (by decide +kernel)
theorem t140_56 : decode (mb 140) 56 = .ok (.invokevirtual 85, 3) := by decide +kernel
theorem s140_56_o87 (d : Nat) (l0 : Value) (l1 : Value) (v1 v2 : Value) (σ : Hs) : ru d 140 56 [l0, l1] [v2, v1, .ref 87] σ = kont (callD d 119 [.ref 87, v1, v2] σ) d 140 59 [l0, l1] [] := q_invv t140_56 mo140 K8_85 mj119 rfl rfl rfl rfl (Nat.le_of_ble_eq_true rfl)
theorem t140_59 : decode (mb 140) 59 = .ok (.bipush 6, 2) := by decide +kernel
theorem s140_59 (d : Nat) (l0 : Value) (l1 : Value) (w0 : Value) (σ : Hs) : ru d 140 59 [l0, l1] [w0] σ = ru d 140 61 [l0, l1] [.int 6, w0] σ := q_bipush t140_59 (by decide +kernel)
theorem t140_61 : decode (mb 140) 61 = .ok (.if_icmp .eq 10, 3) := by decide +kernel
theorem s140_61 (d : Nat) (l0 : Value) (l1 : Value) (x y : Int32) (σ : Hs) : ru d 140 61 [l0, l1] [.int y, .int x] σ = if x = y then ru d 140 71 [l0, l1] [] σ else ru d 140 64 [l0, l1] [] σ := q_ic_eq t140_61 (by decide +kernel)
theorem t140_64 : decode (mb 140) 64 = .ok (.aload_n 0, 1) := by decide +kernel
theorem s140_64 (d : Nat) (a0 : Nat) (l1 : Value) (σ : Hs) : ru d 140 64 [.ref a0, l1] [] σ = ru d 140 65 [.ref a0, l1] [.ref a0] σ := q_aload_n t140_64 rfl
theorem t140_65 : decode (mb 140) 65 = .ok (.invokevirtual 145, 3) := by decide +kernel
theorem s140_65_o87 (d : Nat) (l0 : Value) (l1 : Value) (σ : Hs) : ru d 140 65 [l0, l1] [.ref 87] σ = kont (callD d 161 [.ref 87] σ) d 140 68 [l0, l1] [] := q_invv t140_65 mo140 K8_145 mj161 rfl rfl rfl rfl (Nat.le_of_ble_eq_true rfl)
theorem t140_68 : decode (mb 140) 68 = .ok (.ifCond .ne 10, 3) := by decide +kernel
theorem s140_68 (d : Nat) (l0 : Value) (l1 : Value) (x : Int32) (σ : Hs) : ru d 140 68 [l0, l1] [.int x] σ = if x = 0 then ru d 140 71 [l0, l1] [] σ else ru d 140 78 [l0, l1] [] σ := q_if_ne t140_68 (by decide +kernel)
theorem t140_71 : decode (mb 140) 71 = .ok (.aload_n 0, 1) := by decide +kernel
theorem s140_71 (d : Nat) (a0 : Nat) (l1 : Value) (σ : Hs) : ru d 140 71 [.ref a0, l1] [] σ = ru d 140 72 [.ref a0, l1] [.ref a0] σ := q_aload_n t140_71 rfl
theorem t140_72 : decode (mb 140) 72 = .ok (.ldc 149, 2) := by decide +kernel
theorem s140_72 (d : Nat) (l0 : Value) (l1 : Value) (w0 : Value) (σ : Hs) : ru d 140 72 [l0, l1] [w0] σ = ru d 140 74 [l0, l1] [.int (-1000003), w0] σ := q_ldc t140_72 mo140 C8_149
theorem t140_74 : decode (mb 140) 74 = .ok (.invokevirtual 105, 3) := by decide +kernel
theorem s140_74_o87 (d : Nat) (l0 : Value) (l1 : Value) (v1 : Value) (σ : Hs) : ru d 140 74 [l0, l1] [v1, .ref 87] σ = kont (callD d 112 [.ref 87, v1] σ) d 140 77 [l0, l1] [] := q_invv t140_74 mo140 K8_105 mj112 rfl rfl rfl rfl (Nat.le_of_ble_eq_true rfl)
theorem t140_77 : decode (mb 140) 77 = .ok (.ireturn, 1) := by decide +kernel
theorem s140_77 (d : Nat) (l0 : Value) (l1 : Value) (x : Int32) (σ : Hs) : ru d 140 77 [l0, l1] [.int x] σ = some (some (.int x), σ) := q_ireti t140_77 mr140
theorem t140_78 : decode (mb 140) 78 = .ok (.aload_n 0, 1) := by decide +kernel
theorem s140_78 (d : Nat) (a0 : Nat) (l1 : Value) (σ : Hs) : ru d 140 78 [.ref a0, l1] [] σ = ru d 140 79 [.ref a0, l1] [.ref a0] σ := q_aload_n t140_78 rfl
theorem t140_79 : decode (mb 140) 79 = .ok (.iload_n 1, 1) := by decide +kernel
theorem s140_79 (d : Nat) (l0 : Value) (i1 : Int32) (w0 : Value) (σ : Hs) : ru d 140 79 [l0, .int i1] [w0] σ = ru d 140 80 [l0, .int i1] [.int i1, w0] σ := q_iload_n t140_79 rfl
theorem t140_80 : decode (mb 140) 80 = .ok (.invokevirtual 150, 3) := by decide +kernel
theorem s140_80_o87 (d : Nat) (l0 : Value) (l1 : Value) (v1 : Value) (σ : Hs) : ru d 140 80 [l0, l1] [v1, .ref 87] σ = kont (callD d 139 [.ref 87, v1] σ) d 140 83 [l0, l1] [] := q_invv t140_80 mo140 K8_150 mj139 rfl rfl rfl rfl (Nat.le_of_ble_eq_true rfl)
theorem t140_83 : decode (mb 140) 83 = .ok (.iconst 1, 1) := by decide +kernel
theorem s140_83 (d : Nat) (l0 : Value) (l1 : Value) (σ : Hs) : ru d 140 83 [l0, l1] [] σ = ru d 140 84 [l0, l1] [.int 1] σ := q_iconst t140_83 (by decide +kernel)
theorem t140_84 : decode (mb 140) 84 = .ok (.ireturn, 1) := by decide +kernel
theorem s140_84 (d : Nat) (l0 : Value) (l1 : Value) (x : Int32) (σ : Hs) : ru d 140 84 [l0, l1] [.int x] σ = some (some (.int x), σ) := q_ireti t140_84 mr140
theorem c140 (d : Nat) (x0 : Nat) (x1 : Int32) (σ : Hs) : callD (d + 1) 140 [.ref x0, .int x1] σ = ru d 140 0 [.ref x0, .int x1] [] σ := callD_ru ml140 rfl rfl (Nat.le_of_ble_eq_true rfl)
-- 141: Model.pours(II)V
theorem t141_0 : decode (mb 141) 0 = .ok (.aload_n 0, 1) := by decide +kernel
theorem s141_0 (d : Nat) (a0 : Nat) (l1 : Value) (l2 : Value) (σ : Hs) : ru d 141 0 [.ref a0, l1, l2] [] σ = ru d 141 1 [.ref a0, l1, l2] [.ref a0] σ := q_aload_n t141_0 rfl
theorem t141_1 : decode (mb 141) 1 = .ok (.iload_n 1, 1) := by decide +kernel
theorem s141_1 (d : Nat) (l0 : Value) (i1 : Int32) (l2 : Value) (w0 : Value) (σ : Hs) : ru d 141 1 [l0, .int i1, l2] [w0] σ = ru d 141 2 [l0, .int i1, l2] [.int i1, w0] σ := q_iload_n t141_1 rfl
theorem t141_2 : decode (mb 141) 2 = .ok (.iconst 3, 1) := by decide +kernel
theorem s141_2 (d : Nat) (l0 : Value) (l1 : Value) (l2 : Value) (w0 w1 : Value) (σ : Hs) : ru d 141 2 [l0, l1, l2] [w0, w1] σ = ru d 141 3 [l0, l1, l2] [.int 3, w0, w1] σ := q_iconst t141_2 (by decide +kernel)
theorem t141_3 : decode (mb 141) 3 = .ok (.sipush 999, 3) := by decide +kernel
theorem s141_3 (d : Nat) (l0 : Value) (l1 : Value) (l2 : Value) (w0 w1 w2 : Value) (σ : Hs) : ru d 141 3 [l0, l1, l2] [w0, w1, w2] σ = ru d 141 6 [l0, l1, l2] [.int 999, w0, w1, w2] σ := q_sipush t141_3 (by decide +kernel)
theorem t141_6 : decode (mb 141) 6 = .ok (.aload_n 0, 1) := by decide +kernel
theorem s141_6 (d : Nat) (a0 : Nat) (l1 : Value) (l2 : Value) (w0 w1 w2 w3 : Value) (σ : Hs) : ru d 141 6 [.ref a0, l1, l2] [w0, w1, w2, w3] σ = ru d 141 7 [.ref a0, l1, l2] [.ref a0, w0, w1, w2, w3] σ := q_aload_n t141_6 rfl
theorem t141_7 : decode (mb 141) 7 = .ok (.iload_n 1, 1) := by decide +kernel
theorem s141_7 (d : Nat) (l0 : Value) (i1 : Int32) (l2 : Value) (w0 w1 w2 w3 w4 : Value) (σ : Hs) : ru d 141 7 [l0, .int i1, l2] [w0, w1, w2, w3, w4] σ = ru d 141 8 [l0, .int i1, l2] [.int i1, w0, w1, w2, w3, w4] σ := q_iload_n t141_7 rfl
theorem t141_8 : decode (mb 141) 8 = .ok (.iconst 3, 1) := by decide +kernel
theorem s141_8 (d : Nat) (l0 : Value) (l1 : Value) (l2 : Value) (w0 w1 w2 w3 w4 w5 : Value) (σ : Hs) : ru d 141 8 [l0, l1, l2] [w0, w1, w2, w3, w4, w5] σ = ru d 141 9 [l0, l1, l2] [.int 3, w0, w1, w2, w3, w4, w5] σ := q_iconst t141_8 (by decide +kernel)
theorem t141_9 : decode (mb 141) 9 = .ok (.invokevirtual 85, 3) := by decide +kernel
theorem s141_9_o87 (d : Nat) (l0 : Value) (l1 : Value) (l2 : Value) (v1 v2 : Value) (w0 : Int32) (w1 : Int32) (w2 : Int32) (w3 : Nat) (σ : Hs) : ru d 141 9 [l0, l1, l2] [v2, v1, .ref 87, .int w0, .int w1, .int w2, .ref w3] σ = kont (callD d 119 [.ref 87, v1, v2] σ) d 141 12 [l0, l1, l2] [.int w0, .int w1, .int w2, .ref w3] := q_invv t141_9 mo141 K8_85 mj119 rfl rfl rfl rfl (Nat.le_of_ble_eq_true rfl)
theorem t141_12 : decode (mb 141) 12 = .ok (.iload_n 2, 1) := by decide +kernel
theorem s141_12 (d : Nat) (l0 : Value) (l1 : Value) (i2 : Int32) (w0 w1 w2 w3 w4 : Value) (σ : Hs) : ru d 141 12 [l0, l1, .int i2] [w0, w1, w2, w3, w4] σ = ru d 141 13 [l0, l1, .int i2] [.int i2, w0, w1, w2, w3, w4] σ := q_iload_n t141_12 rfl
theorem t141_13 : decode (mb 141) 13 = .ok (.iadd, 1) := by decide +kernel
theorem s141_13 (d : Nat) (l0 : Value) (l1 : Value) (l2 : Value) (x y : Int32) (w0 w1 w2 w3 : Value) (σ : Hs) : ru d 141 13 [l0, l1, l2] [.int y, .int x, w0, w1, w2, w3] σ = ru d 141 14 [l0, l1, l2] [.int (x + y), w0, w1, w2, w3] σ := q_iadd t141_13
theorem t141_14 : decode (mb 141) 14 = .ok (.invokestatic 68, 3) := by decide +kernel
theorem s141_14 (d : Nat) (l0 : Value) (l1 : Value) (l2 : Value) (x y : Int32) (w0 : Int32) (w1 : Int32) (w2 : Nat) (σ : Hs) : ru d 141 14 [l0, l1, l2] [.int y, .int x, .int w0, .int w1, .ref w2] σ = ru d 141 17 [l0, l1, l2] [.int (jmin x y), .int w0, .int w1, .ref w2] σ := q_mi t141_14 mo141 (by decide +kernel) (by decide +kernel) (by decide +kernel) (Nat.le_of_ble_eq_true rfl)
theorem t141_17 : decode (mb 141) 17 = .ok (.invokevirtual 96, 3) := by decide +kernel
theorem s141_17_o87 (d : Nat) (l0 : Value) (l1 : Value) (l2 : Value) (v1 v2 v3 : Value) (σ : Hs) : ru d 141 17 [l0, l1, l2] [v3, v2, v1, .ref 87] σ = kont (callD d 120 [.ref 87, v1, v2, v3] σ) d 141 20 [l0, l1, l2] [] := q_invv t141_17 mo141 K8_96 mj120 rfl rfl rfl rfl (Nat.le_of_ble_eq_true rfl)
theorem t141_20 : decode (mb 141) 20 = .ok (.aload_n 0, 1) := by decide +kernel
theorem s141_20 (d : Nat) (a0 : Nat) (l1 : Value) (l2 : Value) (σ : Hs) : ru d 141 20 [.ref a0, l1, l2] [] σ = ru d 141 21 [.ref a0, l1, l2] [.ref a0] σ := q_aload_n t141_20 rfl
theorem t141_21 : decode (mb 141) 21 = .ok (.iload_n 1, 1) := by decide +kernel
theorem s141_21 (d : Nat) (l0 : Value) (i1 : Int32) (l2 : Value) (w0 : Value) (σ : Hs) : ru d 141 21 [l0, .int i1, l2] [w0] σ = ru d 141 22 [l0, .int i1, l2] [.int i1, w0] σ := q_iload_n t141_21 rfl
theorem t141_22 : decode (mb 141) 22 = .ok (.iconst 5, 1) := by decide +kernel
theorem s141_22 (d : Nat) (l0 : Value) (l1 : Value) (l2 : Value) (w0 w1 : Value) (σ : Hs) : ru d 141 22 [l0, l1, l2] [w0, w1] σ = ru d 141 23 [l0, l1, l2] [.int 5, w0, w1] σ := q_iconst t141_22 (by decide +kernel)
theorem t141_23 : decode (mb 141) 23 = .ok (.iconst 0, 1) := by decide +kernel
theorem s141_23 (d : Nat) (l0 : Value) (l1 : Value) (l2 : Value) (w0 w1 w2 : Value) (σ : Hs) : ru d 141 23 [l0, l1, l2] [w0, w1, w2] σ = ru d 141 24 [l0, l1, l2] [.int 0, w0, w1, w2] σ := q_iconst t141_23 (by decide +kernel)
theorem t141_24 : decode (mb 141) 24 = .ok (.aload_n 0, 1) := by decide +kernel
theorem s141_24 (d : Nat) (a0 : Nat) (l1 : Value) (l2 : Value) (w0 w1 w2 w3 : Value) (σ : Hs) : ru d 141 24 [.ref a0, l1, l2] [w0, w1, w2, w3] σ = ru d 141 25 [.ref a0, l1, l2] [.ref a0, w0, w1, w2, w3] σ := q_aload_n t141_24 rfl
theorem t141_25 : decode (mb 141) 25 = .ok (.iload_n 1, 1) := by decide +kernel
theorem s141_25 (d : Nat) (l0 : Value) (i1 : Int32) (l2 : Value) (w0 w1 w2 w3 w4 : Value) (σ : Hs) : ru d 141 25 [l0, .int i1, l2] [w0, w1, w2, w3, w4] σ = ru d 141 26 [l0, .int i1, l2] [.int i1, w0, w1, w2, w3, w4] σ := q_iload_n t141_25 rfl
theorem t141_26 : decode (mb 141) 26 = .ok (.iconst 5, 1) := by decide +kernel
theorem s141_26 (d : Nat) (l0 : Value) (l1 : Value) (l2 : Value) (w0 w1 w2 w3 w4 w5 : Value) (σ : Hs) : ru d 141 26 [l0, l1, l2] [w0, w1, w2, w3, w4, w5] σ = ru d 141 27 [l0, l1, l2] [.int 5, w0, w1, w2, w3, w4, w5] σ := q_iconst t141_26 (by decide +kernel)
theorem t141_27 : decode (mb 141) 27 = .ok (.invokevirtual 85, 3) := by decide +kernel
theorem s141_27_o87 (d : Nat) (l0 : Value) (l1 : Value) (l2 : Value) (v1 v2 : Value) (w0 : Int32) (w1 : Int32) (w2 : Int32) (w3 : Nat) (σ : Hs) : ru d 141 27 [l0, l1, l2] [v2, v1, .ref 87, .int w0, .int w1, .int w2, .ref w3] σ = kont (callD d 119 [.ref 87, v1, v2] σ) d 141 30 [l0, l1, l2] [.int w0, .int w1, .int w2, .ref w3] := q_invv t141_27 mo141 K8_85 mj119 rfl rfl rfl rfl (Nat.le_of_ble_eq_true rfl)
theorem t141_30 : decode (mb 141) 30 = .ok (.iload_n 2, 1) := by decide +kernel
theorem s141_30 (d : Nat) (l0 : Value) (l1 : Value) (i2 : Int32) (w0 w1 w2 w3 w4 : Value) (σ : Hs) : ru d 141 30 [l0, l1, .int i2] [w0, w1, w2, w3, w4] σ = ru d 141 31 [l0, l1, .int i2] [.int i2, w0, w1, w2, w3, w4] σ := q_iload_n t141_30 rfl
theorem t141_31 : decode (mb 141) 31 = .ok (.isub, 1) := by decide +kernel
theorem s141_31 (d : Nat) (l0 : Value) (l1 : Value) (l2 : Value) (x y : Int32) (w0 w1 w2 w3 : Value) (σ : Hs) : ru d 141 31 [l0, l1, l2] [.int y, .int x, w0, w1, w2, w3] σ = ru d 141 32 [l0, l1, l2] [.int (x - y), w0, w1, w2, w3] σ := q_isub t141_31
theorem t141_32 : decode (mb 141) 32 = .ok (.invokestatic 74, 3) := by decide +kernel
theorem s141_32 (d : Nat) (l0 : Value) (l1 : Value) (l2 : Value) (x y : Int32) (w0 : Int32) (w1 : Int32) (w2 : Nat) (σ : Hs) : ru d 141 32 [l0, l1, l2] [.int y, .int x, .int w0, .int w1, .ref w2] σ = ru d 141 35 [l0, l1, l2] [.int (jmax x y), .int w0, .int w1, .ref w2] σ := q_mx t141_32 mo141 (by decide +kernel) (by decide +kernel) (Nat.le_of_ble_eq_true rfl)
theorem t141_35 : decode (mb 141) 35 = .ok (.invokevirtual 96, 3) := by decide +kernel
theorem s141_35_o87 (d : Nat) (l0 : Value) (l1 : Value) (l2 : Value) (v1 v2 v3 : Value) (σ : Hs) : ru d 141 35 [l0, l1, l2] [v3, v2, v1, .ref 87] σ = kont (callD d 120 [.ref 87, v1, v2, v3] σ) d 141 38 [l0, l1, l2] [] := q_invv t141_35 mo141 K8_96 mj120 rfl rfl rfl rfl (Nat.le_of_ble_eq_true rfl)
theorem t141_38 : decode (mb 141) 38 = .ok (.return_, 1) := by decide +kernel
theorem s141_38 (d : Nat) (l0 : Value) (l1 : Value) (l2 : Value) (σ : Hs) : ru d 141 38 [l0, l1, l2] [] σ = some (none, σ) := q_vret t141_38 mr141
theorem c141 (d : Nat) (x0 : Nat) (x1 : Int32) (x2 : Int32) (σ : Hs) : callD (d + 1) 141 [.ref x0, .int x1, .int x2] σ = ru d 141 0 [.ref x0, .int x1, .int x2] [] σ := callD_ru ml141 rfl rfl (Nat.le_of_ble_eq_true rfl)
-- 142: Model.pour(II)I
theorem t142_0 : decode (mb 142) 0 = .ok (.iload_n 1, 1) := by decide +kernel
theorem s142_0 (d : Nat) (l0 : Value) (i1 : Int32) (l2 : Value) (σ : Hs) : ru d 142 0 [l0, .int i1, l2] [] σ = ru d 142 1 [l0, .int i1, l2] [.int i1] σ := q_iload_n t142_0 rfl
theorem t142_1 : decode (mb 142) 1 = .ok (.invokestatic 113, 3) := by decide +kernel
theorem s142_1 (d : Nat) (l0 : Value) (l1 : Value) (l2 : Value) (v0 : Value) (σ : Hs) : ru d 142 1 [l0, l1, l2] [v0] σ = kont (callD d 121 [v0] σ) d 142 4 [l0, l1, l2] [] := q_invs t142_1 mo142 (by decide +kernel) K8_113 mj121 (Nat.le_of_ble_eq_true rfl) rfl rfl (Nat.le_of_ble_eq_true rfl)
theorem t142_4 : decode (mb 142) 4 = .ok (.ifCond .eq 14, 3) := by decide +kernel
theorem s142_4 (d : Nat) (l0 : Value) (l1 : Value) (l2 : Value) (x : Int32) (σ : Hs) : ru d 142 4 [l0, l1, l2] [.int x] σ = if x = 0 then ru d 142 18 [l0, l1, l2] [] σ else ru d 142 7 [l0, l1, l2] [] σ := q_if_eq t142_4 (by decide +kernel)
theorem t142_7 : decode (mb 142) 7 = .ok (.iload_n 2, 1) := by decide +kernel
theorem s142_7 (d : Nat) (l0 : Value) (l1 : Value) (i2 : Int32) (σ : Hs) : ru d 142 7 [l0, l1, .int i2] [] σ = ru d 142 8 [l0, l1, .int i2] [.int i2] σ := q_iload_n t142_7 rfl
theorem t142_8 : decode (mb 142) 8 = .ok (.iconst 0, 1) := by decide +kernel
theorem s142_8 (d : Nat) (l0 : Value) (l1 : Value) (l2 : Value) (w0 : Value) (σ : Hs) : ru d 142 8 [l0, l1, l2] [w0] σ = ru d 142 9 [l0, l1, l2] [.int 0, w0] σ := q_iconst t142_8 (by decide +kernel)
theorem t142_9 : decode (mb 142) 9 = .ok (.sipush 999, 3) := by decide +kernel
theorem s142_9 (d : Nat) (l0 : Value) (l1 : Value) (l2 : Value) (w0 w1 : Value) (σ : Hs) : ru d 142 9 [l0, l1, l2] [w0, w1] σ = ru d 142 12 [l0, l1, l2] [.int 999, w0, w1] σ := q_sipush t142_9 (by decide +kernel)
theorem t142_12 : decode (mb 142) 12 = .ok (.invokestatic 81, 3) := by decide +kernel
theorem s142_12 (d : Nat) (l0 : Value) (l1 : Value) (l2 : Value) (v0 v1 v2 : Value) (σ : Hs) : ru d 142 12 [l0, l1, l2] [v2, v1, v0] σ = kont (callD d 113 [v0, v1, v2] σ) d 142 15 [l0, l1, l2] [] := q_invs t142_12 mo142 (by decide +kernel) K8_81 mj113 (Nat.le_of_ble_eq_true rfl) rfl rfl (Nat.le_of_ble_eq_true rfl)
theorem t142_15 : decode (mb 142) 15 = .ok (.ifCond .ne 10, 3) := by decide +kernel
theorem s142_15 (d : Nat) (l0 : Value) (l1 : Value) (l2 : Value) (x : Int32) (σ : Hs) : ru d 142 15 [l0, l1, l2] [.int x] σ = if x = 0 then ru d 142 18 [l0, l1, l2] [] σ else ru d 142 25 [l0, l1, l2] [] σ := q_if_ne t142_15 (by decide +kernel)
theorem t142_18 : decode (mb 142) 18 = .ok (.aload_n 0, 1) := by decide +kernel
theorem s142_18 (d : Nat) (a0 : Nat) (l1 : Value) (l2 : Value) (σ : Hs) : ru d 142 18 [.ref a0, l1, l2] [] σ = ru d 142 19 [.ref a0, l1, l2] [.ref a0] σ := q_aload_n t142_18 rfl
theorem t142_19 : decode (mb 142) 19 = .ok (.ldc 104, 2) := by decide +kernel
theorem s142_19 (d : Nat) (l0 : Value) (l1 : Value) (l2 : Value) (w0 : Value) (σ : Hs) : ru d 142 19 [l0, l1, l2] [w0] σ = ru d 142 21 [l0, l1, l2] [.int (-1000001), w0] σ := q_ldc t142_19 mo142 C8_104
theorem t142_21 : decode (mb 142) 21 = .ok (.invokevirtual 105, 3) := by decide +kernel
theorem s142_21_o87 (d : Nat) (l0 : Value) (l1 : Value) (l2 : Value) (v1 : Value) (σ : Hs) : ru d 142 21 [l0, l1, l2] [v1, .ref 87] σ = kont (callD d 112 [.ref 87, v1] σ) d 142 24 [l0, l1, l2] [] := q_invv t142_21 mo142 K8_105 mj112 rfl rfl rfl rfl (Nat.le_of_ble_eq_true rfl)
theorem t142_24 : decode (mb 142) 24 = .ok (.ireturn, 1) := by decide +kernel
theorem s142_24 (d : Nat) (l0 : Value) (l1 : Value) (l2 : Value) (x : Int32) (σ : Hs) : ru d 142 24 [l0, l1, l2] [.int x] σ = some (some (.int x), σ) := q_ireti t142_24 mr142
theorem t142_25 : decode (mb 142) 25 = .ok (.aload_n 0, 1) := by decide +kernel
theorem s142_25 (d : Nat) (a0 : Nat) (l1 : Value) (l2 : Value) (σ : Hs) : ru d 142 25 [.ref a0, l1, l2] [] σ = ru d 142 26 [.ref a0, l1, l2] [.ref a0] σ := q_aload_n t142_25 rfl
theorem t142_26 : decode (mb 142) 26 = .ok (.iload_n 1, 1) := by decide +kernel
theorem s142_26 (d : Nat) (l0 : Value) (i1 : Int32) (l2 : Value) (w0 : Value) (σ : Hs) : ru d 142 26 [l0, .int i1, l2] [w0] σ = ru d 142 27 [l0, .int i1, l2] [.int i1, w0] σ := q_iload_n t142_26 rfl
theorem t142_27 : decode (mb 142) 27 = .ok (.invokevirtual 88, 3) := by decide +kernel
theorem s142_27_o87 (d : Nat) (l0 : Value) (l1 : Value) (l2 : Value) (v1 : Value) (σ : Hs) : ru d 142 27 [l0, l1, l2] [v1, .ref 87] σ = kont (callD d 122 [.ref 87, v1] σ) d 142 30 [l0, l1, l2] [] := q_invv t142_27 mo142 K8_88 mj122 rfl rfl rfl rfl (Nat.le_of_ble_eq_true rfl)
theorem t142_30 : decode (mb 142) 30 = .ok (.ifCond .ne 10, 3) := by decide +kernel
theorem s142_30 (d : Nat) (l0 : Value) (l1 : Value) (l2 : Value) (x : Int32) (σ : Hs) : ru d 142 30 [l0, l1, l2] [.int x] σ = if x = 0 then ru d 142 33 [l0, l1, l2] [] σ else ru d 142 40 [l0, l1, l2] [] σ := q_if_ne t142_30 (by decide +kernel)
theorem t142_33 : decode (mb 142) 33 = .ok (.aload_n 0, 1) := by decide +kernel
theorem s142_33 (d : Nat) (a0 : Nat) (l1 : Value) (l2 : Value) (σ : Hs) : ru d 142 33 [.ref a0, l1, l2] [] σ = ru d 142 34 [.ref a0, l1, l2] [.ref a0] σ := q_aload_n t142_33 rfl
theorem t142_34 : decode (mb 142) 34 = .ok (.ldc 116, 2) := by decide +kernel
theorem s142_34 (d : Nat) (l0 : Value) (l1 : Value) (l2 : Value) (w0 : Value) (σ : Hs) : ru d 142 34 [l0, l1, l2] [w0] σ = ru d 142 36 [l0, l1, l2] [.int (-1000002), w0] σ := q_ldc t142_34 mo142 C8_116
theorem t142_36 : decode (mb 142) 36 = .ok (.invokevirtual 105, 3) := by decide +kernel
theorem s142_36_o87 (d : Nat) (l0 : Value) (l1 : Value) (l2 : Value) (v1 : Value) (σ : Hs) : ru d 142 36 [l0, l1, l2] [v1, .ref 87] σ = kont (callD d 112 [.ref 87, v1] σ) d 142 39 [l0, l1, l2] [] := q_invv t142_36 mo142 K8_105 mj112 rfl rfl rfl rfl (Nat.le_of_ble_eq_true rfl)
theorem t142_39 : decode (mb 142) 39 = .ok (.ireturn, 1) := by decide +kernel
theorem s142_39 (d : Nat) (l0 : Value) (l1 : Value) (l2 : Value) (x : Int32) (σ : Hs) : ru d 142 39 [l0, l1, l2] [.int x] σ = some (some (.int x), σ) := q_ireti t142_39 mr142
theorem t142_40 : decode (mb 142) 40 = .ok (.aload_n 0, 1) := by decide +kernel
theorem s142_40 (d : Nat) (a0 : Nat) (l1 : Value) (l2 : Value) (σ : Hs) : ru d 142 40 [.ref a0, l1, l2] [] σ = ru d 142 41 [.ref a0, l1, l2] [.ref a0] σ := q_aload_n t142_40 rfl
theorem t142_41 : decode (mb 142) 41 = .ok (.iload_n 1, 1) := by decide +kernel
theorem s142_41 (d : Nat) (l0 : Value) (i1 : Int32) (l2 : Value) (w0 : Value) (σ : Hs) : ru d 142 41 [l0, .int i1, l2] [w0] σ = ru d 142 42 [l0, .int i1, l2] [.int i1, w0] σ := q_iload_n t142_41 rfl
theorem t142_42 : decode (mb 142) 42 = .ok (.iload_n 2, 1) := by decide +kernel
theorem s142_42 (d : Nat) (l0 : Value) (l1 : Value) (i2 : Int32) (w0 w1 : Value) (σ : Hs) : ru d 142 42 [l0, l1, .int i2] [w0, w1] σ = ru d 142 43 [l0, l1, .int i2] [.int i2, w0, w1] σ := q_iload_n t142_42 rfl
theorem t142_43 : decode (mb 142) 43 = .ok (.invokevirtual 153, 3) := by decide +kernel
theorem s142_43_o87 (d : Nat) (l0 : Value) (l1 : Value) (l2 : Value) (v1 v2 : Value) (σ : Hs) : ru d 142 43 [l0, l1, l2] [v2, v1, .ref 87] σ = kont (callD d 141 [.ref 87, v1, v2] σ) d 142 46 [l0, l1, l2] [] := q_invv t142_43 mo142 K8_153 mj141 rfl rfl rfl rfl (Nat.le_of_ble_eq_true rfl)
theorem t142_46 : decode (mb 142) 46 = .ok (.aload_n 0, 1) := by decide +kernel
theorem s142_46 (d : Nat) (a0 : Nat) (l1 : Value) (l2 : Value) (σ : Hs) : ru d 142 46 [.ref a0, l1, l2] [] σ = ru d 142 47 [.ref a0, l1, l2] [.ref a0] σ := q_aload_n t142_46 rfl
theorem t142_47 : decode (mb 142) 47 = .ok (.iload_n 1, 1) := by decide +kernel
theorem s142_47 (d : Nat) (l0 : Value) (i1 : Int32) (l2 : Value) (w0 : Value) (σ : Hs) : ru d 142 47 [l0, .int i1, l2] [w0] σ = ru d 142 48 [l0, .int i1, l2] [.int i1, w0] σ := q_iload_n t142_47 rfl
theorem t142_48 : decode (mb 142) 48 = .ok (.iconst 3, 1) := by decide +kernel
theorem s142_48 (d : Nat) (l0 : Value) (l1 : Value) (l2 : Value) (w0 w1 : Value) (σ : Hs) : ru d 142 48 [l0, l1, l2] [w0, w1] σ = ru d 142 49 [l0, l1, l2] [.int 3, w0, w1] σ := q_iconst t142_48 (by decide +kernel)
theorem t142_49 : decode (mb 142) 49 = .ok (.invokevirtual 85, 3) := by decide +kernel
theorem s142_49_o87 (d : Nat) (l0 : Value) (l1 : Value) (l2 : Value) (v1 v2 : Value) (σ : Hs) : ru d 142 49 [l0, l1, l2] [v2, v1, .ref 87] σ = kont (callD d 119 [.ref 87, v1, v2] σ) d 142 52 [l0, l1, l2] [] := q_invv t142_49 mo142 K8_85 mj119 rfl rfl rfl rfl (Nat.le_of_ble_eq_true rfl)
theorem t142_52 : decode (mb 142) 52 = .ok (.ireturn, 1) := by decide +kernel
theorem s142_52 (d : Nat) (l0 : Value) (l1 : Value) (l2 : Value) (x : Int32) (σ : Hs) : ru d 142 52 [l0, l1, l2] [.int x] σ = some (some (.int x), σ) := q_ireti t142_52 mr142
theorem c142 (d : Nat) (x0 : Nat) (x1 : Int32) (x2 : Int32) (σ : Hs) : callD (d + 1) 142 [.ref x0, .int x1, .int x2] σ = ru d 142 0 [.ref x0, .int x1, .int x2] [] σ := callD_ru ml142 rfl rfl (Nat.le_of_ble_eq_true rfl)
-- 143: Model.set(II)I
theorem t143_0 : decode (mb 143) 0 = .ok (.iload_n 1, 1) := by decide +kernel
theorem s143_0 (d : Nat) (l0 : Value) (i1 : Int32) (l2 : Value) (σ : Hs) : ru d 143 0 [l0, .int i1, l2] [] σ = ru d 143 1 [l0, .int i1, l2] [.int i1] σ := q_iload_n t143_0 rfl
theorem t143_1 : decode (mb 143) 1 = .ok (.iconst 0, 1) := by decide +kernel
theorem s143_1 (d : Nat) (l0 : Value) (l1 : Value) (l2 : Value) (w0 : Value) (σ : Hs) : ru d 143 1 [l0, l1, l2] [w0] σ = ru d 143 2 [l0, l1, l2] [.int 0, w0] σ := q_iconst t143_1 (by decide +kernel)
theorem t143_2 : decode (mb 143) 2 = .ok (.iconst 4, 1) := by decide +kernel
theorem s143_2 (d : Nat) (l0 : Value) (l1 : Value) (l2 : Value) (w0 w1 : Value) (σ : Hs) : ru d 143 2 [l0, l1, l2] [w0, w1] σ = ru d 143 3 [l0, l1, l2] [.int 4, w0, w1] σ := q_iconst t143_2 (by decide +kernel)
theorem t143_3 : decode (mb 143) 3 = .ok (.invokestatic 81, 3) := by decide +kernel
theorem s143_3 (d : Nat) (l0 : Value) (l1 : Value) (l2 : Value) (v0 v1 v2 : Value) (σ : Hs) : ru d 143 3 [l0, l1, l2] [v2, v1, v0] σ = kont (callD d 113 [v0, v1, v2] σ) d 143 6 [l0, l1, l2] [] := q_invs t143_3 mo143 (by decide +kernel) K8_81 mj113 (Nat.le_of_ble_eq_true rfl) rfl rfl (Nat.le_of_ble_eq_true rfl)
theorem t143_6 : decode (mb 143) 6 = .ok (.ifCond .eq 28, 3) := by decide +kernel
theorem s143_6 (d : Nat) (l0 : Value) (l1 : Value) (l2 : Value) (x : Int32) (σ : Hs) : ru d 143 6 [l0, l1, l2] [.int x] σ = if x = 0 then ru d 143 34 [l0, l1, l2] [] σ else ru d 143 9 [l0, l1, l2] [] σ := q_if_eq t143_6 (by decide +kernel)
theorem t143_9 : decode (mb 143) 9 = .ok (.iload_n 2, 1) := by decide +kernel
theorem s143_9 (d : Nat) (l0 : Value) (l1 : Value) (i2 : Int32) (σ : Hs) : ru d 143 9 [l0, l1, .int i2] [] σ = ru d 143 10 [l0, l1, .int i2] [.int i2] σ := q_iload_n t143_9 rfl
theorem t143_10 : decode (mb 143) 10 = .ok (.iconst 0, 1) := by decide +kernel
theorem s143_10 (d : Nat) (l0 : Value) (l1 : Value) (l2 : Value) (w0 : Value) (σ : Hs) : ru d 143 10 [l0, l1, l2] [w0] σ = ru d 143 11 [l0, l1, l2] [.int 0, w0] σ := q_iconst t143_10 (by decide +kernel)
theorem t143_11 : decode (mb 143) 11 = .ok (.aload_n 0, 1) := by decide +kernel
theorem s143_11 (d : Nat) (a0 : Nat) (l1 : Value) (l2 : Value) (w0 w1 : Value) (σ : Hs) : ru d 143 11 [.ref a0, l1, l2] [w0, w1] σ = ru d 143 12 [.ref a0, l1, l2] [.ref a0, w0, w1] σ := q_aload_n t143_11 rfl
theorem t143_12 : decode (mb 143) 12 = .ok (.getfield 28, 3) := by decide +kernel
theorem s143_12_o87 (d : Nat) (l0 : Value) (l1 : Value) (l2 : Value) (w0 w1 : Value) (σ : Hs) : ru d 143 12 [l0, l1, l2] [.ref 87, w0, w1] σ = ru d 143 15 [l0, l1, l2] [.ref 94, w0, w1] σ := q_getf t143_12 mo143 F8_28 rfl rfl
theorem t143_15 : decode (mb 143) 15 = .ok (.iload_n 1, 1) := by decide +kernel
theorem s143_15 (d : Nat) (l0 : Value) (i1 : Int32) (l2 : Value) (w0 w1 w2 : Value) (σ : Hs) : ru d 143 15 [l0, .int i1, l2] [w0, w1, w2] σ = ru d 143 16 [l0, .int i1, l2] [.int i1, w0, w1, w2] σ := q_iload_n t143_15 rfl
theorem t143_16 : decode (mb 143) 16 = .ok (.iaload, 1) := by decide +kernel
theorem s143_16_o94 (d : Nat) (l0 : Value) (l1 : Value) (l2 : Value) (i : Int32) (w0 w1 : Value) (σ : Hs) : ru d 143 16 [l0, l1, l2] [.int i, .ref 94, w0, w1] σ = gd (vp_in i 5) (ru d 143 17 [l0, l1, l2] [.int (σ 94 i.toNatClampNeg), w0, w1] σ) := q_iald t143_16 rfl (by decide +kernel) rfl
theorem t143_17 : decode (mb 143) 17 = .ok (.invokestatic 81, 3) := by decide +kernel
theorem s143_17 (d : Nat) (l0 : Value) (l1 : Value) (l2 : Value) (v0 v1 v2 : Value) (σ : Hs) : ru d 143 17 [l0, l1, l2] [v2, v1, v0] σ = kont (callD d 113 [v0, v1, v2] σ) d 143 20 [l0, l1, l2] [] := q_invs t143_17 mo143 (by decide +kernel) K8_81 mj113 (Nat.le_of_ble_eq_true rfl) rfl rfl (Nat.le_of_ble_eq_true rfl)
theorem t143_20 : decode (mb 143) 20 = .ok (.ifCond .eq 14, 3) := by decide +kernel
theorem s143_20 (d : Nat) (l0 : Value) (l1 : Value) (l2 : Value) (x : Int32) (σ : Hs) : ru d 143 20 [l0, l1, l2] [.int x] σ = if x = 0 then ru d 143 34 [l0, l1, l2] [] σ else ru d 143 23 [l0, l1, l2] [] σ := q_if_eq t143_20 (by decide +kernel)
theorem t143_23 : decode (mb 143) 23 = .ok (.aload_n 0, 1) := by decide +kernel
theorem s143_23 (d : Nat) (a0 : Nat) (l1 : Value) (l2 : Value) (σ : Hs) : ru d 143 23 [.ref a0, l1, l2] [] σ = ru d 143 24 [.ref a0, l1, l2] [.ref a0] σ := q_aload_n t143_23 rfl
theorem t143_24 : decode (mb 143) 24 = .ok (.iconst 4, 1) := by decide +kernel
theorem s143_24 (d : Nat) (l0 : Value) (l1 : Value) (l2 : Value) (w0 : Value) (σ : Hs) : ru d 143 24 [l0, l1, l2] [w0] σ = ru d 143 25 [l0, l1, l2] [.int 4, w0] σ := q_iconst t143_24 (by decide +kernel)
theorem t143_25 : decode (mb 143) 25 = .ok (.iload_n 1, 1) := by decide +kernel
theorem s143_25 (d : Nat) (l0 : Value) (i1 : Int32) (l2 : Value) (w0 w1 : Value) (σ : Hs) : ru d 143 25 [l0, .int i1, l2] [w0, w1] σ = ru d 143 26 [l0, .int i1, l2] [.int i1, w0, w1] σ := q_iload_n t143_25 rfl
theorem t143_26 : decode (mb 143) 26 = .ok (.iadd, 1) := by decide +kernel
theorem s143_26 (d : Nat) (l0 : Value) (l1 : Value) (l2 : Value) (x y : Int32) (w0 : Value) (σ : Hs) : ru d 143 26 [l0, l1, l2] [.int y, .int x, w0] σ = ru d 143 27 [l0, l1, l2] [.int (x + y), w0] σ := q_iadd t143_26
theorem t143_27 : decode (mb 143) 27 = .ok (.iload_n 2, 1) := by decide +kernel
theorem s143_27 (d : Nat) (l0 : Value) (l1 : Value) (i2 : Int32) (w0 w1 : Value) (σ : Hs) : ru d 143 27 [l0, l1, .int i2] [w0, w1] σ = ru d 143 28 [l0, l1, .int i2] [.int i2, w0, w1] σ := q_iload_n t143_27 rfl
theorem t143_28 : decode (mb 143) 28 = .ok (.invokevirtual 135, 3) := by decide +kernel
theorem s143_28_o87 (d : Nat) (l0 : Value) (l1 : Value) (l2 : Value) (v1 v2 : Value) (σ : Hs) : ru d 143 28 [l0, l1, l2] [v2, v1, .ref 87] σ = kont (callD d 117 [.ref 87, v1, v2] σ) d 143 31 [l0, l1, l2] [] := q_invv t143_28 mo143 K8_135 mj117 rfl rfl rfl rfl (Nat.le_of_ble_eq_true rfl)
theorem t143_31 : decode (mb 143) 31 = .ok (.goto 9, 3) := by decide +kernel
theorem s143_31 (d : Nat) (l0 : Value) (l1 : Value) (l2 : Value) (w0 : Value) (σ : Hs) : ru d 143 31 [l0, l1, l2] [w0] σ = ru d 143 40 [l0, l1, l2] [w0] σ := q_goto t143_31 (by decide +kernel)
theorem t143_34 : decode (mb 143) 34 = .ok (.aload_n 0, 1) := by decide +kernel
theorem s143_34 (d : Nat) (a0 : Nat) (l1 : Value) (l2 : Value) (σ : Hs) : ru d 143 34 [.ref a0, l1, l2] [] σ = ru d 143 35 [.ref a0, l1, l2] [.ref a0] σ := q_aload_n t143_34 rfl
theorem t143_35 : decode (mb 143) 35 = .ok (.ldc 104, 2) := by decide +kernel
theorem s143_35 (d : Nat) (l0 : Value) (l1 : Value) (l2 : Value) (w0 : Value) (σ : Hs) : ru d 143 35 [l0, l1, l2] [w0] σ = ru d 143 37 [l0, l1, l2] [.int (-1000001), w0] σ := q_ldc t143_35 mo143 C8_104
theorem t143_37 : decode (mb 143) 37 = .ok (.invokevirtual 105, 3) := by decide +kernel
theorem s143_37_o87 (d : Nat) (l0 : Value) (l1 : Value) (l2 : Value) (v1 : Value) (σ : Hs) : ru d 143 37 [l0, l1, l2] [v1, .ref 87] σ = kont (callD d 112 [.ref 87, v1] σ) d 143 40 [l0, l1, l2] [] := q_invv t143_37 mo143 K8_105 mj112 rfl rfl rfl rfl (Nat.le_of_ble_eq_true rfl)
theorem t143_40 : decode (mb 143) 40 = .ok (.ireturn, 1) := by decide +kernel
theorem s143_40 (d : Nat) (l0 : Value) (l1 : Value) (l2 : Value) (x : Int32) (σ : Hs) : ru d 143 40 [l0, l1, l2] [.int x] σ = some (some (.int x), σ) := q_ireti t143_40 mr143
theorem c143 (d : Nat) (x0 : Nat) (x1 : Int32) (x2 : Int32) (σ : Hs) : callD (d + 1) 143 [.ref x0, .int x1, .int x2] σ = ru d 143 0 [.ref x0, .int x1, .int x2] [] σ := callD_ru ml143 rfl rfl (Nat.le_of_ble_eq_true rfl)
-- 144: Model.feed(JI)I
theorem t144_0 : decode (mb 144) 0 = .ok (.iload_n 3, 1) := by decide +kernel
theorem s144_0 (d : Nat) (l0 : Value) (l1 : Value) (l2 : Value) (i3 : Int32) (l4 : Value) (σ : Hs) : ru d 144 0 [l0, l1, l2, .int i3, l4] [] σ = ru d 144 1 [l0, l1, l2, .int i3, l4] [.int i3] σ := q_iload_n t144_0 rfl
theorem t144_1 : decode (mb 144) 1 = .ok (.iconst 1, 1) := by decide +kernel
theorem s144_1 (d : Nat) (l0 : Value) (l1 : Value) (l2 : Value) (l3 : Value) (l4 : Value) (w0 : Value) (σ : Hs) : ru d 144 1 [l0, l1, l2, l3, l4] [w0] σ = ru d 144 2 [l0, l1, l2, l3, l4] [.int 1, w0] σ := q_iconst t144_1 (by decide +kernel)
theorem t144_2 : decode (mb 144) 2 = .ok (.bipush 8, 2) := by decide +kernel
theorem s144_2 (d : Nat) (l0 : Value) (l1 : Value) (l2 : Value) (l3 : Value) (l4 : Value) (w0 w1 : Value) (σ : Hs) : ru d 144 2 [l0, l1, l2, l3, l4] [w0, w1] σ = ru d 144 4 [l0, l1, l2, l3, l4] [.int 8, w0, w1] σ := q_bipush t144_2 (by decide +kernel)
theorem t144_4 : decode (mb 144) 4 = .ok (.invokestatic 81, 3) := by decide +kernel
theorem s144_4 (d : Nat) (l0 : Value) (l1 : Value) (l2 : Value) (l3 : Value) (l4 : Value) (v0 v1 v2 : Value) (σ : Hs) : ru d 144 4 [l0, l1, l2, l3, l4] [v2, v1, v0] σ = kont (callD d 113 [v0, v1, v2] σ) d 144 7 [l0, l1, l2, l3, l4] [] := q_invs t144_4 mo144 (by decide +kernel) K8_81 mj113 (Nat.le_of_ble_eq_true rfl) rfl rfl (Nat.le_of_ble_eq_true rfl)
theorem t144_7 : decode (mb 144) 7 = .ok (.ifCond .ne 10, 3) := by decide +kernel
theorem s144_7 (d : Nat) (l0 : Value) (l1 : Value) (l2 : Value) (l3 : Value) (l4 : Value) (x : Int32) (σ : Hs) : ru d 144 7 [l0, l1, l2, l3, l4] [.int x] σ = if x = 0 then ru d 144 10 [l0, l1, l2, l3, l4] [] σ else ru d 144 17 [l0, l1, l2, l3, l4] [] σ := q_if_ne t144_7 (by decide +kernel)
theorem t144_10 : decode (mb 144) 10 = .ok (.aload_n 0, 1) := by decide +kernel
theorem s144_10 (d : Nat) (a0 : Nat) (l1 : Value) (l2 : Value) (l3 : Value) (l4 : Value) (σ : Hs) : ru d 144 10 [.ref a0, l1, l2, l3, l4] [] σ = ru d 144 11 [.ref a0, l1, l2, l3, l4] [.ref a0] σ := q_aload_n t144_10 rfl
theorem t144_11 : decode (mb 144) 11 = .ok (.ldc 104, 2) := by decide +kernel
theorem s144_11 (d : Nat) (l0 : Value) (l1 : Value) (l2 : Value) (l3 : Value) (l4 : Value) (w0 : Value) (σ : Hs) : ru d 144 11 [l0, l1, l2, l3, l4] [w0] σ = ru d 144 13 [l0, l1, l2, l3, l4] [.int (-1000001), w0] σ := q_ldc t144_11 mo144 C8_104
theorem t144_13 : decode (mb 144) 13 = .ok (.invokevirtual 105, 3) := by decide +kernel
theorem s144_13_o87 (d : Nat) (l0 : Value) (l1 : Value) (l2 : Value) (l3 : Value) (l4 : Value) (v1 : Value) (σ : Hs) : ru d 144 13 [l0, l1, l2, l3, l4] [v1, .ref 87] σ = kont (callD d 112 [.ref 87, v1] σ) d 144 16 [l0, l1, l2, l3, l4] [] := q_invv t144_13 mo144 K8_105 mj112 rfl rfl rfl rfl (Nat.le_of_ble_eq_true rfl)
theorem t144_16 : decode (mb 144) 16 = .ok (.ireturn, 1) := by decide +kernel
theorem s144_16 (d : Nat) (l0 : Value) (l1 : Value) (l2 : Value) (l3 : Value) (l4 : Value) (x : Int32) (σ : Hs) : ru d 144 16 [l0, l1, l2, l3, l4] [.int x] σ = some (some (.int x), σ) := q_ireti t144_16 mr144
theorem t144_17 : decode (mb 144) 17 = .ok (.aload_n 0, 1) := by decide +kernel
theorem s144_17 (d : Nat) (a0 : Nat) (l1 : Value) (l2 : Value) (l3 : Value) (l4 : Value) (σ : Hs) : ru d 144 17 [.ref a0, l1, l2, l3, l4] [] σ = ru d 144 18 [.ref a0, l1, l2, l3, l4] [.ref a0] σ := q_aload_n t144_17 rfl
theorem t144_18 : decode (mb 144) 18 = .ok (.getfield 9, 3) := by decide +kernel
theorem s144_18_o87 (d : Nat) (l0 : Value) (l1 : Value) (l2 : Value) (l3 : Value) (l4 : Value) (σ : Hs) : ru d 144 18 [l0, l1, l2, l3, l4] [.ref 87] σ = ru d 144 21 [l0, l1, l2, l3, l4] [.ref 88] σ := q_getf t144_18 mo144 F8_9 rfl rfl
theorem t144_21 : decode (mb 144) 21 = .ok (.iconst 1, 1) := by decide +kernel
theorem s144_21 (d : Nat) (l0 : Value) (l1 : Value) (l2 : Value) (l3 : Value) (l4 : Value) (w0 : Value) (σ : Hs) : ru d 144 21 [l0, l1, l2, l3, l4] [w0] σ = ru d 144 22 [l0, l1, l2, l3, l4] [.int 1, w0] σ := q_iconst t144_21 (by decide +kernel)
theorem t144_22 : decode (mb 144) 22 = .ok (.iaload, 1) := by decide +kernel
theorem s144_22_o88 (d : Nat) (l0 : Value) (l1 : Value) (l2 : Value) (l3 : Value) (l4 : Value) (i : Int32) (σ : Hs) : ru d 144 22 [l0, l1, l2, l3, l4] [.int i, .ref 88] σ = gd (vp_in i 545) (ru d 144 23 [l0, l1, l2, l3, l4] [.int (σ 88 i.toNatClampNeg)] σ) := q_iald t144_22 rfl (by decide +kernel) rfl
theorem t144_23 : decode (mb 144) 23 = .ok (.iload_n 3, 1) := by decide +kernel
theorem s144_23 (d : Nat) (l0 : Value) (l1 : Value) (l2 : Value) (i3 : Int32) (l4 : Value) (w0 : Value) (σ : Hs) : ru d 144 23 [l0, l1, l2, .int i3, l4] [w0] σ = ru d 144 24 [l0, l1, l2, .int i3, l4] [.int i3, w0] σ := q_iload_n t144_23 rfl
theorem t144_24 : decode (mb 144) 24 = .ok (.iadd, 1) := by decide +kernel
theorem s144_24 (d : Nat) (l0 : Value) (l1 : Value) (l2 : Value) (l3 : Value) (l4 : Value) (x y : Int32) (σ : Hs) : ru d 144 24 [l0, l1, l2, l3, l4] [.int y, .int x] σ = ru d 144 25 [l0, l1, l2, l3, l4] [.int (x + y)] σ := q_iadd t144_24
theorem t144_25 : decode (mb 144) 25 = .ok (.bipush 60, 2) := by decide +kernel
theorem s144_25 (d : Nat) (l0 : Value) (l1 : Value) (l2 : Value) (l3 : Value) (l4 : Value) (w0 : Value) (σ : Hs) : ru d 144 25 [l0, l1, l2, l3, l4] [w0] σ = ru d 144 27 [l0, l1, l2, l3, l4] [.int 60, w0] σ := q_bipush t144_25 (by decide +kernel)
theorem t144_27 : decode (mb 144) 27 = .ok (.if_icmp .le 10, 3) := by decide +kernel
theorem s144_27 (d : Nat) (l0 : Value) (l1 : Value) (l2 : Value) (l3 : Value) (l4 : Value) (x y : Int32) (σ : Hs) : ru d 144 27 [l0, l1, l2, l3, l4] [.int y, .int x] σ = if x ≤ y then ru d 144 37 [l0, l1, l2, l3, l4] [] σ else ru d 144 30 [l0, l1, l2, l3, l4] [] σ := q_ic_le t144_27 (by decide +kernel)
theorem t144_30 : decode (mb 144) 30 = .ok (.aload_n 0, 1) := by decide +kernel
theorem s144_30 (d : Nat) (a0 : Nat) (l1 : Value) (l2 : Value) (l3 : Value) (l4 : Value) (σ : Hs) : ru d 144 30 [.ref a0, l1, l2, l3, l4] [] σ = ru d 144 31 [.ref a0, l1, l2, l3, l4] [.ref a0] σ := q_aload_n t144_30 rfl
theorem t144_31 : decode (mb 144) 31 = .ok (.ldc 108, 2) := by decide +kernel
theorem s144_31 (d : Nat) (l0 : Value) (l1 : Value) (l2 : Value) (l3 : Value) (l4 : Value) (w0 : Value) (σ : Hs) : ru d 144 31 [l0, l1, l2, l3, l4] [w0] σ = ru d 144 33 [l0, l1, l2, l3, l4] [.int (-1000004), w0] σ := q_ldc t144_31 mo144 C8_108
theorem t144_33 : decode (mb 144) 33 = .ok (.invokevirtual 105, 3) := by decide +kernel
theorem s144_33_o87 (d : Nat) (l0 : Value) (l1 : Value) (l2 : Value) (l3 : Value) (l4 : Value) (v1 : Value) (σ : Hs) : ru d 144 33 [l0, l1, l2, l3, l4] [v1, .ref 87] σ = kont (callD d 112 [.ref 87, v1] σ) d 144 36 [l0, l1, l2, l3, l4] [] := q_invv t144_33 mo144 K8_105 mj112 rfl rfl rfl rfl (Nat.le_of_ble_eq_true rfl)
theorem t144_36 : decode (mb 144) 36 = .ok (.ireturn, 1) := by decide +kernel
theorem s144_36 (d : Nat) (l0 : Value) (l1 : Value) (l2 : Value) (l3 : Value) (l4 : Value) (x : Int32) (σ : Hs) : ru d 144 36 [l0, l1, l2, l3, l4] [.int x] σ = some (some (.int x), σ) := q_ireti t144_36 mr144
theorem t144_37 : decode (mb 144) 37 = .ok (.iconst 0, 1) := by decide +kernel
theorem s144_37 (d : Nat) (l0 : Value) (l1 : Value) (l2 : Value) (l3 : Value) (l4 : Value) (σ : Hs) : ru d 144 37 [l0, l1, l2, l3, l4] [] σ = ru d 144 38 [l0, l1, l2, l3, l4] [.int 0] σ := q_iconst t144_37 (by decide +kernel)
theorem t144_38 : decode (mb 144) 38 = .ok (.istore 4, 2) := by decide +kernel
theorem s144_38 (d : Nat) (l0 : Value) (l1 : Value) (l2 : Value) (i3 : Int32) (l4 : Value) (x : Int32) (σ : Hs) : ru d 144 38 [l0, l1, l2, .int i3, l4] [.int x] σ = ru d 144 40 [l0, l1, l2, .int i3, .int x] [] σ := q_istore t144_38 ⟨Nat.le_of_ble_eq_true rfl, rfl⟩ rfl
theorem t144_40 : decode (mb 144) 40 = .ok (.iload 4, 2) := by decide +kernel
theorem s144_40 (d : Nat) (l0 : Value) (l1 : Value) (l2 : Value) (l3 : Value) (i4 : Int32) (σ : Hs) : ru d 144 40 [l0, l1, l2, l3, .int i4] [] σ = ru d 144 42 [l0, l1, l2, l3, .int i4] [.int i4] σ := q_iload t144_40 rfl
theorem t144_42 : decode (mb 144) 42 = .ok (.iload_n 3, 1) := by decide +kernel
theorem s144_42 (d : Nat) (l0 : Value) (l1 : Value) (l2 : Value) (i3 : Int32) (l4 : Value) (w0 : Value) (σ : Hs) : ru d 144 42 [l0, l1, l2, .int i3, l4] [w0] σ = ru d 144 43 [l0, l1, l2, .int i3, l4] [.int i3, w0] σ := q_iload_n t144_42 rfl
theorem t144_43 : decode (mb 144) 43 = .ok (.if_icmp .ge 46, 3) := by decide +kernel
theorem s144_43 (d : Nat) (l0 : Value) (l1 : Value) (l2 : Value) (l3 : Value) (l4 : Value) (x y : Int32) (σ : Hs) : ru d 144 43 [l0, l1, l2, l3, l4] [.int y, .int x] σ = if y ≤ x then ru d 144 89 [l0, l1, l2, l3, l4] [] σ else ru d 144 46 [l0, l1, l2, l3, l4] [] σ := q_ic_ge t144_43 (by decide +kernel)
theorem t144_46 : decode (mb 144) 46 = .ok (.aload_n 0, 1) := by decide +kernel
theorem s144_46 (d : Nat) (a0 : Nat) (l1 : Value) (l2 : Value) (l3 : Value) (l4 : Value) (σ : Hs) : ru d 144 46 [.ref a0, l1, l2, l3, l4] [] σ = ru d 144 47 [.ref a0, l1, l2, l3, l4] [.ref a0] σ := q_aload_n t144_46 rfl
theorem t144_47 : decode (mb 144) 47 = .ok (.getfield 9, 3) := by decide +kernel
theorem s144_47_o87 (d : Nat) (l0 : Value) (l1 : Value) (l2 : Value) (l3 : Value) (l4 : Value) (σ : Hs) : ru d 144 47 [l0, l1, l2, l3, l4] [.ref 87] σ = ru d 144 50 [l0, l1, l2, l3, l4] [.ref 88] σ := q_getf t144_47 mo144 F8_9 rfl rfl
theorem t144_50 : decode (mb 144) 50 = .ok (.sipush 275, 3) := by decide +kernel
theorem s144_50 (d : Nat) (l0 : Value) (l1 : Value) (l2 : Value) (l3 : Value) (l4 : Value) (w0 : Value) (σ : Hs) : ru d 144 50 [l0, l1, l2, l3, l4] [w0] σ = ru d 144 53 [l0, l1, l2, l3, l4] [.int 275, w0] σ := q_sipush t144_50 (by decide +kernel)
theorem t144_53 : decode (mb 144) 53 = .ok (.aload_n 0, 1) := by decide +kernel
theorem s144_53 (d : Nat) (a0 : Nat) (l1 : Value) (l2 : Value) (l3 : Value) (l4 : Value) (w0 w1 : Value) (σ : Hs) : ru d 144 53 [.ref a0, l1, l2, l3, l4] [w0, w1] σ = ru d 144 54 [.ref a0, l1, l2, l3, l4] [.ref a0, w0, w1] σ := q_aload_n t144_53 rfl
theorem t144_54 : decode (mb 144) 54 = .ok (.getfield 9, 3) := by decide +kernel
theorem s144_54_o87 (d : Nat) (l0 : Value) (l1 : Value) (l2 : Value) (l3 : Value) (l4 : Value) (w0 w1 : Value) (σ : Hs) : ru d 144 54 [l0, l1, l2, l3, l4] [.ref 87, w0, w1] σ = ru d 144 57 [l0, l1, l2, l3, l4] [.ref 88, w0, w1] σ := q_getf t144_54 mo144 F8_9 rfl rfl
theorem t144_57 : decode (mb 144) 57 = .ok (.iconst 1, 1) := by decide +kernel
theorem s144_57 (d : Nat) (l0 : Value) (l1 : Value) (l2 : Value) (l3 : Value) (l4 : Value) (w0 w1 w2 : Value) (σ : Hs) : ru d 144 57 [l0, l1, l2, l3, l4] [w0, w1, w2] σ = ru d 144 58 [l0, l1, l2, l3, l4] [.int 1, w0, w1, w2] σ := q_iconst t144_57 (by decide +kernel)
theorem t144_58 : decode (mb 144) 58 = .ok (.iaload, 1) := by decide +kernel
theorem s144_58_o88 (d : Nat) (l0 : Value) (l1 : Value) (l2 : Value) (l3 : Value) (l4 : Value) (i : Int32) (w0 w1 : Value) (σ : Hs) : ru d 144 58 [l0, l1, l2, l3, l4] [.int i, .ref 88, w0, w1] σ = gd (vp_in i 545) (ru d 144 59 [l0, l1, l2, l3, l4] [.int (σ 88 i.toNatClampNeg), w0, w1] σ) := q_iald t144_58 rfl (by decide +kernel) rfl
theorem t144_59 : decode (mb 144) 59 = .ok (.iadd, 1) := by decide +kernel
theorem s144_59 (d : Nat) (l0 : Value) (l1 : Value) (l2 : Value) (l3 : Value) (l4 : Value) (x y : Int32) (w0 : Value) (σ : Hs) : ru d 144 59 [l0, l1, l2, l3, l4] [.int y, .int x, w0] σ = ru d 144 60 [l0, l1, l2, l3, l4] [.int (x + y), w0] σ := q_iadd t144_59
theorem t144_60 : decode (mb 144) 60 = .ok (.lload_n 1, 1) := by decide +kernel
theorem s144_60 (d : Nat) (l0 : Value) (j1 : Int64) (l2 : Value) (l3 : Value) (l4 : Value) (w0 w1 : Value) (σ : Hs) : ru d 144 60 [l0, .long j1, l2, l3, l4] [w0, w1] σ = ru d 144 61 [l0, .long j1, l2, l3, l4] [.long j1, w0, w1] σ := q_lload_n t144_60 rfl
theorem t144_61 : decode (mb 144) 61 = .ok (.bipush 8, 2) := by decide +kernel
theorem s144_61 (d : Nat) (l0 : Value) (l1 : Value) (l2 : Value) (l3 : Value) (l4 : Value) (w0 w1 w2 : Value) (σ : Hs) : ru d 144 61 [l0, l1, l2, l3, l4] [w0, w1, w2] σ = ru d 144 63 [l0, l1, l2, l3, l4] [.int 8, w0, w1, w2] σ := q_bipush t144_61 (by decide +kernel)
theorem t144_63 : decode (mb 144) 63 = .ok (.iload 4, 2) := by decide +kernel
theorem s144_63 (d : Nat) (l0 : Value) (l1 : Value) (l2 : Value) (l3 : Value) (i4 : Int32) (w0 w1 w2 w3 : Value) (σ : Hs) : ru d 144 63 [l0, l1, l2, l3, .int i4] [w0, w1, w2, w3] σ = ru d 144 65 [l0, l1, l2, l3, .int i4] [.int i4, w0, w1, w2, w3] σ := q_iload t144_63 rfl
theorem t144_65 : decode (mb 144) 65 = .ok (.imul, 1) := by decide +kernel
theorem s144_65 (d : Nat) (l0 : Value) (l1 : Value) (l2 : Value) (l3 : Value) (l4 : Value) (x y : Int32) (w0 w1 w2 : Value) (σ : Hs) : ru d 144 65 [l0, l1, l2, l3, l4] [.int y, .int x, w0, w1, w2] σ = ru d 144 66 [l0, l1, l2, l3, l4] [.int (x * y), w0, w1, w2] σ := q_imul t144_65
theorem t144_66 : decode (mb 144) 66 = .ok (.lshr, 1) := by decide +kernel
theorem s144_66 (d : Nat) (l0 : Value) (l1 : Value) (l2 : Value) (l3 : Value) (l4 : Value) (x : Int64) (y : Int32) (w0 w1 : Value) (σ : Hs) : ru d 144 66 [l0, l1, l2, l3, l4] [.int y, .long x, w0, w1] σ = ru d 144 67 [l0, l1, l2, l3, l4] [.long (x >>> (y.toInt64 &&& 63)), w0, w1] σ := q_lshr t144_66
theorem t144_67 : decode (mb 144) 67 = .ok (.ldc2_w 157, 3) := by decide +kernel
theorem s144_67 (d : Nat) (l0 : Value) (l1 : Value) (l2 : Value) (l3 : Value) (l4 : Value) (w0 w1 w2 : Value) (σ : Hs) : ru d 144 67 [l0, l1, l2, l3, l4] [w0, w1, w2] σ = ru d 144 70 [l0, l1, l2, l3, l4] [.long 255, w0, w1, w2] σ := q_ldc2 t144_67 mo144 L8_157
theorem t144_70 : decode (mb 144) 70 = .ok (.land, 1) := by decide +kernel
theorem s144_70 (d : Nat) (l0 : Value) (l1 : Value) (l2 : Value) (l3 : Value) (l4 : Value) (x y : Int64) (w0 w1 : Value) (σ : Hs) : ru d 144 70 [l0, l1, l2, l3, l4] [.long y, .long x, w0, w1] σ = ru d 144 71 [l0, l1, l2, l3, l4] [.long (x &&& y), w0, w1] σ := q_land t144_70
theorem t144_71 : decode (mb 144) 71 = .ok (.l2i, 1) := by decide +kernel
theorem s144_71 (d : Nat) (l0 : Value) (l1 : Value) (l2 : Value) (l3 : Value) (l4 : Value) (x : Int64) (w0 w1 : Value) (σ : Hs) : ru d 144 71 [l0, l1, l2, l3, l4] [.long x, w0, w1] σ = ru d 144 72 [l0, l1, l2, l3, l4] [.int x.toInt32, w0, w1] σ := q_l2i t144_71
theorem t144_72 : decode (mb 144) 72 = .ok (.iastore, 1) := by decide +kernel
theorem s144_72_o88 (d : Nat) (l0 : Value) (l1 : Value) (l2 : Value) (l3 : Value) (l4 : Value) (i x : Int32) (σ : Hs) : ru d 144 72 [l0, l1, l2, l3, l4] [.int x, .int i, .ref 88] σ = gd (vp_in i 545) (ru d 144 73 [l0, l1, l2, l3, l4] [] (up2 σ 88 i.toNatClampNeg x)) := q_iast t144_72 (by decide +kernel) rfl rfl
theorem t144_73 : decode (mb 144) 73 = .ok (.aload_n 0, 1) := by decide +kernel
theorem s144_73 (d : Nat) (a0 : Nat) (l1 : Value) (l2 : Value) (l3 : Value) (l4 : Value) (σ : Hs) : ru d 144 73 [.ref a0, l1, l2, l3, l4] [] σ = ru d 144 74 [.ref a0, l1, l2, l3, l4] [.ref a0] σ := q_aload_n t144_73 rfl
theorem t144_74 : decode (mb 144) 74 = .ok (.getfield 9, 3) := by decide +kernel
theorem s144_74_o87 (d : Nat) (l0 : Value) (l1 : Value) (l2 : Value) (l3 : Value) (l4 : Value) (σ : Hs) : ru d 144 74 [l0, l1, l2, l3, l4] [.ref 87] σ = ru d 144 77 [l0, l1, l2, l3, l4] [.ref 88] σ := q_getf t144_74 mo144 F8_9 rfl rfl
theorem t144_77 : decode (mb 144) 77 = .ok (.iconst 1, 1) := by decide +kernel
theorem s144_77 (d : Nat) (l0 : Value) (l1 : Value) (l2 : Value) (l3 : Value) (l4 : Value) (w0 : Value) (σ : Hs) : ru d 144 77 [l0, l1, l2, l3, l4] [w0] σ = ru d 144 78 [l0, l1, l2, l3, l4] [.int 1, w0] σ := q_iconst t144_77 (by decide +kernel)
theorem t144_78 : decode (mb 144) 78 = .ok (.dup2, 1) := by decide +kernel
theorem s144_78 (d : Nat) (l0 : Value) (l1 : Value) (l2 : Value) (l3 : Value) (l4 : Value) (x0 : Int32) (x1 : Nat) (σ : Hs) : ru d 144 78 [l0, l1, l2, l3, l4] [.int x0, .ref x1] σ = ru d 144 79 [l0, l1, l2, l3, l4] [.int x0, .ref x1, .int x0, .ref x1] σ := q_dup2 t144_78 rfl rfl
theorem t144_79 : decode (mb 144) 79 = .ok (.iaload, 1) := by decide +kernel
theorem s144_79_o88 (d : Nat) (l0 : Value) (l1 : Value) (l2 : Value) (l3 : Value) (l4 : Value) (i : Int32) (w0 w1 : Value) (σ : Hs) : ru d 144 79 [l0, l1, l2, l3, l4] [.int i, .ref 88, w0, w1] σ = gd (vp_in i 545) (ru d 144 80 [l0, l1, l2, l3, l4] [.int (σ 88 i.toNatClampNeg), w0, w1] σ) := q_iald t144_79 rfl (by decide +kernel) rfl
theorem t144_80 : decode (mb 144) 80 = .ok (.iconst 1, 1) := by decide +kernel
theorem s144_80 (d : Nat) (l0 : Value) (l1 : Value) (l2 : Value) (l3 : Value) (l4 : Value) (w0 w1 w2 : Value) (σ : Hs) : ru d 144 80 [l0, l1, l2, l3, l4] [w0, w1, w2] σ = ru d 144 81 [l0, l1, l2, l3, l4] [.int 1, w0, w1, w2] σ := q_iconst t144_80 (by decide +kernel)
theorem t144_81 : decode (mb 144) 81 = .ok (.iadd, 1) := by decide +kernel
theorem s144_81 (d : Nat) (l0 : Value) (l1 : Value) (l2 : Value) (l3 : Value) (l4 : Value) (x y : Int32) (w0 w1 : Value) (σ : Hs) : ru d 144 81 [l0, l1, l2, l3, l4] [.int y, .int x, w0, w1] σ = ru d 144 82 [l0, l1, l2, l3, l4] [.int (x + y), w0, w1] σ := q_iadd t144_81
theorem t144_82 : decode (mb 144) 82 = .ok (.iastore, 1) := by decide +kernel
theorem s144_82_o88 (d : Nat) (l0 : Value) (l1 : Value) (l2 : Value) (l3 : Value) (l4 : Value) (i x : Int32) (σ : Hs) : ru d 144 82 [l0, l1, l2, l3, l4] [.int x, .int i, .ref 88] σ = gd (vp_in i 545) (ru d 144 83 [l0, l1, l2, l3, l4] [] (up2 σ 88 i.toNatClampNeg x)) := q_iast t144_82 (by decide +kernel) rfl rfl
theorem t144_83 : decode (mb 144) 83 = .ok (.iinc 4 1, 3) := by decide +kernel
theorem s144_83 (d : Nat) (l0 : Value) (l1 : Value) (l2 : Value) (i3 : Int32) (i4 : Int32) (σ : Hs) : ru d 144 83 [l0, l1, l2, .int i3, .int i4] [] σ = ru d 144 86 [l0, l1, l2, .int i3, .int (i4 + 1)] [] σ := q_iinc t144_83 ⟨Nat.le_of_ble_eq_true rfl, rfl⟩ rfl (by decide +kernel) rfl
theorem t144_86 : decode (mb 144) 86 = .ok (.goto (-46), 3) := by decide +kernel
theorem s144_86 (d : Nat) (l0 : Value) (l1 : Value) (l2 : Value) (l3 : Value) (l4 : Value) (σ : Hs) : ru d 144 86 [l0, l1, l2, l3, l4] [] σ = ru d 144 40 [l0, l1, l2, l3, l4] [] σ := q_goto t144_86 (by decide +kernel)
theorem t144_89 : decode (mb 144) 89 = .ok (.aload_n 0, 1) := by decide +kernel
theorem s144_89 (d : Nat) (a0 : Nat) (l1 : Value) (l2 : Value) (l3 : Value) (l4 : Value) (σ : Hs) : ru d 144 89 [.ref a0, l1, l2, l3, l4] [] σ = ru d 144 90 [.ref a0, l1, l2, l3, l4] [.ref a0] σ := q_aload_n t144_89 rfl
theorem t144_90 : decode (mb 144) 90 = .ok (.getfield 9, 3) := by decide +kernel
theorem s144_90_o87 (d : Nat) (l0 : Value) (l1 : Value) (l2 : Value) (l3 : Value) (l4 : Value) (σ : Hs) : ru d 144 90 [l0, l1, l2, l3, l4] [.ref 87] σ = ru d 144 93 [l0, l1, l2, l3, l4] [.ref 88] σ := q_getf t144_90 mo144 F8_9 rfl rfl
theorem t144_93 : decode (mb 144) 93 = .ok (.iconst 1, 1) := by decide +kernel
theorem s144_93 (d : Nat) (l0 : Value) (l1 : Value) (l2 : Value) (l3 : Value) (l4 : Value) (w0 : Value) (σ : Hs) : ru d 144 93 [l0, l1, l2, l3, l4] [w0] σ = ru d 144 94 [l0, l1, l2, l3, l4] [.int 1, w0] σ := q_iconst t144_93 (by decide +kernel)
theorem t144_94 : decode (mb 144) 94 = .ok (.iaload, 1) := by decide +kernel
theorem s144_94_o88 (d : Nat) (l0 : Value) (l1 : Value) (l2 : Value) (l3 : Value) (l4 : Value) (i : Int32) (σ : Hs) : ru d 144 94 [l0, l1, l2, l3, l4] [.int i, .ref 88] σ = gd (vp_in i 545) (ru d 144 95 [l0, l1, l2, l3, l4] [.int (σ 88 i.toNatClampNeg)] σ) := q_iald t144_94 rfl (by decide +kernel) rfl
theorem t144_95 : decode (mb 144) 95 = .ok (.ireturn, 1) := by decide +kernel
theorem s144_95 (d : Nat) (l0 : Value) (l1 : Value) (l2 : Value) (l3 : Value) (l4 : Value) (x : Int32) (σ : Hs) : ru d 144 95 [l0, l1, l2, l3, l4] [.int x] σ = some (some (.int x), σ) := q_ireti t144_95 mr144
theorem c144 (d : Nat) (x0 : Nat) (x1 : Int64) (x2 : Int32) (σ : Hs) : callD (d + 1) 144 [.ref x0, .long x1, .int x2] σ = ru d 144 0 [.ref x0, .long x1, uu, .int x2, uu] [] σ := callD_ru ml144 rfl rfl (Nat.le_of_ble_eq_true rfl)
-- 145: Model.here()I
theorem t145_0 : decode (mb 145) 0 = .ok (.aload_n 0, 1) := by decide +kernel
theorem s145_0 (d : Nat) (a0 : Nat) (σ : Hs) : ru d 145 0 [.ref a0] [] σ = ru d 145 1 [.ref a0] [.ref a0] σ := q_aload_n t145_0 rfl
theorem t145_1 : decode (mb 145) 1 = .ok (.getfield 159, 3) := by decide +kernel
theorem s145_1_o87 (d : Nat) (l0 : Value) (σ : Hs) : ru d 145 1 [l0] [.ref 87] σ = ru d 145 4 [l0] [.int (σ 87 12)] σ := q_getf t145_1 mo145 F8_159 rfl rfl
theorem t145_4 : decode (mb 145) 4 = .ok (.ifCond .ne 32, 3) := by decide +kernel
theorem s145_4 (d : Nat) (l0 : Value) (x : Int32) (σ : Hs) : ru d 145 4 [l0] [.int x] σ = if x = 0 then ru d 145 7 [l0] [] σ else ru d 145 36 [l0] [] σ := q_if_ne t145_4 (by decide +kernel)
theorem t145_7 : decode (mb 145) 7 = .ok (.aload_n 0, 1) := by decide +kernel
theorem s145_7 (d : Nat) (a0 : Nat) (σ : Hs) : ru d 145 7 [.ref a0] [] σ = ru d 145 8 [.ref a0] [.ref a0] σ := q_aload_n t145_7 rfl
theorem t145_8 : decode (mb 145) 8 = .ok (.getfield 163, 3) := by decide +kernel
theorem s145_8_o87 (d : Nat) (l0 : Value) (σ : Hs) : ru d 145 8 [l0] [.ref 87] σ = ru d 145 11 [l0] [.int (σ 87 9)] σ := q_getf t145_8 mo145 F8_163 rfl rfl
theorem t145_11 : decode (mb 145) 11 = .ok (.aload_n 0, 1) := by decide +kernel
theorem s145_11 (d : Nat) (a0 : Nat) (w0 : Value) (σ : Hs) : ru d 145 11 [.ref a0] [w0] σ = ru d 145 12 [.ref a0] [.ref a0, w0] σ := q_aload_n t145_11 rfl
theorem t145_12 : decode (mb 145) 12 = .ok (.getfield 9, 3) := by decide +kernel
theorem s145_12_o87 (d : Nat) (l0 : Value) (w0 : Value) (σ : Hs) : ru d 145 12 [l0] [.ref 87, w0] σ = ru d 145 15 [l0] [.ref 88, w0] σ := q_getf t145_12 mo145 F8_9 rfl rfl
theorem t145_15 : decode (mb 145) 15 = .ok (.iconst 1, 1) := by decide +kernel
theorem s145_15 (d : Nat) (l0 : Value) (w0 w1 : Value) (σ : Hs) : ru d 145 15 [l0] [w0, w1] σ = ru d 145 16 [l0] [.int 1, w0, w1] σ := q_iconst t145_15 (by decide +kernel)
theorem t145_16 : decode (mb 145) 16 = .ok (.iaload, 1) := by decide +kernel
theorem s145_16_o88 (d : Nat) (l0 : Value) (i : Int32) (w0 : Value) (σ : Hs) : ru d 145 16 [l0] [.int i, .ref 88, w0] σ = gd (vp_in i 545) (ru d 145 17 [l0] [.int (σ 88 i.toNatClampNeg), w0] σ) := q_iald t145_16 rfl (by decide +kernel) rfl
theorem t145_17 : decode (mb 145) 17 = .ok (.if_icmp .ge 19, 3) := by decide +kernel
theorem s145_17 (d : Nat) (l0 : Value) (x y : Int32) (σ : Hs) : ru d 145 17 [l0] [.int y, .int x] σ = if y ≤ x then ru d 145 36 [l0] [] σ else ru d 145 20 [l0] [] σ := q_ic_ge t145_17 (by decide +kernel)
theorem t145_20 : decode (mb 145) 20 = .ok (.aload_n 0, 1) := by decide +kernel
theorem s145_20 (d : Nat) (a0 : Nat) (σ : Hs) : ru d 145 20 [.ref a0] [] σ = ru d 145 21 [.ref a0] [.ref a0] σ := q_aload_n t145_20 rfl
theorem t145_21 : decode (mb 145) 21 = .ok (.getfield 9, 3) := by decide +kernel
theorem s145_21_o87 (d : Nat) (l0 : Value) (σ : Hs) : ru d 145 21 [l0] [.ref 87] σ = ru d 145 24 [l0] [.ref 88] σ := q_getf t145_21 mo145 F8_9 rfl rfl
theorem t145_24 : decode (mb 145) 24 = .ok (.sipush 275, 3) := by decide +kernel
theorem s145_24 (d : Nat) (l0 : Value) (w0 : Value) (σ : Hs) : ru d 145 24 [l0] [w0] σ = ru d 145 27 [l0] [.int 275, w0] σ := q_sipush t145_24 (by decide +kernel)
theorem t145_27 : decode (mb 145) 27 = .ok (.aload_n 0, 1) := by decide +kernel
theorem s145_27 (d : Nat) (a0 : Nat) (w0 w1 : Value) (σ : Hs) : ru d 145 27 [.ref a0] [w0, w1] σ = ru d 145 28 [.ref a0] [.ref a0, w0, w1] σ := q_aload_n t145_27 rfl
theorem t145_28 : decode (mb 145) 28 = .ok (.getfield 163, 3) := by decide +kernel
theorem s145_28_o87 (d : Nat) (l0 : Value) (w0 w1 : Value) (σ : Hs) : ru d 145 28 [l0] [.ref 87, w0, w1] σ = ru d 145 31 [l0] [.int (σ 87 9), w0, w1] σ := q_getf t145_28 mo145 F8_163 rfl rfl
theorem t145_31 : decode (mb 145) 31 = .ok (.iadd, 1) := by decide +kernel
theorem s145_31 (d : Nat) (l0 : Value) (x y : Int32) (w0 : Value) (σ : Hs) : ru d 145 31 [l0] [.int y, .int x, w0] σ = ru d 145 32 [l0] [.int (x + y), w0] σ := q_iadd t145_31
theorem t145_32 : decode (mb 145) 32 = .ok (.iaload, 1) := by decide +kernel
theorem s145_32_o88 (d : Nat) (l0 : Value) (i : Int32) (σ : Hs) : ru d 145 32 [l0] [.int i, .ref 88] σ = gd (vp_in i 545) (ru d 145 33 [l0] [.int (σ 88 i.toNatClampNeg)] σ) := q_iald t145_32 rfl (by decide +kernel) rfl
theorem t145_33 : decode (mb 145) 33 = .ok (.goto 4, 3) := by decide +kernel
theorem s145_33 (d : Nat) (l0 : Value) (w0 : Value) (σ : Hs) : ru d 145 33 [l0] [w0] σ = ru d 145 37 [l0] [w0] σ := q_goto t145_33 (by decide +kernel)
theorem t145_36 : decode (mb 145) 36 = .ok (.iconst (-1), 1) := by decide +kernel
theorem s145_36 (d : Nat) (l0 : Value) (σ : Hs) : ru d 145 36 [l0] [] σ = ru d 145 37 [l0] [.int (-1)] σ := q_iconst t145_36 (by decide +kernel)
theorem t145_37 : decode (mb 145) 37 = .ok (.ireturn, 1) := by decide +kernel
theorem s145_37 (d : Nat) (l0 : Value) (x : Int32) (σ : Hs) : ru d 145 37 [l0] [.int x] σ = some (some (.int x), σ) := q_ireti t145_37 mr145
theorem c145 (d : Nat) (x0 : Nat) (σ : Hs) : callD (d + 1) 145 [.ref x0] σ = ru d 145 0 [.ref x0] [] σ := callD_ru ml145 rfl rfl (Nat.le_of_ble_eq_true rfl)
-- 146: Model.takes(I)Z
theorem t146_0 : decode (mb 146) 0 = .ok (.aload_n 0, 1) := by decide +kernel
theorem s146_0 (d : Nat) (a0 : Nat) (l1 : Value) (l2 : Value) (σ : Hs) : ru d 146 0 [.ref a0, l1, l2] [] σ = ru d 146 1 [.ref a0, l1, l2] [.ref a0] σ := q_aload_n t146_0 rfl
theorem t146_1 : decode (mb 146) 1 = .ok (.invokevirtual 167, 3) := by decide +kernel
theorem s146_1_o87 (d : Nat) (l0 : Value) (l1 : Value) (l2 : Value) (σ : Hs) : ru d 146 1 [l0, l1, l2] [.ref 87] σ = kont (callD d 145 [.ref 87] σ) d 146 4 [l0, l1, l2] [] := q_invv t146_1 mo146 K8_167 mj145 rfl rfl rfl rfl (Nat.le_of_ble_eq_true rfl)
theorem t146_4 : decode (mb 146) 4 = .ok (.iload_n 1, 1) := by decide +kernel
theorem s146_4 (d : Nat) (l0 : Value) (i1 : Int32) (l2 : Value) (w0 : Value) (σ : Hs) : ru d 146 4 [l0, .int i1, l2] [w0] σ = ru d 146 5 [l0, .int i1, l2] [.int i1, w0] σ := q_iload_n t146_4 rfl
theorem t146_5 : decode (mb 146) 5 = .ok (.if_icmp .ne 7, 3) := by decide +kernel
theorem s146_5 (d : Nat) (l0 : Value) (l1 : Value) (l2 : Value) (x y : Int32) (σ : Hs) : ru d 146 5 [l0, l1, l2] [.int y, .int x] σ = if x = y then ru d 146 8 [l0, l1, l2] [] σ else ru d 146 12 [l0, l1, l2] [] σ := q_ic_ne t146_5 (by decide +kernel)
theorem t146_8 : decode (mb 146) 8 = .ok (.iconst 1, 1) := by decide +kernel
theorem s146_8 (d : Nat) (l0 : Value) (l1 : Value) (l2 : Value) (σ : Hs) : ru d 146 8 [l0, l1, l2] [] σ = ru d 146 9 [l0, l1, l2] [.int 1] σ := q_iconst t146_8 (by decide +kernel)
theorem t146_9 : decode (mb 146) 9 = .ok (.goto 4, 3) := by decide +kernel
theorem s146_9 (d : Nat) (l0 : Value) (l1 : Value) (l2 : Value) (w0 : Value) (σ : Hs) : ru d 146 9 [l0, l1, l2] [w0] σ = ru d 146 13 [l0, l1, l2] [w0] σ := q_goto t146_9 (by decide +kernel)
theorem t146_12 : decode (mb 146) 12 = .ok (.iconst 0, 1) := by decide +kernel
theorem s146_12 (d : Nat) (l0 : Value) (l1 : Value) (l2 : Value) (σ : Hs) : ru d 146 12 [l0, l1, l2] [] σ = ru d 146 13 [l0, l1, l2] [.int 0] σ := q_iconst t146_12 (by decide +kernel)
theorem t146_13 : decode (mb 146) 13 = .ok (.istore_n 2, 1) := by decide +kernel
theorem s146_13 (d : Nat) (l0 : Value) (i1 : Int32) (l2 : Value) (x : Int32) (σ : Hs) : ru d 146 13 [l0, .int i1, l2] [.int x] σ = ru d 146 14 [l0, .int i1, .int x] [] σ := q_istore_n t146_13 ⟨Nat.le_of_ble_eq_true rfl, rfl⟩ rfl
theorem t146_14 : decode (mb 146) 14 = .ok (.aload_n 0, 1) := by decide +kernel
theorem s146_14 (d : Nat) (a0 : Nat) (l1 : Value) (l2 : Value) (σ : Hs) : ru d 146 14 [.ref a0, l1, l2] [] σ = ru d 146 15 [.ref a0, l1, l2] [.ref a0] σ := q_aload_n t146_14 rfl
theorem t146_15 : decode (mb 146) 15 = .ok (.dup, 1) := by decide +kernel
theorem s146_15 (d : Nat) (l0 : Value) (l1 : Value) (l2 : Value) (x : Nat) (σ : Hs) : ru d 146 15 [l0, l1, l2] [.ref x] σ = ru d 146 16 [l0, l1, l2] [.ref x, .ref x] σ := q_dup t146_15 rfl
theorem t146_16 : decode (mb 146) 16 = .ok (.getfield 163, 3) := by decide +kernel
theorem s146_16_o87 (d : Nat) (l0 : Value) (l1 : Value) (l2 : Value) (w0 : Value) (σ : Hs) : ru d 146 16 [l0, l1, l2] [.ref 87, w0] σ = ru d 146 19 [l0, l1, l2] [.int (σ 87 9), w0] σ := q_getf t146_16 mo146 F8_163 rfl rfl
theorem t146_19 : decode (mb 146) 19 = .ok (.iload_n 2, 1) := by decide +kernel
theorem s146_19 (d : Nat) (l0 : Value) (l1 : Value) (i2 : Int32) (w0 w1 : Value) (σ : Hs) : ru d 146 19 [l0, l1, .int i2] [w0, w1] σ = ru d 146 20 [l0, l1, .int i2] [.int i2, w0, w1] σ := q_iload_n t146_19 rfl
theorem t146_20 : decode (mb 146) 20 = .ok (.ifCond .eq 7, 3) := by decide +kernel
theorem s146_20 (d : Nat) (l0 : Value) (l1 : Value) (l2 : Value) (x : Int32) (w0 w1 : Value) (σ : Hs) : ru d 146 20 [l0, l1, l2] [.int x, w0, w1] σ = if x = 0 then ru d 146 27 [l0, l1, l2] [w0, w1] σ else ru d 146 23 [l0, l1, l2] [w0, w1] σ := q_if_eq t146_20 (by decide +kernel)
theorem t146_23 : decode (mb 146) 23 = .ok (.iconst 1, 1) := by decide +kernel
theorem s146_23 (d : Nat) (l0 : Value) (l1 : Value) (l2 : Value) (w0 w1 : Value) (σ : Hs) : ru d 146 23 [l0, l1, l2] [w0, w1] σ = ru d 146 24 [l0, l1, l2] [.int 1, w0, w1] σ := q_iconst t146_23 (by decide +kernel)
theorem t146_24 : decode (mb 146) 24 = .ok (.goto 4, 3) := by decide +kernel
theorem s146_24 (d : Nat) (l0 : Value) (l1 : Value) (l2 : Value) (w0 w1 w2 : Value) (σ : Hs) : ru d 146 24 [l0, l1, l2] [w0, w1, w2] σ = ru d 146 28 [l0, l1, l2] [w0, w1, w2] σ := q_goto t146_24 (by decide +kernel)
theorem t146_27 : decode (mb 146) 27 = .ok (.iconst 0, 1) := by decide +kernel
theorem s146_27 (d : Nat) (l0 : Value) (l1 : Value) (l2 : Value) (w0 w1 : Value) (σ : Hs) : ru d 146 27 [l0, l1, l2] [w0, w1] σ = ru d 146 28 [l0, l1, l2] [.int 0, w0, w1] σ := q_iconst t146_27 (by decide +kernel)
theorem t146_28 : decode (mb 146) 28 = .ok (.iadd, 1) := by decide +kernel
theorem s146_28 (d : Nat) (l0 : Value) (l1 : Value) (l2 : Value) (x y : Int32) (w0 : Value) (σ : Hs) : ru d 146 28 [l0, l1, l2] [.int y, .int x, w0] σ = ru d 146 29 [l0, l1, l2] [.int (x + y), w0] σ := q_iadd t146_28
theorem t146_29 : decode (mb 146) 29 = .ok (.putfield 163, 3) := by decide +kernel
theorem s146_29_o87 (d : Nat) (l0 : Value) (l1 : Value) (l2 : Value) (x : Int32) (σ : Hs) : ru d 146 29 [l0, l1, l2] [.int x, .ref 87] σ = ru d 146 32 [l0, l1, l2] [] (up2 σ 87 9 x) := q_puti t146_29 mo146 F8_163 (by decide +kernel) rfl rfl
theorem t146_32 : decode (mb 146) 32 = .ok (.iload_n 2, 1) := by decide +kernel
theorem s146_32 (d : Nat) (l0 : Value) (l1 : Value) (i2 : Int32) (σ : Hs) : ru d 146 32 [l0, l1, .int i2] [] σ = ru d 146 33 [l0, l1, .int i2] [.int i2] σ := q_iload_n t146_32 rfl
theorem t146_33 : decode (mb 146) 33 = .ok (.ireturn, 1) := by decide +kernel
theorem s146_33 (d : Nat) (l0 : Value) (l1 : Value) (l2 : Value) (x : Int32) (hx : isB x) (σ : Hs) : ru d 146 33 [l0, l1, l2] [.int x] σ = some (some (.int x), σ) := q_iretz t146_33 mr146 hx
theorem c146 (d : Nat) (x0 : Nat) (x1 : Int32) (σ : Hs) : callD (d + 1) 146 [.ref x0, .int x1] σ = ru d 146 0 [.ref x0, .int x1, uu] [] σ := callD_ru ml146 rfl rfl (Nat.le_of_ble_eq_true rfl)
-- 147: Model.codes(I)V
theorem t147_0 : decode (mb 147) 0 = .ok (.aload_n 0, 1) := by decide +kernel
theorem s147_0 (d : Nat) (a0 : Nat) (l1 : Value) (σ : Hs) : ru d 147 0 [.ref a0, l1] [] σ = ru d 147 1 [.ref a0, l1] [.ref a0] σ := q_aload_n t147_0 rfl
theorem t147_1 : decode (mb 147) 1 = .ok (.getfield 159, 3) := by decide +kernel
theorem s147_1_o87 (d : Nat) (l0 : Value) (l1 : Value) (σ : Hs) : ru d 147 1 [l0, l1] [.ref 87] σ = ru d 147 4 [l0, l1] [.int (σ 87 12)] σ := q_getf t147_1 mo147 F8_159 rfl rfl
theorem t147_4 : decode (mb 147) 4 = .ok (.ifCond .ne 23, 3) := by decide +kernel
theorem s147_4 (d : Nat) (l0 : Value) (l1 : Value) (x : Int32) (σ : Hs) : ru d 147 4 [l0, l1] [.int x] σ = if x = 0 then ru d 147 7 [l0, l1] [] σ else ru d 147 27 [l0, l1] [] σ := q_if_ne t147_4 (by decide +kernel)
theorem t147_7 : decode (mb 147) 7 = .ok (.aload_n 0, 1) := by decide +kernel
theorem s147_7 (d : Nat) (a0 : Nat) (l1 : Value) (σ : Hs) : ru d 147 7 [.ref a0, l1] [] σ = ru d 147 8 [.ref a0, l1] [.ref a0] σ := q_aload_n t147_7 rfl
theorem t147_8 : decode (mb 147) 8 = .ok (.getfield 43, 3) := by decide +kernel
theorem s147_8_o87 (d : Nat) (l0 : Value) (l1 : Value) (σ : Hs) : ru d 147 8 [l0, l1] [.ref 87] σ = ru d 147 11 [l0, l1] [.ref 96] σ := q_getf t147_8 mo147 F8_43 rfl rfl
theorem t147_11 : decode (mb 147) 11 = .ok (.aload_n 0, 1) := by decide +kernel
theorem s147_11 (d : Nat) (a0 : Nat) (l1 : Value) (w0 : Value) (σ : Hs) : ru d 147 11 [.ref a0, l1] [w0] σ = ru d 147 12 [.ref a0, l1] [.ref a0, w0] σ := q_aload_n t147_11 rfl
theorem t147_12 : decode (mb 147) 12 = .ok (.getfield 171, 3) := by decide +kernel
theorem s147_12_o87 (d : Nat) (l0 : Value) (l1 : Value) (w0 : Value) (σ : Hs) : ru d 147 12 [l0, l1] [.ref 87, w0] σ = ru d 147 15 [l0, l1] [.int (σ 87 14), w0] σ := q_getf t147_12 mo147 F8_171 rfl rfl
theorem t147_15 : decode (mb 147) 15 = .ok (.iload_n 1, 1) := by decide +kernel
theorem s147_15 (d : Nat) (l0 : Value) (i1 : Int32) (w0 w1 : Value) (σ : Hs) : ru d 147 15 [l0, .int i1] [w0, w1] σ = ru d 147 16 [l0, .int i1] [.int i1, w0, w1] σ := q_iload_n t147_15 rfl
theorem t147_16 : decode (mb 147) 16 = .ok (.iastore, 1) := by decide +kernel
theorem s147_16_o96 (d : Nat) (l0 : Value) (l1 : Value) (i x : Int32) (σ : Hs) : ru d 147 16 [l0, l1] [.int x, .int i, .ref 96] σ = gd (vp_in i 60) (ru d 147 17 [l0, l1] [] (up2 σ 96 i.toNatClampNeg x)) := q_iast t147_16 (by decide +kernel) rfl rfl
theorem t147_17 : decode (mb 147) 17 = .ok (.aload_n 0, 1) := by decide +kernel
theorem s147_17 (d : Nat) (a0 : Nat) (l1 : Value) (σ : Hs) : ru d 147 17 [.ref a0, l1] [] σ = ru d 147 18 [.ref a0, l1] [.ref a0] σ := q_aload_n t147_17 rfl
theorem t147_18 : decode (mb 147) 18 = .ok (.dup, 1) := by decide +kernel
theorem s147_18 (d : Nat) (l0 : Value) (l1 : Value) (x : Nat) (σ : Hs) : ru d 147 18 [l0, l1] [.ref x] σ = ru d 147 19 [l0, l1] [.ref x, .ref x] σ := q_dup t147_18 rfl
theorem t147_19 : decode (mb 147) 19 = .ok (.getfield 171, 3) := by decide +kernel
theorem s147_19_o87 (d : Nat) (l0 : Value) (l1 : Value) (w0 : Value) (σ : Hs) : ru d 147 19 [l0, l1] [.ref 87, w0] σ = ru d 147 22 [l0, l1] [.int (σ 87 14), w0] σ := q_getf t147_19 mo147 F8_171 rfl rfl
theorem t147_22 : decode (mb 147) 22 = .ok (.iconst 1, 1) := by decide +kernel
theorem s147_22 (d : Nat) (l0 : Value) (l1 : Value) (w0 w1 : Value) (σ : Hs) : ru d 147 22 [l0, l1] [w0, w1] σ = ru d 147 23 [l0, l1] [.int 1, w0, w1] σ := q_iconst t147_22 (by decide +kernel)
theorem t147_23 : decode (mb 147) 23 = .ok (.iadd, 1) := by decide +kernel
theorem s147_23 (d : Nat) (l0 : Value) (l1 : Value) (x y : Int32) (w0 : Value) (σ : Hs) : ru d 147 23 [l0, l1] [.int y, .int x, w0] σ = ru d 147 24 [l0, l1] [.int (x + y), w0] σ := q_iadd t147_23
theorem t147_24 : decode (mb 147) 24 = .ok (.putfield 171, 3) := by decide +kernel
theorem s147_24_o87 (d : Nat) (l0 : Value) (l1 : Value) (x : Int32) (σ : Hs) : ru d 147 24 [l0, l1] [.int x, .ref 87] σ = ru d 147 27 [l0, l1] [] (up2 σ 87 14 x) := q_puti t147_24 mo147 F8_171 (by decide +kernel) rfl rfl
theorem t147_27 : decode (mb 147) 27 = .ok (.return_, 1) := by decide +kernel
theorem s147_27 (d : Nat) (l0 : Value) (l1 : Value) (σ : Hs) : ru d 147 27 [l0, l1] [] σ = some (none, σ) := q_vret t147_27 mr147
theorem c147 (d : Nat) (x0 : Nat) (x1 : Int32) (σ : Hs) : callD (d + 1) 147 [.ref x0, .int x1] σ = ru d 147 0 [.ref x0, .int x1] [] σ := callD_ru ml147 rfl rfl (Nat.le_of_ble_eq_true rfl)
