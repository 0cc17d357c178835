-- 69: SmokyHeap.untell(I)I
theorem t69_0 : decode (mb 69) 0 = .ok (.iload_n 1, 1) := by decide +kernel
theorem s69_0 (d : Nat) (l0 : Value) (i1 : Int32) (l2 : Value) (σ : Hs) : ru d 69 0 [l0, .int i1, l2] [] σ = ru d 69 1 [l0, .int i1, l2] [.int i1] σ := q_iload_n t69_0 rfl
theorem t69_1 : decode (mb 69) 1 = .ok (.invokestatic 139, 3) := by decide +kernel
theorem s69_1 (d : Nat) (l0 : Value) (l1 : Value) (l2 : Value) (v0 : Value) (σ : Hs) : ru d 69 1 [l0, l1, l2] [v0] σ = kont (callD d 105 [v0] σ) d 69 4 [l0, l1, l2] [] := q_invs t69_1 mo69 (by decide +kernel) K7_139 mj105 (Nat.le_of_ble_eq_true rfl) rfl rfl (Nat.le_of_ble_eq_true rfl)
theorem t69_4 : decode (mb 69) 4 = .ok (.ifCond .ne 9, 3) := by decide +kernel
theorem s69_4 (d : Nat) (l0 : Value) (l1 : Value) (l2 : Value) (x : Int32) (σ : Hs) : ru d 69 4 [l0, l1, l2] [.int x] σ = if x = 0 then ru d 69 7 [l0, l1, l2] [] σ else ru d 69 13 [l0, l1, l2] [] σ := q_if_ne t69_4 (by decide +kernel)
theorem t69_7 : decode (mb 69) 7 = .ok (.aload_n 0, 1) := by decide +kernel
theorem s69_7 (d : Nat) (a0 : Nat) (l1 : Value) (l2 : Value) (σ : Hs) : ru d 69 7 [.ref a0, l1, l2] [] σ = ru d 69 8 [.ref a0, l1, l2] [.ref a0] σ := q_aload_n t69_7 rfl
theorem t69_8 : decode (mb 69) 8 = .ok (.iconst 1, 1) := by decide +kernel
theorem s69_8 (d : Nat) (l0 : Value) (l1 : Value) (l2 : Value) (w0 : Value) (σ : Hs) : ru d 69 8 [l0, l1, l2] [w0] σ = ru d 69 9 [l0, l1, l2] [.int 1, w0] σ := q_iconst t69_8 (by decide +kernel)
theorem t69_9 : decode (mb 69) 9 = .ok (.invokevirtual 65, 3) := by decide +kernel
theorem s69_9_o0 (d : Nat) (l0 : Value) (l1 : Value) (l2 : Value) (v1 : Value) (σ : Hs) : ru d 69 9 [l0, l1, l2] [v1, .ref 0] σ = kont (callD d 99 [.ref 0, v1] σ) d 69 12 [l0, l1, l2] [] := q_invv t69_9 mo69 K7_65 mj99 rfl rfl rfl rfl (Nat.le_of_ble_eq_true rfl)
theorem t69_12 : decode (mb 69) 12 = .ok (.ireturn, 1) := by decide +kernel
theorem s69_12 (d : Nat) (l0 : Value) (l1 : Value) (l2 : Value) (x : Int32) (σ : Hs) : ru d 69 12 [l0, l1, l2] [.int x] σ = some (some (.int x), σ) := q_ireti t69_12 mr69
theorem t69_13 : decode (mb 69) 13 = .ok (.aload_n 0, 1) := by decide +kernel
theorem s69_13 (d : Nat) (a0 : Nat) (l1 : Value) (l2 : Value) (σ : Hs) : ru d 69 13 [.ref a0, l1, l2] [] σ = ru d 69 14 [.ref a0, l1, l2] [.ref a0] σ := q_aload_n t69_13 rfl
theorem t69_14 : decode (mb 69) 14 = .ok (.getfield 10, 3) := by decide +kernel
theorem s69_14_o0 (d : Nat) (l0 : Value) (l1 : Value) (l2 : Value) (σ : Hs) : ru d 69 14 [l0, l1, l2] [.ref 0] σ = ru d 69 17 [l0, l1, l2] [.ref 1] σ := q_getf t69_14 mo69 F7_10 rfl rfl
theorem t69_17 : decode (mb 69) 17 = .ok (.getfield 146, 3) := by decide +kernel
theorem s69_17_o1 (d : Nat) (l0 : Value) (l1 : Value) (l2 : Value) (σ : Hs) : ru d 69 17 [l0, l1, l2] [.ref 1] σ = ru d 69 20 [l0, l1, l2] [.ref 13] σ := q_getf t69_17 mo69 F7_146 rfl rfl
theorem t69_20 : decode (mb 69) 20 = .ok (.iload_n 1, 1) := by decide +kernel
theorem s69_20 (d : Nat) (l0 : Value) (i1 : Int32) (l2 : Value) (w0 : Value) (σ : Hs) : ru d 69 20 [l0, .int i1, l2] [w0] σ = ru d 69 21 [l0, .int i1, l2] [.int i1, w0] σ := q_iload_n t69_20 rfl
theorem t69_21 : decode (mb 69) 21 = .ok (.invokevirtual 163, 3) := by decide +kernel
theorem s69_21_o13 (d : Nat) (l0 : Value) (l1 : Value) (l2 : Value) (v1 : Value) (σ : Hs) : ru d 69 21 [l0, l1, l2] [v1, .ref 13] σ = kont (callD d 30 [.ref 13, v1] σ) d 69 24 [l0, l1, l2] [] := q_invv t69_21 mo69 K7_163 mj30 rfl rfl rfl rfl (Nat.le_of_ble_eq_true rfl)
theorem t69_24 : decode (mb 69) 24 = .ok (.ifCond .eq 7, 3) := by decide +kernel
theorem s69_24 (d : Nat) (l0 : Value) (l1 : Value) (l2 : Value) (x : Int32) (σ : Hs) : ru d 69 24 [l0, l1, l2] [.int x] σ = if x = 0 then ru d 69 31 [l0, l1, l2] [] σ else ru d 69 27 [l0, l1, l2] [] σ := q_if_eq t69_24 (by decide +kernel)
theorem t69_27 : decode (mb 69) 27 = .ok (.iconst 1, 1) := by decide +kernel
theorem s69_27 (d : Nat) (l0 : Value) (l1 : Value) (l2 : Value) (σ : Hs) : ru d 69 27 [l0, l1, l2] [] σ = ru d 69 28 [l0, l1, l2] [.int 1] σ := q_iconst t69_27 (by decide +kernel)
theorem t69_28 : decode (mb 69) 28 = .ok (.goto 4, 3) := by decide +kernel
theorem s69_28 (d : Nat) (l0 : Value) (l1 : Value) (l2 : Value) (w0 : Value) (σ : Hs) : ru d 69 28 [l0, l1, l2] [w0] σ = ru d 69 32 [l0, l1, l2] [w0] σ := q_goto t69_28 (by decide +kernel)
theorem t69_31 : decode (mb 69) 31 = .ok (.iconst 0, 1) := by decide +kernel
theorem s69_31 (d : Nat) (l0 : Value) (l1 : Value) (l2 : Value) (σ : Hs) : ru d 69 31 [l0, l1, l2] [] σ = ru d 69 32 [l0, l1, l2] [.int 0] σ := q_iconst t69_31 (by decide +kernel)
theorem t69_32 : decode (mb 69) 32 = .ok (.istore_n 2, 1) := by decide +kernel
theorem s69_32 (d : Nat) (l0 : Value) (i1 : Int32) (l2 : Value) (x : Int32) (σ : Hs) : ru d 69 32 [l0, .int i1, l2] [.int x] σ = ru d 69 33 [l0, .int i1, .int x] [] σ := q_istore_n t69_32 ⟨Nat.le_of_ble_eq_true rfl, rfl⟩ rfl
theorem t69_33 : decode (mb 69) 33 = .ok (.aload_n 0, 1) := by decide +kernel
theorem s69_33 (d : Nat) (a0 : Nat) (l1 : Value) (l2 : Value) (σ : Hs) : ru d 69 33 [.ref a0, l1, l2] [] σ = ru d 69 34 [.ref a0, l1, l2] [.ref a0] σ := q_aload_n t69_33 rfl
theorem t69_34 : decode (mb 69) 34 = .ok (.getfield 10, 3) := by decide +kernel
theorem s69_34_o0 (d : Nat) (l0 : Value) (l1 : Value) (l2 : Value) (σ : Hs) : ru d 69 34 [l0, l1, l2] [.ref 0] σ = ru d 69 37 [l0, l1, l2] [.ref 1] σ := q_getf t69_34 mo69 F7_10 rfl rfl
theorem t69_37 : decode (mb 69) 37 = .ok (.getfield 146, 3) := by decide +kernel
theorem s69_37_o1 (d : Nat) (l0 : Value) (l1 : Value) (l2 : Value) (σ : Hs) : ru d 69 37 [l0, l1, l2] [.ref 1] σ = ru d 69 40 [l0, l1, l2] [.ref 13] σ := q_getf t69_37 mo69 F7_146 rfl rfl
theorem t69_40 : decode (mb 69) 40 = .ok (.getfield 150, 3) := by decide +kernel
theorem s69_40_o13 (d : Nat) (l0 : Value) (l1 : Value) (l2 : Value) (σ : Hs) : ru d 69 40 [l0, l1, l2] [.ref 13] σ = ru d 69 43 [l0, l1, l2] [.ref 14] σ := q_getf t69_40 mo69 F7_150 rfl rfl
theorem t69_43 : decode (mb 69) 43 = .ok (.iload_n 1, 1) := by decide +kernel
theorem s69_43 (d : Nat) (l0 : Value) (i1 : Int32) (l2 : Value) (w0 : Value) (σ : Hs) : ru d 69 43 [l0, .int i1, l2] [w0] σ = ru d 69 44 [l0, .int i1, l2] [.int i1, w0] σ := q_iload_n t69_43 rfl
theorem t69_44 : decode (mb 69) 44 = .ok (.aaload, 1) := by decide +kernel
theorem s69_44_o14 (d : Nat) (l0 : Value) (l1 : Value) (l2 : Value) (i : Int32) (σ : Hs) : ru d 69 44 [l0, l1, l2] [.int i, .ref 14] σ = gd (vp_in i 3) (ru d 69 45 [l0, l1, l2] [.ref (cr 14 i.toNatClampNeg)] σ) := q_aald t69_44 (by decide +kernel) (by decide +kernel) rfl
theorem t69_45 : decode (mb 69) 45 = .ok (.iconst 0, 1) := by decide +kernel
theorem s69_45 (d : Nat) (l0 : Value) (l1 : Value) (l2 : Value) (w0 : Value) (σ : Hs) : ru d 69 45 [l0, l1, l2] [w0] σ = ru d 69 46 [l0, l1, l2] [.int 0, w0] σ := q_iconst t69_45 (by decide +kernel)
theorem t69_46 : decode (mb 69) 46 = .ok (.putfield 131, 3) := by decide +kernel
theorem s69_46_o16 (d : Nat) (l0 : Value) (l1 : Value) (l2 : Value) (x : Int32) (σ : Hs) : ru d 69 46 [l0, l1, l2] [.int x, .ref 16] σ = ru d 69 49 [l0, l1, l2] [] (up2 σ 16 1 x) := q_puti t69_46 mo69 F7_131 (by decide +kernel) rfl rfl
theorem s69_46_o18 (d : Nat) (l0 : Value) (l1 : Value) (l2 : Value) (x : Int32) (σ : Hs) : ru d 69 46 [l0, l1, l2] [.int x, .ref 18] σ = ru d 69 49 [l0, l1, l2] [] (up2 σ 18 1 x) := q_puti t69_46 mo69 F7_131 (by decide +kernel) rfl rfl
theorem s69_46_o20 (d : Nat) (l0 : Value) (l1 : Value) (l2 : Value) (x : Int32) (σ : Hs) : ru d 69 46 [l0, l1, l2] [.int x, .ref 20] σ = ru d 69 49 [l0, l1, l2] [] (up2 σ 20 1 x) := q_puti t69_46 mo69 F7_131 (by decide +kernel) rfl rfl
theorem t69_49 : decode (mb 69) 49 = .ok (.iload_n 2, 1) := by decide +kernel
theorem s69_49 (d : Nat) (l0 : Value) (l1 : Value) (i2 : Int32) (σ : Hs) : ru d 69 49 [l0, l1, .int i2] [] σ = ru d 69 50 [l0, l1, .int i2] [.int i2] σ := q_iload_n t69_49 rfl
theorem t69_50 : decode (mb 69) 50 = .ok (.ireturn, 1) := by decide +kernel
theorem s69_50 (d : Nat) (l0 : Value) (l1 : Value) (l2 : Value) (x : Int32) (σ : Hs) : ru d 69 50 [l0, l1, l2] [.int x] σ = some (some (.int x), σ) := q_ireti t69_50 mr69
theorem c69 (d : Nat) (x0 : Nat) (x1 : Int32) (σ : Hs) : callD (d + 1) 69 [.ref x0, .int x1] σ = ru d 69 0 [.ref x0, .int x1, uu] [] σ := callD_ru ml69 rfl rfl (Nat.le_of_ble_eq_true rfl)
-- 70: SmokyHeap.minutes(I)I
theorem t70_0 : decode (mb 70) 0 = .ok (.iload_n 1, 1) := by decide +kernel
theorem s70_0 (d : Nat) (l0 : Value) (i1 : Int32) (σ : Hs) : ru d 70 0 [l0, .int i1] [] σ = ru d 70 1 [l0, .int i1] [.int i1] σ := q_iload_n t70_0 rfl
theorem t70_1 : decode (mb 70) 1 = .ok (.iconst 1, 1) := by decide +kernel
theorem s70_1 (d : Nat) (l0 : Value) (l1 : Value) (w0 : Value) (σ : Hs) : ru d 70 1 [l0, l1] [w0] σ = ru d 70 2 [l0, l1] [.int 1, w0] σ := q_iconst t70_1 (by decide +kernel)
theorem t70_2 : decode (mb 70) 2 = .ok (.sipush 200, 3) := by decide +kernel
theorem s70_2 (d : Nat) (l0 : Value) (l1 : Value) (w0 w1 : Value) (σ : Hs) : ru d 70 2 [l0, l1] [w0, w1] σ = ru d 70 5 [l0, l1] [.int 200, w0, w1] σ := q_sipush t70_2 (by decide +kernel)
theorem t70_5 : decode (mb 70) 5 = .ok (.invokestatic 83, 3) := by decide +kernel
theorem s70_5 (d : Nat) (l0 : Value) (l1 : Value) (v0 v1 v2 : Value) (σ : Hs) : ru d 70 5 [l0, l1] [v2, v1, v0] σ = kont (callD d 102 [v0, v1, v2] σ) d 70 8 [l0, l1] [] := q_invs t70_5 mo70 (by decide +kernel) K7_83 mj102 (Nat.le_of_ble_eq_true rfl) rfl rfl (Nat.le_of_ble_eq_true rfl)
theorem t70_8 : decode (mb 70) 8 = .ok (.ifCond .ne 9, 3) := by decide +kernel
theorem s70_8 (d : Nat) (l0 : Value) (l1 : Value) (x : Int32) (σ : Hs) : ru d 70 8 [l0, l1] [.int x] σ = if x = 0 then ru d 70 11 [l0, l1] [] σ else ru d 70 17 [l0, l1] [] σ := q_if_ne t70_8 (by decide +kernel)
theorem t70_11 : decode (mb 70) 11 = .ok (.aload_n 0, 1) := by decide +kernel
theorem s70_11 (d : Nat) (a0 : Nat) (l1 : Value) (σ : Hs) : ru d 70 11 [.ref a0, l1] [] σ = ru d 70 12 [.ref a0, l1] [.ref a0] σ := q_aload_n t70_11 rfl
theorem t70_12 : decode (mb 70) 12 = .ok (.iconst 1, 1) := by decide +kernel
theorem s70_12 (d : Nat) (l0 : Value) (l1 : Value) (w0 : Value) (σ : Hs) : ru d 70 12 [l0, l1] [w0] σ = ru d 70 13 [l0, l1] [.int 1, w0] σ := q_iconst t70_12 (by decide +kernel)
theorem t70_13 : decode (mb 70) 13 = .ok (.invokevirtual 65, 3) := by decide +kernel
theorem s70_13_o0 (d : Nat) (l0 : Value) (l1 : Value) (v1 : Value) (σ : Hs) : ru d 70 13 [l0, l1] [v1, .ref 0] σ = kont (callD d 99 [.ref 0, v1] σ) d 70 16 [l0, l1] [] := q_invv t70_13 mo70 K7_65 mj99 rfl rfl rfl rfl (Nat.le_of_ble_eq_true rfl)
theorem t70_16 : decode (mb 70) 16 = .ok (.ireturn, 1) := by decide +kernel
theorem s70_16 (d : Nat) (l0 : Value) (l1 : Value) (x : Int32) (σ : Hs) : ru d 70 16 [l0, l1] [.int x] σ = some (some (.int x), σ) := q_ireti t70_16 mr70
theorem t70_17 : decode (mb 70) 17 = .ok (.aload_n 0, 1) := by decide +kernel
theorem s70_17 (d : Nat) (a0 : Nat) (l1 : Value) (σ : Hs) : ru d 70 17 [.ref a0, l1] [] σ = ru d 70 18 [.ref a0, l1] [.ref a0] σ := q_aload_n t70_17 rfl
theorem t70_18 : decode (mb 70) 18 = .ok (.getfield 10, 3) := by decide +kernel
theorem s70_18_o0 (d : Nat) (l0 : Value) (l1 : Value) (σ : Hs) : ru d 70 18 [l0, l1] [.ref 0] σ = ru d 70 21 [l0, l1] [.ref 1] σ := q_getf t70_18 mo70 F7_10 rfl rfl
theorem t70_21 : decode (mb 70) 21 = .ok (.getfield 58, 3) := by decide +kernel
theorem s70_21_o1 (d : Nat) (l0 : Value) (l1 : Value) (σ : Hs) : ru d 70 21 [l0, l1] [.ref 1] σ = ru d 70 24 [l0, l1] [.ref 2] σ := q_getf t70_21 mo70 F7_58 rfl rfl
theorem t70_24 : decode (mb 70) 24 = .ok (.getfield 164, 3) := by decide +kernel
theorem s70_24_o2 (d : Nat) (l0 : Value) (l1 : Value) (σ : Hs) : ru d 70 24 [l0, l1] [.ref 2] σ = ru d 70 27 [l0, l1] [.int (σ 2 13)] σ := q_getf t70_24 mo70 F7_164 rfl rfl
theorem t70_27 : decode (mb 70) 27 = .ok (.iload_n 1, 1) := by decide +kernel
theorem s70_27 (d : Nat) (l0 : Value) (i1 : Int32) (w0 : Value) (σ : Hs) : ru d 70 27 [l0, .int i1] [w0] σ = ru d 70 28 [l0, .int i1] [.int i1, w0] σ := q_iload_n t70_27 rfl
theorem t70_28 : decode (mb 70) 28 = .ok (.iadd, 1) := by decide +kernel
theorem s70_28 (d : Nat) (l0 : Value) (l1 : Value) (x y : Int32) (σ : Hs) : ru d 70 28 [l0, l1] [.int y, .int x] σ = ru d 70 29 [l0, l1] [.int (x + y)] σ := q_iadd t70_28
theorem t70_29 : decode (mb 70) 29 = .ok (.ldc 167, 2) := by decide +kernel
theorem s70_29 (d : Nat) (l0 : Value) (l1 : Value) (w0 : Value) (σ : Hs) : ru d 70 29 [l0, l1] [w0] σ = ru d 70 31 [l0, l1] [.int 99999, w0] σ := q_ldc t70_29 mo70 C7_167
theorem t70_31 : decode (mb 70) 31 = .ok (.if_icmp .le 9, 3) := by decide +kernel
theorem s70_31 (d : Nat) (l0 : Value) (l1 : Value) (x y : Int32) (σ : Hs) : ru d 70 31 [l0, l1] [.int y, .int x] σ = if x ≤ y then ru d 70 40 [l0, l1] [] σ else ru d 70 34 [l0, l1] [] σ := q_ic_le t70_31 (by decide +kernel)
theorem t70_34 : decode (mb 70) 34 = .ok (.aload_n 0, 1) := by decide +kernel
theorem s70_34 (d : Nat) (a0 : Nat) (l1 : Value) (σ : Hs) : ru d 70 34 [.ref a0, l1] [] σ = ru d 70 35 [.ref a0, l1] [.ref a0] σ := q_aload_n t70_34 rfl
theorem t70_35 : decode (mb 70) 35 = .ok (.iconst 3, 1) := by decide +kernel
theorem s70_35 (d : Nat) (l0 : Value) (l1 : Value) (w0 : Value) (σ : Hs) : ru d 70 35 [l0, l1] [w0] σ = ru d 70 36 [l0, l1] [.int 3, w0] σ := q_iconst t70_35 (by decide +kernel)
theorem t70_36 : decode (mb 70) 36 = .ok (.invokevirtual 65, 3) := by decide +kernel
theorem s70_36_o0 (d : Nat) (l0 : Value) (l1 : Value) (v1 : Value) (σ : Hs) : ru d 70 36 [l0, l1] [v1, .ref 0] σ = kont (callD d 99 [.ref 0, v1] σ) d 70 39 [l0, l1] [] := q_invv t70_36 mo70 K7_65 mj99 rfl rfl rfl rfl (Nat.le_of_ble_eq_true rfl)
theorem t70_39 : decode (mb 70) 39 = .ok (.ireturn, 1) := by decide +kernel
theorem s70_39 (d : Nat) (l0 : Value) (l1 : Value) (x : Int32) (σ : Hs) : ru d 70 39 [l0, l1] [.int x] σ = some (some (.int x), σ) := q_ireti t70_39 mr70
theorem t70_40 : decode (mb 70) 40 = .ok (.aload_n 0, 1) := by decide +kernel
theorem s70_40 (d : Nat) (a0 : Nat) (l1 : Value) (σ : Hs) : ru d 70 40 [.ref a0, l1] [] σ = ru d 70 41 [.ref a0, l1] [.ref a0] σ := q_aload_n t70_40 rfl
theorem t70_41 : decode (mb 70) 41 = .ok (.getfield 10, 3) := by decide +kernel
theorem s70_41_o0 (d : Nat) (l0 : Value) (l1 : Value) (σ : Hs) : ru d 70 41 [l0, l1] [.ref 0] σ = ru d 70 44 [l0, l1] [.ref 1] σ := q_getf t70_41 mo70 F7_10 rfl rfl
theorem t70_44 : decode (mb 70) 44 = .ok (.getfield 58, 3) := by decide +kernel
theorem s70_44_o1 (d : Nat) (l0 : Value) (l1 : Value) (σ : Hs) : ru d 70 44 [l0, l1] [.ref 1] σ = ru d 70 47 [l0, l1] [.ref 2] σ := q_getf t70_44 mo70 F7_58 rfl rfl
theorem t70_47 : decode (mb 70) 47 = .ok (.iload_n 1, 1) := by decide +kernel
theorem s70_47 (d : Nat) (l0 : Value) (i1 : Int32) (w0 : Value) (σ : Hs) : ru d 70 47 [l0, .int i1] [w0] σ = ru d 70 48 [l0, .int i1] [.int i1, w0] σ := q_iload_n t70_47 rfl
theorem t70_48 : decode (mb 70) 48 = .ok (.aload_n 0, 1) := by decide +kernel
theorem s70_48 (d : Nat) (a0 : Nat) (l1 : Value) (w0 w1 : Value) (σ : Hs) : ru d 70 48 [.ref a0, l1] [w0, w1] σ = ru d 70 49 [.ref a0, l1] [.ref a0, w0, w1] σ := q_aload_n t70_48 rfl
theorem t70_49 : decode (mb 70) 49 = .ok (.getfield 10, 3) := by decide +kernel
theorem s70_49_o0 (d : Nat) (l0 : Value) (l1 : Value) (w0 w1 : Value) (σ : Hs) : ru d 70 49 [l0, l1] [.ref 0, w0, w1] σ = ru d 70 52 [l0, l1] [.ref 1, w0, w1] σ := q_getf t70_49 mo70 F7_10 rfl rfl
theorem t70_52 : decode (mb 70) 52 = .ok (.getfield 146, 3) := by decide +kernel
theorem s70_52_o1 (d : Nat) (l0 : Value) (l1 : Value) (w0 w1 : Value) (σ : Hs) : ru d 70 52 [l0, l1] [.ref 1, w0, w1] σ = ru d 70 55 [l0, l1] [.ref 13, w0, w1] σ := q_getf t70_52 mo70 F7_146 rfl rfl
theorem t70_55 : decode (mb 70) 55 = .ok (.invokevirtual 168, 3) := by decide +kernel
theorem s70_55_o2 (d : Nat) (l0 : Value) (l1 : Value) (v1 v2 : Value) (σ : Hs) : ru d 70 55 [l0, l1] [v2, v1, .ref 2] σ = kont (callD d 13 [.ref 2, v1, v2] σ) d 70 58 [l0, l1] [] := q_invv t70_55 mo70 K7_168 mj13 rfl rfl rfl rfl (Nat.le_of_ble_eq_true rfl)
theorem t70_58 : decode (mb 70) 58 = .ok (.aload_n 0, 1) := by decide +kernel
theorem s70_58 (d : Nat) (a0 : Nat) (l1 : Value) (σ : Hs) : ru d 70 58 [.ref a0, l1] [] σ = ru d 70 59 [.ref a0, l1] [.ref a0] σ := q_aload_n t70_58 rfl
theorem t70_59 : decode (mb 70) 59 = .ok (.getfield 10, 3) := by decide +kernel
theorem s70_59_o0 (d : Nat) (l0 : Value) (l1 : Value) (σ : Hs) : ru d 70 59 [l0, l1] [.ref 0] σ = ru d 70 62 [l0, l1] [.ref 1] σ := q_getf t70_59 mo70 F7_10 rfl rfl
theorem t70_62 : decode (mb 70) 62 = .ok (.getfield 58, 3) := by decide +kernel
theorem s70_62_o1 (d : Nat) (l0 : Value) (l1 : Value) (σ : Hs) : ru d 70 62 [l0, l1] [.ref 1] σ = ru d 70 65 [l0, l1] [.ref 2] σ := q_getf t70_62 mo70 F7_58 rfl rfl
theorem t70_65 : decode (mb 70) 65 = .ok (.getfield 164, 3) := by decide +kernel
theorem s70_65_o2 (d : Nat) (l0 : Value) (l1 : Value) (σ : Hs) : ru d 70 65 [l0, l1] [.ref 2] σ = ru d 70 68 [l0, l1] [.int (σ 2 13)] σ := q_getf t70_65 mo70 F7_164 rfl rfl
theorem t70_68 : decode (mb 70) 68 = .ok (.ireturn, 1) := by decide +kernel
theorem s70_68 (d : Nat) (l0 : Value) (l1 : Value) (x : Int32) (σ : Hs) : ru d 70 68 [l0, l1] [.int x] σ = some (some (.int x), σ) := q_ireti t70_68 mr70
theorem c70 (d : Nat) (x0 : Nat) (x1 : Int32) (σ : Hs) : callD (d + 1) 70 [.ref x0, .int x1] σ = ru d 70 0 [.ref x0, .int x1] [] σ := callD_ru ml70 rfl rfl (Nat.le_of_ble_eq_true rfl)
-- 71: SmokyHeap.gusts(I)I
theorem t71_0 : decode (mb 71) 0 = .ok (.iload_n 1, 1) := by decide +kernel
theorem s71_0 (d : Nat) (l0 : Value) (i1 : Int32) (l2 : Value) (l3 : Value) (σ : Hs) : ru d 71 0 [l0, .int i1, l2, l3] [] σ = ru d 71 1 [l0, .int i1, l2, l3] [.int i1] σ := q_iload_n t71_0 rfl
theorem t71_1 : decode (mb 71) 1 = .ok (.iconst 1, 1) := by decide +kernel
theorem s71_1 (d : Nat) (l0 : Value) (l1 : Value) (l2 : Value) (l3 : Value) (w0 : Value) (σ : Hs) : ru d 71 1 [l0, l1, l2, l3] [w0] σ = ru d 71 2 [l0, l1, l2, l3] [.int 1, w0] σ := q_iconst t71_1 (by decide +kernel)
theorem t71_2 : decode (mb 71) 2 = .ok (.sipush 200, 3) := by decide +kernel
theorem s71_2 (d : Nat) (l0 : Value) (l1 : Value) (l2 : Value) (l3 : Value) (w0 w1 : Value) (σ : Hs) : ru d 71 2 [l0, l1, l2, l3] [w0, w1] σ = ru d 71 5 [l0, l1, l2, l3] [.int 200, w0, w1] σ := q_sipush t71_2 (by decide +kernel)
theorem t71_5 : decode (mb 71) 5 = .ok (.invokestatic 83, 3) := by decide +kernel
theorem s71_5 (d : Nat) (l0 : Value) (l1 : Value) (l2 : Value) (l3 : Value) (v0 v1 v2 : Value) (σ : Hs) : ru d 71 5 [l0, l1, l2, l3] [v2, v1, v0] σ = kont (callD d 102 [v0, v1, v2] σ) d 71 8 [l0, l1, l2, l3] [] := q_invs t71_5 mo71 (by decide +kernel) K7_83 mj102 (Nat.le_of_ble_eq_true rfl) rfl rfl (Nat.le_of_ble_eq_true rfl)
theorem t71_8 : decode (mb 71) 8 = .ok (.ifCond .ne 9, 3) := by decide +kernel
theorem s71_8 (d : Nat) (l0 : Value) (l1 : Value) (l2 : Value) (l3 : Value) (x : Int32) (σ : Hs) : ru d 71 8 [l0, l1, l2, l3] [.int x] σ = if x = 0 then ru d 71 11 [l0, l1, l2, l3] [] σ else ru d 71 17 [l0, l1, l2, l3] [] σ := q_if_ne t71_8 (by decide +kernel)
theorem t71_11 : decode (mb 71) 11 = .ok (.aload_n 0, 1) := by decide +kernel
theorem s71_11 (d : Nat) (a0 : Nat) (l1 : Value) (l2 : Value) (l3 : Value) (σ : Hs) : ru d 71 11 [.ref a0, l1, l2, l3] [] σ = ru d 71 12 [.ref a0, l1, l2, l3] [.ref a0] σ := q_aload_n t71_11 rfl
theorem t71_12 : decode (mb 71) 12 = .ok (.iconst 1, 1) := by decide +kernel
theorem s71_12 (d : Nat) (l0 : Value) (l1 : Value) (l2 : Value) (l3 : Value) (w0 : Value) (σ : Hs) : ru d 71 12 [l0, l1, l2, l3] [w0] σ = ru d 71 13 [l0, l1, l2, l3] [.int 1, w0] σ := q_iconst t71_12 (by decide +kernel)
theorem t71_13 : decode (mb 71) 13 = .ok (.invokevirtual 65, 3) := by decide +kernel
theorem s71_13_o0 (d : Nat) (l0 : Value) (l1 : Value) (l2 : Value) (l3 : Value) (v1 : Value) (σ : Hs) : ru d 71 13 [l0, l1, l2, l3] [v1, .ref 0] σ = kont (callD d 99 [.ref 0, v1] σ) d 71 16 [l0, l1, l2, l3] [] := q_invv t71_13 mo71 K7_65 mj99 rfl rfl rfl rfl (Nat.le_of_ble_eq_true rfl)
theorem t71_16 : decode (mb 71) 16 = .ok (.ireturn, 1) := by decide +kernel
theorem s71_16 (d : Nat) (l0 : Value) (l1 : Value) (l2 : Value) (l3 : Value) (x : Int32) (σ : Hs) : ru d 71 16 [l0, l1, l2, l3] [.int x] σ = some (some (.int x), σ) := q_ireti t71_16 mr71
theorem t71_17 : decode (mb 71) 17 = .ok (.aload_n 0, 1) := by decide +kernel
theorem s71_17 (d : Nat) (a0 : Nat) (l1 : Value) (l2 : Value) (l3 : Value) (σ : Hs) : ru d 71 17 [.ref a0, l1, l2, l3] [] σ = ru d 71 18 [.ref a0, l1, l2, l3] [.ref a0] σ := q_aload_n t71_17 rfl
theorem t71_18 : decode (mb 71) 18 = .ok (.getfield 10, 3) := by decide +kernel
theorem s71_18_o0 (d : Nat) (l0 : Value) (l1 : Value) (l2 : Value) (l3 : Value) (σ : Hs) : ru d 71 18 [l0, l1, l2, l3] [.ref 0] σ = ru d 71 21 [l0, l1, l2, l3] [.ref 1] σ := q_getf t71_18 mo71 F7_10 rfl rfl
theorem t71_21 : decode (mb 71) 21 = .ok (.getfield 58, 3) := by decide +kernel
theorem s71_21_o1 (d : Nat) (l0 : Value) (l1 : Value) (l2 : Value) (l3 : Value) (σ : Hs) : ru d 71 21 [l0, l1, l2, l3] [.ref 1] σ = ru d 71 24 [l0, l1, l2, l3] [.ref 2] σ := q_getf t71_21 mo71 F7_58 rfl rfl
theorem t71_24 : decode (mb 71) 24 = .ok (.getfield 164, 3) := by decide +kernel
theorem s71_24_o2 (d : Nat) (l0 : Value) (l1 : Value) (l2 : Value) (l3 : Value) (σ : Hs) : ru d 71 24 [l0, l1, l2, l3] [.ref 2] σ = ru d 71 27 [l0, l1, l2, l3] [.int (σ 2 13)] σ := q_getf t71_24 mo71 F7_164 rfl rfl
theorem t71_27 : decode (mb 71) 27 = .ok (.iload_n 1, 1) := by decide +kernel
theorem s71_27 (d : Nat) (l0 : Value) (i1 : Int32) (l2 : Value) (l3 : Value) (w0 : Value) (σ : Hs) : ru d 71 27 [l0, .int i1, l2, l3] [w0] σ = ru d 71 28 [l0, .int i1, l2, l3] [.int i1, w0] σ := q_iload_n t71_27 rfl
theorem t71_28 : decode (mb 71) 28 = .ok (.iadd, 1) := by decide +kernel
theorem s71_28 (d : Nat) (l0 : Value) (l1 : Value) (l2 : Value) (l3 : Value) (x y : Int32) (σ : Hs) : ru d 71 28 [l0, l1, l2, l3] [.int y, .int x] σ = ru d 71 29 [l0, l1, l2, l3] [.int (x + y)] σ := q_iadd t71_28
theorem t71_29 : decode (mb 71) 29 = .ok (.ldc 167, 2) := by decide +kernel
theorem s71_29 (d : Nat) (l0 : Value) (l1 : Value) (l2 : Value) (l3 : Value) (w0 : Value) (σ : Hs) : ru d 71 29 [l0, l1, l2, l3] [w0] σ = ru d 71 31 [l0, l1, l2, l3] [.int 99999, w0] σ := q_ldc t71_29 mo71 C7_167
theorem t71_31 : decode (mb 71) 31 = .ok (.if_icmp .le 9, 3) := by decide +kernel
theorem s71_31 (d : Nat) (l0 : Value) (l1 : Value) (l2 : Value) (l3 : Value) (x y : Int32) (σ : Hs) : ru d 71 31 [l0, l1, l2, l3] [.int y, .int x] σ = if x ≤ y then ru d 71 40 [l0, l1, l2, l3] [] σ else ru d 71 34 [l0, l1, l2, l3] [] σ := q_ic_le t71_31 (by decide +kernel)
theorem t71_34 : decode (mb 71) 34 = .ok (.aload_n 0, 1) := by decide +kernel
theorem s71_34 (d : Nat) (a0 : Nat) (l1 : Value) (l2 : Value) (l3 : Value) (σ : Hs) : ru d 71 34 [.ref a0, l1, l2, l3] [] σ = ru d 71 35 [.ref a0, l1, l2, l3] [.ref a0] σ := q_aload_n t71_34 rfl
theorem t71_35 : decode (mb 71) 35 = .ok (.iconst 3, 1) := by decide +kernel
theorem s71_35 (d : Nat) (l0 : Value) (l1 : Value) (l2 : Value) (l3 : Value) (w0 : Value) (σ : Hs) : ru d 71 35 [l0, l1, l2, l3] [w0] σ = ru d 71 36 [l0, l1, l2, l3] [.int 3, w0] σ := q_iconst t71_35 (by decide +kernel)
theorem t71_36 : decode (mb 71) 36 = .ok (.invokevirtual 65, 3) := by decide +kernel
theorem s71_36_o0 (d : Nat) (l0 : Value) (l1 : Value) (l2 : Value) (l3 : Value) (v1 : Value) (σ : Hs) : ru d 71 36 [l0, l1, l2, l3] [v1, .ref 0] σ = kont (callD d 99 [.ref 0, v1] σ) d 71 39 [l0, l1, l2, l3] [] := q_invv t71_36 mo71 K7_65 mj99 rfl rfl rfl rfl (Nat.le_of_ble_eq_true rfl)
theorem t71_39 : decode (mb 71) 39 = .ok (.ireturn, 1) := by decide +kernel
theorem s71_39 (d : Nat) (l0 : Value) (l1 : Value) (l2 : Value) (l3 : Value) (x : Int32) (σ : Hs) : ru d 71 39 [l0, l1, l2, l3] [.int x] σ = some (some (.int x), σ) := q_ireti t71_39 mr71
theorem t71_40 : decode (mb 71) 40 = .ok (.aload_n 0, 1) := by decide +kernel
theorem s71_40 (d : Nat) (a0 : Nat) (l1 : Value) (l2 : Value) (l3 : Value) (σ : Hs) : ru d 71 40 [.ref a0, l1, l2, l3] [] σ = ru d 71 41 [.ref a0, l1, l2, l3] [.ref a0] σ := q_aload_n t71_40 rfl
theorem t71_41 : decode (mb 71) 41 = .ok (.getfield 10, 3) := by decide +kernel
theorem s71_41_o0 (d : Nat) (l0 : Value) (l1 : Value) (l2 : Value) (l3 : Value) (σ : Hs) : ru d 71 41 [l0, l1, l2, l3] [.ref 0] σ = ru d 71 44 [l0, l1, l2, l3] [.ref 1] σ := q_getf t71_41 mo71 F7_10 rfl rfl
theorem t71_44 : decode (mb 71) 44 = .ok (.getfield 58, 3) := by decide +kernel
theorem s71_44_o1 (d : Nat) (l0 : Value) (l1 : Value) (l2 : Value) (l3 : Value) (σ : Hs) : ru d 71 44 [l0, l1, l2, l3] [.ref 1] σ = ru d 71 47 [l0, l1, l2, l3] [.ref 2] σ := q_getf t71_44 mo71 F7_58 rfl rfl
theorem t71_47 : decode (mb 71) 47 = .ok (.getfield 124, 3) := by decide +kernel
theorem s71_47_o2 (d : Nat) (l0 : Value) (l1 : Value) (l2 : Value) (l3 : Value) (σ : Hs) : ru d 71 47 [l0, l1, l2, l3] [.ref 2] σ = ru d 71 50 [l0, l1, l2, l3] [.ref 9] σ := q_getf t71_47 mo71 F7_124 rfl rfl
theorem t71_50 : decode (mb 71) 50 = .ok (.iconst 1, 1) := by decide +kernel
theorem s71_50 (d : Nat) (l0 : Value) (l1 : Value) (l2 : Value) (l3 : Value) (w0 : Value) (σ : Hs) : ru d 71 50 [l0, l1, l2, l3] [w0] σ = ru d 71 51 [l0, l1, l2, l3] [.int 1, w0] σ := q_iconst t71_50 (by decide +kernel)
theorem t71_51 : decode (mb 71) 51 = .ok (.iaload, 1) := by decide +kernel
theorem s71_51_o9 (d : Nat) (l0 : Value) (l1 : Value) (l2 : Value) (l3 : Value) (i : Int32) (σ : Hs) : ru d 71 51 [l0, l1, l2, l3] [.int i, .ref 9] σ = gd (vp_in i 5) (ru d 71 52 [l0, l1, l2, l3] [.int (σ 9 i.toNatClampNeg)] σ) := q_iald t71_51 rfl (by decide +kernel) rfl
theorem t71_52 : decode (mb 71) 52 = .ok (.istore_n 2, 1) := by decide +kernel
theorem s71_52 (d : Nat) (l0 : Value) (i1 : Int32) (l2 : Value) (l3 : Value) (x : Int32) (σ : Hs) : ru d 71 52 [l0, .int i1, l2, l3] [.int x] σ = ru d 71 53 [l0, .int i1, .int x, l3] [] σ := q_istore_n t71_52 ⟨Nat.le_of_ble_eq_true rfl, rfl⟩ rfl
theorem t71_53 : decode (mb 71) 53 = .ok (.iconst 0, 1) := by decide +kernel
theorem s71_53 (d : Nat) (l0 : Value) (l1 : Value) (l2 : Value) (l3 : Value) (σ : Hs) : ru d 71 53 [l0, l1, l2, l3] [] σ = ru d 71 54 [l0, l1, l2, l3] [.int 0] σ := q_iconst t71_53 (by decide +kernel)
theorem t71_54 : decode (mb 71) 54 = .ok (.istore_n 3, 1) := by decide +kernel
theorem s71_54 (d : Nat) (l0 : Value) (l1 : Value) (i2 : Int32) (l3 : Value) (x : Int32) (σ : Hs) : ru d 71 54 [l0, l1, .int i2, l3] [.int x] σ = ru d 71 55 [l0, l1, .int i2, .int x] [] σ := q_istore_n t71_54 ⟨Nat.le_of_ble_eq_true rfl, rfl⟩ rfl
theorem t71_55 : decode (mb 71) 55 = .ok (.iload_n 3, 1) := by decide +kernel
theorem s71_55 (d : Nat) (l0 : Value) (l1 : Value) (l2 : Value) (i3 : Int32) (σ : Hs) : ru d 71 55 [l0, l1, l2, .int i3] [] σ = ru d 71 56 [l0, l1, l2, .int i3] [.int i3] σ := q_iload_n t71_55 rfl
theorem t71_56 : decode (mb 71) 56 = .ok (.iload_n 1, 1) := by decide +kernel
theorem s71_56 (d : Nat) (l0 : Value) (i1 : Int32) (l2 : Value) (l3 : Value) (w0 : Value) (σ : Hs) : ru d 71 56 [l0, .int i1, l2, l3] [w0] σ = ru d 71 57 [l0, .int i1, l2, l3] [.int i1, w0] σ := q_iload_n t71_56 rfl
theorem t71_57 : decode (mb 71) 57 = .ok (.if_icmp .ge 49, 3) := by decide +kernel
theorem s71_57 (d : Nat) (l0 : Value) (l1 : Value) (l2 : Value) (l3 : Value) (x y : Int32) (σ : Hs) : ru d 71 57 [l0, l1, l2, l3] [.int y, .int x] σ = if y ≤ x then ru d 71 106 [l0, l1, l2, l3] [] σ else ru d 71 60 [l0, l1, l2, l3] [] σ := q_ic_ge t71_57 (by decide +kernel)
theorem t71_60 : decode (mb 71) 60 = .ok (.aload_n 0, 1) := by decide +kernel
theorem s71_60 (d : Nat) (a0 : Nat) (l1 : Value) (l2 : Value) (l3 : Value) (σ : Hs) : ru d 71 60 [.ref a0, l1, l2, l3] [] σ = ru d 71 61 [.ref a0, l1, l2, l3] [.ref a0] σ := q_aload_n t71_60 rfl
theorem t71_61 : decode (mb 71) 61 = .ok (.getfield 10, 3) := by decide +kernel
theorem s71_61_o0 (d : Nat) (l0 : Value) (l1 : Value) (l2 : Value) (l3 : Value) (σ : Hs) : ru d 71 61 [l0, l1, l2, l3] [.ref 0] σ = ru d 71 64 [l0, l1, l2, l3] [.ref 1] σ := q_getf t71_61 mo71 F7_10 rfl rfl
theorem t71_64 : decode (mb 71) 64 = .ok (.getfield 58, 3) := by decide +kernel
theorem s71_64_o1 (d : Nat) (l0 : Value) (l1 : Value) (l2 : Value) (l3 : Value) (σ : Hs) : ru d 71 64 [l0, l1, l2, l3] [.ref 1] σ = ru d 71 67 [l0, l1, l2, l3] [.ref 2] σ := q_getf t71_64 mo71 F7_58 rfl rfl
theorem t71_67 : decode (mb 71) 67 = .ok (.getfield 124, 3) := by decide +kernel
theorem s71_67_o2 (d : Nat) (l0 : Value) (l1 : Value) (l2 : Value) (l3 : Value) (σ : Hs) : ru d 71 67 [l0, l1, l2, l3] [.ref 2] σ = ru d 71 70 [l0, l1, l2, l3] [.ref 9] σ := q_getf t71_67 mo71 F7_124 rfl rfl
theorem t71_70 : decode (mb 71) 70 = .ok (.iconst 1, 1) := by decide +kernel
theorem s71_70 (d : Nat) (l0 : Value) (l1 : Value) (l2 : Value) (l3 : Value) (w0 : Value) (σ : Hs) : ru d 71 70 [l0, l1, l2, l3] [w0] σ = ru d 71 71 [l0, l1, l2, l3] [.int 1, w0] σ := q_iconst t71_70 (by decide +kernel)
theorem t71_71 : decode (mb 71) 71 = .ok (.aload_n 0, 1) := by decide +kernel
theorem s71_71 (d : Nat) (a0 : Nat) (l1 : Value) (l2 : Value) (l3 : Value) (w0 w1 : Value) (σ : Hs) : ru d 71 71 [.ref a0, l1, l2, l3] [w0, w1] σ = ru d 71 72 [.ref a0, l1, l2, l3] [.ref a0, w0, w1] σ := q_aload_n t71_71 rfl
theorem t71_72 : decode (mb 71) 72 = .ok (.getfield 10, 3) := by decide +kernel
theorem s71_72_o0 (d : Nat) (l0 : Value) (l1 : Value) (l2 : Value) (l3 : Value) (w0 w1 : Value) (σ : Hs) : ru d 71 72 [l0, l1, l2, l3] [.ref 0, w0, w1] σ = ru d 71 75 [l0, l1, l2, l3] [.ref 1, w0, w1] σ := q_getf t71_72 mo71 F7_10 rfl rfl
theorem t71_75 : decode (mb 71) 75 = .ok (.invokevirtual 172, 3) := by decide +kernel
theorem s71_75_o1 (d : Nat) (l0 : Value) (l1 : Value) (l2 : Value) (l3 : Value) (w0 : Int32) (w1 : Nat) (σ : Hs) : ru d 71 75 [l0, l1, l2, l3] [.ref 1, .int w0, .ref w1] σ = kont (callD d 51 [.ref 1] σ) d 71 78 [l0, l1, l2, l3] [.int w0, .ref w1] := q_invv t71_75 mo71 K7_172 mj51 rfl rfl rfl rfl (Nat.le_of_ble_eq_true rfl)
theorem t71_78 : decode (mb 71) 78 = .ok (.bipush 100, 2) := by decide +kernel
theorem s71_78 (d : Nat) (l0 : Value) (l1 : Value) (l2 : Value) (l3 : Value) (w0 w1 w2 : Value) (σ : Hs) : ru d 71 78 [l0, l1, l2, l3] [w0, w1, w2] σ = ru d 71 80 [l0, l1, l2, l3] [.int 100, w0, w1, w2] σ := q_bipush t71_78 (by decide +kernel)
theorem t71_80 : decode (mb 71) 80 = .ok (.irem, 1) := by decide +kernel
theorem s71_80 (d : Nat) (l0 : Value) (l1 : Value) (l2 : Value) (l3 : Value) (x y : Int32) (w0 w1 : Value) (σ : Hs) : ru d 71 80 [l0, l1, l2, l3] [.int y, .int x, w0, w1] σ = gd (¬ y = 0) (ru d 71 81 [l0, l1, l2, l3] [.int (x - x / y * y), w0, w1] σ) := q_irem t71_80
theorem t71_81 : decode (mb 71) 81 = .ok (.iastore, 1) := by decide +kernel
theorem s71_81_o9 (d : Nat) (l0 : Value) (l1 : Value) (l2 : Value) (l3 : Value) (i x : Int32) (σ : Hs) : ru d 71 81 [l0, l1, l2, l3] [.int x, .int i, .ref 9] σ = gd (vp_in i 5) (ru d 71 82 [l0, l1, l2, l3] [] (up2 σ 9 i.toNatClampNeg x)) := q_iast t71_81 (by decide +kernel) rfl rfl
theorem t71_82 : decode (mb 71) 82 = .ok (.aload_n 0, 1) := by decide +kernel
theorem s71_82 (d : Nat) (a0 : Nat) (l1 : Value) (l2 : Value) (l3 : Value) (σ : Hs) : ru d 71 82 [.ref a0, l1, l2, l3] [] σ = ru d 71 83 [.ref a0, l1, l2, l3] [.ref a0] σ := q_aload_n t71_82 rfl
theorem t71_83 : decode (mb 71) 83 = .ok (.getfield 10, 3) := by decide +kernel
theorem s71_83_o0 (d : Nat) (l0 : Value) (l1 : Value) (l2 : Value) (l3 : Value) (σ : Hs) : ru d 71 83 [l0, l1, l2, l3] [.ref 0] σ = ru d 71 86 [l0, l1, l2, l3] [.ref 1] σ := q_getf t71_83 mo71 F7_10 rfl rfl
theorem t71_86 : decode (mb 71) 86 = .ok (.getfield 58, 3) := by decide +kernel
theorem s71_86_o1 (d : Nat) (l0 : Value) (l1 : Value) (l2 : Value) (l3 : Value) (σ : Hs) : ru d 71 86 [l0, l1, l2, l3] [.ref 1] σ = ru d 71 89 [l0, l1, l2, l3] [.ref 2] σ := q_getf t71_86 mo71 F7_58 rfl rfl
theorem t71_89 : decode (mb 71) 89 = .ok (.iconst 1, 1) := by decide +kernel
theorem s71_89 (d : Nat) (l0 : Value) (l1 : Value) (l2 : Value) (l3 : Value) (w0 : Value) (σ : Hs) : ru d 71 89 [l0, l1, l2, l3] [w0] σ = ru d 71 90 [l0, l1, l2, l3] [.int 1, w0] σ := q_iconst t71_89 (by decide +kernel)
theorem t71_90 : decode (mb 71) 90 = .ok (.aload_n 0, 1) := by decide +kernel
theorem s71_90 (d : Nat) (a0 : Nat) (l1 : Value) (l2 : Value) (l3 : Value) (w0 w1 : Value) (σ : Hs) : ru d 71 90 [.ref a0, l1, l2, l3] [w0, w1] σ = ru d 71 91 [.ref a0, l1, l2, l3] [.ref a0, w0, w1] σ := q_aload_n t71_90 rfl
theorem t71_91 : decode (mb 71) 91 = .ok (.getfield 10, 3) := by decide +kernel
theorem s71_91_o0 (d : Nat) (l0 : Value) (l1 : Value) (l2 : Value) (l3 : Value) (w0 w1 : Value) (σ : Hs) : ru d 71 91 [l0, l1, l2, l3] [.ref 0, w0, w1] σ = ru d 71 94 [l0, l1, l2, l3] [.ref 1, w0, w1] σ := q_getf t71_91 mo71 F7_10 rfl rfl
theorem t71_94 : decode (mb 71) 94 = .ok (.getfield 146, 3) := by decide +kernel
theorem s71_94_o1 (d : Nat) (l0 : Value) (l1 : Value) (l2 : Value) (l3 : Value) (w0 w1 : Value) (σ : Hs) : ru d 71 94 [l0, l1, l2, l3] [.ref 1, w0, w1] σ = ru d 71 97 [l0, l1, l2, l3] [.ref 13, w0, w1] σ := q_getf t71_94 mo71 F7_146 rfl rfl
theorem t71_97 : decode (mb 71) 97 = .ok (.invokevirtual 168, 3) := by decide +kernel
theorem s71_97_o2 (d : Nat) (l0 : Value) (l1 : Value) (l2 : Value) (l3 : Value) (v1 v2 : Value) (σ : Hs) : ru d 71 97 [l0, l1, l2, l3] [v2, v1, .ref 2] σ = kont (callD d 13 [.ref 2, v1, v2] σ) d 71 100 [l0, l1, l2, l3] [] := q_invv t71_97 mo71 K7_168 mj13 rfl rfl rfl rfl (Nat.le_of_ble_eq_true rfl)
theorem t71_100 : decode (mb 71) 100 = .ok (.iinc 3 1, 3) := by decide +kernel
theorem s71_100 (d : Nat) (l0 : Value) (l1 : Value) (i2 : Int32) (i3 : Int32) (σ : Hs) : ru d 71 100 [l0, l1, .int i2, .int i3] [] σ = ru d 71 103 [l0, l1, .int i2, .int (i3 + 1)] [] σ := q_iinc t71_100 ⟨Nat.le_of_ble_eq_true rfl, rfl⟩ rfl (by decide +kernel) rfl
theorem t71_103 : decode (mb 71) 103 = .ok (.goto (-48), 3) := by decide +kernel
theorem s71_103 (d : Nat) (l0 : Value) (l1 : Value) (l2 : Value) (l3 : Value) (σ : Hs) : ru d 71 103 [l0, l1, l2, l3] [] σ = ru d 71 55 [l0, l1, l2, l3] [] σ := q_goto t71_103 (by decide +kernel)
theorem t71_106 : decode (mb 71) 106 = .ok (.aload_n 0, 1) := by decide +kernel
theorem s71_106 (d : Nat) (a0 : Nat) (l1 : Value) (l2 : Value) (l3 : Value) (σ : Hs) : ru d 71 106 [.ref a0, l1, l2, l3] [] σ = ru d 71 107 [.ref a0, l1, l2, l3] [.ref a0] σ := q_aload_n t71_106 rfl
theorem t71_107 : decode (mb 71) 107 = .ok (.getfield 10, 3) := by decide +kernel
theorem s71_107_o0 (d : Nat) (l0 : Value) (l1 : Value) (l2 : Value) (l3 : Value) (σ : Hs) : ru d 71 107 [l0, l1, l2, l3] [.ref 0] σ = ru d 71 110 [l0, l1, l2, l3] [.ref 1] σ := q_getf t71_107 mo71 F7_10 rfl rfl
theorem t71_110 : decode (mb 71) 110 = .ok (.getfield 58, 3) := by decide +kernel
theorem s71_110_o1 (d : Nat) (l0 : Value) (l1 : Value) (l2 : Value) (l3 : Value) (σ : Hs) : ru d 71 110 [l0, l1, l2, l3] [.ref 1] σ = ru d 71 113 [l0, l1, l2, l3] [.ref 2] σ := q_getf t71_110 mo71 F7_58 rfl rfl
theorem t71_113 : decode (mb 71) 113 = .ok (.getfield 124, 3) := by decide +kernel
theorem s71_113_o2 (d : Nat) (l0 : Value) (l1 : Value) (l2 : Value) (l3 : Value) (σ : Hs) : ru d 71 113 [l0, l1, l2, l3] [.ref 2] σ = ru d 71 116 [l0, l1, l2, l3] [.ref 9] σ := q_getf t71_113 mo71 F7_124 rfl rfl
theorem t71_116 : decode (mb 71) 116 = .ok (.iconst 1, 1) := by decide +kernel
theorem s71_116 (d : Nat) (l0 : Value) (l1 : Value) (l2 : Value) (l3 : Value) (w0 : Value) (σ : Hs) : ru d 71 116 [l0, l1, l2, l3] [w0] σ = ru d 71 117 [l0, l1, l2, l3] [.int 1, w0] σ := q_iconst t71_116 (by decide +kernel)
theorem t71_117 : decode (mb 71) 117 = .ok (.iload_n 2, 1) := by decide +kernel
theorem s71_117 (d : Nat) (l0 : Value) (l1 : Value) (i2 : Int32) (l3 : Value) (w0 w1 : Value) (σ : Hs) : ru d 71 117 [l0, l1, .int i2, l3] [w0, w1] σ = ru d 71 118 [l0, l1, .int i2, l3] [.int i2, w0, w1] σ := q_iload_n t71_117 rfl
theorem t71_118 : decode (mb 71) 118 = .ok (.iastore, 1) := by decide +kernel
theorem s71_118_o9 (d : Nat) (l0 : Value) (l1 : Value) (l2 : Value) (l3 : Value) (i x : Int32) (σ : Hs) : ru d 71 118 [l0, l1, l2, l3] [.int x, .int i, .ref 9] σ = gd (vp_in i 5) (ru d 71 119 [l0, l1, l2, l3] [] (up2 σ 9 i.toNatClampNeg x)) := q_iast t71_118 (by decide +kernel) rfl rfl
theorem t71_119 : decode (mb 71) 119 = .ok (.aload_n 0, 1) := by decide +kernel
theorem s71_119 (d : Nat) (a0 : Nat) (l1 : Value) (l2 : Value) (l3 : Value) (σ : Hs) : ru d 71 119 [.ref a0, l1, l2, l3] [] σ = ru d 71 120 [.ref a0, l1, l2, l3] [.ref a0] σ := q_aload_n t71_119 rfl
theorem t71_120 : decode (mb 71) 120 = .ok (.getfield 10, 3) := by decide +kernel
theorem s71_120_o0 (d : Nat) (l0 : Value) (l1 : Value) (l2 : Value) (l3 : Value) (σ : Hs) : ru d 71 120 [l0, l1, l2, l3] [.ref 0] σ = ru d 71 123 [l0, l1, l2, l3] [.ref 1] σ := q_getf t71_120 mo71 F7_10 rfl rfl
theorem t71_123 : decode (mb 71) 123 = .ok (.getfield 58, 3) := by decide +kernel
theorem s71_123_o1 (d : Nat) (l0 : Value) (l1 : Value) (l2 : Value) (l3 : Value) (σ : Hs) : ru d 71 123 [l0, l1, l2, l3] [.ref 1] σ = ru d 71 126 [l0, l1, l2, l3] [.ref 2] σ := q_getf t71_123 mo71 F7_58 rfl rfl
theorem t71_126 : decode (mb 71) 126 = .ok (.getfield 164, 3) := by decide +kernel
theorem s71_126_o2 (d : Nat) (l0 : Value) (l1 : Value) (l2 : Value) (l3 : Value) (σ : Hs) : ru d 71 126 [l0, l1, l2, l3] [.ref 2] σ = ru d 71 129 [l0, l1, l2, l3] [.int (σ 2 13)] σ := q_getf t71_126 mo71 F7_164 rfl rfl
theorem t71_129 : decode (mb 71) 129 = .ok (.ireturn, 1) := by decide +kernel
theorem s71_129 (d : Nat) (l0 : Value) (l1 : Value) (l2 : Value) (l3 : Value) (x : Int32) (σ : Hs) : ru d 71 129 [l0, l1, l2, l3] [.int x] σ = some (some (.int x), σ) := q_ireti t71_129 mr71
theorem c71 (d : Nat) (x0 : Nat) (x1 : Int32) (σ : Hs) : callD (d + 1) 71 [.ref x0, .int x1] σ = ru d 71 0 [.ref x0, .int x1, uu, uu] [] σ := callD_ru ml71 rfl rfl (Nat.le_of_ble_eq_true rfl)
-- 72: SmokyHeap.seed(I)I
theorem t72_0 : decode (mb 72) 0 = .ok (.aload_n 0, 1) := by decide +kernel
theorem s72_0 (d : Nat) (a0 : Nat) (l1 : Value) (l2 : Value) (σ : Hs) : ru d 72 0 [.ref a0, l1, l2] [] σ = ru d 72 1 [.ref a0, l1, l2] [.ref a0] σ := q_aload_n t72_0 rfl
theorem t72_1 : decode (mb 72) 1 = .ok (.getfield 10, 3) := by decide +kernel
theorem s72_1_o0 (d : Nat) (l0 : Value) (l1 : Value) (l2 : Value) (σ : Hs) : ru d 72 1 [l0, l1, l2] [.ref 0] σ = ru d 72 4 [l0, l1, l2] [.ref 1] σ := q_getf t72_1 mo72 F7_10 rfl rfl
theorem t72_4 : decode (mb 72) 4 = .ok (.getfield 176, 3) := by decide +kernel
theorem s72_4_o1 (d : Nat) (l0 : Value) (l1 : Value) (l2 : Value) (σ : Hs) : ru d 72 4 [l0, l1, l2] [.ref 1] σ = ru d 72 7 [l0, l1, l2] [.int (σ 1 6)] σ := q_getf t72_4 mo72 F7_176 rfl rfl
theorem t72_7 : decode (mb 72) 7 = .ok (.istore_n 2, 1) := by decide +kernel
theorem s72_7 (d : Nat) (l0 : Value) (i1 : Int32) (l2 : Value) (x : Int32) (σ : Hs) : ru d 72 7 [l0, .int i1, l2] [.int x] σ = ru d 72 8 [l0, .int i1, .int x] [] σ := q_istore_n t72_7 ⟨Nat.le_of_ble_eq_true rfl, rfl⟩ rfl
theorem t72_8 : decode (mb 72) 8 = .ok (.aload_n 0, 1) := by decide +kernel
theorem s72_8 (d : Nat) (a0 : Nat) (l1 : Value) (l2 : Value) (σ : Hs) : ru d 72 8 [.ref a0, l1, l2] [] σ = ru d 72 9 [.ref a0, l1, l2] [.ref a0] σ := q_aload_n t72_8 rfl
theorem t72_9 : decode (mb 72) 9 = .ok (.getfield 10, 3) := by decide +kernel
theorem s72_9_o0 (d : Nat) (l0 : Value) (l1 : Value) (l2 : Value) (σ : Hs) : ru d 72 9 [l0, l1, l2] [.ref 0] σ = ru d 72 12 [l0, l1, l2] [.ref 1] σ := q_getf t72_9 mo72 F7_10 rfl rfl
theorem t72_12 : decode (mb 72) 12 = .ok (.iload_n 1, 1) := by decide +kernel
theorem s72_12 (d : Nat) (l0 : Value) (i1 : Int32) (l2 : Value) (w0 : Value) (σ : Hs) : ru d 72 12 [l0, .int i1, l2] [w0] σ = ru d 72 13 [l0, .int i1, l2] [.int i1, w0] σ := q_iload_n t72_12 rfl
theorem t72_13 : decode (mb 72) 13 = .ok (.putfield 176, 3) := by decide +kernel
theorem s72_13_o1 (d : Nat) (l0 : Value) (l1 : Value) (l2 : Value) (x : Int32) (σ : Hs) : ru d 72 13 [l0, l1, l2] [.int x, .ref 1] σ = ru d 72 16 [l0, l1, l2] [] (up2 σ 1 6 x) := q_puti t72_13 mo72 F7_176 (by decide +kernel) rfl rfl
theorem t72_16 : decode (mb 72) 16 = .ok (.iload_n 2, 1) := by decide +kernel
theorem s72_16 (d : Nat) (l0 : Value) (l1 : Value) (i2 : Int32) (σ : Hs) : ru d 72 16 [l0, l1, .int i2] [] σ = ru d 72 17 [l0, l1, .int i2] [.int i2] σ := q_iload_n t72_16 rfl
theorem t72_17 : decode (mb 72) 17 = .ok (.ireturn, 1) := by decide +kernel
theorem s72_17 (d : Nat) (l0 : Value) (l1 : Value) (l2 : Value) (x : Int32) (σ : Hs) : ru d 72 17 [l0, l1, l2] [.int x] σ = some (some (.int x), σ) := q_ireti t72_17 mr72
theorem c72 (d : Nat) (x0 : Nat) (x1 : Int32) (σ : Hs) : callD (d + 1) 72 [.ref x0, .int x1] σ = ru d 72 0 [.ref x0, .int x1, uu] [] σ := callD_ru ml72 rfl rfl (Nat.le_of_ble_eq_true rfl)
-- 73: SmokyHeap.washing(III)I
theorem t73_0 : decode (mb 73) 0 = .ok (.iload_n 1, 1) := by decide +kernel
theorem s73_0 (d : Nat) (l0 : Value) (i1 : Int32) (l2 : Value) (l3 : Value) (l4 : Value) (l5 : Value) (σ : Hs) : ru d 73 0 [l0, .int i1, l2, l3, l4, l5] [] σ = ru d 73 1 [l0, .int i1, l2, l3, l4, l5] [.int i1] σ := q_iload_n t73_0 rfl
theorem t73_1 : decode (mb 73) 1 = .ok (.invokestatic 179, 3) := by decide +kernel
theorem s73_1 (d : Nat) (l0 : Value) (l1 : Value) (l2 : Value) (l3 : Value) (l4 : Value) (l5 : Value) (v0 : Value) (σ : Hs) : ru d 73 1 [l0, l1, l2, l3, l4, l5] [v0] σ = kont (callD d 106 [v0] σ) d 73 4 [l0, l1, l2, l3, l4, l5] [] := q_invs t73_1 mo73 (by decide +kernel) K7_179 mj106 (Nat.le_of_ble_eq_true rfl) rfl rfl (Nat.le_of_ble_eq_true rfl)
theorem t73_4 : decode (mb 73) 4 = .ok (.ifCond .eq 23, 3) := by decide +kernel
theorem s73_4 (d : Nat) (l0 : Value) (l1 : Value) (l2 : Value) (l3 : Value) (l4 : Value) (l5 : Value) (x : Int32) (σ : Hs) : ru d 73 4 [l0, l1, l2, l3, l4, l5] [.int x] σ = if x = 0 then ru d 73 27 [l0, l1, l2, l3, l4, l5] [] σ else ru d 73 7 [l0, l1, l2, l3, l4, l5] [] σ := q_if_eq t73_4 (by decide +kernel)
theorem t73_7 : decode (mb 73) 7 = .ok (.iload_n 2, 1) := by decide +kernel
theorem s73_7 (d : Nat) (l0 : Value) (l1 : Value) (i2 : Int32) (l3 : Value) (l4 : Value) (l5 : Value) (σ : Hs) : ru d 73 7 [l0, l1, .int i2, l3, l4, l5] [] σ = ru d 73 8 [l0, l1, .int i2, l3, l4, l5] [.int i2] σ := q_iload_n t73_7 rfl
theorem t73_8 : decode (mb 73) 8 = .ok (.iconst 0, 1) := by decide +kernel
theorem s73_8 (d : Nat) (l0 : Value) (l1 : Value) (l2 : Value) (l3 : Value) (l4 : Value) (l5 : Value) (w0 : Value) (σ : Hs) : ru d 73 8 [l0, l1, l2, l3, l4, l5] [w0] σ = ru d 73 9 [l0, l1, l2, l3, l4, l5] [.int 0, w0] σ := q_iconst t73_8 (by decide +kernel)
theorem t73_9 : decode (mb 73) 9 = .ok (.bipush 23, 2) := by decide +kernel
theorem s73_9 (d : Nat) (l0 : Value) (l1 : Value) (l2 : Value) (l3 : Value) (l4 : Value) (l5 : Value) (w0 w1 : Value) (σ : Hs) : ru d 73 9 [l0, l1, l2, l3, l4, l5] [w0, w1] σ = ru d 73 11 [l0, l1, l2, l3, l4, l5] [.int 23, w0, w1] σ := q_bipush t73_9 (by decide +kernel)
theorem t73_11 : decode (mb 73) 11 = .ok (.invokestatic 83, 3) := by decide +kernel
theorem s73_11 (d : Nat) (l0 : Value) (l1 : Value) (l2 : Value) (l3 : Value) (l4 : Value) (l5 : Value) (v0 v1 v2 : Value) (σ : Hs) : ru d 73 11 [l0, l1, l2, l3, l4, l5] [v2, v1, v0] σ = kont (callD d 102 [v0, v1, v2] σ) d 73 14 [l0, l1, l2, l3, l4, l5] [] := q_invs t73_11 mo73 (by decide +kernel) K7_83 mj102 (Nat.le_of_ble_eq_true rfl) rfl rfl (Nat.le_of_ble_eq_true rfl)
theorem t73_14 : decode (mb 73) 14 = .ok (.ifCond .eq 13, 3) := by decide +kernel
theorem s73_14 (d : Nat) (l0 : Value) (l1 : Value) (l2 : Value) (l3 : Value) (l4 : Value) (l5 : Value) (x : Int32) (σ : Hs) : ru d 73 14 [l0, l1, l2, l3, l4, l5] [.int x] σ = if x = 0 then ru d 73 27 [l0, l1, l2, l3, l4, l5] [] σ else ru d 73 17 [l0, l1, l2, l3, l4, l5] [] σ := q_if_eq t73_14 (by decide +kernel)
theorem t73_17 : decode (mb 73) 17 = .ok (.iload_n 3, 1) := by decide +kernel
theorem s73_17 (d : Nat) (l0 : Value) (l1 : Value) (l2 : Value) (i3 : Int32) (l4 : Value) (l5 : Value) (σ : Hs) : ru d 73 17 [l0, l1, l2, .int i3, l4, l5] [] σ = ru d 73 18 [l0, l1, l2, .int i3, l4, l5] [.int i3] σ := q_iload_n t73_17 rfl
theorem t73_18 : decode (mb 73) 18 = .ok (.iconst 0, 1) := by decide +kernel
theorem s73_18 (d : Nat) (l0 : Value) (l1 : Value) (l2 : Value) (l3 : Value) (l4 : Value) (l5 : Value) (w0 : Value) (σ : Hs) : ru d 73 18 [l0, l1, l2, l3, l4, l5] [w0] σ = ru d 73 19 [l0, l1, l2, l3, l4, l5] [.int 0, w0] σ := q_iconst t73_18 (by decide +kernel)
theorem t73_19 : decode (mb 73) 19 = .ok (.bipush 23, 2) := by decide +kernel
theorem s73_19 (d : Nat) (l0 : Value) (l1 : Value) (l2 : Value) (l3 : Value) (l4 : Value) (l5 : Value) (w0 w1 : Value) (σ : Hs) : ru d 73 19 [l0, l1, l2, l3, l4, l5] [w0, w1] σ = ru d 73 21 [l0, l1, l2, l3, l4, l5] [.int 23, w0, w1] σ := q_bipush t73_19 (by decide +kernel)
theorem t73_21 : decode (mb 73) 21 = .ok (.invokestatic 83, 3) := by decide +kernel
theorem s73_21 (d : Nat) (l0 : Value) (l1 : Value) (l2 : Value) (l3 : Value) (l4 : Value) (l5 : Value) (v0 v1 v2 : Value) (σ : Hs) : ru d 73 21 [l0, l1, l2, l3, l4, l5] [v2, v1, v0] σ = kont (callD d 102 [v0, v1, v2] σ) d 73 24 [l0, l1, l2, l3, l4, l5] [] := q_invs t73_21 mo73 (by decide +kernel) K7_83 mj102 (Nat.le_of_ble_eq_true rfl) rfl rfl (Nat.le_of_ble_eq_true rfl)
theorem t73_24 : decode (mb 73) 24 = .ok (.ifCond .ne 9, 3) := by decide +kernel
theorem s73_24 (d : Nat) (l0 : Value) (l1 : Value) (l2 : Value) (l3 : Value) (l4 : Value) (l5 : Value) (x : Int32) (σ : Hs) : ru d 73 24 [l0, l1, l2, l3, l4, l5] [.int x] σ = if x = 0 then ru d 73 27 [l0, l1, l2, l3, l4, l5] [] σ else ru d 73 33 [l0, l1, l2, l3, l4, l5] [] σ := q_if_ne t73_24 (by decide +kernel)
theorem t73_27 : decode (mb 73) 27 = .ok (.aload_n 0, 1) := by decide +kernel
theorem s73_27 (d : Nat) (a0 : Nat) (l1 : Value) (l2 : Value) (l3 : Value) (l4 : Value) (l5 : Value) (σ : Hs) : ru d 73 27 [.ref a0, l1, l2, l3, l4, l5] [] σ = ru d 73 28 [.ref a0, l1, l2, l3, l4, l5] [.ref a0] σ := q_aload_n t73_27 rfl
theorem t73_28 : decode (mb 73) 28 = .ok (.iconst 1, 1) := by decide +kernel
theorem s73_28 (d : Nat) (l0 : Value) (l1 : Value) (l2 : Value) (l3 : Value) (l4 : Value) (l5 : Value) (w0 : Value) (σ : Hs) : ru d 73 28 [l0, l1, l2, l3, l4, l5] [w0] σ = ru d 73 29 [l0, l1, l2, l3, l4, l5] [.int 1, w0] σ := q_iconst t73_28 (by decide +kernel)
theorem t73_29 : decode (mb 73) 29 = .ok (.invokevirtual 65, 3) := by decide +kernel
theorem s73_29_o0 (d : Nat) (l0 : Value) (l1 : Value) (l2 : Value) (l3 : Value) (l4 : Value) (l5 : Value) (v1 : Value) (σ : Hs) : ru d 73 29 [l0, l1, l2, l3, l4, l5] [v1, .ref 0] σ = kont (callD d 99 [.ref 0, v1] σ) d 73 32 [l0, l1, l2, l3, l4, l5] [] := q_invv t73_29 mo73 K7_65 mj99 rfl rfl rfl rfl (Nat.le_of_ble_eq_true rfl)
theorem t73_32 : decode (mb 73) 32 = .ok (.ireturn, 1) := by decide +kernel
theorem s73_32 (d : Nat) (l0 : Value) (l1 : Value) (l2 : Value) (l3 : Value) (l4 : Value) (l5 : Value) (x : Int32) (σ : Hs) : ru d 73 32 [l0, l1, l2, l3, l4, l5] [.int x] σ = some (some (.int x), σ) := q_ireti t73_32 mr73
theorem t73_33 : decode (mb 73) 33 = .ok (.iconst 0, 1) := by decide +kernel
theorem s73_33 (d : Nat) (l0 : Value) (l1 : Value) (l2 : Value) (l3 : Value) (l4 : Value) (l5 : Value) (σ : Hs) : ru d 73 33 [l0, l1, l2, l3, l4, l5] [] σ = ru d 73 34 [l0, l1, l2, l3, l4, l5] [.int 0] σ := q_iconst t73_33 (by decide +kernel)
theorem t73_34 : decode (mb 73) 34 = .ok (.istore 4, 2) := by decide +kernel
theorem s73_34 (d : Nat) (l0 : Value) (l1 : Value) (l2 : Value) (i3 : Int32) (l4 : Value) (l5 : Value) (x : Int32) (σ : Hs) : ru d 73 34 [l0, l1, l2, .int i3, l4, l5] [.int x] σ = ru d 73 36 [l0, l1, l2, .int i3, .int x, l5] [] σ := q_istore t73_34 ⟨Nat.le_of_ble_eq_true rfl, rfl⟩ rfl
theorem t73_36 : decode (mb 73) 36 = .ok (.iload_n 2, 1) := by decide +kernel
theorem s73_36 (d : Nat) (l0 : Value) (l1 : Value) (i2 : Int32) (l3 : Value) (l4 : Value) (l5 : Value) (σ : Hs) : ru d 73 36 [l0, l1, .int i2, l3, l4, l5] [] σ = ru d 73 37 [l0, l1, .int i2, l3, l4, l5] [.int i2] σ := q_iload_n t73_36 rfl
theorem t73_37 : decode (mb 73) 37 = .ok (.istore 5, 2) := by decide +kernel
theorem s73_37 (d : Nat) (l0 : Value) (l1 : Value) (l2 : Value) (l3 : Value) (i4 : Int32) (l5 : Value) (x : Int32) (σ : Hs) : ru d 73 37 [l0, l1, l2, l3, .int i4, l5] [.int x] σ = ru d 73 39 [l0, l1, l2, l3, .int i4, .int x] [] σ := q_istore t73_37 ⟨Nat.le_of_ble_eq_true rfl, rfl⟩ rfl
theorem t73_39 : decode (mb 73) 39 = .ok (.iload 5, 2) := by decide +kernel
theorem s73_39 (d : Nat) (l0 : Value) (l1 : Value) (l2 : Value) (l3 : Value) (l4 : Value) (i5 : Int32) (σ : Hs) : ru d 73 39 [l0, l1, l2, l3, l4, .int i5] [] σ = ru d 73 41 [l0, l1, l2, l3, l4, .int i5] [.int i5] σ := q_iload t73_39 rfl
theorem t73_41 : decode (mb 73) 41 = .ok (.iload_n 3, 1) := by decide +kernel
theorem s73_41 (d : Nat) (l0 : Value) (l1 : Value) (l2 : Value) (i3 : Int32) (l4 : Value) (l5 : Value) (w0 : Value) (σ : Hs) : ru d 73 41 [l0, l1, l2, .int i3, l4, l5] [w0] σ = ru d 73 42 [l0, l1, l2, .int i3, l4, l5] [.int i3, w0] σ := q_iload_n t73_41 rfl
theorem t73_42 : decode (mb 73) 42 = .ok (.if_icmp .gt 18, 3) := by decide +kernel
theorem s73_42 (d : Nat) (l0 : Value) (l1 : Value) (l2 : Value) (l3 : Value) (l4 : Value) (l5 : Value) (x y : Int32) (σ : Hs) : ru d 73 42 [l0, l1, l2, l3, l4, l5] [.int y, .int x] σ = if y < x then ru d 73 60 [l0, l1, l2, l3, l4, l5] [] σ else ru d 73 45 [l0, l1, l2, l3, l4, l5] [] σ := q_ic_gt t73_42 (by decide +kernel)
theorem t73_45 : decode (mb 73) 45 = .ok (.iload 4, 2) := by decide +kernel
theorem s73_45 (d : Nat) (l0 : Value) (l1 : Value) (l2 : Value) (l3 : Value) (i4 : Int32) (l5 : Value) (σ : Hs) : ru d 73 45 [l0, l1, l2, l3, .int i4, l5] [] σ = ru d 73 47 [l0, l1, l2, l3, .int i4, l5] [.int i4] σ := q_iload t73_45 rfl
theorem t73_47 : decode (mb 73) 47 = .ok (.iconst 1, 1) := by decide +kernel
theorem s73_47 (d : Nat) (l0 : Value) (l1 : Value) (l2 : Value) (l3 : Value) (l4 : Value) (l5 : Value) (w0 : Value) (σ : Hs) : ru d 73 47 [l0, l1, l2, l3, l4, l5] [w0] σ = ru d 73 48 [l0, l1, l2, l3, l4, l5] [.int 1, w0] σ := q_iconst t73_47 (by decide +kernel)
theorem t73_48 : decode (mb 73) 48 = .ok (.iload 5, 2) := by decide +kernel
theorem s73_48 (d : Nat) (l0 : Value) (l1 : Value) (l2 : Value) (l3 : Value) (l4 : Value) (i5 : Int32) (w0 w1 : Value) (σ : Hs) : ru d 73 48 [l0, l1, l2, l3, l4, .int i5] [w0, w1] σ = ru d 73 50 [l0, l1, l2, l3, l4, .int i5] [.int i5, w0, w1] σ := q_iload t73_48 rfl
theorem t73_50 : decode (mb 73) 50 = .ok (.ishl, 1) := by decide +kernel
theorem s73_50 (d : Nat) (l0 : Value) (l1 : Value) (l2 : Value) (l3 : Value) (l4 : Value) (l5 : Value) (x y : Int32) (w0 : Value) (σ : Hs) : ru d 73 50 [l0, l1, l2, l3, l4, l5] [.int y, .int x, w0] σ = ru d 73 51 [l0, l1, l2, l3, l4, l5] [.int (x <<< (y &&& 31)), w0] σ := q_ishl t73_50
theorem t73_51 : decode (mb 73) 51 = .ok (.ior, 1) := by decide +kernel
theorem s73_51 (d : Nat) (l0 : Value) (l1 : Value) (l2 : Value) (l3 : Value) (l4 : Value) (l5 : Value) (x y : Int32) (σ : Hs) : ru d 73 51 [l0, l1, l2, l3, l4, l5] [.int y, .int x] σ = ru d 73 52 [l0, l1, l2, l3, l4, l5] [.int (x ||| y)] σ := q_ior t73_51
theorem t73_52 : decode (mb 73) 52 = .ok (.istore 4, 2) := by decide +kernel
theorem s73_52 (d : Nat) (l0 : Value) (l1 : Value) (l2 : Value) (i3 : Int32) (l4 : Value) (l5 : Value) (x : Int32) (σ : Hs) : ru d 73 52 [l0, l1, l2, .int i3, l4, l5] [.int x] σ = ru d 73 54 [l0, l1, l2, .int i3, .int x, l5] [] σ := q_istore t73_52 ⟨Nat.le_of_ble_eq_true rfl, rfl⟩ rfl
theorem t73_54 : decode (mb 73) 54 = .ok (.iinc 5 1, 3) := by decide +kernel
theorem s73_54 (d : Nat) (l0 : Value) (l1 : Value) (l2 : Value) (l3 : Value) (i4 : Int32) (i5 : Int32) (σ : Hs) : ru d 73 54 [l0, l1, l2, l3, .int i4, .int i5] [] σ = ru d 73 57 [l0, l1, l2, l3, .int i4, .int (i5 + 1)] [] σ := q_iinc t73_54 ⟨Nat.le_of_ble_eq_true rfl, rfl⟩ rfl (by decide +kernel) rfl
theorem t73_57 : decode (mb 73) 57 = .ok (.goto (-18), 3) := by decide +kernel
theorem s73_57 (d : Nat) (l0 : Value) (l1 : Value) (l2 : Value) (l3 : Value) (l4 : Value) (l5 : Value) (σ : Hs) : ru d 73 57 [l0, l1, l2, l3, l4, l5] [] σ = ru d 73 39 [l0, l1, l2, l3, l4, l5] [] σ := q_goto t73_57 (by decide +kernel)
theorem t73_60 : decode (mb 73) 60 = .ok (.aload_n 0, 1) := by decide +kernel
theorem s73_60 (d : Nat) (a0 : Nat) (l1 : Value) (l2 : Value) (l3 : Value) (l4 : Value) (l5 : Value) (σ : Hs) : ru d 73 60 [.ref a0, l1, l2, l3, l4, l5] [] σ = ru d 73 61 [.ref a0, l1, l2, l3, l4, l5] [.ref a0] σ := q_aload_n t73_60 rfl
theorem t73_61 : decode (mb 73) 61 = .ok (.getfield 10, 3) := by decide +kernel
theorem s73_61_o0 (d : Nat) (l0 : Value) (l1 : Value) (l2 : Value) (l3 : Value) (l4 : Value) (l5 : Value) (σ : Hs) : ru d 73 61 [l0, l1, l2, l3, l4, l5] [.ref 0] σ = ru d 73 64 [l0, l1, l2, l3, l4, l5] [.ref 1] σ := q_getf t73_61 mo73 F7_10 rfl rfl
theorem t73_64 : decode (mb 73) 64 = .ok (.getfield 58, 3) := by decide +kernel
theorem s73_64_o1 (d : Nat) (l0 : Value) (l1 : Value) (l2 : Value) (l3 : Value) (l4 : Value) (l5 : Value) (σ : Hs) : ru d 73 64 [l0, l1, l2, l3, l4, l5] [.ref 1] σ = ru d 73 67 [l0, l1, l2, l3, l4, l5] [.ref 2] σ := q_getf t73_64 mo73 F7_58 rfl rfl
theorem t73_67 : decode (mb 73) 67 = .ok (.getfield 182, 3) := by decide +kernel
theorem s73_67_o2 (d : Nat) (l0 : Value) (l1 : Value) (l2 : Value) (l3 : Value) (l4 : Value) (l5 : Value) (σ : Hs) : ru d 73 67 [l0, l1, l2, l3, l4, l5] [.ref 2] σ = ru d 73 70 [l0, l1, l2, l3, l4, l5] [.ref 10] σ := q_getf t73_67 mo73 F7_182 rfl rfl
theorem t73_70 : decode (mb 73) 70 = .ok (.iload_n 1, 1) := by decide +kernel
theorem s73_70 (d : Nat) (l0 : Value) (i1 : Int32) (l2 : Value) (l3 : Value) (l4 : Value) (l5 : Value) (w0 : Value) (σ : Hs) : ru d 73 70 [l0, .int i1, l2, l3, l4, l5] [w0] σ = ru d 73 71 [l0, .int i1, l2, l3, l4, l5] [.int i1, w0] σ := q_iload_n t73_70 rfl
theorem t73_71 : decode (mb 73) 71 = .ok (.iload 4, 2) := by decide +kernel
theorem s73_71 (d : Nat) (l0 : Value) (l1 : Value) (l2 : Value) (l3 : Value) (i4 : Int32) (l5 : Value) (w0 w1 : Value) (σ : Hs) : ru d 73 71 [l0, l1, l2, l3, .int i4, l5] [w0, w1] σ = ru d 73 73 [l0, l1, l2, l3, .int i4, l5] [.int i4, w0, w1] σ := q_iload t73_71 rfl
theorem t73_73 : decode (mb 73) 73 = .ok (.iastore, 1) := by decide +kernel
theorem s73_73_o10 (d : Nat) (l0 : Value) (l1 : Value) (l2 : Value) (l3 : Value) (l4 : Value) (l5 : Value) (i x : Int32) (σ : Hs) : ru d 73 73 [l0, l1, l2, l3, l4, l5] [.int x, .int i, .ref 10] σ = gd (vp_in i 9) (ru d 73 74 [l0, l1, l2, l3, l4, l5] [] (up2 σ 10 i.toNatClampNeg x)) := q_iast t73_73 (by decide +kernel) rfl rfl
theorem t73_74 : decode (mb 73) 74 = .ok (.iload 4, 2) := by decide +kernel
theorem s73_74 (d : Nat) (l0 : Value) (l1 : Value) (l2 : Value) (l3 : Value) (i4 : Int32) (l5 : Value) (σ : Hs) : ru d 73 74 [l0, l1, l2, l3, .int i4, l5] [] σ = ru d 73 76 [l0, l1, l2, l3, .int i4, l5] [.int i4] σ := q_iload t73_74 rfl
theorem t73_76 : decode (mb 73) 76 = .ok (.invokestatic 185, 3) := by decide +kernel
theorem s73_76 (d : Nat) (l0 : Value) (l1 : Value) (l2 : Value) (l3 : Value) (l4 : Value) (l5 : Value) (v0 : Value) (σ : Hs) : ru d 73 76 [l0, l1, l2, l3, l4, l5] [v0] σ = kont (callD d 222 [v0] σ) d 73 79 [l0, l1, l2, l3, l4, l5] [] := q_invs t73_76 mo73 (by decide +kernel) K7_185 mj222 (Nat.le_of_ble_eq_true rfl) rfl rfl (Nat.le_of_ble_eq_true rfl)
theorem t73_79 : decode (mb 73) 79 = .ok (.ireturn, 1) := by decide +kernel
theorem s73_79 (d : Nat) (l0 : Value) (l1 : Value) (l2 : Value) (l3 : Value) (l4 : Value) (l5 : Value) (x : Int32) (σ : Hs) : ru d 73 79 [l0, l1, l2, l3, l4, l5] [.int x] σ = some (some (.int x), σ) := q_ireti t73_79 mr73
theorem c73 (d : Nat) (x0 : Nat) (x1 : Int32) (x2 : Int32) (x3 : Int32) (σ : Hs) : callD (d + 1) 73 [.ref x0, .int x1, .int x2, .int x3] σ = ru d 73 0 [.ref x0, .int x1, .int x2, .int x3, uu, uu] [] σ := callD_ru ml73 rfl rfl (Nat.le_of_ble_eq_true rfl)
-- 74: SmokyHeap.garden(II)I
theorem t74_0 : decode (mb 74) 0 = .ok (.iload_n 1, 1) := by decide +kernel
theorem s74_0 (d : Nat) (l0 : Value) (i1 : Int32) (l2 : Value) (σ : Hs) : ru d 74 0 [l0, .int i1, l2] [] σ = ru d 74 1 [l0, .int i1, l2] [.int i1] σ := q_iload_n t74_0 rfl
theorem t74_1 : decode (mb 74) 1 = .ok (.invokestatic 179, 3) := by decide +kernel
theorem s74_1 (d : Nat) (l0 : Value) (l1 : Value) (l2 : Value) (v0 : Value) (σ : Hs) : ru d 74 1 [l0, l1, l2] [v0] σ = kont (callD d 106 [v0] σ) d 74 4 [l0, l1, l2] [] := q_invs t74_1 mo74 (by decide +kernel) K7_179 mj106 (Nat.le_of_ble_eq_true rfl) rfl rfl (Nat.le_of_ble_eq_true rfl)
theorem t74_4 : decode (mb 74) 4 = .ok (.ifCond .eq 12, 3) := by decide +kernel
theorem s74_4 (d : Nat) (l0 : Value) (l1 : Value) (l2 : Value) (x : Int32) (σ : Hs) : ru d 74 4 [l0, l1, l2] [.int x] σ = if x = 0 then ru d 74 16 [l0, l1, l2] [] σ else ru d 74 7 [l0, l1, l2] [] σ := q_if_eq t74_4 (by decide +kernel)
theorem t74_7 : decode (mb 74) 7 = .ok (.iload_n 2, 1) := by decide +kernel
theorem s74_7 (d : Nat) (l0 : Value) (l1 : Value) (i2 : Int32) (σ : Hs) : ru d 74 7 [l0, l1, .int i2] [] σ = ru d 74 8 [l0, l1, .int i2] [.int i2] σ := q_iload_n t74_7 rfl
theorem t74_8 : decode (mb 74) 8 = .ok (.iconst 0, 1) := by decide +kernel
theorem s74_8 (d : Nat) (l0 : Value) (l1 : Value) (l2 : Value) (w0 : Value) (σ : Hs) : ru d 74 8 [l0, l1, l2] [w0] σ = ru d 74 9 [l0, l1, l2] [.int 0, w0] σ := q_iconst t74_8 (by decide +kernel)
theorem t74_9 : decode (mb 74) 9 = .ok (.iconst 2, 1) := by decide +kernel
theorem s74_9 (d : Nat) (l0 : Value) (l1 : Value) (l2 : Value) (w0 w1 : Value) (σ : Hs) : ru d 74 9 [l0, l1, l2] [w0, w1] σ = ru d 74 10 [l0, l1, l2] [.int 2, w0, w1] σ := q_iconst t74_9 (by decide +kernel)
theorem t74_10 : decode (mb 74) 10 = .ok (.invokestatic 83, 3) := by decide +kernel
theorem s74_10 (d : Nat) (l0 : Value) (l1 : Value) (l2 : Value) (v0 v1 v2 : Value) (σ : Hs) : ru d 74 10 [l0, l1, l2] [v2, v1, v0] σ = kont (callD d 102 [v0, v1, v2] σ) d 74 13 [l0, l1, l2] [] := q_invs t74_10 mo74 (by decide +kernel) K7_83 mj102 (Nat.le_of_ble_eq_true rfl) rfl rfl (Nat.le_of_ble_eq_true rfl)
theorem t74_13 : decode (mb 74) 13 = .ok (.ifCond .ne 9, 3) := by decide +kernel
theorem s74_13 (d : Nat) (l0 : Value) (l1 : Value) (l2 : Value) (x : Int32) (σ : Hs) : ru d 74 13 [l0, l1, l2] [.int x] σ = if x = 0 then ru d 74 16 [l0, l1, l2] [] σ else ru d 74 22 [l0, l1, l2] [] σ := q_if_ne t74_13 (by decide +kernel)
theorem t74_16 : decode (mb 74) 16 = .ok (.aload_n 0, 1) := by decide +kernel
theorem s74_16 (d : Nat) (a0 : Nat) (l1 : Value) (l2 : Value) (σ : Hs) : ru d 74 16 [.ref a0, l1, l2] [] σ = ru d 74 17 [.ref a0, l1, l2] [.ref a0] σ := q_aload_n t74_16 rfl
theorem t74_17 : decode (mb 74) 17 = .ok (.iconst 1, 1) := by decide +kernel
theorem s74_17 (d : Nat) (l0 : Value) (l1 : Value) (l2 : Value) (w0 : Value) (σ : Hs) : ru d 74 17 [l0, l1, l2] [w0] σ = ru d 74 18 [l0, l1, l2] [.int 1, w0] σ := q_iconst t74_17 (by decide +kernel)
theorem t74_18 : decode (mb 74) 18 = .ok (.invokevirtual 65, 3) := by decide +kernel
theorem s74_18_o0 (d : Nat) (l0 : Value) (l1 : Value) (l2 : Value) (v1 : Value) (σ : Hs) : ru d 74 18 [l0, l1, l2] [v1, .ref 0] σ = kont (callD d 99 [.ref 0, v1] σ) d 74 21 [l0, l1, l2] [] := q_invv t74_18 mo74 K7_65 mj99 rfl rfl rfl rfl (Nat.le_of_ble_eq_true rfl)
theorem t74_21 : decode (mb 74) 21 = .ok (.ireturn, 1) := by decide +kernel
theorem s74_21 (d : Nat) (l0 : Value) (l1 : Value) (l2 : Value) (x : Int32) (σ : Hs) : ru d 74 21 [l0, l1, l2] [.int x] σ = some (some (.int x), σ) := q_ireti t74_21 mr74
theorem t74_22 : decode (mb 74) 22 = .ok (.aload_n 0, 1) := by decide +kernel
theorem s74_22 (d : Nat) (a0 : Nat) (l1 : Value) (l2 : Value) (σ : Hs) : ru d 74 22 [.ref a0, l1, l2] [] σ = ru d 74 23 [.ref a0, l1, l2] [.ref a0] σ := q_aload_n t74_22 rfl
theorem t74_23 : decode (mb 74) 23 = .ok (.getfield 10, 3) := by decide +kernel
theorem s74_23_o0 (d : Nat) (l0 : Value) (l1 : Value) (l2 : Value) (σ : Hs) : ru d 74 23 [l0, l1, l2] [.ref 0] σ = ru d 74 26 [l0, l1, l2] [.ref 1] σ := q_getf t74_23 mo74 F7_10 rfl rfl
theorem t74_26 : decode (mb 74) 26 = .ok (.getfield 58, 3) := by decide +kernel
theorem s74_26_o1 (d : Nat) (l0 : Value) (l1 : Value) (l2 : Value) (σ : Hs) : ru d 74 26 [l0, l1, l2] [.ref 1] σ = ru d 74 29 [l0, l1, l2] [.ref 2] σ := q_getf t74_26 mo74 F7_58 rfl rfl
theorem t74_29 : decode (mb 74) 29 = .ok (.iload_n 1, 1) := by decide +kernel
theorem s74_29 (d : Nat) (l0 : Value) (i1 : Int32) (l2 : Value) (w0 : Value) (σ : Hs) : ru d 74 29 [l0, .int i1, l2] [w0] σ = ru d 74 30 [l0, .int i1, l2] [.int i1, w0] σ := q_iload_n t74_29 rfl
theorem t74_30 : decode (mb 74) 30 = .ok (.iload_n 2, 1) := by decide +kernel
theorem s74_30 (d : Nat) (l0 : Value) (l1 : Value) (i2 : Int32) (w0 w1 : Value) (σ : Hs) : ru d 74 30 [l0, l1, .int i2] [w0, w1] σ = ru d 74 31 [l0, l1, .int i2] [.int i2, w0, w1] σ := q_iload_n t74_30 rfl
theorem t74_31 : decode (mb 74) 31 = .ok (.invokevirtual 190, 3) := by decide +kernel
theorem s74_31_o2 (d : Nat) (l0 : Value) (l1 : Value) (l2 : Value) (v1 v2 : Value) (σ : Hs) : ru d 74 31 [l0, l1, l2] [v2, v1, .ref 2] σ = kont (callD d 26 [.ref 2, v1, v2] σ) d 74 34 [l0, l1, l2] [] := q_invv t74_31 mo74 K7_190 mj26 rfl rfl rfl rfl (Nat.le_of_ble_eq_true rfl)
theorem t74_34 : decode (mb 74) 34 = .ok (.ireturn, 1) := by decide +kernel
theorem s74_34 (d : Nat) (l0 : Value) (l1 : Value) (l2 : Value) (x : Int32) (σ : Hs) : ru d 74 34 [l0, l1, l2] [.int x] σ = some (some (.int x), σ) := q_ireti t74_34 mr74
theorem c74 (d : Nat) (x0 : Nat) (x1 : Int32) (x2 : Int32) (σ : Hs) : callD (d + 1) 74 [.ref x0, .int x1, .int x2] σ = ru d 74 0 [.ref x0, .int x1, .int x2] [] σ := callD_ru ml74 rfl rfl (Nat.le_of_ble_eq_true rfl)
-- 75: SmokyHeap.heap(I)I
theorem t75_0 : decode (mb 75) 0 = .ok (.iload_n 1, 1) := by decide +kernel
theorem s75_0 (d : Nat) (l0 : Value) (i1 : Int32) (σ : Hs) : ru d 75 0 [l0, .int i1] [] σ = ru d 75 1 [l0, .int i1] [.int i1] σ := q_iload_n t75_0 rfl
theorem t75_1 : decode (mb 75) 1 = .ok (.iconst 0, 1) := by decide +kernel
theorem s75_1 (d : Nat) (l0 : Value) (l1 : Value) (w0 : Value) (σ : Hs) : ru d 75 1 [l0, l1] [w0] σ = ru d 75 2 [l0, l1] [.int 0, w0] σ := q_iconst t75_1 (by decide +kernel)
theorem t75_2 : decode (mb 75) 2 = .ok (.bipush 7, 2) := by decide +kernel
theorem s75_2 (d : Nat) (l0 : Value) (l1 : Value) (w0 w1 : Value) (σ : Hs) : ru d 75 2 [l0, l1] [w0, w1] σ = ru d 75 4 [l0, l1] [.int 7, w0, w1] σ := q_bipush t75_2 (by decide +kernel)
theorem t75_4 : decode (mb 75) 4 = .ok (.invokestatic 83, 3) := by decide +kernel
theorem s75_4 (d : Nat) (l0 : Value) (l1 : Value) (v0 v1 v2 : Value) (σ : Hs) : ru d 75 4 [l0, l1] [v2, v1, v0] σ = kont (callD d 102 [v0, v1, v2] σ) d 75 7 [l0, l1] [] := q_invs t75_4 mo75 (by decide +kernel) K7_83 mj102 (Nat.le_of_ble_eq_true rfl) rfl rfl (Nat.le_of_ble_eq_true rfl)
theorem t75_7 : decode (mb 75) 7 = .ok (.ifCond .ne 9, 3) := by decide +kernel
theorem s75_7 (d : Nat) (l0 : Value) (l1 : Value) (x : Int32) (σ : Hs) : ru d 75 7 [l0, l1] [.int x] σ = if x = 0 then ru d 75 10 [l0, l1] [] σ else ru d 75 16 [l0, l1] [] σ := q_if_ne t75_7 (by decide +kernel)
theorem t75_10 : decode (mb 75) 10 = .ok (.aload_n 0, 1) := by decide +kernel
theorem s75_10 (d : Nat) (a0 : Nat) (l1 : Value) (σ : Hs) : ru d 75 10 [.ref a0, l1] [] σ = ru d 75 11 [.ref a0, l1] [.ref a0] σ := q_aload_n t75_10 rfl
theorem t75_11 : decode (mb 75) 11 = .ok (.iconst 1, 1) := by decide +kernel
theorem s75_11 (d : Nat) (l0 : Value) (l1 : Value) (w0 : Value) (σ : Hs) : ru d 75 11 [l0, l1] [w0] σ = ru d 75 12 [l0, l1] [.int 1, w0] σ := q_iconst t75_11 (by decide +kernel)
theorem t75_12 : decode (mb 75) 12 = .ok (.invokevirtual 65, 3) := by decide +kernel
theorem s75_12_o0 (d : Nat) (l0 : Value) (l1 : Value) (v1 : Value) (σ : Hs) : ru d 75 12 [l0, l1] [v1, .ref 0] σ = kont (callD d 99 [.ref 0, v1] σ) d 75 15 [l0, l1] [] := q_invv t75_12 mo75 K7_65 mj99 rfl rfl rfl rfl (Nat.le_of_ble_eq_true rfl)
theorem t75_15 : decode (mb 75) 15 = .ok (.ireturn, 1) := by decide +kernel
theorem s75_15 (d : Nat) (l0 : Value) (l1 : Value) (x : Int32) (σ : Hs) : ru d 75 15 [l0, l1] [.int x] σ = some (some (.int x), σ) := q_ireti t75_15 mr75
theorem t75_16 : decode (mb 75) 16 = .ok (.aload_n 0, 1) := by decide +kernel
theorem s75_16 (d : Nat) (a0 : Nat) (l1 : Value) (σ : Hs) : ru d 75 16 [.ref a0, l1] [] σ = ru d 75 17 [.ref a0, l1] [.ref a0] σ := q_aload_n t75_16 rfl
theorem t75_17 : decode (mb 75) 17 = .ok (.getfield 10, 3) := by decide +kernel
theorem s75_17_o0 (d : Nat) (l0 : Value) (l1 : Value) (σ : Hs) : ru d 75 17 [l0, l1] [.ref 0] σ = ru d 75 20 [l0, l1] [.ref 1] σ := q_getf t75_17 mo75 F7_10 rfl rfl
theorem t75_20 : decode (mb 75) 20 = .ok (.getfield 58, 3) := by decide +kernel
theorem s75_20_o1 (d : Nat) (l0 : Value) (l1 : Value) (σ : Hs) : ru d 75 20 [l0, l1] [.ref 1] σ = ru d 75 23 [l0, l1] [.ref 2] σ := q_getf t75_20 mo75 F7_58 rfl rfl
theorem t75_23 : decode (mb 75) 23 = .ok (.iload_n 1, 1) := by decide +kernel
theorem s75_23 (d : Nat) (l0 : Value) (i1 : Int32) (w0 : Value) (σ : Hs) : ru d 75 23 [l0, .int i1] [w0] σ = ru d 75 24 [l0, .int i1] [.int i1, w0] σ := q_iload_n t75_23 rfl
theorem t75_24 : decode (mb 75) 24 = .ok (.invokevirtual 193, 3) := by decide +kernel
theorem s75_24_o2 (d : Nat) (l0 : Value) (l1 : Value) (v1 : Value) (σ : Hs) : ru d 75 24 [l0, l1] [v1, .ref 2] σ = kont (callD d 27 [.ref 2, v1] σ) d 75 27 [l0, l1] [] := q_invv t75_24 mo75 K7_193 mj27 rfl rfl rfl rfl (Nat.le_of_ble_eq_true rfl)
theorem t75_27 : decode (mb 75) 27 = .ok (.ireturn, 1) := by decide +kernel
theorem s75_27 (d : Nat) (l0 : Value) (l1 : Value) (x : Int32) (σ : Hs) : ru d 75 27 [l0, l1] [.int x] σ = some (some (.int x), σ) := q_ireti t75_27 mr75
theorem c75 (d : Nat) (x0 : Nat) (x1 : Int32) (σ : Hs) : callD (d + 1) 75 [.ref x0, .int x1] σ = ru d 75 0 [.ref x0, .int x1] [] σ := callD_ru ml75 rfl rfl (Nat.le_of_ble_eq_true rfl)
-- 76: SmokyHeap.may()I
theorem t76_0 : decode (mb 76) 0 = .ok (.aload_n 0, 1) := by decide +kernel
theorem s76_0 (d : Nat) (a0 : Nat) (σ : Hs) : ru d 76 0 [.ref a0] [] σ = ru d 76 1 [.ref a0] [.ref a0] σ := q_aload_n t76_0 rfl
theorem t76_1 : decode (mb 76) 1 = .ok (.invokevirtual 104, 3) := by decide +kernel
theorem s76_1_o0 (d : Nat) (l0 : Value) (σ : Hs) : ru d 76 1 [l0] [.ref 0] σ = kont (callD d 100 [.ref 0] σ) d 76 4 [l0] [] := q_invv t76_1 mo76 K7_104 mj100 rfl rfl rfl rfl (Nat.le_of_ble_eq_true rfl)
theorem t76_4 : decode (mb 76) 4 = .ok (.ifCond .eq 7, 3) := by decide +kernel
theorem s76_4 (d : Nat) (l0 : Value) (x : Int32) (σ : Hs) : ru d 76 4 [l0] [.int x] σ = if x = 0 then ru d 76 11 [l0] [] σ else ru d 76 7 [l0] [] σ := q_if_eq t76_4 (by decide +kernel)
theorem t76_7 : decode (mb 76) 7 = .ok (.iconst 1, 1) := by decide +kernel
theorem s76_7 (d : Nat) (l0 : Value) (σ : Hs) : ru d 76 7 [l0] [] σ = ru d 76 8 [l0] [.int 1] σ := q_iconst t76_7 (by decide +kernel)
theorem t76_8 : decode (mb 76) 8 = .ok (.goto 4, 3) := by decide +kernel
theorem s76_8 (d : Nat) (l0 : Value) (w0 : Value) (σ : Hs) : ru d 76 8 [l0] [w0] σ = ru d 76 12 [l0] [w0] σ := q_goto t76_8 (by decide +kernel)
theorem t76_11 : decode (mb 76) 11 = .ok (.iconst 0, 1) := by decide +kernel
theorem s76_11 (d : Nat) (l0 : Value) (σ : Hs) : ru d 76 11 [l0] [] σ = ru d 76 12 [l0] [.int 0] σ := q_iconst t76_11 (by decide +kernel)
theorem t76_12 : decode (mb 76) 12 = .ok (.ireturn, 1) := by decide +kernel
theorem s76_12 (d : Nat) (l0 : Value) (x : Int32) (σ : Hs) : ru d 76 12 [l0] [.int x] σ = some (some (.int x), σ) := q_ireti t76_12 mr76
theorem c76 (d : Nat) (x0 : Nat) (σ : Hs) : callD (d + 1) 76 [.ref x0] σ = ru d 76 0 [.ref x0] [] σ := callD_ru ml76 rfl rfl (Nat.le_of_ble_eq_true rfl)
-- 77: SmokyHeap.then(II)I
theorem t77_0 : decode (mb 77) 0 = .ok (.iload_n 1, 1) := by decide +kernel
theorem s77_0 (d : Nat) (l0 : Value) (i1 : Int32) (l2 : Value) (σ : Hs) : ru d 77 0 [l0, .int i1, l2] [] σ = ru d 77 1 [l0, .int i1, l2] [.int i1] σ := q_iload_n t77_0 rfl
theorem t77_1 : decode (mb 77) 1 = .ok (.invokestatic 196, 3) := by decide +kernel
theorem s77_1 (d : Nat) (l0 : Value) (l1 : Value) (l2 : Value) (v0 : Value) (σ : Hs) : ru d 77 1 [l0, l1, l2] [v0] σ = kont (callD d 108 [v0] σ) d 77 4 [l0, l1, l2] [] := q_invs t77_1 mo77 (by decide +kernel) K7_196 mj108 (Nat.le_of_ble_eq_true rfl) rfl rfl (Nat.le_of_ble_eq_true rfl)
theorem t77_4 : decode (mb 77) 4 = .ok (.ifCond .eq 13, 3) := by decide +kernel
theorem s77_4 (d : Nat) (l0 : Value) (l1 : Value) (l2 : Value) (x : Int32) (σ : Hs) : ru d 77 4 [l0, l1, l2] [.int x] σ = if x = 0 then ru d 77 17 [l0, l1, l2] [] σ else ru d 77 7 [l0, l1, l2] [] σ := q_if_eq t77_4 (by decide +kernel)
theorem t77_7 : decode (mb 77) 7 = .ok (.iload_n 2, 1) := by decide +kernel
theorem s77_7 (d : Nat) (l0 : Value) (l1 : Value) (i2 : Int32) (σ : Hs) : ru d 77 7 [l0, l1, .int i2] [] σ = ru d 77 8 [l0, l1, .int i2] [.int i2] σ := q_iload_n t77_7 rfl
theorem t77_8 : decode (mb 77) 8 = .ok (.iconst 0, 1) := by decide +kernel
theorem s77_8 (d : Nat) (l0 : Value) (l1 : Value) (l2 : Value) (w0 : Value) (σ : Hs) : ru d 77 8 [l0, l1, l2] [w0] σ = ru d 77 9 [l0, l1, l2] [.int 0, w0] σ := q_iconst t77_8 (by decide +kernel)
theorem t77_9 : decode (mb 77) 9 = .ok (.bipush 7, 2) := by decide +kernel
theorem s77_9 (d : Nat) (l0 : Value) (l1 : Value) (l2 : Value) (w0 w1 : Value) (σ : Hs) : ru d 77 9 [l0, l1, l2] [w0, w1] σ = ru d 77 11 [l0, l1, l2] [.int 7, w0, w1] σ := q_bipush t77_9 (by decide +kernel)
theorem t77_11 : decode (mb 77) 11 = .ok (.invokestatic 83, 3) := by decide +kernel
theorem s77_11 (d : Nat) (l0 : Value) (l1 : Value) (l2 : Value) (v0 v1 v2 : Value) (σ : Hs) : ru d 77 11 [l0, l1, l2] [v2, v1, v0] σ = kont (callD d 102 [v0, v1, v2] σ) d 77 14 [l0, l1, l2] [] := q_invs t77_11 mo77 (by decide +kernel) K7_83 mj102 (Nat.le_of_ble_eq_true rfl) rfl rfl (Nat.le_of_ble_eq_true rfl)
theorem t77_14 : decode (mb 77) 14 = .ok (.ifCond .ne 9, 3) := by decide +kernel
theorem s77_14 (d : Nat) (l0 : Value) (l1 : Value) (l2 : Value) (x : Int32) (σ : Hs) : ru d 77 14 [l0, l1, l2] [.int x] σ = if x = 0 then ru d 77 17 [l0, l1, l2] [] σ else ru d 77 23 [l0, l1, l2] [] σ := q_if_ne t77_14 (by decide +kernel)
theorem t77_17 : decode (mb 77) 17 = .ok (.aload_n 0, 1) := by decide +kernel
theorem s77_17 (d : Nat) (a0 : Nat) (l1 : Value) (l2 : Value) (σ : Hs) : ru d 77 17 [.ref a0, l1, l2] [] σ = ru d 77 18 [.ref a0, l1, l2] [.ref a0] σ := q_aload_n t77_17 rfl
theorem t77_18 : decode (mb 77) 18 = .ok (.iconst 1, 1) := by decide +kernel
theorem s77_18 (d : Nat) (l0 : Value) (l1 : Value) (l2 : Value) (w0 : Value) (σ : Hs) : ru d 77 18 [l0, l1, l2] [w0] σ = ru d 77 19 [l0, l1, l2] [.int 1, w0] σ := q_iconst t77_18 (by decide +kernel)
theorem t77_19 : decode (mb 77) 19 = .ok (.invokevirtual 65, 3) := by decide +kernel
theorem s77_19_o0 (d : Nat) (l0 : Value) (l1 : Value) (l2 : Value) (v1 : Value) (σ : Hs) : ru d 77 19 [l0, l1, l2] [v1, .ref 0] σ = kont (callD d 99 [.ref 0, v1] σ) d 77 22 [l0, l1, l2] [] := q_invv t77_19 mo77 K7_65 mj99 rfl rfl rfl rfl (Nat.le_of_ble_eq_true rfl)
theorem t77_22 : decode (mb 77) 22 = .ok (.ireturn, 1) := by decide +kernel
theorem s77_22 (d : Nat) (l0 : Value) (l1 : Value) (l2 : Value) (x : Int32) (σ : Hs) : ru d 77 22 [l0, l1, l2] [.int x] σ = some (some (.int x), σ) := q_ireti t77_22 mr77
theorem t77_23 : decode (mb 77) 23 = .ok (.aload_n 0, 1) := by decide +kernel
theorem s77_23 (d : Nat) (a0 : Nat) (l1 : Value) (l2 : Value) (σ : Hs) : ru d 77 23 [.ref a0, l1, l2] [] σ = ru d 77 24 [.ref a0, l1, l2] [.ref a0] σ := q_aload_n t77_23 rfl
theorem t77_24 : decode (mb 77) 24 = .ok (.getfield 22, 3) := by decide +kernel
theorem s77_24_o0 (d : Nat) (l0 : Value) (l1 : Value) (l2 : Value) (σ : Hs) : ru d 77 24 [l0, l1, l2] [.ref 0] σ = ru d 77 27 [l0, l1, l2] [.ref 59] σ := q_getf t77_24 mo77 F7_22 rfl rfl
theorem t77_27 : decode (mb 77) 27 = .ok (.aload_n 0, 1) := by decide +kernel
theorem s77_27 (d : Nat) (a0 : Nat) (l1 : Value) (l2 : Value) (w0 : Value) (σ : Hs) : ru d 77 27 [.ref a0, l1, l2] [w0] σ = ru d 77 28 [.ref a0, l1, l2] [.ref a0, w0] σ := q_aload_n t77_27 rfl
theorem t77_28 : decode (mb 77) 28 = .ok (.getfield 10, 3) := by decide +kernel
theorem s77_28_o0 (d : Nat) (l0 : Value) (l1 : Value) (l2 : Value) (w0 : Value) (σ : Hs) : ru d 77 28 [l0, l1, l2] [.ref 0, w0] σ = ru d 77 31 [l0, l1, l2] [.ref 1, w0] σ := q_getf t77_28 mo77 F7_10 rfl rfl
theorem t77_31 : decode (mb 77) 31 = .ok (.getfield 58, 3) := by decide +kernel
theorem s77_31_o1 (d : Nat) (l0 : Value) (l1 : Value) (l2 : Value) (w0 : Value) (σ : Hs) : ru d 77 31 [l0, l1, l2] [.ref 1, w0] σ = ru d 77 34 [l0, l1, l2] [.ref 2, w0] σ := q_getf t77_31 mo77 F7_58 rfl rfl
theorem t77_34 : decode (mb 77) 34 = .ok (.invokevirtual 199, 3) := by decide +kernel
theorem s77_34_o59 (d : Nat) (l0 : Value) (l1 : Value) (l2 : Value) (v1 : Value) (σ : Hs) : ru d 77 34 [l0, l1, l2] [v1, .ref 59] σ = kont (callD d 0 [.ref 59, v1] σ) d 77 37 [l0, l1, l2] [] := q_invv t77_34 mo77 K7_199 mj0 rfl rfl rfl rfl (Nat.le_of_ble_eq_true rfl)
theorem t77_37 : decode (mb 77) 37 = .ok (.aload_n 0, 1) := by decide +kernel
theorem s77_37 (d : Nat) (a0 : Nat) (l1 : Value) (l2 : Value) (σ : Hs) : ru d 77 37 [.ref a0, l1, l2] [] σ = ru d 77 38 [.ref a0, l1, l2] [.ref a0] σ := q_aload_n t77_37 rfl
theorem t77_38 : decode (mb 77) 38 = .ok (.getfield 22, 3) := by decide +kernel
theorem s77_38_o0 (d : Nat) (l0 : Value) (l1 : Value) (l2 : Value) (σ : Hs) : ru d 77 38 [l0, l1, l2] [.ref 0] σ = ru d 77 41 [l0, l1, l2] [.ref 59] σ := q_getf t77_38 mo77 F7_22 rfl rfl
theorem t77_41 : decode (mb 77) 41 = .ok (.iload_n 1, 1) := by decide +kernel
theorem s77_41 (d : Nat) (l0 : Value) (i1 : Int32) (l2 : Value) (w0 : Value) (σ : Hs) : ru d 77 41 [l0, .int i1, l2] [w0] σ = ru d 77 42 [l0, .int i1, l2] [.int i1, w0] σ := q_iload_n t77_41 rfl
theorem t77_42 : decode (mb 77) 42 = .ok (.aload_n 0, 1) := by decide +kernel
theorem s77_42 (d : Nat) (a0 : Nat) (l1 : Value) (l2 : Value) (w0 w1 : Value) (σ : Hs) : ru d 77 42 [.ref a0, l1, l2] [w0, w1] σ = ru d 77 43 [.ref a0, l1, l2] [.ref a0, w0, w1] σ := q_aload_n t77_42 rfl
theorem t77_43 : decode (mb 77) 43 = .ok (.getfield 10, 3) := by decide +kernel
theorem s77_43_o0 (d : Nat) (l0 : Value) (l1 : Value) (l2 : Value) (w0 w1 : Value) (σ : Hs) : ru d 77 43 [l0, l1, l2] [.ref 0, w0, w1] σ = ru d 77 46 [l0, l1, l2] [.ref 1, w0, w1] σ := q_getf t77_43 mo77 F7_10 rfl rfl
theorem t77_46 : decode (mb 77) 46 = .ok (.getfield 146, 3) := by decide +kernel
theorem s77_46_o1 (d : Nat) (l0 : Value) (l1 : Value) (l2 : Value) (w0 w1 : Value) (σ : Hs) : ru d 77 46 [l0, l1, l2] [.ref 1, w0, w1] σ = ru d 77 49 [l0, l1, l2] [.ref 13, w0, w1] σ := q_getf t77_46 mo77 F7_146 rfl rfl
theorem t77_49 : decode (mb 77) 49 = .ok (.invokevirtual 168, 3) := by decide +kernel
theorem s77_49_o59 (d : Nat) (l0 : Value) (l1 : Value) (l2 : Value) (v1 v2 : Value) (σ : Hs) : ru d 77 49 [l0, l1, l2] [v2, v1, .ref 59] σ = kont (callD d 13 [.ref 59, v1, v2] σ) d 77 52 [l0, l1, l2] [] := q_invv t77_49 mo77 K7_168 mj13 rfl rfl rfl rfl (Nat.le_of_ble_eq_true rfl)
theorem t77_52 : decode (mb 77) 52 = .ok (.aload_n 0, 1) := by decide +kernel
theorem s77_52 (d : Nat) (a0 : Nat) (l1 : Value) (l2 : Value) (σ : Hs) : ru d 77 52 [.ref a0, l1, l2] [] σ = ru d 77 53 [.ref a0, l1, l2] [.ref a0] σ := q_aload_n t77_52 rfl
theorem t77_53 : decode (mb 77) 53 = .ok (.getfield 22, 3) := by decide +kernel
theorem s77_53_o0 (d : Nat) (l0 : Value) (l1 : Value) (l2 : Value) (σ : Hs) : ru d 77 53 [l0, l1, l2] [.ref 0] σ = ru d 77 56 [l0, l1, l2] [.ref 59] σ := q_getf t77_53 mo77 F7_22 rfl rfl
theorem t77_56 : decode (mb 77) 56 = .ok (.iload_n 2, 1) := by decide +kernel
theorem s77_56 (d : Nat) (l0 : Value) (l1 : Value) (i2 : Int32) (w0 : Value) (σ : Hs) : ru d 77 56 [l0, l1, .int i2] [w0] σ = ru d 77 57 [l0, l1, .int i2] [.int i2, w0] σ := q_iload_n t77_56 rfl
theorem t77_57 : decode (mb 77) 57 = .ok (.invokevirtual 193, 3) := by decide +kernel
theorem s77_57_o59 (d : Nat) (l0 : Value) (l1 : Value) (l2 : Value) (v1 : Value) (σ : Hs) : ru d 77 57 [l0, l1, l2] [v1, .ref 59] σ = kont (callD d 27 [.ref 59, v1] σ) d 77 60 [l0, l1, l2] [] := q_invv t77_57 mo77 K7_193 mj27 rfl rfl rfl rfl (Nat.le_of_ble_eq_true rfl)
theorem t77_60 : decode (mb 77) 60 = .ok (.ireturn, 1) := by decide +kernel
theorem s77_60 (d : Nat) (l0 : Value) (l1 : Value) (l2 : Value) (x : Int32) (σ : Hs) : ru d 77 60 [l0, l1, l2] [.int x] σ = some (some (.int x), σ) := q_ireti t77_60 mr77
theorem c77 (d : Nat) (x0 : Nat) (x1 : Int32) (x2 : Int32) (σ : Hs) : callD (d + 1) 77 [.ref x0, .int x1, .int x2] σ = ru d 77 0 [.ref x0, .int x1, .int x2] [] σ := callD_ru ml77 rfl rfl (Nat.le_of_ble_eq_true rfl)
-- 78: SmokyHeap.gardenThen(III)I
theorem t78_0 : decode (mb 78) 0 = .ok (.iload_n 1, 1) := by decide +kernel
theorem s78_0 (d : Nat) (l0 : Value) (i1 : Int32) (l2 : Value) (l3 : Value) (σ : Hs) : ru d 78 0 [l0, .int i1, l2, l3] [] σ = ru d 78 1 [l0, .int i1, l2, l3] [.int i1] σ := q_iload_n t78_0 rfl
theorem t78_1 : decode (mb 78) 1 = .ok (.invokestatic 196, 3) := by decide +kernel
theorem s78_1 (d : Nat) (l0 : Value) (l1 : Value) (l2 : Value) (l3 : Value) (v0 : Value) (σ : Hs) : ru d 78 1 [l0, l1, l2, l3] [v0] σ = kont (callD d 108 [v0] σ) d 78 4 [l0, l1, l2, l3] [] := q_invs t78_1 mo78 (by decide +kernel) K7_196 mj108 (Nat.le_of_ble_eq_true rfl) rfl rfl (Nat.le_of_ble_eq_true rfl)
theorem t78_4 : decode (mb 78) 4 = .ok (.ifCond .eq 19, 3) := by decide +kernel
theorem s78_4 (d : Nat) (l0 : Value) (l1 : Value) (l2 : Value) (l3 : Value) (x : Int32) (σ : Hs) : ru d 78 4 [l0, l1, l2, l3] [.int x] σ = if x = 0 then ru d 78 23 [l0, l1, l2, l3] [] σ else ru d 78 7 [l0, l1, l2, l3] [] σ := q_if_eq t78_4 (by decide +kernel)
theorem t78_7 : decode (mb 78) 7 = .ok (.iload_n 2, 1) := by decide +kernel
theorem s78_7 (d : Nat) (l0 : Value) (l1 : Value) (i2 : Int32) (l3 : Value) (σ : Hs) : ru d 78 7 [l0, l1, .int i2, l3] [] σ = ru d 78 8 [l0, l1, .int i2, l3] [.int i2] σ := q_iload_n t78_7 rfl
theorem t78_8 : decode (mb 78) 8 = .ok (.invokestatic 179, 3) := by decide +kernel
theorem s78_8 (d : Nat) (l0 : Value) (l1 : Value) (l2 : Value) (l3 : Value) (v0 : Value) (σ : Hs) : ru d 78 8 [l0, l1, l2, l3] [v0] σ = kont (callD d 106 [v0] σ) d 78 11 [l0, l1, l2, l3] [] := q_invs t78_8 mo78 (by decide +kernel) K7_179 mj106 (Nat.le_of_ble_eq_true rfl) rfl rfl (Nat.le_of_ble_eq_true rfl)
theorem t78_11 : decode (mb 78) 11 = .ok (.ifCond .eq 12, 3) := by decide +kernel
theorem s78_11 (d : Nat) (l0 : Value) (l1 : Value) (l2 : Value) (l3 : Value) (x : Int32) (σ : Hs) : ru d 78 11 [l0, l1, l2, l3] [.int x] σ = if x = 0 then ru d 78 23 [l0, l1, l2, l3] [] σ else ru d 78 14 [l0, l1, l2, l3] [] σ := q_if_eq t78_11 (by decide +kernel)
theorem t78_14 : decode (mb 78) 14 = .ok (.iload_n 3, 1) := by decide +kernel
theorem s78_14 (d : Nat) (l0 : Value) (l1 : Value) (l2 : Value) (i3 : Int32) (σ : Hs) : ru d 78 14 [l0, l1, l2, .int i3] [] σ = ru d 78 15 [l0, l1, l2, .int i3] [.int i3] σ := q_iload_n t78_14 rfl
theorem t78_15 : decode (mb 78) 15 = .ok (.iconst 0, 1) := by decide +kernel
theorem s78_15 (d : Nat) (l0 : Value) (l1 : Value) (l2 : Value) (l3 : Value) (w0 : Value) (σ : Hs) : ru d 78 15 [l0, l1, l2, l3] [w0] σ = ru d 78 16 [l0, l1, l2, l3] [.int 0, w0] σ := q_iconst t78_15 (by decide +kernel)
theorem t78_16 : decode (mb 78) 16 = .ok (.iconst 2, 1) := by decide +kernel
theorem s78_16 (d : Nat) (l0 : Value) (l1 : Value) (l2 : Value) (l3 : Value) (w0 w1 : Value) (σ : Hs) : ru d 78 16 [l0, l1, l2, l3] [w0, w1] σ = ru d 78 17 [l0, l1, l2, l3] [.int 2, w0, w1] σ := q_iconst t78_16 (by decide +kernel)
theorem t78_17 : decode (mb 78) 17 = .ok (.invokestatic 83, 3) := by decide +kernel
theorem s78_17 (d : Nat) (l0 : Value) (l1 : Value) (l2 : Value) (l3 : Value) (v0 v1 v2 : Value) (σ : Hs) : ru d 78 17 [l0, l1, l2, l3] [v2, v1, v0] σ = kont (callD d 102 [v0, v1, v2] σ) d 78 20 [l0, l1, l2, l3] [] := q_invs t78_17 mo78 (by decide +kernel) K7_83 mj102 (Nat.le_of_ble_eq_true rfl) rfl rfl (Nat.le_of_ble_eq_true rfl)
theorem t78_20 : decode (mb 78) 20 = .ok (.ifCond .ne 9, 3) := by decide +kernel
theorem s78_20 (d : Nat) (l0 : Value) (l1 : Value) (l2 : Value) (l3 : Value) (x : Int32) (σ : Hs) : ru d 78 20 [l0, l1, l2, l3] [.int x] σ = if x = 0 then ru d 78 23 [l0, l1, l2, l3] [] σ else ru d 78 29 [l0, l1, l2, l3] [] σ := q_if_ne t78_20 (by decide +kernel)
theorem t78_23 : decode (mb 78) 23 = .ok (.aload_n 0, 1) := by decide +kernel
theorem s78_23 (d : Nat) (a0 : Nat) (l1 : Value) (l2 : Value) (l3 : Value) (σ : Hs) : ru d 78 23 [.ref a0, l1, l2, l3] [] σ = ru d 78 24 [.ref a0, l1, l2, l3] [.ref a0] σ := q_aload_n t78_23 rfl
theorem t78_24 : decode (mb 78) 24 = .ok (.iconst 1, 1) := by decide +kernel
theorem s78_24 (d : Nat) (l0 : Value) (l1 : Value) (l2 : Value) (l3 : Value) (w0 : Value) (σ : Hs) : ru d 78 24 [l0, l1, l2, l3] [w0] σ = ru d 78 25 [l0, l1, l2, l3] [.int 1, w0] σ := q_iconst t78_24 (by decide +kernel)
theorem t78_25 : decode (mb 78) 25 = .ok (.invokevirtual 65, 3) := by decide +kernel
theorem s78_25_o0 (d : Nat) (l0 : Value) (l1 : Value) (l2 : Value) (l3 : Value) (v1 : Value) (σ : Hs) : ru d 78 25 [l0, l1, l2, l3] [v1, .ref 0] σ = kont (callD d 99 [.ref 0, v1] σ) d 78 28 [l0, l1, l2, l3] [] := q_invv t78_25 mo78 K7_65 mj99 rfl rfl rfl rfl (Nat.le_of_ble_eq_true rfl)
theorem t78_28 : decode (mb 78) 28 = .ok (.ireturn, 1) := by decide +kernel
theorem s78_28 (d : Nat) (l0 : Value) (l1 : Value) (l2 : Value) (l3 : Value) (x : Int32) (σ : Hs) : ru d 78 28 [l0, l1, l2, l3] [.int x] σ = some (some (.int x), σ) := q_ireti t78_28 mr78
theorem t78_29 : decode (mb 78) 29 = .ok (.aload_n 0, 1) := by decide +kernel
theorem s78_29 (d : Nat) (a0 : Nat) (l1 : Value) (l2 : Value) (l3 : Value) (σ : Hs) : ru d 78 29 [.ref a0, l1, l2, l3] [] σ = ru d 78 30 [.ref a0, l1, l2, l3] [.ref a0] σ := q_aload_n t78_29 rfl
theorem t78_30 : decode (mb 78) 30 = .ok (.getfield 22, 3) := by decide +kernel
theorem s78_30_o0 (d : Nat) (l0 : Value) (l1 : Value) (l2 : Value) (l3 : Value) (σ : Hs) : ru d 78 30 [l0, l1, l2, l3] [.ref 0] σ = ru d 78 33 [l0, l1, l2, l3] [.ref 59] σ := q_getf t78_30 mo78 F7_22 rfl rfl
theorem t78_33 : decode (mb 78) 33 = .ok (.aload_n 0, 1) := by decide +kernel
theorem s78_33 (d : Nat) (a0 : Nat) (l1 : Value) (l2 : Value) (l3 : Value) (w0 : Value) (σ : Hs) : ru d 78 33 [.ref a0, l1, l2, l3] [w0] σ = ru d 78 34 [.ref a0, l1, l2, l3] [.ref a0, w0] σ := q_aload_n t78_33 rfl
theorem t78_34 : decode (mb 78) 34 = .ok (.getfield 10, 3) := by decide +kernel
theorem s78_34_o0 (d : Nat) (l0 : Value) (l1 : Value) (l2 : Value) (l3 : Value) (w0 : Value) (σ : Hs) : ru d 78 34 [l0, l1, l2, l3] [.ref 0, w0] σ = ru d 78 37 [l0, l1, l2, l3] [.ref 1, w0] σ := q_getf t78_34 mo78 F7_10 rfl rfl
theorem t78_37 : decode (mb 78) 37 = .ok (.getfield 58, 3) := by decide +kernel
theorem s78_37_o1 (d : Nat) (l0 : Value) (l1 : Value) (l2 : Value) (l3 : Value) (w0 : Value) (σ : Hs) : ru d 78 37 [l0, l1, l2, l3] [.ref 1, w0] σ = ru d 78 40 [l0, l1, l2, l3] [.ref 2, w0] σ := q_getf t78_37 mo78 F7_58 rfl rfl
theorem t78_40 : decode (mb 78) 40 = .ok (.invokevirtual 199, 3) := by decide +kernel
theorem s78_40_o59 (d : Nat) (l0 : Value) (l1 : Value) (l2 : Value) (l3 : Value) (v1 : Value) (σ : Hs) : ru d 78 40 [l0, l1, l2, l3] [v1, .ref 59] σ = kont (callD d 0 [.ref 59, v1] σ) d 78 43 [l0, l1, l2, l3] [] := q_invv t78_40 mo78 K7_199 mj0 rfl rfl rfl rfl (Nat.le_of_ble_eq_true rfl)
theorem t78_43 : decode (mb 78) 43 = .ok (.aload_n 0, 1) := by decide +kernel
theorem s78_43 (d : Nat) (a0 : Nat) (l1 : Value) (l2 : Value) (l3 : Value) (σ : Hs) : ru d 78 43 [.ref a0, l1, l2, l3] [] σ = ru d 78 44 [.ref a0, l1, l2, l3] [.ref a0] σ := q_aload_n t78_43 rfl
theorem t78_44 : decode (mb 78) 44 = .ok (.getfield 22, 3) := by decide +kernel
theorem s78_44_o0 (d : Nat) (l0 : Value) (l1 : Value) (l2 : Value) (l3 : Value) (σ : Hs) : ru d 78 44 [l0, l1, l2, l3] [.ref 0] σ = ru d 78 47 [l0, l1, l2, l3] [.ref 59] σ := q_getf t78_44 mo78 F7_22 rfl rfl
theorem t78_47 : decode (mb 78) 47 = .ok (.iload_n 1, 1) := by decide +kernel
theorem s78_47 (d : Nat) (l0 : Value) (i1 : Int32) (l2 : Value) (l3 : Value) (w0 : Value) (σ : Hs) : ru d 78 47 [l0, .int i1, l2, l3] [w0] σ = ru d 78 48 [l0, .int i1, l2, l3] [.int i1, w0] σ := q_iload_n t78_47 rfl
theorem t78_48 : decode (mb 78) 48 = .ok (.aload_n 0, 1) := by decide +kernel
theorem s78_48 (d : Nat) (a0 : Nat) (l1 : Value) (l2 : Value) (l3 : Value) (w0 w1 : Value) (σ : Hs) : ru d 78 48 [.ref a0, l1, l2, l3] [w0, w1] σ = ru d 78 49 [.ref a0, l1, l2, l3] [.ref a0, w0, w1] σ := q_aload_n t78_48 rfl
theorem t78_49 : decode (mb 78) 49 = .ok (.getfield 10, 3) := by decide +kernel
theorem s78_49_o0 (d : Nat) (l0 : Value) (l1 : Value) (l2 : Value) (l3 : Value) (w0 w1 : Value) (σ : Hs) : ru d 78 49 [l0, l1, l2, l3] [.ref 0, w0, w1] σ = ru d 78 52 [l0, l1, l2, l3] [.ref 1, w0, w1] σ := q_getf t78_49 mo78 F7_10 rfl rfl
theorem t78_52 : decode (mb 78) 52 = .ok (.getfield 146, 3) := by decide +kernel
theorem s78_52_o1 (d : Nat) (l0 : Value) (l1 : Value) (l2 : Value) (l3 : Value) (w0 w1 : Value) (σ : Hs) : ru d 78 52 [l0, l1, l2, l3] [.ref 1, w0, w1] σ = ru d 78 55 [l0, l1, l2, l3] [.ref 13, w0, w1] σ := q_getf t78_52 mo78 F7_146 rfl rfl
theorem t78_55 : decode (mb 78) 55 = .ok (.invokevirtual 168, 3) := by decide +kernel
theorem s78_55_o59 (d : Nat) (l0 : Value) (l1 : Value) (l2 : Value) (l3 : Value) (v1 v2 : Value) (σ : Hs) : ru d 78 55 [l0, l1, l2, l3] [v2, v1, .ref 59] σ = kont (callD d 13 [.ref 59, v1, v2] σ) d 78 58 [l0, l1, l2, l3] [] := q_invv t78_55 mo78 K7_168 mj13 rfl rfl rfl rfl (Nat.le_of_ble_eq_true rfl)
theorem t78_58 : decode (mb 78) 58 = .ok (.aload_n 0, 1) := by decide +kernel
theorem s78_58 (d : Nat) (a0 : Nat) (l1 : Value) (l2 : Value) (l3 : Value) (σ : Hs) : ru d 78 58 [.ref a0, l1, l2, l3] [] σ = ru d 78 59 [.ref a0, l1, l2, l3] [.ref a0] σ := q_aload_n t78_58 rfl
theorem t78_59 : decode (mb 78) 59 = .ok (.getfield 22, 3) := by decide +kernel
theorem s78_59_o0 (d : Nat) (l0 : Value) (l1 : Value) (l2 : Value) (l3 : Value) (σ : Hs) : ru d 78 59 [l0, l1, l2, l3] [.ref 0] σ = ru d 78 62 [l0, l1, l2, l3] [.ref 59] σ := q_getf t78_59 mo78 F7_22 rfl rfl
theorem t78_62 : decode (mb 78) 62 = .ok (.iload_n 2, 1) := by decide +kernel
theorem s78_62 (d : Nat) (l0 : Value) (l1 : Value) (i2 : Int32) (l3 : Value) (w0 : Value) (σ : Hs) : ru d 78 62 [l0, l1, .int i2, l3] [w0] σ = ru d 78 63 [l0, l1, .int i2, l3] [.int i2, w0] σ := q_iload_n t78_62 rfl
theorem t78_63 : decode (mb 78) 63 = .ok (.iload_n 3, 1) := by decide +kernel
theorem s78_63 (d : Nat) (l0 : Value) (l1 : Value) (l2 : Value) (i3 : Int32) (w0 w1 : Value) (σ : Hs) : ru d 78 63 [l0, l1, l2, .int i3] [w0, w1] σ = ru d 78 64 [l0, l1, l2, .int i3] [.int i3, w0, w1] σ := q_iload_n t78_63 rfl
theorem t78_64 : decode (mb 78) 64 = .ok (.invokevirtual 190, 3) := by decide +kernel
theorem s78_64_o59 (d : Nat) (l0 : Value) (l1 : Value) (l2 : Value) (l3 : Value) (v1 v2 : Value) (σ : Hs) : ru d 78 64 [l0, l1, l2, l3] [v2, v1, .ref 59] σ = kont (callD d 26 [.ref 59, v1, v2] σ) d 78 67 [l0, l1, l2, l3] [] := q_invv t78_64 mo78 K7_190 mj26 rfl rfl rfl rfl (Nat.le_of_ble_eq_true rfl)
theorem t78_67 : decode (mb 78) 67 = .ok (.ireturn, 1) := by decide +kernel
theorem s78_67 (d : Nat) (l0 : Value) (l1 : Value) (l2 : Value) (l3 : Value) (x : Int32) (σ : Hs) : ru d 78 67 [l0, l1, l2, l3] [.int x] σ = some (some (.int x), σ) := q_ireti t78_67 mr78
theorem c78 (d : Nat) (x0 : Nat) (x1 : Int32) (x2 : Int32) (x3 : Int32) (σ : Hs) : callD (d + 1) 78 [.ref x0, .int x1, .int x2, .int x3] σ = ru d 78 0 [.ref x0, .int x1, .int x2, .int x3] [] σ := callD_ru ml78 rfl rfl (Nat.le_of_ble_eq_true rfl)
-- 79: SmokyHeap.hour(II)I
theorem t79_0 : decode (mb 79) 0 = .ok (.iload_n 1, 1) := by decide +kernel
theorem s79_0 (d : Nat) (l0 : Value) (i1 : Int32) (l2 : Value) (l3 : Value) (l4 : Value) (l5 : Value) (l6 : Value) (σ : Hs) : ru d 79 0 [l0, .int i1, l2, l3, l4, l5, l6] [] σ = ru d 79 1 [l0, .int i1, l2, l3, l4, l5, l6] [.int i1] σ := q_iload_n t79_0 rfl
theorem t79_1 : decode (mb 79) 1 = .ok (.invokestatic 69, 3) := by decide +kernel
theorem s79_1 (d : Nat) (l0 : Value) (l1 : Value) (l2 : Value) (l3 : Value) (l4 : Value) (l5 : Value) (l6 : Value) (v0 : Value) (σ : Hs) : ru d 79 1 [l0, l1, l2, l3, l4, l5, l6] [v0] σ = kont (callD d 103 [v0] σ) d 79 4 [l0, l1, l2, l3, l4, l5, l6] [] := q_invs t79_1 mo79 (by decide +kernel) K7_69 mj103 (Nat.le_of_ble_eq_true rfl) rfl rfl (Nat.le_of_ble_eq_true rfl)
theorem t79_4 : decode (mb 79) 4 = .ok (.ifCond .eq 10, 3) := by decide +kernel
theorem s79_4 (d : Nat) (l0 : Value) (l1 : Value) (l2 : Value) (l3 : Value) (l4 : Value) (l5 : Value) (l6 : Value) (x : Int32) (σ : Hs) : ru d 79 4 [l0, l1, l2, l3, l4, l5, l6] [.int x] σ = if x = 0 then ru d 79 14 [l0, l1, l2, l3, l4, l5, l6] [] σ else ru d 79 7 [l0, l1, l2, l3, l4, l5, l6] [] σ := q_if_eq t79_4 (by decide +kernel)
theorem t79_7 : decode (mb 79) 7 = .ok (.iload_n 2, 1) := by decide +kernel
theorem s79_7 (d : Nat) (l0 : Value) (l1 : Value) (i2 : Int32) (l3 : Value) (l4 : Value) (l5 : Value) (l6 : Value) (σ : Hs) : ru d 79 7 [l0, l1, .int i2, l3, l4, l5, l6] [] σ = ru d 79 8 [l0, l1, .int i2, l3, l4, l5, l6] [.int i2] σ := q_iload_n t79_7 rfl
theorem t79_8 : decode (mb 79) 8 = .ok (.invokestatic 196, 3) := by decide +kernel
theorem s79_8 (d : Nat) (l0 : Value) (l1 : Value) (l2 : Value) (l3 : Value) (l4 : Value) (l5 : Value) (l6 : Value) (v0 : Value) (σ : Hs) : ru d 79 8 [l0, l1, l2, l3, l4, l5, l6] [v0] σ = kont (callD d 108 [v0] σ) d 79 11 [l0, l1, l2, l3, l4, l5, l6] [] := q_invs t79_8 mo79 (by decide +kernel) K7_196 mj108 (Nat.le_of_ble_eq_true rfl) rfl rfl (Nat.le_of_ble_eq_true rfl)
theorem t79_11 : decode (mb 79) 11 = .ok (.ifCond .ne 9, 3) := by decide +kernel
theorem s79_11 (d : Nat) (l0 : Value) (l1 : Value) (l2 : Value) (l3 : Value) (l4 : Value) (l5 : Value) (l6 : Value) (x : Int32) (σ : Hs) : ru d 79 11 [l0, l1, l2, l3, l4, l5, l6] [.int x] σ = if x = 0 then ru d 79 14 [l0, l1, l2, l3, l4, l5, l6] [] σ else ru d 79 20 [l0, l1, l2, l3, l4, l5, l6] [] σ := q_if_ne t79_11 (by decide +kernel)
theorem t79_14 : decode (mb 79) 14 = .ok (.aload_n 0, 1) := by decide +kernel
theorem s79_14 (d : Nat) (a0 : Nat) (l1 : Value) (l2 : Value) (l3 : Value) (l4 : Value) (l5 : Value) (l6 : Value) (σ : Hs) : ru d 79 14 [.ref a0, l1, l2, l3, l4, l5, l6] [] σ = ru d 79 15 [.ref a0, l1, l2, l3, l4, l5, l6] [.ref a0] σ := q_aload_n t79_14 rfl
theorem t79_15 : decode (mb 79) 15 = .ok (.iconst 1, 1) := by decide +kernel
theorem s79_15 (d : Nat) (l0 : Value) (l1 : Value) (l2 : Value) (l3 : Value) (l4 : Value) (l5 : Value) (l6 : Value) (w0 : Value) (σ : Hs) : ru d 79 15 [l0, l1, l2, l3, l4, l5, l6] [w0] σ = ru d 79 16 [l0, l1, l2, l3, l4, l5, l6] [.int 1, w0] σ := q_iconst t79_15 (by decide +kernel)
theorem t79_16 : decode (mb 79) 16 = .ok (.invokevirtual 65, 3) := by decide +kernel
theorem s79_16_o0 (d : Nat) (l0 : Value) (l1 : Value) (l2 : Value) (l3 : Value) (l4 : Value) (l5 : Value) (l6 : Value) (v1 : Value) (σ : Hs) : ru d 79 16 [l0, l1, l2, l3, l4, l5, l6] [v1, .ref 0] σ = kont (callD d 99 [.ref 0, v1] σ) d 79 19 [l0, l1, l2, l3, l4, l5, l6] [] := q_invv t79_16 mo79 K7_65 mj99 rfl rfl rfl rfl (Nat.le_of_ble_eq_true rfl)
theorem t79_19 : decode (mb 79) 19 = .ok (.ireturn, 1) := by decide +kernel
theorem s79_19 (d : Nat) (l0 : Value) (l1 : Value) (l2 : Value) (l3 : Value) (l4 : Value) (l5 : Value) (l6 : Value) (x : Int32) (σ : Hs) : ru d 79 19 [l0, l1, l2, l3, l4, l5, l6] [.int x] σ = some (some (.int x), σ) := q_ireti t79_19 mr79
theorem t79_20 : decode (mb 79) 20 = .ok (.aload_n 0, 1) := by decide +kernel
theorem s79_20 (d : Nat) (a0 : Nat) (l1 : Value) (l2 : Value) (l3 : Value) (l4 : Value) (l5 : Value) (l6 : Value) (σ : Hs) : ru d 79 20 [.ref a0, l1, l2, l3, l4, l5, l6] [] σ = ru d 79 21 [.ref a0, l1, l2, l3, l4, l5, l6] [.ref a0] σ := q_aload_n t79_20 rfl
theorem t79_21 : decode (mb 79) 21 = .ok (.getfield 10, 3) := by decide +kernel
theorem s79_21_o0 (d : Nat) (l0 : Value) (l1 : Value) (l2 : Value) (l3 : Value) (l4 : Value) (l5 : Value) (l6 : Value) (σ : Hs) : ru d 79 21 [l0, l1, l2, l3, l4, l5, l6] [.ref 0] σ = ru d 79 24 [l0, l1, l2, l3, l4, l5, l6] [.ref 1] σ := q_getf t79_21 mo79 F7_10 rfl rfl
theorem t79_24 : decode (mb 79) 24 = .ok (.getfield 58, 3) := by decide +kernel
theorem s79_24_o1 (d : Nat) (l0 : Value) (l1 : Value) (l2 : Value) (l3 : Value) (l4 : Value) (l5 : Value) (l6 : Value) (σ : Hs) : ru d 79 24 [l0, l1, l2, l3, l4, l5, l6] [.ref 1] σ = ru d 79 27 [l0, l1, l2, l3, l4, l5, l6] [.ref 2] σ := q_getf t79_24 mo79 F7_58 rfl rfl
theorem t79_27 : decode (mb 79) 27 = .ok (.iload_n 1, 1) := by decide +kernel
theorem s79_27 (d : Nat) (l0 : Value) (i1 : Int32) (l2 : Value) (l3 : Value) (l4 : Value) (l5 : Value) (l6 : Value) (w0 : Value) (σ : Hs) : ru d 79 27 [l0, .int i1, l2, l3, l4, l5, l6] [w0] σ = ru d 79 28 [l0, .int i1, l2, l3, l4, l5, l6] [.int i1, w0] σ := q_iload_n t79_27 rfl
theorem t79_28 : decode (mb 79) 28 = .ok (.invokevirtual 73, 3) := by decide +kernel
theorem s79_28_o2 (d : Nat) (l0 : Value) (l1 : Value) (l2 : Value) (l3 : Value) (l4 : Value) (l5 : Value) (l6 : Value) (v1 : Value) (σ : Hs) : ru d 79 28 [l0, l1, l2, l3, l4, l5, l6] [v1, .ref 2] σ = kont (callD d 1 [.ref 2, v1] σ) d 79 31 [l0, l1, l2, l3, l4, l5, l6] [] := q_invv t79_28 mo79 K7_73 mj1 rfl rfl rfl rfl (Nat.le_of_ble_eq_true rfl)
theorem t79_31 : decode (mb 79) 31 = .ok (.ifCond .ne 9, 3) := by decide +kernel
theorem s79_31 (d : Nat) (l0 : Value) (l1 : Value) (l2 : Value) (l3 : Value) (l4 : Value) (l5 : Value) (l6 : Value) (x : Int32) (σ : Hs) : ru d 79 31 [l0, l1, l2, l3, l4, l5, l6] [.int x] σ = if x = 0 then ru d 79 34 [l0, l1, l2, l3, l4, l5, l6] [] σ else ru d 79 40 [l0, l1, l2, l3, l4, l5, l6] [] σ := q_if_ne t79_31 (by decide +kernel)
theorem t79_34 : decode (mb 79) 34 = .ok (.aload_n 0, 1) := by decide +kernel
theorem s79_34 (d : Nat) (a0 : Nat) (l1 : Value) (l2 : Value) (l3 : Value) (l4 : Value) (l5 : Value) (l6 : Value) (σ : Hs) : ru d 79 34 [.ref a0, l1, l2, l3, l4, l5, l6] [] σ = ru d 79 35 [.ref a0, l1, l2, l3, l4, l5, l6] [.ref a0] σ := q_aload_n t79_34 rfl
theorem t79_35 : decode (mb 79) 35 = .ok (.iconst 2, 1) := by decide +kernel
theorem s79_35 (d : Nat) (l0 : Value) (l1 : Value) (l2 : Value) (l3 : Value) (l4 : Value) (l5 : Value) (l6 : Value) (w0 : Value) (σ : Hs) : ru d 79 35 [l0, l1, l2, l3, l4, l5, l6] [w0] σ = ru d 79 36 [l0, l1, l2, l3, l4, l5, l6] [.int 2, w0] σ := q_iconst t79_35 (by decide +kernel)
theorem t79_36 : decode (mb 79) 36 = .ok (.invokevirtual 65, 3) := by decide +kernel
theorem s79_36_o0 (d : Nat) (l0 : Value) (l1 : Value) (l2 : Value) (l3 : Value) (l4 : Value) (l5 : Value) (l6 : Value) (v1 : Value) (σ : Hs) : ru d 79 36 [l0, l1, l2, l3, l4, l5, l6] [v1, .ref 0] σ = kont (callD d 99 [.ref 0, v1] σ) d 79 39 [l0, l1, l2, l3, l4, l5, l6] [] := q_invv t79_36 mo79 K7_65 mj99 rfl rfl rfl rfl (Nat.le_of_ble_eq_true rfl)
theorem t79_39 : decode (mb 79) 39 = .ok (.ireturn, 1) := by decide +kernel
theorem s79_39 (d : Nat) (l0 : Value) (l1 : Value) (l2 : Value) (l3 : Value) (l4 : Value) (l5 : Value) (l6 : Value) (x : Int32) (σ : Hs) : ru d 79 39 [l0, l1, l2, l3, l4, l5, l6] [.int x] σ = some (some (.int x), σ) := q_ireti t79_39 mr79
theorem t79_40 : decode (mb 79) 40 = .ok (.aload_n 0, 1) := by decide +kernel
theorem s79_40 (d : Nat) (a0 : Nat) (l1 : Value) (l2 : Value) (l3 : Value) (l4 : Value) (l5 : Value) (l6 : Value) (σ : Hs) : ru d 79 40 [.ref a0, l1, l2, l3, l4, l5, l6] [] σ = ru d 79 41 [.ref a0, l1, l2, l3, l4, l5, l6] [.ref a0] σ := q_aload_n t79_40 rfl
theorem t79_41 : decode (mb 79) 41 = .ok (.getfield 22, 3) := by decide +kernel
theorem s79_41_o0 (d : Nat) (l0 : Value) (l1 : Value) (l2 : Value) (l3 : Value) (l4 : Value) (l5 : Value) (l6 : Value) (σ : Hs) : ru d 79 41 [l0, l1, l2, l3, l4, l5, l6] [.ref 0] σ = ru d 79 44 [l0, l1, l2, l3, l4, l5, l6] [.ref 59] σ := q_getf t79_41 mo79 F7_22 rfl rfl
theorem t79_44 : decode (mb 79) 44 = .ok (.aload_n 0, 1) := by decide +kernel
theorem s79_44 (d : Nat) (a0 : Nat) (l1 : Value) (l2 : Value) (l3 : Value) (l4 : Value) (l5 : Value) (l6 : Value) (w0 : Value) (σ : Hs) : ru d 79 44 [.ref a0, l1, l2, l3, l4, l5, l6] [w0] σ = ru d 79 45 [.ref a0, l1, l2, l3, l4, l5, l6] [.ref a0, w0] σ := q_aload_n t79_44 rfl
theorem t79_45 : decode (mb 79) 45 = .ok (.getfield 10, 3) := by decide +kernel
theorem s79_45_o0 (d : Nat) (l0 : Value) (l1 : Value) (l2 : Value) (l3 : Value) (l4 : Value) (l5 : Value) (l6 : Value) (w0 : Value) (σ : Hs) : ru d 79 45 [l0, l1, l2, l3, l4, l5, l6] [.ref 0, w0] σ = ru d 79 48 [l0, l1, l2, l3, l4, l5, l6] [.ref 1, w0] σ := q_getf t79_45 mo79 F7_10 rfl rfl
theorem t79_48 : decode (mb 79) 48 = .ok (.getfield 58, 3) := by decide +kernel
theorem s79_48_o1 (d : Nat) (l0 : Value) (l1 : Value) (l2 : Value) (l3 : Value) (l4 : Value) (l5 : Value) (l6 : Value) (w0 : Value) (σ : Hs) : ru d 79 48 [l0, l1, l2, l3, l4, l5, l6] [.ref 1, w0] σ = ru d 79 51 [l0, l1, l2, l3, l4, l5, l6] [.ref 2, w0] σ := q_getf t79_48 mo79 F7_58 rfl rfl
theorem t79_51 : decode (mb 79) 51 = .ok (.invokevirtual 199, 3) := by decide +kernel
theorem s79_51_o59 (d : Nat) (l0 : Value) (l1 : Value) (l2 : Value) (l3 : Value) (l4 : Value) (l5 : Value) (l6 : Value) (v1 : Value) (σ : Hs) : ru d 79 51 [l0, l1, l2, l3, l4, l5, l6] [v1, .ref 59] σ = kont (callD d 0 [.ref 59, v1] σ) d 79 54 [l0, l1, l2, l3, l4, l5, l6] [] := q_invv t79_51 mo79 K7_199 mj0 rfl rfl rfl rfl (Nat.le_of_ble_eq_true rfl)
theorem t79_54 : decode (mb 79) 54 = .ok (.aload_n 0, 1) := by decide +kernel
theorem s79_54 (d : Nat) (a0 : Nat) (l1 : Value) (l2 : Value) (l3 : Value) (l4 : Value) (l5 : Value) (l6 : Value) (σ : Hs) : ru d 79 54 [.ref a0, l1, l2, l3, l4, l5, l6] [] σ = ru d 79 55 [.ref a0, l1, l2, l3, l4, l5, l6] [.ref a0] σ := q_aload_n t79_54 rfl
theorem t79_55 : decode (mb 79) 55 = .ok (.getfield 22, 3) := by decide +kernel
theorem s79_55_o0 (d : Nat) (l0 : Value) (l1 : Value) (l2 : Value) (l3 : Value) (l4 : Value) (l5 : Value) (l6 : Value) (σ : Hs) : ru d 79 55 [l0, l1, l2, l3, l4, l5, l6] [.ref 0] σ = ru d 79 58 [l0, l1, l2, l3, l4, l5, l6] [.ref 59] σ := q_getf t79_55 mo79 F7_22 rfl rfl
theorem t79_58 : decode (mb 79) 58 = .ok (.iload_n 1, 1) := by decide +kernel
theorem s79_58 (d : Nat) (l0 : Value) (i1 : Int32) (l2 : Value) (l3 : Value) (l4 : Value) (l5 : Value) (l6 : Value) (w0 : Value) (σ : Hs) : ru d 79 58 [l0, .int i1, l2, l3, l4, l5, l6] [w0] σ = ru d 79 59 [l0, .int i1, l2, l3, l4, l5, l6] [.int i1, w0] σ := q_iload_n t79_58 rfl
theorem t79_59 : decode (mb 79) 59 = .ok (.invokevirtual 108, 3) := by decide +kernel
theorem s79_59_o59 (d : Nat) (l0 : Value) (l1 : Value) (l2 : Value) (l3 : Value) (l4 : Value) (l5 : Value) (l6 : Value) (v1 : Value) (σ : Hs) : ru d 79 59 [l0, l1, l2, l3, l4, l5, l6] [v1, .ref 59] σ = kont (callD d 9 [.ref 59, v1] σ) d 79 62 [l0, l1, l2, l3, l4, l5, l6] [] := q_invv t79_59 mo79 K7_108 mj9 rfl rfl rfl rfl (Nat.le_of_ble_eq_true rfl)
theorem t79_62 : decode (mb 79) 62 = .ok (.iconst 0, 1) := by decide +kernel
theorem s79_62 (d : Nat) (l0 : Value) (l1 : Value) (l2 : Value) (l3 : Value) (l4 : Value) (l5 : Value) (l6 : Value) (σ : Hs) : ru d 79 62 [l0, l1, l2, l3, l4, l5, l6] [] σ = ru d 79 63 [l0, l1, l2, l3, l4, l5, l6] [.int 0] σ := q_iconst t79_62 (by decide +kernel)
theorem t79_63 : decode (mb 79) 63 = .ok (.istore_n 3, 1) := by decide +kernel
theorem s79_63 (d : Nat) (l0 : Value) (l1 : Value) (i2 : Int32) (l3 : Value) (l4 : Value) (l5 : Value) (l6 : Value) (x : Int32) (σ : Hs) : ru d 79 63 [l0, l1, .int i2, l3, l4, l5, l6] [.int x] σ = ru d 79 64 [l0, l1, .int i2, .int x, l4, l5, l6] [] σ := q_istore_n t79_63 ⟨Nat.le_of_ble_eq_true rfl, rfl⟩ rfl
theorem t79_64 : decode (mb 79) 64 = .ok (.iload_n 3, 1) := by decide +kernel
theorem s79_64 (d : Nat) (l0 : Value) (l1 : Value) (l2 : Value) (i3 : Int32) (l4 : Value) (l5 : Value) (l6 : Value) (σ : Hs) : ru d 79 64 [l0, l1, l2, .int i3, l4, l5, l6] [] σ = ru d 79 65 [l0, l1, l2, .int i3, l4, l5, l6] [.int i3] σ := q_iload_n t79_64 rfl
theorem t79_65 : decode (mb 79) 65 = .ok (.iload_n 2, 1) := by decide +kernel
theorem s79_65 (d : Nat) (l0 : Value) (l1 : Value) (i2 : Int32) (l3 : Value) (l4 : Value) (l5 : Value) (l6 : Value) (w0 : Value) (σ : Hs) : ru d 79 65 [l0, l1, .int i2, l3, l4, l5, l6] [w0] σ = ru d 79 66 [l0, l1, .int i2, l3, l4, l5, l6] [.int i2, w0] σ := q_iload_n t79_65 rfl
theorem t79_66 : decode (mb 79) 66 = .ok (.if_icmp .ge 29, 3) := by decide +kernel
theorem s79_66 (d : Nat) (l0 : Value) (l1 : Value) (l2 : Value) (l3 : Value) (l4 : Value) (l5 : Value) (l6 : Value) (x y : Int32) (σ : Hs) : ru d 79 66 [l0, l1, l2, l3, l4, l5, l6] [.int y, .int x] σ = if y ≤ x then ru d 79 95 [l0, l1, l2, l3, l4, l5, l6] [] σ else ru d 79 69 [l0, l1, l2, l3, l4, l5, l6] [] σ := q_ic_ge t79_66 (by decide +kernel)
theorem t79_69 : decode (mb 79) 69 = .ok (.aload_n 0, 1) := by decide +kernel
theorem s79_69 (d : Nat) (a0 : Nat) (l1 : Value) (l2 : Value) (l3 : Value) (l4 : Value) (l5 : Value) (l6 : Value) (σ : Hs) : ru d 79 69 [.ref a0, l1, l2, l3, l4, l5, l6] [] σ = ru d 79 70 [.ref a0, l1, l2, l3, l4, l5, l6] [.ref a0] σ := q_aload_n t79_69 rfl
theorem t79_70 : decode (mb 79) 70 = .ok (.getfield 51, 3) := by decide +kernel
theorem s79_70_o0 (d : Nat) (l0 : Value) (l1 : Value) (l2 : Value) (l3 : Value) (l4 : Value) (l5 : Value) (l6 : Value) (σ : Hs) : ru d 79 70 [l0, l1, l2, l3, l4, l5, l6] [.ref 0] σ = ru d 79 73 [l0, l1, l2, l3, l4, l5, l6] [.ref 86] σ := q_getf t79_70 mo79 F7_51 rfl rfl
theorem t79_73 : decode (mb 79) 73 = .ok (.iload_n 3, 1) := by decide +kernel
theorem s79_73 (d : Nat) (l0 : Value) (l1 : Value) (l2 : Value) (i3 : Int32) (l4 : Value) (l5 : Value) (l6 : Value) (w0 : Value) (σ : Hs) : ru d 79 73 [l0, l1, l2, .int i3, l4, l5, l6] [w0] σ = ru d 79 74 [l0, l1, l2, .int i3, l4, l5, l6] [.int i3, w0] σ := q_iload_n t79_73 rfl
theorem t79_74 : decode (mb 79) 74 = .ok (.aload_n 0, 1) := by decide +kernel
theorem s79_74 (d : Nat) (a0 : Nat) (l1 : Value) (l2 : Value) (l3 : Value) (l4 : Value) (l5 : Value) (l6 : Value) (w0 w1 : Value) (σ : Hs) : ru d 79 74 [.ref a0, l1, l2, l3, l4, l5, l6] [w0, w1] σ = ru d 79 75 [.ref a0, l1, l2, l3, l4, l5, l6] [.ref a0, w0, w1] σ := q_aload_n t79_74 rfl
theorem t79_75 : decode (mb 79) 75 = .ok (.getfield 22, 3) := by decide +kernel
theorem s79_75_o0 (d : Nat) (l0 : Value) (l1 : Value) (l2 : Value) (l3 : Value) (l4 : Value) (l5 : Value) (l6 : Value) (w0 w1 : Value) (σ : Hs) : ru d 79 75 [l0, l1, l2, l3, l4, l5, l6] [.ref 0, w0, w1] σ = ru d 79 78 [l0, l1, l2, l3, l4, l5, l6] [.ref 59, w0, w1] σ := q_getf t79_75 mo79 F7_22 rfl rfl
theorem t79_78 : decode (mb 79) 78 = .ok (.aload_n 0, 1) := by decide +kernel
theorem s79_78 (d : Nat) (a0 : Nat) (l1 : Value) (l2 : Value) (l3 : Value) (l4 : Value) (l5 : Value) (l6 : Value) (w0 w1 w2 : Value) (σ : Hs) : ru d 79 78 [.ref a0, l1, l2, l3, l4, l5, l6] [w0, w1, w2] σ = ru d 79 79 [.ref a0, l1, l2, l3, l4, l5, l6] [.ref a0, w0, w1, w2] σ := q_aload_n t79_78 rfl
theorem t79_79 : decode (mb 79) 79 = .ok (.getfield 10, 3) := by decide +kernel
theorem s79_79_o0 (d : Nat) (l0 : Value) (l1 : Value) (l2 : Value) (l3 : Value) (l4 : Value) (l5 : Value) (l6 : Value) (w0 w1 w2 : Value) (σ : Hs) : ru d 79 79 [l0, l1, l2, l3, l4, l5, l6] [.ref 0, w0, w1, w2] σ = ru d 79 82 [l0, l1, l2, l3, l4, l5, l6] [.ref 1, w0, w1, w2] σ := q_getf t79_79 mo79 F7_10 rfl rfl
theorem t79_82 : decode (mb 79) 82 = .ok (.getfield 146, 3) := by decide +kernel
theorem s79_82_o1 (d : Nat) (l0 : Value) (l1 : Value) (l2 : Value) (l3 : Value) (l4 : Value) (l5 : Value) (l6 : Value) (w0 w1 w2 : Value) (σ : Hs) : ru d 79 82 [l0, l1, l2, l3, l4, l5, l6] [.ref 1, w0, w1, w2] σ = ru d 79 85 [l0, l1, l2, l3, l4, l5, l6] [.ref 13, w0, w1, w2] σ := q_getf t79_82 mo79 F7_146 rfl rfl
theorem t79_85 : decode (mb 79) 85 = .ok (.invokevirtual 202, 3) := by decide +kernel
theorem s79_85_o59 (d : Nat) (l0 : Value) (l1 : Value) (l2 : Value) (l3 : Value) (l4 : Value) (l5 : Value) (l6 : Value) (v1 : Value) (w0 : Int32) (w1 : Nat) (σ : Hs) : ru d 79 85 [l0, l1, l2, l3, l4, l5, l6] [v1, .ref 59, .int w0, .ref w1] σ = kont (callD d 14 [.ref 59, v1] σ) d 79 88 [l0, l1, l2, l3, l4, l5, l6] [.int w0, .ref w1] := q_invv t79_85 mo79 K7_202 mj14 rfl rfl rfl rfl (Nat.le_of_ble_eq_true rfl)
theorem t79_88 : decode (mb 79) 88 = .ok (.iastore, 1) := by decide +kernel
theorem s79_88_o86 (d : Nat) (l0 : Value) (l1 : Value) (l2 : Value) (l3 : Value) (l4 : Value) (l5 : Value) (l6 : Value) (i x : Int32) (σ : Hs) : ru d 79 88 [l0, l1, l2, l3, l4, l5, l6] [.int x, .int i, .ref 86] σ = gd (vp_in i 60) (ru d 79 89 [l0, l1, l2, l3, l4, l5, l6] [] (up2 σ 86 i.toNatClampNeg x)) := q_iast t79_88 (by decide +kernel) rfl rfl
theorem t79_89 : decode (mb 79) 89 = .ok (.iinc 3 1, 3) := by decide +kernel
theorem s79_89 (d : Nat) (l0 : Value) (l1 : Value) (i2 : Int32) (i3 : Int32) (l4 : Value) (l5 : Value) (l6 : Value) (σ : Hs) : ru d 79 89 [l0, l1, .int i2, .int i3, l4, l5, l6] [] σ = ru d 79 92 [l0, l1, .int i2, .int (i3 + 1), l4, l5, l6] [] σ := q_iinc t79_89 ⟨Nat.le_of_ble_eq_true rfl, rfl⟩ rfl (by decide +kernel) rfl
theorem t79_92 : decode (mb 79) 92 = .ok (.goto (-28), 3) := by decide +kernel
theorem s79_92 (d : Nat) (l0 : Value) (l1 : Value) (l2 : Value) (l3 : Value) (l4 : Value) (l5 : Value) (l6 : Value) (σ : Hs) : ru d 79 92 [l0, l1, l2, l3, l4, l5, l6] [] σ = ru d 79 64 [l0, l1, l2, l3, l4, l5, l6] [] σ := q_goto t79_92 (by decide +kernel)
theorem t79_95 : decode (mb 79) 95 = .ok (.iconst 0, 1) := by decide +kernel
theorem s79_95 (d : Nat) (l0 : Value) (l1 : Value) (l2 : Value) (l3 : Value) (l4 : Value) (l5 : Value) (l6 : Value) (σ : Hs) : ru d 79 95 [l0, l1, l2, l3, l4, l5, l6] [] σ = ru d 79 96 [l0, l1, l2, l3, l4, l5, l6] [.int 0] σ := q_iconst t79_95 (by decide +kernel)
theorem t79_96 : decode (mb 79) 96 = .ok (.istore_n 3, 1) := by decide +kernel
theorem s79_96 (d : Nat) (l0 : Value) (l1 : Value) (i2 : Int32) (l3 : Value) (l4 : Value) (l5 : Value) (l6 : Value) (x : Int32) (σ : Hs) : ru d 79 96 [l0, l1, .int i2, l3, l4, l5, l6] [.int x] σ = ru d 79 97 [l0, l1, .int i2, .int x, l4, l5, l6] [] σ := q_istore_n t79_96 ⟨Nat.le_of_ble_eq_true rfl, rfl⟩ rfl
theorem t79_97 : decode (mb 79) 97 = .ok (.aload_n 0, 1) := by decide +kernel
theorem s79_97 (d : Nat) (a0 : Nat) (l1 : Value) (l2 : Value) (l3 : Value) (l4 : Value) (l5 : Value) (l6 : Value) (σ : Hs) : ru d 79 97 [.ref a0, l1, l2, l3, l4, l5, l6] [] σ = ru d 79 98 [.ref a0, l1, l2, l3, l4, l5, l6] [.ref a0] σ := q_aload_n t79_97 rfl
theorem t79_98 : decode (mb 79) 98 = .ok (.iconst 0, 1) := by decide +kernel
theorem s79_98 (d : Nat) (l0 : Value) (l1 : Value) (l2 : Value) (l3 : Value) (l4 : Value) (l5 : Value) (l6 : Value) (w0 : Value) (σ : Hs) : ru d 79 98 [l0, l1, l2, l3, l4, l5, l6] [w0] σ = ru d 79 99 [l0, l1, l2, l3, l4, l5, l6] [.int 0, w0] σ := q_iconst t79_98 (by decide +kernel)
theorem t79_99 : decode (mb 79) 99 = .ok (.iload_n 2, 1) := by decide +kernel
theorem s79_99 (d : Nat) (l0 : Value) (l1 : Value) (i2 : Int32) (l3 : Value) (l4 : Value) (l5 : Value) (l6 : Value) (w0 w1 : Value) (σ : Hs) : ru d 79 99 [l0, l1, .int i2, l3, l4, l5, l6] [w0, w1] σ = ru d 79 100 [l0, l1, .int i2, l3, l4, l5, l6] [.int i2, w0, w1] σ := q_iload_n t79_99 rfl
theorem t79_100 : decode (mb 79) 100 = .ok (.invokevirtual 206, 3) := by decide +kernel
theorem s79_100_o0 (d : Nat) (l0 : Value) (l1 : Value) (l2 : Value) (l3 : Value) (l4 : Value) (l5 : Value) (l6 : Value) (v1 v2 : Value) (σ : Hs) : ru d 79 100 [l0, l1, l2, l3, l4, l5, l6] [v2, v1, .ref 0] σ = kont (callD d 101 [.ref 0, v1, v2] σ) d 79 103 [l0, l1, l2, l3, l4, l5, l6] [] := q_invv t79_100 mo79 K7_206 mj101 rfl rfl rfl rfl (Nat.le_of_ble_eq_true rfl)
theorem t79_103 : decode (mb 79) 103 = .ok (.istore 4, 2) := by decide +kernel
theorem s79_103 (d : Nat) (l0 : Value) (l1 : Value) (l2 : Value) (i3 : Int32) (l4 : Value) (l5 : Value) (l6 : Value) (x : Int32) (σ : Hs) : ru d 79 103 [l0, l1, l2, .int i3, l4, l5, l6] [.int x] σ = ru d 79 105 [l0, l1, l2, .int i3, .int x, l5, l6] [] σ := q_istore t79_103 ⟨Nat.le_of_ble_eq_true rfl, rfl⟩ rfl
theorem t79_105 : decode (mb 79) 105 = .ok (.iconst 1, 1) := by decide +kernel
theorem s79_105 (d : Nat) (l0 : Value) (l1 : Value) (l2 : Value) (l3 : Value) (l4 : Value) (l5 : Value) (l6 : Value) (σ : Hs) : ru d 79 105 [l0, l1, l2, l3, l4, l5, l6] [] σ = ru d 79 106 [l0, l1, l2, l3, l4, l5, l6] [.int 1] σ := q_iconst t79_105 (by decide +kernel)
theorem t79_106 : decode (mb 79) 106 = .ok (.istore 5, 2) := by decide +kernel
theorem s79_106 (d : Nat) (l0 : Value) (l1 : Value) (l2 : Value) (l3 : Value) (i4 : Int32) (l5 : Value) (l6 : Value) (x : Int32) (σ : Hs) : ru d 79 106 [l0, l1, l2, l3, .int i4, l5, l6] [.int x] σ = ru d 79 108 [l0, l1, l2, l3, .int i4, .int x, l6] [] σ := q_istore t79_106 ⟨Nat.le_of_ble_eq_true rfl, rfl⟩ rfl
theorem t79_108 : decode (mb 79) 108 = .ok (.iload 5, 2) := by decide +kernel
theorem s79_108 (d : Nat) (l0 : Value) (l1 : Value) (l2 : Value) (l3 : Value) (l4 : Value) (i5 : Int32) (l6 : Value) (σ : Hs) : ru d 79 108 [l0, l1, l2, l3, l4, .int i5, l6] [] σ = ru d 79 110 [l0, l1, l2, l3, l4, .int i5, l6] [.int i5] σ := q_iload t79_108 rfl
theorem t79_110 : decode (mb 79) 110 = .ok (.bipush 24, 2) := by decide +kernel
theorem s79_110 (d : Nat) (l0 : Value) (l1 : Value) (l2 : Value) (l3 : Value) (l4 : Value) (l5 : Value) (l6 : Value) (w0 : Value) (σ : Hs) : ru d 79 110 [l0, l1, l2, l3, l4, l5, l6] [w0] σ = ru d 79 112 [l0, l1, l2, l3, l4, l5, l6] [.int 24, w0] σ := q_bipush t79_110 (by decide +kernel)
theorem t79_112 : decode (mb 79) 112 = .ok (.if_icmp .ge 32, 3) := by decide +kernel
theorem s79_112 (d : Nat) (l0 : Value) (l1 : Value) (l2 : Value) (l3 : Value) (l4 : Value) (l5 : Value) (l6 : Value) (x y : Int32) (σ : Hs) : ru d 79 112 [l0, l1, l2, l3, l4, l5, l6] [.int y, .int x] σ = if y ≤ x then ru d 79 144 [l0, l1, l2, l3, l4, l5, l6] [] σ else ru d 79 115 [l0, l1, l2, l3, l4, l5, l6] [] σ := q_ic_ge t79_112 (by decide +kernel)
theorem t79_115 : decode (mb 79) 115 = .ok (.aload_n 0, 1) := by decide +kernel
theorem s79_115 (d : Nat) (a0 : Nat) (l1 : Value) (l2 : Value) (l3 : Value) (l4 : Value) (l5 : Value) (l6 : Value) (σ : Hs) : ru d 79 115 [.ref a0, l1, l2, l3, l4, l5, l6] [] σ = ru d 79 116 [.ref a0, l1, l2, l3, l4, l5, l6] [.ref a0] σ := q_aload_n t79_115 rfl
theorem t79_116 : decode (mb 79) 116 = .ok (.iload 5, 2) := by decide +kernel
theorem s79_116 (d : Nat) (l0 : Value) (l1 : Value) (l2 : Value) (l3 : Value) (l4 : Value) (i5 : Int32) (l6 : Value) (w0 : Value) (σ : Hs) : ru d 79 116 [l0, l1, l2, l3, l4, .int i5, l6] [w0] σ = ru d 79 118 [l0, l1, l2, l3, l4, .int i5, l6] [.int i5, w0] σ := q_iload t79_116 rfl
theorem t79_118 : decode (mb 79) 118 = .ok (.iload_n 2, 1) := by decide +kernel
theorem s79_118 (d : Nat) (l0 : Value) (l1 : Value) (i2 : Int32) (l3 : Value) (l4 : Value) (l5 : Value) (l6 : Value) (w0 w1 : Value) (σ : Hs) : ru d 79 118 [l0, l1, .int i2, l3, l4, l5, l6] [w0, w1] σ = ru d 79 119 [l0, l1, .int i2, l3, l4, l5, l6] [.int i2, w0, w1] σ := q_iload_n t79_118 rfl
theorem t79_119 : decode (mb 79) 119 = .ok (.invokevirtual 206, 3) := by decide +kernel
theorem s79_119_o0 (d : Nat) (l0 : Value) (l1 : Value) (l2 : Value) (l3 : Value) (l4 : Value) (l5 : Value) (l6 : Value) (v1 v2 : Value) (σ : Hs) : ru d 79 119 [l0, l1, l2, l3, l4, l5, l6] [v2, v1, .ref 0] σ = kont (callD d 101 [.ref 0, v1, v2] σ) d 79 122 [l0, l1, l2, l3, l4, l5, l6] [] := q_invv t79_119 mo79 K7_206 mj101 rfl rfl rfl rfl (Nat.le_of_ble_eq_true rfl)
theorem t79_122 : decode (mb 79) 122 = .ok (.istore 6, 2) := by decide +kernel
theorem s79_122 (d : Nat) (l0 : Value) (l1 : Value) (l2 : Value) (l3 : Value) (l4 : Value) (i5 : Int32) (l6 : Value) (x : Int32) (σ : Hs) : ru d 79 122 [l0, l1, l2, l3, l4, .int i5, l6] [.int x] σ = ru d 79 124 [l0, l1, l2, l3, l4, .int i5, .int x] [] σ := q_istore t79_122 ⟨Nat.le_of_ble_eq_true rfl, rfl⟩ rfl
theorem t79_124 : decode (mb 79) 124 = .ok (.iload 6, 2) := by decide +kernel
theorem s79_124 (d : Nat) (l0 : Value) (l1 : Value) (l2 : Value) (l3 : Value) (l4 : Value) (l5 : Value) (i6 : Int32) (σ : Hs) : ru d 79 124 [l0, l1, l2, l3, l4, l5, .int i6] [] σ = ru d 79 126 [l0, l1, l2, l3, l4, l5, .int i6] [.int i6] σ := q_iload t79_124 rfl
theorem t79_126 : decode (mb 79) 126 = .ok (.iload 4, 2) := by decide +kernel
theorem s79_126 (d : Nat) (l0 : Value) (l1 : Value) (l2 : Value) (l3 : Value) (i4 : Int32) (l5 : Value) (l6 : Value) (w0 : Value) (σ : Hs) : ru d 79 126 [l0, l1, l2, l3, .int i4, l5, l6] [w0] σ = ru d 79 128 [l0, l1, l2, l3, .int i4, l5, l6] [.int i4, w0] σ := q_iload t79_126 rfl
theorem t79_128 : decode (mb 79) 128 = .ok (.if_icmp .ge 10, 3) := by decide +kernel
theorem s79_128 (d : Nat) (l0 : Value) (l1 : Value) (l2 : Value) (l3 : Value) (l4 : Value) (l5 : Value) (l6 : Value) (x y : Int32) (σ : Hs) : ru d 79 128 [l0, l1, l2, l3, l4, l5, l6] [.int y, .int x] σ = if y ≤ x then ru d 79 138 [l0, l1, l2, l3, l4, l5, l6] [] σ else ru d 79 131 [l0, l1, l2, l3, l4, l5, l6] [] σ := q_ic_ge t79_128 (by decide +kernel)
theorem t79_131 : decode (mb 79) 131 = .ok (.iload 5, 2) := by decide +kernel
theorem s79_131 (d : Nat) (l0 : Value) (l1 : Value) (l2 : Value) (l3 : Value) (l4 : Value) (i5 : Int32) (l6 : Value) (σ : Hs) : ru d 79 131 [l0, l1, l2, l3, l4, .int i5, l6] [] σ = ru d 79 133 [l0, l1, l2, l3, l4, .int i5, l6] [.int i5] σ := q_iload t79_131 rfl
theorem t79_133 : decode (mb 79) 133 = .ok (.istore_n 3, 1) := by decide +kernel
theorem s79_133 (d : Nat) (l0 : Value) (l1 : Value) (i2 : Int32) (l3 : Value) (l4 : Value) (l5 : Value) (l6 : Value) (x : Int32) (σ : Hs) : ru d 79 133 [l0, l1, .int i2, l3, l4, l5, l6] [.int x] σ = ru d 79 134 [l0, l1, .int i2, .int x, l4, l5, l6] [] σ := q_istore_n t79_133 ⟨Nat.le_of_ble_eq_true rfl, rfl⟩ rfl
theorem t79_134 : decode (mb 79) 134 = .ok (.iload 6, 2) := by decide +kernel
theorem s79_134 (d : Nat) (l0 : Value) (l1 : Value) (l2 : Value) (l3 : Value) (l4 : Value) (l5 : Value) (i6 : Int32) (σ : Hs) : ru d 79 134 [l0, l1, l2, l3, l4, l5, .int i6] [] σ = ru d 79 136 [l0, l1, l2, l3, l4, l5, .int i6] [.int i6] σ := q_iload t79_134 rfl
theorem t79_136 : decode (mb 79) 136 = .ok (.istore 4, 2) := by decide +kernel
theorem s79_136 (d : Nat) (l0 : Value) (l1 : Value) (l2 : Value) (i3 : Int32) (l4 : Value) (l5 : Value) (l6 : Value) (x : Int32) (σ : Hs) : ru d 79 136 [l0, l1, l2, .int i3, l4, l5, l6] [.int x] σ = ru d 79 138 [l0, l1, l2, .int i3, .int x, l5, l6] [] σ := q_istore t79_136 ⟨Nat.le_of_ble_eq_true rfl, rfl⟩ rfl
theorem t79_138 : decode (mb 79) 138 = .ok (.iinc 5 1, 3) := by decide +kernel
theorem s79_138 (d : Nat) (l0 : Value) (l1 : Value) (l2 : Value) (l3 : Value) (i4 : Int32) (i5 : Int32) (l6 : Value) (σ : Hs) : ru d 79 138 [l0, l1, l2, l3, .int i4, .int i5, l6] [] σ = ru d 79 141 [l0, l1, l2, l3, .int i4, .int (i5 + 1), l6] [] σ := q_iinc t79_138 ⟨Nat.le_of_ble_eq_true rfl, rfl⟩ rfl (by decide +kernel) rfl
theorem t79_141 : decode (mb 79) 141 = .ok (.goto (-33), 3) := by decide +kernel
theorem s79_141 (d : Nat) (l0 : Value) (l1 : Value) (l2 : Value) (l3 : Value) (l4 : Value) (l5 : Value) (l6 : Value) (σ : Hs) : ru d 79 141 [l0, l1, l2, l3, l4, l5, l6] [] σ = ru d 79 108 [l0, l1, l2, l3, l4, l5, l6] [] σ := q_goto t79_141 (by decide +kernel)
theorem t79_144 : decode (mb 79) 144 = .ok (.iload_n 3, 1) := by decide +kernel
theorem s79_144 (d : Nat) (l0 : Value) (l1 : Value) (l2 : Value) (i3 : Int32) (l4 : Value) (l5 : Value) (l6 : Value) (σ : Hs) : ru d 79 144 [l0, l1, l2, .int i3, l4, l5, l6] [] σ = ru d 79 145 [l0, l1, l2, .int i3, l4, l5, l6] [.int i3] σ := q_iload_n t79_144 rfl
theorem t79_145 : decode (mb 79) 145 = .ok (.ireturn, 1) := by decide +kernel
theorem s79_145 (d : Nat) (l0 : Value) (l1 : Value) (l2 : Value) (l3 : Value) (l4 : Value) (l5 : Value) (l6 : Value) (x : Int32) (σ : Hs) : ru d 79 145 [l0, l1, l2, l3, l4, l5, l6] [.int x] σ = some (some (.int x), σ) := q_ireti t79_145 mr79
theorem c79 (d : Nat) (x0 : Nat) (x1 : Int32) (x2 : Int32) (σ : Hs) : callD (d + 1) 79 [.ref x0, .int x1, .int x2] σ = ru d 79 0 [.ref x0, .int x1, .int x2, uu, uu, uu, uu] [] σ := callD_ru ml79 rfl rfl (Nat.le_of_ble_eq_true rfl)
-- 80: SmokyHeap.spot(I)I
theorem t80_0 : decode (mb 80) 0 = .ok (.iload_n 1, 1) := by decide +kernel
theorem s80_0 (d : Nat) (l0 : Value) (i1 : Int32) (l2 : Value) (l3 : Value) (l4 : Value) (σ : Hs) : ru d 80 0 [l0, .int i1, l2, l3, l4] [] σ = ru d 80 1 [l0, .int i1, l2, l3, l4] [.int i1] σ := q_iload_n t80_0 rfl
theorem t80_1 : decode (mb 80) 1 = .ok (.invokestatic 196, 3) := by decide +kernel
theorem s80_1 (d : Nat) (l0 : Value) (l1 : Value) (l2 : Value) (l3 : Value) (l4 : Value) (v0 : Value) (σ : Hs) : ru d 80 1 [l0, l1, l2, l3, l4] [v0] σ = kont (callD d 108 [v0] σ) d 80 4 [l0, l1, l2, l3, l4] [] := q_invs t80_1 mo80 (by decide +kernel) K7_196 mj108 (Nat.le_of_ble_eq_true rfl) rfl rfl (Nat.le_of_ble_eq_true rfl)
theorem t80_4 : decode (mb 80) 4 = .ok (.ifCond .ne 9, 3) := by decide +kernel
theorem s80_4 (d : Nat) (l0 : Value) (l1 : Value) (l2 : Value) (l3 : Value) (l4 : Value) (x : Int32) (σ : Hs) : ru d 80 4 [l0, l1, l2, l3, l4] [.int x] σ = if x = 0 then ru d 80 7 [l0, l1, l2, l3, l4] [] σ else ru d 80 13 [l0, l1, l2, l3, l4] [] σ := q_if_ne t80_4 (by decide +kernel)
theorem t80_7 : decode (mb 80) 7 = .ok (.aload_n 0, 1) := by decide +kernel
theorem s80_7 (d : Nat) (a0 : Nat) (l1 : Value) (l2 : Value) (l3 : Value) (l4 : Value) (σ : Hs) : ru d 80 7 [.ref a0, l1, l2, l3, l4] [] σ = ru d 80 8 [.ref a0, l1, l2, l3, l4] [.ref a0] σ := q_aload_n t80_7 rfl
theorem t80_8 : decode (mb 80) 8 = .ok (.iconst 1, 1) := by decide +kernel
theorem s80_8 (d : Nat) (l0 : Value) (l1 : Value) (l2 : Value) (l3 : Value) (l4 : Value) (w0 : Value) (σ : Hs) : ru d 80 8 [l0, l1, l2, l3, l4] [w0] σ = ru d 80 9 [l0, l1, l2, l3, l4] [.int 1, w0] σ := q_iconst t80_8 (by decide +kernel)
theorem t80_9 : decode (mb 80) 9 = .ok (.invokevirtual 65, 3) := by decide +kernel
theorem s80_9_o0 (d : Nat) (l0 : Value) (l1 : Value) (l2 : Value) (l3 : Value) (l4 : Value) (v1 : Value) (σ : Hs) : ru d 80 9 [l0, l1, l2, l3, l4] [v1, .ref 0] σ = kont (callD d 99 [.ref 0, v1] σ) d 80 12 [l0, l1, l2, l3, l4] [] := q_invv t80_9 mo80 K7_65 mj99 rfl rfl rfl rfl (Nat.le_of_ble_eq_true rfl)
theorem t80_12 : decode (mb 80) 12 = .ok (.ireturn, 1) := by decide +kernel
theorem s80_12 (d : Nat) (l0 : Value) (l1 : Value) (l2 : Value) (l3 : Value) (l4 : Value) (x : Int32) (σ : Hs) : ru d 80 12 [l0, l1, l2, l3, l4] [.int x] σ = some (some (.int x), σ) := q_ireti t80_12 mr80
theorem t80_13 : decode (mb 80) 13 = .ok (.iconst (-1), 1) := by decide +kernel
theorem s80_13 (d : Nat) (l0 : Value) (l1 : Value) (l2 : Value) (l3 : Value) (l4 : Value) (σ : Hs) : ru d 80 13 [l0, l1, l2, l3, l4] [] σ = ru d 80 14 [l0, l1, l2, l3, l4] [.int (-1)] σ := q_iconst t80_13 (by decide +kernel)
theorem t80_14 : decode (mb 80) 14 = .ok (.istore_n 2, 1) := by decide +kernel
theorem s80_14 (d : Nat) (l0 : Value) (i1 : Int32) (l2 : Value) (l3 : Value) (l4 : Value) (x : Int32) (σ : Hs) : ru d 80 14 [l0, .int i1, l2, l3, l4] [.int x] σ = ru d 80 15 [l0, .int i1, .int x, l3, l4] [] σ := q_istore_n t80_14 ⟨Nat.le_of_ble_eq_true rfl, rfl⟩ rfl
theorem t80_15 : decode (mb 80) 15 = .ok (.iconst (-1), 1) := by decide +kernel
theorem s80_15 (d : Nat) (l0 : Value) (l1 : Value) (l2 : Value) (l3 : Value) (l4 : Value) (σ : Hs) : ru d 80 15 [l0, l1, l2, l3, l4] [] σ = ru d 80 16 [l0, l1, l2, l3, l4] [.int (-1)] σ := q_iconst t80_15 (by decide +kernel)
theorem t80_16 : decode (mb 80) 16 = .ok (.istore_n 3, 1) := by decide +kernel
theorem s80_16 (d : Nat) (l0 : Value) (l1 : Value) (i2 : Int32) (l3 : Value) (l4 : Value) (x : Int32) (σ : Hs) : ru d 80 16 [l0, l1, .int i2, l3, l4] [.int x] σ = ru d 80 17 [l0, l1, .int i2, .int x, l4] [] σ := q_istore_n t80_16 ⟨Nat.le_of_ble_eq_true rfl, rfl⟩ rfl
theorem t80_17 : decode (mb 80) 17 = .ok (.iconst 0, 1) := by decide +kernel
theorem s80_17 (d : Nat) (l0 : Value) (l1 : Value) (l2 : Value) (l3 : Value) (l4 : Value) (σ : Hs) : ru d 80 17 [l0, l1, l2, l3, l4] [] σ = ru d 80 18 [l0, l1, l2, l3, l4] [.int 0] σ := q_iconst t80_17 (by decide +kernel)
theorem t80_18 : decode (mb 80) 18 = .ok (.istore 4, 2) := by decide +kernel
theorem s80_18 (d : Nat) (l0 : Value) (l1 : Value) (l2 : Value) (i3 : Int32) (l4 : Value) (x : Int32) (σ : Hs) : ru d 80 18 [l0, l1, l2, .int i3, l4] [.int x] σ = ru d 80 20 [l0, l1, l2, .int i3, .int x] [] σ := q_istore t80_18 ⟨Nat.le_of_ble_eq_true rfl, rfl⟩ rfl
theorem t80_20 : decode (mb 80) 20 = .ok (.iload 4, 2) := by decide +kernel
theorem s80_20 (d : Nat) (l0 : Value) (l1 : Value) (l2 : Value) (l3 : Value) (i4 : Int32) (σ : Hs) : ru d 80 20 [l0, l1, l2, l3, .int i4] [] σ = ru d 80 22 [l0, l1, l2, l3, .int i4] [.int i4] σ := q_iload t80_20 rfl
theorem t80_22 : decode (mb 80) 22 = .ok (.bipush 30, 2) := by decide +kernel
theorem s80_22 (d : Nat) (l0 : Value) (l1 : Value) (l2 : Value) (l3 : Value) (l4 : Value) (w0 : Value) (σ : Hs) : ru d 80 22 [l0, l1, l2, l3, l4] [w0] σ = ru d 80 24 [l0, l1, l2, l3, l4] [.int 30, w0] σ := q_bipush t80_22 (by decide +kernel)
theorem t80_24 : decode (mb 80) 24 = .ok (.if_icmp .ge 84, 3) := by decide +kernel
theorem s80_24 (d : Nat) (l0 : Value) (l1 : Value) (l2 : Value) (l3 : Value) (l4 : Value) (x y : Int32) (σ : Hs) : ru d 80 24 [l0, l1, l2, l3, l4] [.int y, .int x] σ = if y ≤ x then ru d 80 108 [l0, l1, l2, l3, l4] [] σ else ru d 80 27 [l0, l1, l2, l3, l4] [] σ := q_ic_ge t80_24 (by decide +kernel)
theorem t80_27 : decode (mb 80) 27 = .ok (.aload_n 0, 1) := by decide +kernel
theorem s80_27 (d : Nat) (a0 : Nat) (l1 : Value) (l2 : Value) (l3 : Value) (l4 : Value) (σ : Hs) : ru d 80 27 [.ref a0, l1, l2, l3, l4] [] σ = ru d 80 28 [.ref a0, l1, l2, l3, l4] [.ref a0] σ := q_aload_n t80_27 rfl
theorem t80_28 : decode (mb 80) 28 = .ok (.getfield 10, 3) := by decide +kernel
theorem s80_28_o0 (d : Nat) (l0 : Value) (l1 : Value) (l2 : Value) (l3 : Value) (l4 : Value) (σ : Hs) : ru d 80 28 [l0, l1, l2, l3, l4] [.ref 0] σ = ru d 80 31 [l0, l1, l2, l3, l4] [.ref 1] σ := q_getf t80_28 mo80 F7_10 rfl rfl
theorem t80_31 : decode (mb 80) 31 = .ok (.getfield 58, 3) := by decide +kernel
theorem s80_31_o1 (d : Nat) (l0 : Value) (l1 : Value) (l2 : Value) (l3 : Value) (l4 : Value) (σ : Hs) : ru d 80 31 [l0, l1, l2, l3, l4] [.ref 1] σ = ru d 80 34 [l0, l1, l2, l3, l4] [.ref 2] σ := q_getf t80_31 mo80 F7_58 rfl rfl
theorem t80_34 : decode (mb 80) 34 = .ok (.iload 4, 2) := by decide +kernel
theorem s80_34 (d : Nat) (l0 : Value) (l1 : Value) (l2 : Value) (l3 : Value) (i4 : Int32) (w0 : Value) (σ : Hs) : ru d 80 34 [l0, l1, l2, l3, .int i4] [w0] σ = ru d 80 36 [l0, l1, l2, l3, .int i4] [.int i4, w0] σ := q_iload t80_34 rfl
theorem t80_36 : decode (mb 80) 36 = .ok (.invokevirtual 73, 3) := by decide +kernel
theorem s80_36_o2 (d : Nat) (l0 : Value) (l1 : Value) (l2 : Value) (l3 : Value) (l4 : Value) (v1 : Value) (σ : Hs) : ru d 80 36 [l0, l1, l2, l3, l4] [v1, .ref 2] σ = kont (callD d 1 [.ref 2, v1] σ) d 80 39 [l0, l1, l2, l3, l4] [] := q_invv t80_36 mo80 K7_73 mj1 rfl rfl rfl rfl (Nat.le_of_ble_eq_true rfl)
theorem t80_39 : decode (mb 80) 39 = .ok (.ifCond .eq 63, 3) := by decide +kernel
theorem s80_39 (d : Nat) (l0 : Value) (l1 : Value) (l2 : Value) (l3 : Value) (l4 : Value) (x : Int32) (σ : Hs) : ru d 80 39 [l0, l1, l2, l3, l4] [.int x] σ = if x = 0 then ru d 80 102 [l0, l1, l2, l3, l4] [] σ else ru d 80 42 [l0, l1, l2, l3, l4] [] σ := q_if_eq t80_39 (by decide +kernel)
theorem t80_42 : decode (mb 80) 42 = .ok (.aload_n 0, 1) := by decide +kernel
theorem s80_42 (d : Nat) (a0 : Nat) (l1 : Value) (l2 : Value) (l3 : Value) (l4 : Value) (σ : Hs) : ru d 80 42 [.ref a0, l1, l2, l3, l4] [] σ = ru d 80 43 [.ref a0, l1, l2, l3, l4] [.ref a0] σ := q_aload_n t80_42 rfl
theorem t80_43 : decode (mb 80) 43 = .ok (.getfield 22, 3) := by decide +kernel
theorem s80_43_o0 (d : Nat) (l0 : Value) (l1 : Value) (l2 : Value) (l3 : Value) (l4 : Value) (σ : Hs) : ru d 80 43 [l0, l1, l2, l3, l4] [.ref 0] σ = ru d 80 46 [l0, l1, l2, l3, l4] [.ref 59] σ := q_getf t80_43 mo80 F7_22 rfl rfl
theorem t80_46 : decode (mb 80) 46 = .ok (.aload_n 0, 1) := by decide +kernel
theorem s80_46 (d : Nat) (a0 : Nat) (l1 : Value) (l2 : Value) (l3 : Value) (l4 : Value) (w0 : Value) (σ : Hs) : ru d 80 46 [.ref a0, l1, l2, l3, l4] [w0] σ = ru d 80 47 [.ref a0, l1, l2, l3, l4] [.ref a0, w0] σ := q_aload_n t80_46 rfl
theorem t80_47 : decode (mb 80) 47 = .ok (.getfield 10, 3) := by decide +kernel
theorem s80_47_o0 (d : Nat) (l0 : Value) (l1 : Value) (l2 : Value) (l3 : Value) (l4 : Value) (w0 : Value) (σ : Hs) : ru d 80 47 [l0, l1, l2, l3, l4] [.ref 0, w0] σ = ru d 80 50 [l0, l1, l2, l3, l4] [.ref 1, w0] σ := q_getf t80_47 mo80 F7_10 rfl rfl
theorem t80_50 : decode (mb 80) 50 = .ok (.getfield 58, 3) := by decide +kernel
theorem s80_50_o1 (d : Nat) (l0 : Value) (l1 : Value) (l2 : Value) (l3 : Value) (l4 : Value) (w0 : Value) (σ : Hs) : ru d 80 50 [l0, l1, l2, l3, l4] [.ref 1, w0] σ = ru d 80 53 [l0, l1, l2, l3, l4] [.ref 2, w0] σ := q_getf t80_50 mo80 F7_58 rfl rfl
theorem t80_53 : decode (mb 80) 53 = .ok (.invokevirtual 199, 3) := by decide +kernel
theorem s80_53_o59 (d : Nat) (l0 : Value) (l1 : Value) (l2 : Value) (l3 : Value) (l4 : Value) (v1 : Value) (σ : Hs) : ru d 80 53 [l0, l1, l2, l3, l4] [v1, .ref 59] σ = kont (callD d 0 [.ref 59, v1] σ) d 80 56 [l0, l1, l2, l3, l4] [] := q_invv t80_53 mo80 K7_199 mj0 rfl rfl rfl rfl (Nat.le_of_ble_eq_true rfl)
theorem t80_56 : decode (mb 80) 56 = .ok (.aload_n 0, 1) := by decide +kernel
theorem s80_56 (d : Nat) (a0 : Nat) (l1 : Value) (l2 : Value) (l3 : Value) (l4 : Value) (σ : Hs) : ru d 80 56 [.ref a0, l1, l2, l3, l4] [] σ = ru d 80 57 [.ref a0, l1, l2, l3, l4] [.ref a0] σ := q_aload_n t80_56 rfl
theorem t80_57 : decode (mb 80) 57 = .ok (.getfield 22, 3) := by decide +kernel
theorem s80_57_o0 (d : Nat) (l0 : Value) (l1 : Value) (l2 : Value) (l3 : Value) (l4 : Value) (σ : Hs) : ru d 80 57 [l0, l1, l2, l3, l4] [.ref 0] σ = ru d 80 60 [l0, l1, l2, l3, l4] [.ref 59] σ := q_getf t80_57 mo80 F7_22 rfl rfl
theorem t80_60 : decode (mb 80) 60 = .ok (.iload 4, 2) := by decide +kernel
theorem s80_60 (d : Nat) (l0 : Value) (l1 : Value) (l2 : Value) (l3 : Value) (i4 : Int32) (w0 : Value) (σ : Hs) : ru d 80 60 [l0, l1, l2, l3, .int i4] [w0] σ = ru d 80 62 [l0, l1, l2, l3, .int i4] [.int i4, w0] σ := q_iload t80_60 rfl
theorem t80_62 : decode (mb 80) 62 = .ok (.invokevirtual 108, 3) := by decide +kernel
theorem s80_62_o59 (d : Nat) (l0 : Value) (l1 : Value) (l2 : Value) (l3 : Value) (l4 : Value) (v1 : Value) (σ : Hs) : ru d 80 62 [l0, l1, l2, l3, l4] [v1, .ref 59] σ = kont (callD d 9 [.ref 59, v1] σ) d 80 65 [l0, l1, l2, l3, l4] [] := q_invv t80_62 mo80 K7_108 mj9 rfl rfl rfl rfl (Nat.le_of_ble_eq_true rfl)
theorem t80_65 : decode (mb 80) 65 = .ok (.aload_n 0, 1) := by decide +kernel
theorem s80_65 (d : Nat) (a0 : Nat) (l1 : Value) (l2 : Value) (l3 : Value) (l4 : Value) (σ : Hs) : ru d 80 65 [.ref a0, l1, l2, l3, l4] [] σ = ru d 80 66 [.ref a0, l1, l2, l3, l4] [.ref a0] σ := q_aload_n t80_65 rfl
theorem t80_66 : decode (mb 80) 66 = .ok (.getfield 22, 3) := by decide +kernel
theorem s80_66_o0 (d : Nat) (l0 : Value) (l1 : Value) (l2 : Value) (l3 : Value) (l4 : Value) (σ : Hs) : ru d 80 66 [l0, l1, l2, l3, l4] [.ref 0] σ = ru d 80 69 [l0, l1, l2, l3, l4] [.ref 59] σ := q_getf t80_66 mo80 F7_22 rfl rfl
theorem t80_69 : decode (mb 80) 69 = .ok (.iload_n 1, 1) := by decide +kernel
theorem s80_69 (d : Nat) (l0 : Value) (i1 : Int32) (l2 : Value) (l3 : Value) (l4 : Value) (w0 : Value) (σ : Hs) : ru d 80 69 [l0, .int i1, l2, l3, l4] [w0] σ = ru d 80 70 [l0, .int i1, l2, l3, l4] [.int i1, w0] σ := q_iload_n t80_69 rfl
theorem t80_70 : decode (mb 80) 70 = .ok (.aload_n 0, 1) := by decide +kernel
theorem s80_70 (d : Nat) (a0 : Nat) (l1 : Value) (l2 : Value) (l3 : Value) (l4 : Value) (w0 w1 : Value) (σ : Hs) : ru d 80 70 [.ref a0, l1, l2, l3, l4] [w0, w1] σ = ru d 80 71 [.ref a0, l1, l2, l3, l4] [.ref a0, w0, w1] σ := q_aload_n t80_70 rfl
theorem t80_71 : decode (mb 80) 71 = .ok (.getfield 10, 3) := by decide +kernel
theorem s80_71_o0 (d : Nat) (l0 : Value) (l1 : Value) (l2 : Value) (l3 : Value) (l4 : Value) (w0 w1 : Value) (σ : Hs) : ru d 80 71 [l0, l1, l2, l3, l4] [.ref 0, w0, w1] σ = ru d 80 74 [l0, l1, l2, l3, l4] [.ref 1, w0, w1] σ := q_getf t80_71 mo80 F7_10 rfl rfl
theorem t80_74 : decode (mb 80) 74 = .ok (.getfield 146, 3) := by decide +kernel
theorem s80_74_o1 (d : Nat) (l0 : Value) (l1 : Value) (l2 : Value) (l3 : Value) (l4 : Value) (w0 w1 : Value) (σ : Hs) : ru d 80 74 [l0, l1, l2, l3, l4] [.ref 1, w0, w1] σ = ru d 80 77 [l0, l1, l2, l3, l4] [.ref 13, w0, w1] σ := q_getf t80_74 mo80 F7_146 rfl rfl
theorem t80_77 : decode (mb 80) 77 = .ok (.invokevirtual 168, 3) := by decide +kernel
theorem s80_77_o59 (d : Nat) (l0 : Value) (l1 : Value) (l2 : Value) (l3 : Value) (l4 : Value) (v1 v2 : Value) (σ : Hs) : ru d 80 77 [l0, l1, l2, l3, l4] [v2, v1, .ref 59] σ = kont (callD d 13 [.ref 59, v1, v2] σ) d 80 80 [l0, l1, l2, l3, l4] [] := q_invv t80_77 mo80 K7_168 mj13 rfl rfl rfl rfl (Nat.le_of_ble_eq_true rfl)
theorem t80_80 : decode (mb 80) 80 = .ok (.aload_n 0, 1) := by decide +kernel
theorem s80_80 (d : Nat) (a0 : Nat) (l1 : Value) (l2 : Value) (l3 : Value) (l4 : Value) (σ : Hs) : ru d 80 80 [.ref a0, l1, l2, l3, l4] [] σ = ru d 80 81 [.ref a0, l1, l2, l3, l4] [.ref a0] σ := q_aload_n t80_80 rfl
theorem t80_81 : decode (mb 80) 81 = .ok (.getfield 22, 3) := by decide +kernel
theorem s80_81_o0 (d : Nat) (l0 : Value) (l1 : Value) (l2 : Value) (l3 : Value) (l4 : Value) (σ : Hs) : ru d 80 81 [l0, l1, l2, l3, l4] [.ref 0] σ = ru d 80 84 [l0, l1, l2, l3, l4] [.ref 59] σ := q_getf t80_81 mo80 F7_22 rfl rfl
theorem t80_84 : decode (mb 80) 84 = .ok (.getfield 209, 3) := by decide +kernel
theorem s80_84_o59 (d : Nat) (l0 : Value) (l1 : Value) (l2 : Value) (l3 : Value) (l4 : Value) (σ : Hs) : ru d 80 84 [l0, l1, l2, l3, l4] [.ref 59] σ = ru d 80 87 [l0, l1, l2, l3, l4] [.int (σ 59 11)] σ := q_getf t80_84 mo80 F7_209 rfl rfl
theorem t80_87 : decode (mb 80) 87 = .ok (.iload_n 3, 1) := by decide +kernel
theorem s80_87 (d : Nat) (l0 : Value) (l1 : Value) (l2 : Value) (i3 : Int32) (l4 : Value) (w0 : Value) (σ : Hs) : ru d 80 87 [l0, l1, l2, .int i3, l4] [w0] σ = ru d 80 88 [l0, l1, l2, .int i3, l4] [.int i3, w0] σ := q_iload_n t80_87 rfl
theorem t80_88 : decode (mb 80) 88 = .ok (.if_icmp .le 14, 3) := by decide +kernel
theorem s80_88 (d : Nat) (l0 : Value) (l1 : Value) (l2 : Value) (l3 : Value) (l4 : Value) (x y : Int32) (σ : Hs) : ru d 80 88 [l0, l1, l2, l3, l4] [.int y, .int x] σ = if x ≤ y then ru d 80 102 [l0, l1, l2, l3, l4] [] σ else ru d 80 91 [l0, l1, l2, l3, l4] [] σ := q_ic_le t80_88 (by decide +kernel)
theorem t80_91 : decode (mb 80) 91 = .ok (.iload 4, 2) := by decide +kernel
theorem s80_91 (d : Nat) (l0 : Value) (l1 : Value) (l2 : Value) (l3 : Value) (i4 : Int32) (σ : Hs) : ru d 80 91 [l0, l1, l2, l3, .int i4] [] σ = ru d 80 93 [l0, l1, l2, l3, .int i4] [.int i4] σ := q_iload t80_91 rfl
theorem t80_93 : decode (mb 80) 93 = .ok (.istore_n 2, 1) := by decide +kernel
theorem s80_93 (d : Nat) (l0 : Value) (i1 : Int32) (l2 : Value) (l3 : Value) (l4 : Value) (x : Int32) (σ : Hs) : ru d 80 93 [l0, .int i1, l2, l3, l4] [.int x] σ = ru d 80 94 [l0, .int i1, .int x, l3, l4] [] σ := q_istore_n t80_93 ⟨Nat.le_of_ble_eq_true rfl, rfl⟩ rfl
theorem t80_94 : decode (mb 80) 94 = .ok (.aload_n 0, 1) := by decide +kernel
theorem s80_94 (d : Nat) (a0 : Nat) (l1 : Value) (l2 : Value) (l3 : Value) (l4 : Value) (σ : Hs) : ru d 80 94 [.ref a0, l1, l2, l3, l4] [] σ = ru d 80 95 [.ref a0, l1, l2, l3, l4] [.ref a0] σ := q_aload_n t80_94 rfl
theorem t80_95 : decode (mb 80) 95 = .ok (.getfield 22, 3) := by decide +kernel
theorem s80_95_o0 (d : Nat) (l0 : Value) (l1 : Value) (l2 : Value) (l3 : Value) (l4 : Value) (σ : Hs) : ru d 80 95 [l0, l1, l2, l3, l4] [.ref 0] σ = ru d 80 98 [l0, l1, l2, l3, l4] [.ref 59] σ := q_getf t80_95 mo80 F7_22 rfl rfl
theorem t80_98 : decode (mb 80) 98 = .ok (.getfield 209, 3) := by decide +kernel
theorem s80_98_o59 (d : Nat) (l0 : Value) (l1 : Value) (l2 : Value) (l3 : Value) (l4 : Value) (σ : Hs) : ru d 80 98 [l0, l1, l2, l3, l4] [.ref 59] σ = ru d 80 101 [l0, l1, l2, l3, l4] [.int (σ 59 11)] σ := q_getf t80_98 mo80 F7_209 rfl rfl
theorem t80_101 : decode (mb 80) 101 = .ok (.istore_n 3, 1) := by decide +kernel
theorem s80_101 (d : Nat) (l0 : Value) (l1 : Value) (i2 : Int32) (l3 : Value) (l4 : Value) (x : Int32) (σ : Hs) : ru d 80 101 [l0, l1, .int i2, l3, l4] [.int x] σ = ru d 80 102 [l0, l1, .int i2, .int x, l4] [] σ := q_istore_n t80_101 ⟨Nat.le_of_ble_eq_true rfl, rfl⟩ rfl
theorem t80_102 : decode (mb 80) 102 = .ok (.iinc 4 1, 3) := by decide +kernel
theorem s80_102 (d : Nat) (l0 : Value) (l1 : Value) (l2 : Value) (i3 : Int32) (i4 : Int32) (σ : Hs) : ru d 80 102 [l0, l1, l2, .int i3, .int i4] [] σ = ru d 80 105 [l0, l1, l2, .int i3, .int (i4 + 1)] [] σ := q_iinc t80_102 ⟨Nat.le_of_ble_eq_true rfl, rfl⟩ rfl (by decide +kernel) rfl
theorem t80_105 : decode (mb 80) 105 = .ok (.goto (-85), 3) := by decide +kernel
theorem s80_105 (d : Nat) (l0 : Value) (l1 : Value) (l2 : Value) (l3 : Value) (l4 : Value) (σ : Hs) : ru d 80 105 [l0, l1, l2, l3, l4] [] σ = ru d 80 20 [l0, l1, l2, l3, l4] [] σ := q_goto t80_105 (by decide +kernel)
theorem t80_108 : decode (mb 80) 108 = .ok (.iload_n 2, 1) := by decide +kernel
theorem s80_108 (d : Nat) (l0 : Value) (l1 : Value) (i2 : Int32) (l3 : Value) (l4 : Value) (σ : Hs) : ru d 80 108 [l0, l1, .int i2, l3, l4] [] σ = ru d 80 109 [l0, l1, .int i2, l3, l4] [.int i2] σ := q_iload_n t80_108 rfl
theorem t80_109 : decode (mb 80) 109 = .ok (.iconst (-1), 1) := by decide +kernel
theorem s80_109 (d : Nat) (l0 : Value) (l1 : Value) (l2 : Value) (l3 : Value) (l4 : Value) (w0 : Value) (σ : Hs) : ru d 80 109 [l0, l1, l2, l3, l4] [w0] σ = ru d 80 110 [l0, l1, l2, l3, l4] [.int (-1), w0] σ := q_iconst t80_109 (by decide +kernel)
theorem t80_110 : decode (mb 80) 110 = .ok (.if_icmp .ne 11, 3) := by decide +kernel
theorem s80_110 (d : Nat) (l0 : Value) (l1 : Value) (l2 : Value) (l3 : Value) (l4 : Value) (x y : Int32) (σ : Hs) : ru d 80 110 [l0, l1, l2, l3, l4] [.int y, .int x] σ = if x = y then ru d 80 113 [l0, l1, l2, l3, l4] [] σ else ru d 80 121 [l0, l1, l2, l3, l4] [] σ := q_ic_ne t80_110 (by decide +kernel)
theorem t80_113 : decode (mb 80) 113 = .ok (.aload_n 0, 1) := by decide +kernel
theorem s80_113 (d : Nat) (a0 : Nat) (l1 : Value) (l2 : Value) (l3 : Value) (l4 : Value) (σ : Hs) : ru d 80 113 [.ref a0, l1, l2, l3, l4] [] σ = ru d 80 114 [.ref a0, l1, l2, l3, l4] [.ref a0] σ := q_aload_n t80_113 rfl
theorem t80_114 : decode (mb 80) 114 = .ok (.iconst 2, 1) := by decide +kernel
theorem s80_114 (d : Nat) (l0 : Value) (l1 : Value) (l2 : Value) (l3 : Value) (l4 : Value) (w0 : Value) (σ : Hs) : ru d 80 114 [l0, l1, l2, l3, l4] [w0] σ = ru d 80 115 [l0, l1, l2, l3, l4] [.int 2, w0] σ := q_iconst t80_114 (by decide +kernel)
theorem t80_115 : decode (mb 80) 115 = .ok (.invokevirtual 65, 3) := by decide +kernel
theorem s80_115_o0 (d : Nat) (l0 : Value) (l1 : Value) (l2 : Value) (l3 : Value) (l4 : Value) (v1 : Value) (σ : Hs) : ru d 80 115 [l0, l1, l2, l3, l4] [v1, .ref 0] σ = kont (callD d 99 [.ref 0, v1] σ) d 80 118 [l0, l1, l2, l3, l4] [] := q_invv t80_115 mo80 K7_65 mj99 rfl rfl rfl rfl (Nat.le_of_ble_eq_true rfl)
theorem t80_118 : decode (mb 80) 118 = .ok (.goto 4, 3) := by decide +kernel
theorem s80_118 (d : Nat) (l0 : Value) (l1 : Value) (l2 : Value) (l3 : Value) (l4 : Value) (w0 : Value) (σ : Hs) : ru d 80 118 [l0, l1, l2, l3, l4] [w0] σ = ru d 80 122 [l0, l1, l2, l3, l4] [w0] σ := q_goto t80_118 (by decide +kernel)
theorem t80_121 : decode (mb 80) 121 = .ok (.iload_n 2, 1) := by decide +kernel
theorem s80_121 (d : Nat) (l0 : Value) (l1 : Value) (i2 : Int32) (l3 : Value) (l4 : Value) (σ : Hs) : ru d 80 121 [l0, l1, .int i2, l3, l4] [] σ = ru d 80 122 [l0, l1, .int i2, l3, l4] [.int i2] σ := q_iload_n t80_121 rfl
theorem t80_122 : decode (mb 80) 122 = .ok (.ireturn, 1) := by decide +kernel
theorem s80_122 (d : Nat) (l0 : Value) (l1 : Value) (l2 : Value) (l3 : Value) (l4 : Value) (x : Int32) (σ : Hs) : ru d 80 122 [l0, l1, l2, l3, l4] [.int x] σ = some (some (.int x), σ) := q_ireti t80_122 mr80
theorem c80 (d : Nat) (x0 : Nat) (x1 : Int32) (σ : Hs) : callD (d + 1) 80 [.ref x0, .int x1] σ = ru d 80 0 [.ref x0, .int x1, uu, uu, uu] [] σ := callD_ru ml80 rfl rfl (Nat.le_of_ble_eq_true rfl)
-- 81: SmokyHeap.out(I)I
theorem t81_0 : decode (mb 81) 0 = .ok (.iload_n 1, 1) := by decide +kernel
theorem s81_0 (d : Nat) (l0 : Value) (i1 : Int32) (l2 : Value) (σ : Hs) : ru d 81 0 [l0, .int i1, l2] [] σ = ru d 81 1 [l0, .int i1, l2] [.int i1] σ := q_iload_n t81_0 rfl
theorem t81_1 : decode (mb 81) 1 = .ok (.invokestatic 196, 3) := by decide +kernel
theorem s81_1 (d : Nat) (l0 : Value) (l1 : Value) (l2 : Value) (v0 : Value) (σ : Hs) : ru d 81 1 [l0, l1, l2] [v0] σ = kont (callD d 108 [v0] σ) d 81 4 [l0, l1, l2] [] := q_invs t81_1 mo81 (by decide +kernel) K7_196 mj108 (Nat.le_of_ble_eq_true rfl) rfl rfl (Nat.le_of_ble_eq_true rfl)
theorem t81_4 : decode (mb 81) 4 = .ok (.ifCond .ne 9, 3) := by decide +kernel
theorem s81_4 (d : Nat) (l0 : Value) (l1 : Value) (l2 : Value) (x : Int32) (σ : Hs) : ru d 81 4 [l0, l1, l2] [.int x] σ = if x = 0 then ru d 81 7 [l0, l1, l2] [] σ else ru d 81 13 [l0, l1, l2] [] σ := q_if_ne t81_4 (by decide +kernel)
theorem t81_7 : decode (mb 81) 7 = .ok (.aload_n 0, 1) := by decide +kernel
theorem s81_7 (d : Nat) (a0 : Nat) (l1 : Value) (l2 : Value) (σ : Hs) : ru d 81 7 [.ref a0, l1, l2] [] σ = ru d 81 8 [.ref a0, l1, l2] [.ref a0] σ := q_aload_n t81_7 rfl
theorem t81_8 : decode (mb 81) 8 = .ok (.iconst 1, 1) := by decide +kernel
theorem s81_8 (d : Nat) (l0 : Value) (l1 : Value) (l2 : Value) (w0 : Value) (σ : Hs) : ru d 81 8 [l0, l1, l2] [w0] σ = ru d 81 9 [l0, l1, l2] [.int 1, w0] σ := q_iconst t81_8 (by decide +kernel)
theorem t81_9 : decode (mb 81) 9 = .ok (.invokevirtual 65, 3) := by decide +kernel
theorem s81_9_o0 (d : Nat) (l0 : Value) (l1 : Value) (l2 : Value) (v1 : Value) (σ : Hs) : ru d 81 9 [l0, l1, l2] [v1, .ref 0] σ = kont (callD d 99 [.ref 0, v1] σ) d 81 12 [l0, l1, l2] [] := q_invv t81_9 mo81 K7_65 mj99 rfl rfl rfl rfl (Nat.le_of_ble_eq_true rfl)
theorem t81_12 : decode (mb 81) 12 = .ok (.ireturn, 1) := by decide +kernel
theorem s81_12 (d : Nat) (l0 : Value) (l1 : Value) (l2 : Value) (x : Int32) (σ : Hs) : ru d 81 12 [l0, l1, l2] [.int x] σ = some (some (.int x), σ) := q_ireti t81_12 mr81
theorem t81_13 : decode (mb 81) 13 = .ok (.iconst 0, 1) := by decide +kernel
theorem s81_13 (d : Nat) (l0 : Value) (l1 : Value) (l2 : Value) (σ : Hs) : ru d 81 13 [l0, l1, l2] [] σ = ru d 81 14 [l0, l1, l2] [.int 0] σ := q_iconst t81_13 (by decide +kernel)
theorem t81_14 : decode (mb 81) 14 = .ok (.istore_n 2, 1) := by decide +kernel
theorem s81_14 (d : Nat) (l0 : Value) (i1 : Int32) (l2 : Value) (x : Int32) (σ : Hs) : ru d 81 14 [l0, .int i1, l2] [.int x] σ = ru d 81 15 [l0, .int i1, .int x] [] σ := q_istore_n t81_14 ⟨Nat.le_of_ble_eq_true rfl, rfl⟩ rfl
theorem t81_15 : decode (mb 81) 15 = .ok (.iload_n 2, 1) := by decide +kernel
theorem s81_15 (d : Nat) (l0 : Value) (l1 : Value) (i2 : Int32) (σ : Hs) : ru d 81 15 [l0, l1, .int i2] [] σ = ru d 81 16 [l0, l1, .int i2] [.int i2] σ := q_iload_n t81_15 rfl
theorem t81_16 : decode (mb 81) 16 = .ok (.sipush 950, 3) := by decide +kernel
theorem s81_16 (d : Nat) (l0 : Value) (l1 : Value) (l2 : Value) (w0 : Value) (σ : Hs) : ru d 81 16 [l0, l1, l2] [w0] σ = ru d 81 19 [l0, l1, l2] [.int 950, w0] σ := q_sipush t81_16 (by decide +kernel)
theorem t81_19 : decode (mb 81) 19 = .ok (.if_icmp .gt 58, 3) := by decide +kernel
theorem s81_19 (d : Nat) (l0 : Value) (l1 : Value) (l2 : Value) (x y : Int32) (σ : Hs) : ru d 81 19 [l0, l1, l2] [.int y, .int x] σ = if y < x then ru d 81 77 [l0, l1, l2] [] σ else ru d 81 22 [l0, l1, l2] [] σ := q_ic_gt t81_19 (by decide +kernel)
theorem t81_22 : decode (mb 81) 22 = .ok (.aload_n 0, 1) := by decide +kernel
theorem s81_22 (d : Nat) (a0 : Nat) (l1 : Value) (l2 : Value) (σ : Hs) : ru d 81 22 [.ref a0, l1, l2] [] σ = ru d 81 23 [.ref a0, l1, l2] [.ref a0] σ := q_aload_n t81_22 rfl
theorem t81_23 : decode (mb 81) 23 = .ok (.getfield 22, 3) := by decide +kernel
theorem s81_23_o0 (d : Nat) (l0 : Value) (l1 : Value) (l2 : Value) (σ : Hs) : ru d 81 23 [l0, l1, l2] [.ref 0] σ = ru d 81 26 [l0, l1, l2] [.ref 59] σ := q_getf t81_23 mo81 F7_22 rfl rfl
theorem t81_26 : decode (mb 81) 26 = .ok (.aload_n 0, 1) := by decide +kernel
theorem s81_26 (d : Nat) (a0 : Nat) (l1 : Value) (l2 : Value) (w0 : Value) (σ : Hs) : ru d 81 26 [.ref a0, l1, l2] [w0] σ = ru d 81 27 [.ref a0, l1, l2] [.ref a0, w0] σ := q_aload_n t81_26 rfl
theorem t81_27 : decode (mb 81) 27 = .ok (.getfield 10, 3) := by decide +kernel
theorem s81_27_o0 (d : Nat) (l0 : Value) (l1 : Value) (l2 : Value) (w0 : Value) (σ : Hs) : ru d 81 27 [l0, l1, l2] [.ref 0, w0] σ = ru d 81 30 [l0, l1, l2] [.ref 1, w0] σ := q_getf t81_27 mo81 F7_10 rfl rfl
theorem t81_30 : decode (mb 81) 30 = .ok (.getfield 58, 3) := by decide +kernel
theorem s81_30_o1 (d : Nat) (l0 : Value) (l1 : Value) (l2 : Value) (w0 : Value) (σ : Hs) : ru d 81 30 [l0, l1, l2] [.ref 1, w0] σ = ru d 81 33 [l0, l1, l2] [.ref 2, w0] σ := q_getf t81_30 mo81 F7_58 rfl rfl
theorem t81_33 : decode (mb 81) 33 = .ok (.invokevirtual 199, 3) := by decide +kernel
theorem s81_33_o59 (d : Nat) (l0 : Value) (l1 : Value) (l2 : Value) (v1 : Value) (σ : Hs) : ru d 81 33 [l0, l1, l2] [v1, .ref 59] σ = kont (callD d 0 [.ref 59, v1] σ) d 81 36 [l0, l1, l2] [] := q_invv t81_33 mo81 K7_199 mj0 rfl rfl rfl rfl (Nat.le_of_ble_eq_true rfl)
theorem t81_36 : decode (mb 81) 36 = .ok (.aload_n 0, 1) := by decide +kernel
theorem s81_36 (d : Nat) (a0 : Nat) (l1 : Value) (l2 : Value) (σ : Hs) : ru d 81 36 [.ref a0, l1, l2] [] σ = ru d 81 37 [.ref a0, l1, l2] [.ref a0] σ := q_aload_n t81_36 rfl
theorem t81_37 : decode (mb 81) 37 = .ok (.getfield 22, 3) := by decide +kernel
theorem s81_37_o0 (d : Nat) (l0 : Value) (l1 : Value) (l2 : Value) (σ : Hs) : ru d 81 37 [l0, l1, l2] [.ref 0] σ = ru d 81 40 [l0, l1, l2] [.ref 59] σ := q_getf t81_37 mo81 F7_22 rfl rfl
theorem t81_40 : decode (mb 81) 40 = .ok (.iload_n 2, 1) := by decide +kernel
theorem s81_40 (d : Nat) (l0 : Value) (l1 : Value) (i2 : Int32) (w0 : Value) (σ : Hs) : ru d 81 40 [l0, l1, .int i2] [w0] σ = ru d 81 41 [l0, l1, .int i2] [.int i2, w0] σ := q_iload_n t81_40 rfl
theorem t81_41 : decode (mb 81) 41 = .ok (.invokevirtual 212, 3) := by decide +kernel
theorem s81_41_o59 (d : Nat) (l0 : Value) (l1 : Value) (l2 : Value) (v1 : Value) (σ : Hs) : ru d 81 41 [l0, l1, l2] [v1, .ref 59] σ = kont (callD d 11 [.ref 59, v1] σ) d 81 44 [l0, l1, l2] [] := q_invv t81_41 mo81 K7_212 mj11 rfl rfl rfl rfl (Nat.le_of_ble_eq_true rfl)
theorem t81_44 : decode (mb 81) 44 = .ok (.aload_n 0, 1) := by decide +kernel
theorem s81_44 (d : Nat) (a0 : Nat) (l1 : Value) (l2 : Value) (σ : Hs) : ru d 81 44 [.ref a0, l1, l2] [] σ = ru d 81 45 [.ref a0, l1, l2] [.ref a0] σ := q_aload_n t81_44 rfl
theorem t81_45 : decode (mb 81) 45 = .ok (.getfield 22, 3) := by decide +kernel
theorem s81_45_o0 (d : Nat) (l0 : Value) (l1 : Value) (l2 : Value) (σ : Hs) : ru d 81 45 [l0, l1, l2] [.ref 0] σ = ru d 81 48 [l0, l1, l2] [.ref 59] σ := q_getf t81_45 mo81 F7_22 rfl rfl
theorem t81_48 : decode (mb 81) 48 = .ok (.iload_n 1, 1) := by decide +kernel
theorem s81_48 (d : Nat) (l0 : Value) (i1 : Int32) (l2 : Value) (w0 : Value) (σ : Hs) : ru d 81 48 [l0, .int i1, l2] [w0] σ = ru d 81 49 [l0, .int i1, l2] [.int i1, w0] σ := q_iload_n t81_48 rfl
theorem t81_49 : decode (mb 81) 49 = .ok (.aload_n 0, 1) := by decide +kernel
theorem s81_49 (d : Nat) (a0 : Nat) (l1 : Value) (l2 : Value) (w0 w1 : Value) (σ : Hs) : ru d 81 49 [.ref a0, l1, l2] [w0, w1] σ = ru d 81 50 [.ref a0, l1, l2] [.ref a0, w0, w1] σ := q_aload_n t81_49 rfl
theorem t81_50 : decode (mb 81) 50 = .ok (.getfield 10, 3) := by decide +kernel
theorem s81_50_o0 (d : Nat) (l0 : Value) (l1 : Value) (l2 : Value) (w0 w1 : Value) (σ : Hs) : ru d 81 50 [l0, l1, l2] [.ref 0, w0, w1] σ = ru d 81 53 [l0, l1, l2] [.ref 1, w0, w1] σ := q_getf t81_50 mo81 F7_10 rfl rfl
theorem t81_53 : decode (mb 81) 53 = .ok (.getfield 146, 3) := by decide +kernel
theorem s81_53_o1 (d : Nat) (l0 : Value) (l1 : Value) (l2 : Value) (w0 w1 : Value) (σ : Hs) : ru d 81 53 [l0, l1, l2] [.ref 1, w0, w1] σ = ru d 81 56 [l0, l1, l2] [.ref 13, w0, w1] σ := q_getf t81_53 mo81 F7_146 rfl rfl
theorem t81_56 : decode (mb 81) 56 = .ok (.invokevirtual 168, 3) := by decide +kernel
theorem s81_56_o59 (d : Nat) (l0 : Value) (l1 : Value) (l2 : Value) (v1 v2 : Value) (σ : Hs) : ru d 81 56 [l0, l1, l2] [v2, v1, .ref 59] σ = kont (callD d 13 [.ref 59, v1, v2] σ) d 81 59 [l0, l1, l2] [] := q_invv t81_56 mo81 K7_168 mj13 rfl rfl rfl rfl (Nat.le_of_ble_eq_true rfl)
theorem t81_59 : decode (mb 81) 59 = .ok (.aload_n 0, 1) := by decide +kernel
theorem s81_59 (d : Nat) (a0 : Nat) (l1 : Value) (l2 : Value) (σ : Hs) : ru d 81 59 [.ref a0, l1, l2] [] σ = ru d 81 60 [.ref a0, l1, l2] [.ref a0] σ := q_aload_n t81_59 rfl
theorem t81_60 : decode (mb 81) 60 = .ok (.getfield 22, 3) := by decide +kernel
theorem s81_60_o0 (d : Nat) (l0 : Value) (l1 : Value) (l2 : Value) (σ : Hs) : ru d 81 60 [l0, l1, l2] [.ref 0] σ = ru d 81 63 [l0, l1, l2] [.ref 59] σ := q_getf t81_60 mo81 F7_22 rfl rfl
theorem t81_63 : decode (mb 81) 63 = .ok (.invokevirtual 215, 3) := by decide +kernel
theorem s81_63_o59 (d : Nat) (l0 : Value) (l1 : Value) (l2 : Value) (σ : Hs) : ru d 81 63 [l0, l1, l2] [.ref 59] σ = kont (callD d 7 [.ref 59] σ) d 81 66 [l0, l1, l2] [] := q_invv t81_63 mo81 K7_215 mj7 rfl rfl rfl rfl (Nat.le_of_ble_eq_true rfl)
theorem t81_66 : decode (mb 81) 66 = .ok (.ifCond .ne 5, 3) := by decide +kernel
theorem s81_66 (d : Nat) (l0 : Value) (l1 : Value) (l2 : Value) (x : Int32) (σ : Hs) : ru d 81 66 [l0, l1, l2] [.int x] σ = if x = 0 then ru d 81 69 [l0, l1, l2] [] σ else ru d 81 71 [l0, l1, l2] [] σ := q_if_ne t81_66 (by decide +kernel)
theorem t81_69 : decode (mb 81) 69 = .ok (.iload_n 2, 1) := by decide +kernel
theorem s81_69 (d : Nat) (l0 : Value) (l1 : Value) (i2 : Int32) (σ : Hs) : ru d 81 69 [l0, l1, .int i2] [] σ = ru d 81 70 [l0, l1, .int i2] [.int i2] σ := q_iload_n t81_69 rfl
theorem t81_70 : decode (mb 81) 70 = .ok (.ireturn, 1) := by decide +kernel
theorem s81_70 (d : Nat) (l0 : Value) (l1 : Value) (l2 : Value) (x : Int32) (σ : Hs) : ru d 81 70 [l0, l1, l2] [.int x] σ = some (some (.int x), σ) := q_ireti t81_70 mr81
theorem t81_71 : decode (mb 81) 71 = .ok (.iinc 2 50, 3) := by decide +kernel
theorem s81_71 (d : Nat) (l0 : Value) (i1 : Int32) (i2 : Int32) (σ : Hs) : ru d 81 71 [l0, .int i1, .int i2] [] σ = ru d 81 74 [l0, .int i1, .int (i2 + 50)] [] σ := q_iinc t81_71 ⟨Nat.le_of_ble_eq_true rfl, rfl⟩ rfl (by decide +kernel) rfl
theorem t81_74 : decode (mb 81) 74 = .ok (.goto (-59), 3) := by decide +kernel
theorem s81_74 (d : Nat) (l0 : Value) (l1 : Value) (l2 : Value) (σ : Hs) : ru d 81 74 [l0, l1, l2] [] σ = ru d 81 15 [l0, l1, l2] [] σ := q_goto t81_74 (by decide +kernel)
theorem t81_77 : decode (mb 81) 77 = .ok (.aload_n 0, 1) := by decide +kernel
theorem s81_77 (d : Nat) (a0 : Nat) (l1 : Value) (l2 : Value) (σ : Hs) : ru d 81 77 [.ref a0, l1, l2] [] σ = ru d 81 78 [.ref a0, l1, l2] [.ref a0] σ := q_aload_n t81_77 rfl
theorem t81_78 : decode (mb 81) 78 = .ok (.iconst 2, 1) := by decide +kernel
theorem s81_78 (d : Nat) (l0 : Value) (l1 : Value) (l2 : Value) (w0 : Value) (σ : Hs) : ru d 81 78 [l0, l1, l2] [w0] σ = ru d 81 79 [l0, l1, l2] [.int 2, w0] σ := q_iconst t81_78 (by decide +kernel)
theorem t81_79 : decode (mb 81) 79 = .ok (.invokevirtual 65, 3) := by decide +kernel
theorem s81_79_o0 (d : Nat) (l0 : Value) (l1 : Value) (l2 : Value) (v1 : Value) (σ : Hs) : ru d 81 79 [l0, l1, l2] [v1, .ref 0] σ = kont (callD d 99 [.ref 0, v1] σ) d 81 82 [l0, l1, l2] [] := q_invv t81_79 mo81 K7_65 mj99 rfl rfl rfl rfl (Nat.le_of_ble_eq_true rfl)
theorem t81_82 : decode (mb 81) 82 = .ok (.ireturn, 1) := by decide +kernel
theorem s81_82 (d : Nat) (l0 : Value) (l1 : Value) (l2 : Value) (x : Int32) (σ : Hs) : ru d 81 82 [l0, l1, l2] [.int x] σ = some (some (.int x), σ) := q_ireti t81_82 mr81
theorem c81 (d : Nat) (x0 : Nat) (x1 : Int32) (σ : Hs) : callD (d + 1) 81 [.ref x0, .int x1] σ = ru d 81 0 [.ref x0, .int x1, uu] [] σ := callD_ru ml81 rfl rfl (Nat.le_of_ble_eq_true rfl)
-- 82: SmokyHeap.catches(II)I
theorem t82_0 : decode (mb 82) 0 = .ok (.iload_n 1, 1) := by decide +kernel
theorem s82_0 (d : Nat) (l0 : Value) (i1 : Int32) (l2 : Value) (l3 : Value) (σ : Hs) : ru d 82 0 [l0, .int i1, l2, l3] [] σ = ru d 82 1 [l0, .int i1, l2, l3] [.int i1] σ := q_iload_n t82_0 rfl
theorem t82_1 : decode (mb 82) 1 = .ok (.invokestatic 69, 3) := by decide +kernel
theorem s82_1 (d : Nat) (l0 : Value) (l1 : Value) (l2 : Value) (l3 : Value) (v0 : Value) (σ : Hs) : ru d 82 1 [l0, l1, l2, l3] [v0] σ = kont (callD d 103 [v0] σ) d 82 4 [l0, l1, l2, l3] [] := q_invs t82_1 mo82 (by decide +kernel) K7_69 mj103 (Nat.le_of_ble_eq_true rfl) rfl rfl (Nat.le_of_ble_eq_true rfl)
theorem t82_4 : decode (mb 82) 4 = .ok (.ifCond .eq 10, 3) := by decide +kernel
theorem s82_4 (d : Nat) (l0 : Value) (l1 : Value) (l2 : Value) (l3 : Value) (x : Int32) (σ : Hs) : ru d 82 4 [l0, l1, l2, l3] [.int x] σ = if x = 0 then ru d 82 14 [l0, l1, l2, l3] [] σ else ru d 82 7 [l0, l1, l2, l3] [] σ := q_if_eq t82_4 (by decide +kernel)
theorem t82_7 : decode (mb 82) 7 = .ok (.iload_n 2, 1) := by decide +kernel
theorem s82_7 (d : Nat) (l0 : Value) (l1 : Value) (i2 : Int32) (l3 : Value) (σ : Hs) : ru d 82 7 [l0, l1, .int i2, l3] [] σ = ru d 82 8 [l0, l1, .int i2, l3] [.int i2] σ := q_iload_n t82_7 rfl
theorem t82_8 : decode (mb 82) 8 = .ok (.invokestatic 196, 3) := by decide +kernel
theorem s82_8 (d : Nat) (l0 : Value) (l1 : Value) (l2 : Value) (l3 : Value) (v0 : Value) (σ : Hs) : ru d 82 8 [l0, l1, l2, l3] [v0] σ = kont (callD d 108 [v0] σ) d 82 11 [l0, l1, l2, l3] [] := q_invs t82_8 mo82 (by decide +kernel) K7_196 mj108 (Nat.le_of_ble_eq_true rfl) rfl rfl (Nat.le_of_ble_eq_true rfl)
theorem t82_11 : decode (mb 82) 11 = .ok (.ifCond .ne 9, 3) := by decide +kernel
theorem s82_11 (d : Nat) (l0 : Value) (l1 : Value) (l2 : Value) (l3 : Value) (x : Int32) (σ : Hs) : ru d 82 11 [l0, l1, l2, l3] [.int x] σ = if x = 0 then ru d 82 14 [l0, l1, l2, l3] [] σ else ru d 82 20 [l0, l1, l2, l3] [] σ := q_if_ne t82_11 (by decide +kernel)
theorem t82_14 : decode (mb 82) 14 = .ok (.aload_n 0, 1) := by decide +kernel
theorem s82_14 (d : Nat) (a0 : Nat) (l1 : Value) (l2 : Value) (l3 : Value) (σ : Hs) : ru d 82 14 [.ref a0, l1, l2, l3] [] σ = ru d 82 15 [.ref a0, l1, l2, l3] [.ref a0] σ := q_aload_n t82_14 rfl
theorem t82_15 : decode (mb 82) 15 = .ok (.iconst 1, 1) := by decide +kernel
theorem s82_15 (d : Nat) (l0 : Value) (l1 : Value) (l2 : Value) (l3 : Value) (w0 : Value) (σ : Hs) : ru d 82 15 [l0, l1, l2, l3] [w0] σ = ru d 82 16 [l0, l1, l2, l3] [.int 1, w0] σ := q_iconst t82_15 (by decide +kernel)
theorem t82_16 : decode (mb 82) 16 = .ok (.invokevirtual 65, 3) := by decide +kernel
theorem s82_16_o0 (d : Nat) (l0 : Value) (l1 : Value) (l2 : Value) (l3 : Value) (v1 : Value) (σ : Hs) : ru d 82 16 [l0, l1, l2, l3] [v1, .ref 0] σ = kont (callD d 99 [.ref 0, v1] σ) d 82 19 [l0, l1, l2, l3] [] := q_invv t82_16 mo82 K7_65 mj99 rfl rfl rfl rfl (Nat.le_of_ble_eq_true rfl)
theorem t82_19 : decode (mb 82) 19 = .ok (.ireturn, 1) := by decide +kernel
theorem s82_19 (d : Nat) (l0 : Value) (l1 : Value) (l2 : Value) (l3 : Value) (x : Int32) (σ : Hs) : ru d 82 19 [l0, l1, l2, l3] [.int x] σ = some (some (.int x), σ) := q_ireti t82_19 mr82
theorem t82_20 : decode (mb 82) 20 = .ok (.aload_n 0, 1) := by decide +kernel
theorem s82_20 (d : Nat) (a0 : Nat) (l1 : Value) (l2 : Value) (l3 : Value) (σ : Hs) : ru d 82 20 [.ref a0, l1, l2, l3] [] σ = ru d 82 21 [.ref a0, l1, l2, l3] [.ref a0] σ := q_aload_n t82_20 rfl
theorem t82_21 : decode (mb 82) 21 = .ok (.getfield 22, 3) := by decide +kernel
theorem s82_21_o0 (d : Nat) (l0 : Value) (l1 : Value) (l2 : Value) (l3 : Value) (σ : Hs) : ru d 82 21 [l0, l1, l2, l3] [.ref 0] σ = ru d 82 24 [l0, l1, l2, l3] [.ref 59] σ := q_getf t82_21 mo82 F7_22 rfl rfl
theorem t82_24 : decode (mb 82) 24 = .ok (.aload_n 0, 1) := by decide +kernel
theorem s82_24 (d : Nat) (a0 : Nat) (l1 : Value) (l2 : Value) (l3 : Value) (w0 : Value) (σ : Hs) : ru d 82 24 [.ref a0, l1, l2, l3] [w0] σ = ru d 82 25 [.ref a0, l1, l2, l3] [.ref a0, w0] σ := q_aload_n t82_24 rfl
theorem t82_25 : decode (mb 82) 25 = .ok (.getfield 10, 3) := by decide +kernel
theorem s82_25_o0 (d : Nat) (l0 : Value) (l1 : Value) (l2 : Value) (l3 : Value) (w0 : Value) (σ : Hs) : ru d 82 25 [l0, l1, l2, l3] [.ref 0, w0] σ = ru d 82 28 [l0, l1, l2, l3] [.ref 1, w0] σ := q_getf t82_25 mo82 F7_10 rfl rfl
theorem t82_28 : decode (mb 82) 28 = .ok (.getfield 58, 3) := by decide +kernel
theorem s82_28_o1 (d : Nat) (l0 : Value) (l1 : Value) (l2 : Value) (l3 : Value) (w0 : Value) (σ : Hs) : ru d 82 28 [l0, l1, l2, l3] [.ref 1, w0] σ = ru d 82 31 [l0, l1, l2, l3] [.ref 2, w0] σ := q_getf t82_28 mo82 F7_58 rfl rfl
theorem t82_31 : decode (mb 82) 31 = .ok (.invokevirtual 199, 3) := by decide +kernel
theorem s82_31_o59 (d : Nat) (l0 : Value) (l1 : Value) (l2 : Value) (l3 : Value) (v1 : Value) (σ : Hs) : ru d 82 31 [l0, l1, l2, l3] [v1, .ref 59] σ = kont (callD d 0 [.ref 59, v1] σ) d 82 34 [l0, l1, l2, l3] [] := q_invv t82_31 mo82 K7_199 mj0 rfl rfl rfl rfl (Nat.le_of_ble_eq_true rfl)
theorem t82_34 : decode (mb 82) 34 = .ok (.iconst 0, 1) := by decide +kernel
theorem s82_34 (d : Nat) (l0 : Value) (l1 : Value) (l2 : Value) (l3 : Value) (σ : Hs) : ru d 82 34 [l0, l1, l2, l3] [] σ = ru d 82 35 [l0, l1, l2, l3] [.int 0] σ := q_iconst t82_34 (by decide +kernel)
theorem t82_35 : decode (mb 82) 35 = .ok (.istore_n 3, 1) := by decide +kernel
theorem s82_35 (d : Nat) (l0 : Value) (l1 : Value) (i2 : Int32) (l3 : Value) (x : Int32) (σ : Hs) : ru d 82 35 [l0, l1, .int i2, l3] [.int x] σ = ru d 82 36 [l0, l1, .int i2, .int x] [] σ := q_istore_n t82_35 ⟨Nat.le_of_ble_eq_true rfl, rfl⟩ rfl
theorem t82_36 : decode (mb 82) 36 = .ok (.iload_n 3, 1) := by decide +kernel
theorem s82_36 (d : Nat) (l0 : Value) (l1 : Value) (l2 : Value) (i3 : Int32) (σ : Hs) : ru d 82 36 [l0, l1, l2, .int i3] [] σ = ru d 82 37 [l0, l1, l2, .int i3] [.int i3] σ := q_iload_n t82_36 rfl
theorem t82_37 : decode (mb 82) 37 = .ok (.iload_n 2, 1) := by decide +kernel
theorem s82_37 (d : Nat) (l0 : Value) (l1 : Value) (i2 : Int32) (l3 : Value) (w0 : Value) (σ : Hs) : ru d 82 37 [l0, l1, .int i2, l3] [w0] σ = ru d 82 38 [l0, l1, .int i2, l3] [.int i2, w0] σ := q_iload_n t82_37 rfl
theorem t82_38 : decode (mb 82) 38 = .ok (.if_icmp .gt 57, 3) := by decide +kernel
theorem s82_38 (d : Nat) (l0 : Value) (l1 : Value) (l2 : Value) (l3 : Value) (x y : Int32) (σ : Hs) : ru d 82 38 [l0, l1, l2, l3] [.int y, .int x] σ = if y < x then ru d 82 95 [l0, l1, l2, l3] [] σ else ru d 82 41 [l0, l1, l2, l3] [] σ := q_ic_gt t82_38 (by decide +kernel)
theorem t82_41 : decode (mb 82) 41 = .ok (.aload_n 0, 1) := by decide +kernel
theorem s82_41 (d : Nat) (a0 : Nat) (l1 : Value) (l2 : Value) (l3 : Value) (σ : Hs) : ru d 82 41 [.ref a0, l1, l2, l3] [] σ = ru d 82 42 [.ref a0, l1, l2, l3] [.ref a0] σ := q_aload_n t82_41 rfl
theorem t82_42 : decode (mb 82) 42 = .ok (.getfield 22, 3) := by decide +kernel
theorem s82_42_o0 (d : Nat) (l0 : Value) (l1 : Value) (l2 : Value) (l3 : Value) (σ : Hs) : ru d 82 42 [l0, l1, l2, l3] [.ref 0] σ = ru d 82 45 [l0, l1, l2, l3] [.ref 59] σ := q_getf t82_42 mo82 F7_22 rfl rfl
theorem t82_45 : decode (mb 82) 45 = .ok (.iload_n 3, 1) := by decide +kernel
theorem s82_45 (d : Nat) (l0 : Value) (l1 : Value) (l2 : Value) (i3 : Int32) (w0 : Value) (σ : Hs) : ru d 82 45 [l0, l1, l2, .int i3] [w0] σ = ru d 82 46 [l0, l1, l2, .int i3] [.int i3, w0] σ := q_iload_n t82_45 rfl
theorem t82_46 : decode (mb 82) 46 = .ok (.ifCond .ne 7, 3) := by decide +kernel
theorem s82_46 (d : Nat) (l0 : Value) (l1 : Value) (l2 : Value) (l3 : Value) (x : Int32) (w0 : Value) (σ : Hs) : ru d 82 46 [l0, l1, l2, l3] [.int x, w0] σ = if x = 0 then ru d 82 49 [l0, l1, l2, l3] [w0] σ else ru d 82 53 [l0, l1, l2, l3] [w0] σ := q_if_ne t82_46 (by decide +kernel)
theorem t82_49 : decode (mb 82) 49 = .ok (.iconst 0, 1) := by decide +kernel
theorem s82_49 (d : Nat) (l0 : Value) (l1 : Value) (l2 : Value) (l3 : Value) (w0 : Value) (σ : Hs) : ru d 82 49 [l0, l1, l2, l3] [w0] σ = ru d 82 50 [l0, l1, l2, l3] [.int 0, w0] σ := q_iconst t82_49 (by decide +kernel)
theorem t82_50 : decode (mb 82) 50 = .ok (.goto 4, 3) := by decide +kernel
theorem s82_50 (d : Nat) (l0 : Value) (l1 : Value) (l2 : Value) (l3 : Value) (w0 w1 : Value) (σ : Hs) : ru d 82 50 [l0, l1, l2, l3] [w0, w1] σ = ru d 82 54 [l0, l1, l2, l3] [w0, w1] σ := q_goto t82_50 (by decide +kernel)
theorem t82_53 : decode (mb 82) 53 = .ok (.iconst 1, 1) := by decide +kernel
theorem s82_53 (d : Nat) (l0 : Value) (l1 : Value) (l2 : Value) (l3 : Value) (w0 : Value) (σ : Hs) : ru d 82 53 [l0, l1, l2, l3] [w0] σ = ru d 82 54 [l0, l1, l2, l3] [.int 1, w0] σ := q_iconst t82_53 (by decide +kernel)
theorem t82_54 : decode (mb 82) 54 = .ok (.aload_n 0, 1) := by decide +kernel
theorem s82_54 (d : Nat) (a0 : Nat) (l1 : Value) (l2 : Value) (l3 : Value) (w0 w1 : Value) (σ : Hs) : ru d 82 54 [.ref a0, l1, l2, l3] [w0, w1] σ = ru d 82 55 [.ref a0, l1, l2, l3] [.ref a0, w0, w1] σ := q_aload_n t82_54 rfl
theorem t82_55 : decode (mb 82) 55 = .ok (.getfield 10, 3) := by decide +kernel
theorem s82_55_o0 (d : Nat) (l0 : Value) (l1 : Value) (l2 : Value) (l3 : Value) (w0 w1 : Value) (σ : Hs) : ru d 82 55 [l0, l1, l2, l3] [.ref 0, w0, w1] σ = ru d 82 58 [l0, l1, l2, l3] [.ref 1, w0, w1] σ := q_getf t82_55 mo82 F7_10 rfl rfl
theorem t82_58 : decode (mb 82) 58 = .ok (.getfield 146, 3) := by decide +kernel
theorem s82_58_o1 (d : Nat) (l0 : Value) (l1 : Value) (l2 : Value) (l3 : Value) (w0 w1 : Value) (σ : Hs) : ru d 82 58 [l0, l1, l2, l3] [.ref 1, w0, w1] σ = ru d 82 61 [l0, l1, l2, l3] [.ref 13, w0, w1] σ := q_getf t82_58 mo82 F7_146 rfl rfl
theorem t82_61 : decode (mb 82) 61 = .ok (.invokevirtual 168, 3) := by decide +kernel
theorem s82_61_o59 (d : Nat) (l0 : Value) (l1 : Value) (l2 : Value) (l3 : Value) (v1 v2 : Value) (σ : Hs) : ru d 82 61 [l0, l1, l2, l3] [v2, v1, .ref 59] σ = kont (callD d 13 [.ref 59, v1, v2] σ) d 82 64 [l0, l1, l2, l3] [] := q_invv t82_61 mo82 K7_168 mj13 rfl rfl rfl rfl (Nat.le_of_ble_eq_true rfl)
theorem t82_64 : decode (mb 82) 64 = .ok (.aload_n 0, 1) := by decide +kernel
theorem s82_64 (d : Nat) (a0 : Nat) (l1 : Value) (l2 : Value) (l3 : Value) (σ : Hs) : ru d 82 64 [.ref a0, l1, l2, l3] [] σ = ru d 82 65 [.ref a0, l1, l2, l3] [.ref a0] σ := q_aload_n t82_64 rfl
theorem t82_65 : decode (mb 82) 65 = .ok (.getfield 22, 3) := by decide +kernel
theorem s82_65_o0 (d : Nat) (l0 : Value) (l1 : Value) (l2 : Value) (l3 : Value) (σ : Hs) : ru d 82 65 [l0, l1, l2, l3] [.ref 0] σ = ru d 82 68 [l0, l1, l2, l3] [.ref 59] σ := q_getf t82_65 mo82 F7_22 rfl rfl
theorem t82_68 : decode (mb 82) 68 = .ok (.iload_n 1, 1) := by decide +kernel
theorem s82_68 (d : Nat) (l0 : Value) (i1 : Int32) (l2 : Value) (l3 : Value) (w0 : Value) (σ : Hs) : ru d 82 68 [l0, .int i1, l2, l3] [w0] σ = ru d 82 69 [l0, .int i1, l2, l3] [.int i1, w0] σ := q_iload_n t82_68 rfl
theorem t82_69 : decode (mb 82) 69 = .ok (.invokevirtual 73, 3) := by decide +kernel
theorem s82_69_o59 (d : Nat) (l0 : Value) (l1 : Value) (l2 : Value) (l3 : Value) (v1 : Value) (σ : Hs) : ru d 82 69 [l0, l1, l2, l3] [v1, .ref 59] σ = kont (callD d 1 [.ref 59, v1] σ) d 82 72 [l0, l1, l2, l3] [] := q_invv t82_69 mo82 K7_73 mj1 rfl rfl rfl rfl (Nat.le_of_ble_eq_true rfl)
theorem t82_72 : decode (mb 82) 72 = .ok (.ifCond .eq 17, 3) := by decide +kernel
theorem s82_72 (d : Nat) (l0 : Value) (l1 : Value) (l2 : Value) (l3 : Value) (x : Int32) (σ : Hs) : ru d 82 72 [l0, l1, l2, l3] [.int x] σ = if x = 0 then ru d 82 89 [l0, l1, l2, l3] [] σ else ru d 82 75 [l0, l1, l2, l3] [] σ := q_if_eq t82_72 (by decide +kernel)
theorem t82_75 : decode (mb 82) 75 = .ok (.aload_n 0, 1) := by decide +kernel
theorem s82_75 (d : Nat) (a0 : Nat) (l1 : Value) (l2 : Value) (l3 : Value) (σ : Hs) : ru d 82 75 [.ref a0, l1, l2, l3] [] σ = ru d 82 76 [.ref a0, l1, l2, l3] [.ref a0] σ := q_aload_n t82_75 rfl
theorem t82_76 : decode (mb 82) 76 = .ok (.getfield 22, 3) := by decide +kernel
theorem s82_76_o0 (d : Nat) (l0 : Value) (l1 : Value) (l2 : Value) (l3 : Value) (σ : Hs) : ru d 82 76 [l0, l1, l2, l3] [.ref 0] σ = ru d 82 79 [l0, l1, l2, l3] [.ref 59] σ := q_getf t82_76 mo82 F7_22 rfl rfl
theorem t82_79 : decode (mb 82) 79 = .ok (.getfield 218, 3) := by decide +kernel
theorem s82_79_o59 (d : Nat) (l0 : Value) (l1 : Value) (l2 : Value) (l3 : Value) (σ : Hs) : ru d 82 79 [l0, l1, l2, l3] [.ref 59] σ = ru d 82 82 [l0, l1, l2, l3] [.ref 65] σ := q_getf t82_79 mo82 F7_218 rfl rfl
theorem t82_82 : decode (mb 82) 82 = .ok (.iload_n 1, 1) := by decide +kernel
theorem s82_82 (d : Nat) (l0 : Value) (i1 : Int32) (l2 : Value) (l3 : Value) (w0 : Value) (σ : Hs) : ru d 82 82 [l0, .int i1, l2, l3] [w0] σ = ru d 82 83 [l0, .int i1, l2, l3] [.int i1, w0] σ := q_iload_n t82_82 rfl
theorem t82_83 : decode (mb 82) 83 = .ok (.baload, 1) := by decide +kernel
theorem s82_83_o65 (d : Nat) (l0 : Value) (l1 : Value) (l2 : Value) (l3 : Value) (i : Int32) (σ : Hs) : ru d 82 83 [l0, l1, l2, l3] [.int i, .ref 65] σ = gd (vp_in i 30) (ru d 82 84 [l0, l1, l2, l3] [.int (σ 65 i.toNatClampNeg)] σ) := q_bald t82_83 (by decide +kernel) rfl rfl
theorem t82_84 : decode (mb 82) 84 = .ok (.ifCond .eq 5, 3) := by decide +kernel
theorem s82_84 (d : Nat) (l0 : Value) (l1 : Value) (l2 : Value) (l3 : Value) (x : Int32) (σ : Hs) : ru d 82 84 [l0, l1, l2, l3] [.int x] σ = if x = 0 then ru d 82 89 [l0, l1, l2, l3] [] σ else ru d 82 87 [l0, l1, l2, l3] [] σ := q_if_eq t82_84 (by decide +kernel)
theorem t82_87 : decode (mb 82) 87 = .ok (.iload_n 3, 1) := by decide +kernel
theorem s82_87 (d : Nat) (l0 : Value) (l1 : Value) (l2 : Value) (i3 : Int32) (σ : Hs) : ru d 82 87 [l0, l1, l2, .int i3] [] σ = ru d 82 88 [l0, l1, l2, .int i3] [.int i3] σ := q_iload_n t82_87 rfl
theorem t82_88 : decode (mb 82) 88 = .ok (.ireturn, 1) := by decide +kernel
theorem s82_88 (d : Nat) (l0 : Value) (l1 : Value) (l2 : Value) (l3 : Value) (x : Int32) (σ : Hs) : ru d 82 88 [l0, l1, l2, l3] [.int x] σ = some (some (.int x), σ) := q_ireti t82_88 mr82
theorem t82_89 : decode (mb 82) 89 = .ok (.iinc 3 1, 3) := by decide +kernel
theorem s82_89 (d : Nat) (l0 : Value) (l1 : Value) (i2 : Int32) (i3 : Int32) (σ : Hs) : ru d 82 89 [l0, l1, .int i2, .int i3] [] σ = ru d 82 92 [l0, l1, .int i2, .int (i3 + 1)] [] σ := q_iinc t82_89 ⟨Nat.le_of_ble_eq_true rfl, rfl⟩ rfl (by decide +kernel) rfl
theorem t82_92 : decode (mb 82) 92 = .ok (.goto (-56), 3) := by decide +kernel
theorem s82_92 (d : Nat) (l0 : Value) (l1 : Value) (l2 : Value) (l3 : Value) (σ : Hs) : ru d 82 92 [l0, l1, l2, l3] [] σ = ru d 82 36 [l0, l1, l2, l3] [] σ := q_goto t82_92 (by decide +kernel)
theorem t82_95 : decode (mb 82) 95 = .ok (.aload_n 0, 1) := by decide +kernel
theorem s82_95 (d : Nat) (a0 : Nat) (l1 : Value) (l2 : Value) (l3 : Value) (σ : Hs) : ru d 82 95 [.ref a0, l1, l2, l3] [] σ = ru d 82 96 [.ref a0, l1, l2, l3] [.ref a0] σ := q_aload_n t82_95 rfl
theorem t82_96 : decode (mb 82) 96 = .ok (.iconst 2, 1) := by decide +kernel
theorem s82_96 (d : Nat) (l0 : Value) (l1 : Value) (l2 : Value) (l3 : Value) (w0 : Value) (σ : Hs) : ru d 82 96 [l0, l1, l2, l3] [w0] σ = ru d 82 97 [l0, l1, l2, l3] [.int 2, w0] σ := q_iconst t82_96 (by decide +kernel)
theorem t82_97 : decode (mb 82) 97 = .ok (.invokevirtual 65, 3) := by decide +kernel
theorem s82_97_o0 (d : Nat) (l0 : Value) (l1 : Value) (l2 : Value) (l3 : Value) (v1 : Value) (σ : Hs) : ru d 82 97 [l0, l1, l2, l3] [v1, .ref 0] σ = kont (callD d 99 [.ref 0, v1] σ) d 82 100 [l0, l1, l2, l3] [] := q_invv t82_97 mo82 K7_65 mj99 rfl rfl rfl rfl (Nat.le_of_ble_eq_true rfl)
theorem t82_100 : decode (mb 82) 100 = .ok (.ireturn, 1) := by decide +kernel
theorem s82_100 (d : Nat) (l0 : Value) (l1 : Value) (l2 : Value) (l3 : Value) (x : Int32) (σ : Hs) : ru d 82 100 [l0, l1, l2, l3] [.int x] σ = some (some (.int x), σ) := q_ireti t82_100 mr82
theorem c82 (d : Nat) (x0 : Nat) (x1 : Int32) (x2 : Int32) (σ : Hs) : callD (d + 1) 82 [.ref x0, .int x1, .int x2] σ = ru d 82 0 [.ref x0, .int x1, .int x2, uu] [] σ := callD_ru ml82 rfl rfl (Nat.le_of_ble_eq_true rfl)
-- 83: SmokyHeap.reach(I)I
theorem t83_0 : decode (mb 83) 0 = .ok (.iload_n 1, 1) := by decide +kernel
theorem s83_0 (d : Nat) (l0 : Value) (i1 : Int32) (σ : Hs) : ru d 83 0 [l0, .int i1] [] σ = ru d 83 1 [l0, .int i1] [.int i1] σ := q_iload_n t83_0 rfl
theorem t83_1 : decode (mb 83) 1 = .ok (.invokestatic 69, 3) := by decide +kernel
theorem s83_1 (d : Nat) (l0 : Value) (l1 : Value) (v0 : Value) (σ : Hs) : ru d 83 1 [l0, l1] [v0] σ = kont (callD d 103 [v0] σ) d 83 4 [l0, l1] [] := q_invs t83_1 mo83 (by decide +kernel) K7_69 mj103 (Nat.le_of_ble_eq_true rfl) rfl rfl (Nat.le_of_ble_eq_true rfl)
theorem t83_4 : decode (mb 83) 4 = .ok (.ifCond .ne 9, 3) := by decide +kernel
theorem s83_4 (d : Nat) (l0 : Value) (l1 : Value) (x : Int32) (σ : Hs) : ru d 83 4 [l0, l1] [.int x] σ = if x = 0 then ru d 83 7 [l0, l1] [] σ else ru d 83 13 [l0, l1] [] σ := q_if_ne t83_4 (by decide +kernel)
theorem t83_7 : decode (mb 83) 7 = .ok (.aload_n 0, 1) := by decide +kernel
theorem s83_7 (d : Nat) (a0 : Nat) (l1 : Value) (σ : Hs) : ru d 83 7 [.ref a0, l1] [] σ = ru d 83 8 [.ref a0, l1] [.ref a0] σ := q_aload_n t83_7 rfl
theorem t83_8 : decode (mb 83) 8 = .ok (.iconst 1, 1) := by decide +kernel
theorem s83_8 (d : Nat) (l0 : Value) (l1 : Value) (w0 : Value) (σ : Hs) : ru d 83 8 [l0, l1] [w0] σ = ru d 83 9 [l0, l1] [.int 1, w0] σ := q_iconst t83_8 (by decide +kernel)
theorem t83_9 : decode (mb 83) 9 = .ok (.invokevirtual 65, 3) := by decide +kernel
theorem s83_9_o0 (d : Nat) (l0 : Value) (l1 : Value) (v1 : Value) (σ : Hs) : ru d 83 9 [l0, l1] [v1, .ref 0] σ = kont (callD d 99 [.ref 0, v1] σ) d 83 12 [l0, l1] [] := q_invv t83_9 mo83 K7_65 mj99 rfl rfl rfl rfl (Nat.le_of_ble_eq_true rfl)
theorem t83_12 : decode (mb 83) 12 = .ok (.ireturn, 1) := by decide +kernel
theorem s83_12 (d : Nat) (l0 : Value) (l1 : Value) (x : Int32) (σ : Hs) : ru d 83 12 [l0, l1] [.int x] σ = some (some (.int x), σ) := q_ireti t83_12 mr83
theorem t83_13 : decode (mb 83) 13 = .ok (.aload_n 0, 1) := by decide +kernel
theorem s83_13 (d : Nat) (a0 : Nat) (l1 : Value) (σ : Hs) : ru d 83 13 [.ref a0, l1] [] σ = ru d 83 14 [.ref a0, l1] [.ref a0] σ := q_aload_n t83_13 rfl
theorem t83_14 : decode (mb 83) 14 = .ok (.getfield 10, 3) := by decide +kernel
theorem s83_14_o0 (d : Nat) (l0 : Value) (l1 : Value) (σ : Hs) : ru d 83 14 [l0, l1] [.ref 0] σ = ru d 83 17 [l0, l1] [.ref 1] σ := q_getf t83_14 mo83 F7_10 rfl rfl
theorem t83_17 : decode (mb 83) 17 = .ok (.getfield 58, 3) := by decide +kernel
theorem s83_17_o1 (d : Nat) (l0 : Value) (l1 : Value) (σ : Hs) : ru d 83 17 [l0, l1] [.ref 1] σ = ru d 83 20 [l0, l1] [.ref 2] σ := q_getf t83_17 mo83 F7_58 rfl rfl
theorem t83_20 : decode (mb 83) 20 = .ok (.iload_n 1, 1) := by decide +kernel
theorem s83_20 (d : Nat) (l0 : Value) (i1 : Int32) (w0 : Value) (σ : Hs) : ru d 83 20 [l0, .int i1] [w0] σ = ru d 83 21 [l0, .int i1] [.int i1, w0] σ := q_iload_n t83_20 rfl
theorem t83_21 : decode (mb 83) 21 = .ok (.invokevirtual 73, 3) := by decide +kernel
theorem s83_21_o2 (d : Nat) (l0 : Value) (l1 : Value) (v1 : Value) (σ : Hs) : ru d 83 21 [l0, l1] [v1, .ref 2] σ = kont (callD d 1 [.ref 2, v1] σ) d 83 24 [l0, l1] [] := q_invv t83_21 mo83 K7_73 mj1 rfl rfl rfl rfl (Nat.le_of_ble_eq_true rfl)
theorem t83_24 : decode (mb 83) 24 = .ok (.ifCond .ne 9, 3) := by decide +kernel
theorem s83_24 (d : Nat) (l0 : Value) (l1 : Value) (x : Int32) (σ : Hs) : ru d 83 24 [l0, l1] [.int x] σ = if x = 0 then ru d 83 27 [l0, l1] [] σ else ru d 83 33 [l0, l1] [] σ := q_if_ne t83_24 (by decide +kernel)
theorem t83_27 : decode (mb 83) 27 = .ok (.aload_n 0, 1) := by decide +kernel
theorem s83_27 (d : Nat) (a0 : Nat) (l1 : Value) (σ : Hs) : ru d 83 27 [.ref a0, l1] [] σ = ru d 83 28 [.ref a0, l1] [.ref a0] σ := q_aload_n t83_27 rfl
theorem t83_28 : decode (mb 83) 28 = .ok (.iconst 2, 1) := by decide +kernel
theorem s83_28 (d : Nat) (l0 : Value) (l1 : Value) (w0 : Value) (σ : Hs) : ru d 83 28 [l0, l1] [w0] σ = ru d 83 29 [l0, l1] [.int 2, w0] σ := q_iconst t83_28 (by decide +kernel)
theorem t83_29 : decode (mb 83) 29 = .ok (.invokevirtual 65, 3) := by decide +kernel
theorem s83_29_o0 (d : Nat) (l0 : Value) (l1 : Value) (v1 : Value) (σ : Hs) : ru d 83 29 [l0, l1] [v1, .ref 0] σ = kont (callD d 99 [.ref 0, v1] σ) d 83 32 [l0, l1] [] := q_invv t83_29 mo83 K7_65 mj99 rfl rfl rfl rfl (Nat.le_of_ble_eq_true rfl)
theorem t83_32 : decode (mb 83) 32 = .ok (.ireturn, 1) := by decide +kernel
theorem s83_32 (d : Nat) (l0 : Value) (l1 : Value) (x : Int32) (σ : Hs) : ru d 83 32 [l0, l1] [.int x] σ = some (some (.int x), σ) := q_ireti t83_32 mr83
theorem t83_33 : decode (mb 83) 33 = .ok (.aload_n 0, 1) := by decide +kernel
theorem s83_33 (d : Nat) (a0 : Nat) (l1 : Value) (σ : Hs) : ru d 83 33 [.ref a0, l1] [] σ = ru d 83 34 [.ref a0, l1] [.ref a0] σ := q_aload_n t83_33 rfl
theorem t83_34 : decode (mb 83) 34 = .ok (.getfield 10, 3) := by decide +kernel
theorem s83_34_o0 (d : Nat) (l0 : Value) (l1 : Value) (σ : Hs) : ru d 83 34 [l0, l1] [.ref 0] σ = ru d 83 37 [l0, l1] [.ref 1] σ := q_getf t83_34 mo83 F7_10 rfl rfl
theorem t83_37 : decode (mb 83) 37 = .ok (.getfield 58, 3) := by decide +kernel
theorem s83_37_o1 (d : Nat) (l0 : Value) (l1 : Value) (σ : Hs) : ru d 83 37 [l0, l1] [.ref 1] σ = ru d 83 40 [l0, l1] [.ref 2] σ := q_getf t83_37 mo83 F7_58 rfl rfl
theorem t83_40 : decode (mb 83) 40 = .ok (.iload_n 1, 1) := by decide +kernel
theorem s83_40 (d : Nat) (l0 : Value) (i1 : Int32) (w0 : Value) (σ : Hs) : ru d 83 40 [l0, .int i1] [w0] σ = ru d 83 41 [l0, .int i1] [.int i1, w0] σ := q_iload_n t83_40 rfl
theorem t83_41 : decode (mb 83) 41 = .ok (.invokevirtual 222, 3) := by decide +kernel
theorem s83_41_o2 (d : Nat) (l0 : Value) (l1 : Value) (v1 : Value) (σ : Hs) : ru d 83 41 [l0, l1] [v1, .ref 2] σ = kont (callD d 23 [.ref 2, v1] σ) d 83 44 [l0, l1] [] := q_invv t83_41 mo83 K7_222 mj23 rfl rfl rfl rfl (Nat.le_of_ble_eq_true rfl)
theorem t83_44 : decode (mb 83) 44 = .ok (.invokestatic 185, 3) := by decide +kernel
theorem s83_44 (d : Nat) (l0 : Value) (l1 : Value) (v0 : Value) (σ : Hs) : ru d 83 44 [l0, l1] [v0] σ = kont (callD d 222 [v0] σ) d 83 47 [l0, l1] [] := q_invs t83_44 mo83 (by decide +kernel) K7_185 mj222 (Nat.le_of_ble_eq_true rfl) rfl rfl (Nat.le_of_ble_eq_true rfl)
theorem t83_47 : decode (mb 83) 47 = .ok (.ireturn, 1) := by decide +kernel
theorem s83_47 (d : Nat) (l0 : Value) (l1 : Value) (x : Int32) (σ : Hs) : ru d 83 47 [l0, l1] [.int x] σ = some (some (.int x), σ) := q_ireti t83_47 mr83
theorem c83 (d : Nat) (x0 : Nat) (x1 : Int32) (σ : Hs) : callD (d + 1) 83 [.ref x0, .int x1] σ = ru d 83 0 [.ref x0, .int x1] [] σ := callD_ru ml83 rfl rfl (Nat.le_of_ble_eq_true rfl)
-- 84: SmokyHeap.report(II)I
theorem t84_0 : decode (mb 84) 0 = .ok (.iload_n 1, 1) := by decide +kernel
theorem s84_0 (d : Nat) (l0 : Value) (i1 : Int32) (l2 : Value) (l3 : Value) (σ : Hs) : ru d 84 0 [l0, .int i1, l2, l3] [] σ = ru d 84 1 [l0, .int i1, l2, l3] [.int i1] σ := q_iload_n t84_0 rfl
theorem t84_1 : decode (mb 84) 1 = .ok (.invokestatic 179, 3) := by decide +kernel
theorem s84_1 (d : Nat) (l0 : Value) (l1 : Value) (l2 : Value) (l3 : Value) (v0 : Value) (σ : Hs) : ru d 84 1 [l0, l1, l2, l3] [v0] σ = kont (callD d 106 [v0] σ) d 84 4 [l0, l1, l2, l3] [] := q_invs t84_1 mo84 (by decide +kernel) K7_179 mj106 (Nat.le_of_ble_eq_true rfl) rfl rfl (Nat.le_of_ble_eq_true rfl)
theorem t84_4 : decode (mb 84) 4 = .ok (.ifCond .eq 12, 3) := by decide +kernel
theorem s84_4 (d : Nat) (l0 : Value) (l1 : Value) (l2 : Value) (l3 : Value) (x : Int32) (σ : Hs) : ru d 84 4 [l0, l1, l2, l3] [.int x] σ = if x = 0 then ru d 84 16 [l0, l1, l2, l3] [] σ else ru d 84 7 [l0, l1, l2, l3] [] σ := q_if_eq t84_4 (by decide +kernel)
theorem t84_7 : decode (mb 84) 7 = .ok (.iload_n 2, 1) := by decide +kernel
theorem s84_7 (d : Nat) (l0 : Value) (l1 : Value) (i2 : Int32) (l3 : Value) (σ : Hs) : ru d 84 7 [l0, l1, .int i2, l3] [] σ = ru d 84 8 [l0, l1, .int i2, l3] [.int i2] σ := q_iload_n t84_7 rfl
theorem t84_8 : decode (mb 84) 8 = .ok (.iconst 0, 1) := by decide +kernel
theorem s84_8 (d : Nat) (l0 : Value) (l1 : Value) (l2 : Value) (l3 : Value) (w0 : Value) (σ : Hs) : ru d 84 8 [l0, l1, l2, l3] [w0] σ = ru d 84 9 [l0, l1, l2, l3] [.int 0, w0] σ := q_iconst t84_8 (by decide +kernel)
theorem t84_9 : decode (mb 84) 9 = .ok (.iconst 3, 1) := by decide +kernel
theorem s84_9 (d : Nat) (l0 : Value) (l1 : Value) (l2 : Value) (l3 : Value) (w0 w1 : Value) (σ : Hs) : ru d 84 9 [l0, l1, l2, l3] [w0, w1] σ = ru d 84 10 [l0, l1, l2, l3] [.int 3, w0, w1] σ := q_iconst t84_9 (by decide +kernel)
theorem t84_10 : decode (mb 84) 10 = .ok (.invokestatic 83, 3) := by decide +kernel
theorem s84_10 (d : Nat) (l0 : Value) (l1 : Value) (l2 : Value) (l3 : Value) (v0 v1 v2 : Value) (σ : Hs) : ru d 84 10 [l0, l1, l2, l3] [v2, v1, v0] σ = kont (callD d 102 [v0, v1, v2] σ) d 84 13 [l0, l1, l2, l3] [] := q_invs t84_10 mo84 (by decide +kernel) K7_83 mj102 (Nat.le_of_ble_eq_true rfl) rfl rfl (Nat.le_of_ble_eq_true rfl)
theorem t84_13 : decode (mb 84) 13 = .ok (.ifCond .ne 9, 3) := by decide +kernel
theorem s84_13 (d : Nat) (l0 : Value) (l1 : Value) (l2 : Value) (l3 : Value) (x : Int32) (σ : Hs) : ru d 84 13 [l0, l1, l2, l3] [.int x] σ = if x = 0 then ru d 84 16 [l0, l1, l2, l3] [] σ else ru d 84 22 [l0, l1, l2, l3] [] σ := q_if_ne t84_13 (by decide +kernel)
theorem t84_16 : decode (mb 84) 16 = .ok (.aload_n 0, 1) := by decide +kernel
theorem s84_16 (d : Nat) (a0 : Nat) (l1 : Value) (l2 : Value) (l3 : Value) (σ : Hs) : ru d 84 16 [.ref a0, l1, l2, l3] [] σ = ru d 84 17 [.ref a0, l1, l2, l3] [.ref a0] σ := q_aload_n t84_16 rfl
theorem t84_17 : decode (mb 84) 17 = .ok (.iconst 1, 1) := by decide +kernel
theorem s84_17 (d : Nat) (l0 : Value) (l1 : Value) (l2 : Value) (l3 : Value) (w0 : Value) (σ : Hs) : ru d 84 17 [l0, l1, l2, l3] [w0] σ = ru d 84 18 [l0, l1, l2, l3] [.int 1, w0] σ := q_iconst t84_17 (by decide +kernel)
theorem t84_18 : decode (mb 84) 18 = .ok (.invokevirtual 65, 3) := by decide +kernel
theorem s84_18_o0 (d : Nat) (l0 : Value) (l1 : Value) (l2 : Value) (l3 : Value) (v1 : Value) (σ : Hs) : ru d 84 18 [l0, l1, l2, l3] [v1, .ref 0] σ = kont (callD d 99 [.ref 0, v1] σ) d 84 21 [l0, l1, l2, l3] [] := q_invv t84_18 mo84 K7_65 mj99 rfl rfl rfl rfl (Nat.le_of_ble_eq_true rfl)
theorem t84_21 : decode (mb 84) 21 = .ok (.ireturn, 1) := by decide +kernel
theorem s84_21 (d : Nat) (l0 : Value) (l1 : Value) (l2 : Value) (l3 : Value) (x : Int32) (σ : Hs) : ru d 84 21 [l0, l1, l2, l3] [.int x] σ = some (some (.int x), σ) := q_ireti t84_21 mr84
theorem t84_22 : decode (mb 84) 22 = .ok (.aload_n 0, 1) := by decide +kernel
theorem s84_22 (d : Nat) (a0 : Nat) (l1 : Value) (l2 : Value) (l3 : Value) (σ : Hs) : ru d 84 22 [.ref a0, l1, l2, l3] [] σ = ru d 84 23 [.ref a0, l1, l2, l3] [.ref a0] σ := q_aload_n t84_22 rfl
theorem t84_23 : decode (mb 84) 23 = .ok (.getfield 10, 3) := by decide +kernel
theorem s84_23_o0 (d : Nat) (l0 : Value) (l1 : Value) (l2 : Value) (l3 : Value) (σ : Hs) : ru d 84 23 [l0, l1, l2, l3] [.ref 0] σ = ru d 84 26 [l0, l1, l2, l3] [.ref 1] σ := q_getf t84_23 mo84 F7_10 rfl rfl
theorem t84_26 : decode (mb 84) 26 = .ok (.getfield 225, 3) := by decide +kernel
theorem s84_26_o1 (d : Nat) (l0 : Value) (l1 : Value) (l2 : Value) (l3 : Value) (σ : Hs) : ru d 84 26 [l0, l1, l2, l3] [.ref 1] σ = ru d 84 29 [l0, l1, l2, l3] [.ref 24] σ := q_getf t84_26 mo84 F7_225 rfl rfl
theorem t84_29 : decode (mb 84) 29 = .ok (.getfield 131, 3) := by decide +kernel
theorem s84_29_o24 (d : Nat) (l0 : Value) (l1 : Value) (l2 : Value) (l3 : Value) (σ : Hs) : ru d 84 29 [l0, l1, l2, l3] [.ref 24] σ = ru d 84 32 [l0, l1, l2, l3] [.int (σ 24 1)] σ := q_getf t84_29 mo84 F7_131 rfl rfl
theorem t84_32 : decode (mb 84) 32 = .ok (.istore_n 3, 1) := by decide +kernel
theorem s84_32 (d : Nat) (l0 : Value) (l1 : Value) (i2 : Int32) (l3 : Value) (x : Int32) (σ : Hs) : ru d 84 32 [l0, l1, .int i2, l3] [.int x] σ = ru d 84 33 [l0, l1, .int i2, .int x] [] σ := q_istore_n t84_32 ⟨Nat.le_of_ble_eq_true rfl, rfl⟩ rfl
theorem t84_33 : decode (mb 84) 33 = .ok (.iload_n 3, 1) := by decide +kernel
theorem s84_33 (d : Nat) (l0 : Value) (l1 : Value) (l2 : Value) (i3 : Int32) (σ : Hs) : ru d 84 33 [l0, l1, l2, .int i3] [] σ = ru d 84 34 [l0, l1, l2, .int i3] [.int i3] σ := q_iload_n t84_33 rfl
theorem t84_34 : decode (mb 84) 34 = .ok (.bipush 12, 2) := by decide +kernel
theorem s84_34 (d : Nat) (l0 : Value) (l1 : Value) (l2 : Value) (l3 : Value) (w0 : Value) (σ : Hs) : ru d 84 34 [l0, l1, l2, l3] [w0] σ = ru d 84 36 [l0, l1, l2, l3] [.int 12, w0] σ := q_bipush t84_34 (by decide +kernel)
theorem t84_36 : decode (mb 84) 36 = .ok (.if_icmp .lt 9, 3) := by decide +kernel
theorem s84_36 (d : Nat) (l0 : Value) (l1 : Value) (l2 : Value) (l3 : Value) (x y : Int32) (σ : Hs) : ru d 84 36 [l0, l1, l2, l3] [.int y, .int x] σ = if x < y then ru d 84 45 [l0, l1, l2, l3] [] σ else ru d 84 39 [l0, l1, l2, l3] [] σ := q_ic_lt t84_36 (by decide +kernel)
theorem t84_39 : decode (mb 84) 39 = .ok (.aload_n 0, 1) := by decide +kernel
theorem s84_39 (d : Nat) (a0 : Nat) (l1 : Value) (l2 : Value) (l3 : Value) (σ : Hs) : ru d 84 39 [.ref a0, l1, l2, l3] [] σ = ru d 84 40 [.ref a0, l1, l2, l3] [.ref a0] σ := q_aload_n t84_39 rfl
theorem t84_40 : decode (mb 84) 40 = .ok (.iconst 4, 1) := by decide +kernel
theorem s84_40 (d : Nat) (l0 : Value) (l1 : Value) (l2 : Value) (l3 : Value) (w0 : Value) (σ : Hs) : ru d 84 40 [l0, l1, l2, l3] [w0] σ = ru d 84 41 [l0, l1, l2, l3] [.int 4, w0] σ := q_iconst t84_40 (by decide +kernel)
theorem t84_41 : decode (mb 84) 41 = .ok (.invokevirtual 65, 3) := by decide +kernel
theorem s84_41_o0 (d : Nat) (l0 : Value) (l1 : Value) (l2 : Value) (l3 : Value) (v1 : Value) (σ : Hs) : ru d 84 41 [l0, l1, l2, l3] [v1, .ref 0] σ = kont (callD d 99 [.ref 0, v1] σ) d 84 44 [l0, l1, l2, l3] [] := q_invv t84_41 mo84 K7_65 mj99 rfl rfl rfl rfl (Nat.le_of_ble_eq_true rfl)
theorem t84_44 : decode (mb 84) 44 = .ok (.ireturn, 1) := by decide +kernel
theorem s84_44 (d : Nat) (l0 : Value) (l1 : Value) (l2 : Value) (l3 : Value) (x : Int32) (σ : Hs) : ru d 84 44 [l0, l1, l2, l3] [.int x] σ = some (some (.int x), σ) := q_ireti t84_44 mr84
theorem t84_45 : decode (mb 84) 45 = .ok (.aload_n 0, 1) := by decide +kernel
theorem s84_45 (d : Nat) (a0 : Nat) (l1 : Value) (l2 : Value) (l3 : Value) (σ : Hs) : ru d 84 45 [.ref a0, l1, l2, l3] [] σ = ru d 84 46 [.ref a0, l1, l2, l3] [.ref a0] σ := q_aload_n t84_45 rfl
theorem t84_46 : decode (mb 84) 46 = .ok (.getfield 10, 3) := by decide +kernel
theorem s84_46_o0 (d : Nat) (l0 : Value) (l1 : Value) (l2 : Value) (l3 : Value) (σ : Hs) : ru d 84 46 [l0, l1, l2, l3] [.ref 0] σ = ru d 84 49 [l0, l1, l2, l3] [.ref 1] σ := q_getf t84_46 mo84 F7_10 rfl rfl
theorem t84_49 : decode (mb 84) 49 = .ok (.getfield 225, 3) := by decide +kernel
theorem s84_49_o1 (d : Nat) (l0 : Value) (l1 : Value) (l2 : Value) (l3 : Value) (σ : Hs) : ru d 84 49 [l0, l1, l2, l3] [.ref 1] σ = ru d 84 52 [l0, l1, l2, l3] [.ref 24] σ := q_getf t84_49 mo84 F7_225 rfl rfl
theorem t84_52 : decode (mb 84) 52 = .ok (.iload_n 1, 1) := by decide +kernel
theorem s84_52 (d : Nat) (l0 : Value) (i1 : Int32) (l2 : Value) (l3 : Value) (w0 : Value) (σ : Hs) : ru d 84 52 [l0, .int i1, l2, l3] [w0] σ = ru d 84 53 [l0, .int i1, l2, l3] [.int i1, w0] σ := q_iload_n t84_52 rfl
theorem t84_53 : decode (mb 84) 53 = .ok (.invokevirtual 136, 3) := by decide +kernel
theorem s84_53_o24 (d : Nat) (l0 : Value) (l1 : Value) (l2 : Value) (l3 : Value) (v1 : Value) (σ : Hs) : ru d 84 53 [l0, l1, l2, l3] [v1, .ref 24] σ = kont (callD d 44 [.ref 24, v1] σ) d 84 56 [l0, l1, l2, l3] [] := q_invv t84_53 mo84 K7_136 mj44 rfl rfl rfl rfl (Nat.le_of_ble_eq_true rfl)
theorem t84_56 : decode (mb 84) 56 = .ok (.pop, 1) := by decide +kernel
theorem s84_56 (d : Nat) (l0 : Value) (l1 : Value) (l2 : Value) (l3 : Value) (x : Int32) (σ : Hs) : ru d 84 56 [l0, l1, l2, l3] [.int x] σ = ru d 84 57 [l0, l1, l2, l3] [] σ := q_pop t84_56 rfl
theorem t84_57 : decode (mb 84) 57 = .ok (.aload_n 0, 1) := by decide +kernel
theorem s84_57 (d : Nat) (a0 : Nat) (l1 : Value) (l2 : Value) (l3 : Value) (σ : Hs) : ru d 84 57 [.ref a0, l1, l2, l3] [] σ = ru d 84 58 [.ref a0, l1, l2, l3] [.ref a0] σ := q_aload_n t84_57 rfl
theorem t84_58 : decode (mb 84) 58 = .ok (.getfield 10, 3) := by decide +kernel
theorem s84_58_o0 (d : Nat) (l0 : Value) (l1 : Value) (l2 : Value) (l3 : Value) (σ : Hs) : ru d 84 58 [l0, l1, l2, l3] [.ref 0] σ = ru d 84 61 [l0, l1, l2, l3] [.ref 1] σ := q_getf t84_58 mo84 F7_10 rfl rfl
theorem t84_61 : decode (mb 84) 61 = .ok (.getfield 228, 3) := by decide +kernel
theorem s84_61_o1 (d : Nat) (l0 : Value) (l1 : Value) (l2 : Value) (l3 : Value) (σ : Hs) : ru d 84 61 [l0, l1, l2, l3] [.ref 1] σ = ru d 84 64 [l0, l1, l2, l3] [.ref 26] σ := q_getf t84_61 mo84 F7_228 rfl rfl
theorem t84_64 : decode (mb 84) 64 = .ok (.iload_n 2, 1) := by decide +kernel
theorem s84_64 (d : Nat) (l0 : Value) (l1 : Value) (i2 : Int32) (l3 : Value) (w0 : Value) (σ : Hs) : ru d 84 64 [l0, l1, .int i2, l3] [w0] σ = ru d 84 65 [l0, l1, .int i2, l3] [.int i2, w0] σ := q_iload_n t84_64 rfl
theorem t84_65 : decode (mb 84) 65 = .ok (.invokevirtual 136, 3) := by decide +kernel
theorem s84_65_o26 (d : Nat) (l0 : Value) (l1 : Value) (l2 : Value) (l3 : Value) (v1 : Value) (σ : Hs) : ru d 84 65 [l0, l1, l2, l3] [v1, .ref 26] σ = kont (callD d 44 [.ref 26, v1] σ) d 84 68 [l0, l1, l2, l3] [] := q_invv t84_65 mo84 K7_136 mj44 rfl rfl rfl rfl (Nat.le_of_ble_eq_true rfl)
theorem t84_68 : decode (mb 84) 68 = .ok (.pop, 1) := by decide +kernel
theorem s84_68 (d : Nat) (l0 : Value) (l1 : Value) (l2 : Value) (l3 : Value) (x : Int32) (σ : Hs) : ru d 84 68 [l0, l1, l2, l3] [.int x] σ = ru d 84 69 [l0, l1, l2, l3] [] σ := q_pop t84_68 rfl
theorem t84_69 : decode (mb 84) 69 = .ok (.iload_n 3, 1) := by decide +kernel
theorem s84_69 (d : Nat) (l0 : Value) (l1 : Value) (l2 : Value) (i3 : Int32) (σ : Hs) : ru d 84 69 [l0, l1, l2, .int i3] [] σ = ru d 84 70 [l0, l1, l2, .int i3] [.int i3] σ := q_iload_n t84_69 rfl
theorem t84_70 : decode (mb 84) 70 = .ok (.ireturn, 1) := by decide +kernel
theorem s84_70 (d : Nat) (l0 : Value) (l1 : Value) (l2 : Value) (l3 : Value) (x : Int32) (σ : Hs) : ru d 84 70 [l0, l1, l2, l3] [.int x] σ = some (some (.int x), σ) := q_ireti t84_70 mr84
theorem c84 (d : Nat) (x0 : Nat) (x1 : Int32) (x2 : Int32) (σ : Hs) : callD (d + 1) 84 [.ref x0, .int x1, .int x2] σ = ru d 84 0 [.ref x0, .int x1, .int x2, uu] [] σ := callD_ru ml84 rfl rfl (Nat.le_of_ble_eq_true rfl)
-- 85: SmokyHeap.suspects()I
theorem t85_0 : decode (mb 85) 0 = .ok (.aload_n 0, 1) := by decide +kernel
theorem s85_0 (d : Nat) (a0 : Nat) (σ : Hs) : ru d 85 0 [.ref a0] [] σ = ru d 85 1 [.ref a0] [.ref a0] σ := q_aload_n t85_0 rfl
theorem t85_1 : decode (mb 85) 1 = .ok (.getfield 10, 3) := by decide +kernel
theorem s85_1_o0 (d : Nat) (l0 : Value) (σ : Hs) : ru d 85 1 [l0] [.ref 0] σ = ru d 85 4 [l0] [.ref 1] σ := q_getf t85_1 mo85 F7_10 rfl rfl
theorem t85_4 : decode (mb 85) 4 = .ok (.iconst (-1), 1) := by decide +kernel
theorem s85_4 (d : Nat) (l0 : Value) (w0 : Value) (σ : Hs) : ru d 85 4 [l0] [w0] σ = ru d 85 5 [l0] [.int (-1), w0] σ := q_iconst t85_4 (by decide +kernel)
theorem t85_5 : decode (mb 85) 5 = .ok (.invokevirtual 231, 3) := by decide +kernel
theorem s85_5_o1 (d : Nat) (l0 : Value) (v1 : Value) (σ : Hs) : ru d 85 5 [l0] [v1, .ref 1] σ = kont (callD d 52 [.ref 1, v1] σ) d 85 8 [l0] [] := q_invv t85_5 mo85 K7_231 mj52 rfl rfl rfl rfl (Nat.le_of_ble_eq_true rfl)
theorem t85_8 : decode (mb 85) 8 = .ok (.ireturn, 1) := by decide +kernel
theorem s85_8 (d : Nat) (l0 : Value) (x : Int32) (σ : Hs) : ru d 85 8 [l0] [.int x] σ = some (some (.int x), σ) := q_ireti t85_8 mr85
theorem c85 (d : Nat) (x0 : Nat) (σ : Hs) : callD (d + 1) 85 [.ref x0] σ = ru d 85 0 [.ref x0] [] σ := callD_ru ml85 rfl rfl (Nat.le_of_ble_eq_true rfl)
-- 86: SmokyHeap.liar()I
theorem t86_0 : decode (mb 86) 0 = .ok (.iconst (-1), 1) := by decide +kernel
theorem s86_0 (d : Nat) (l0 : Value) (l1 : Value) (l2 : Value) (l3 : Value) (l4 : Value) (σ : Hs) : ru d 86 0 [l0, l1, l2, l3, l4] [] σ = ru d 86 1 [l0, l1, l2, l3, l4] [.int (-1)] σ := q_iconst t86_0 (by decide +kernel)
theorem t86_1 : decode (mb 86) 1 = .ok (.istore_n 1, 1) := by decide +kernel
theorem s86_1 (d : Nat) (a0 : Nat) (l1 : Value) (l2 : Value) (l3 : Value) (l4 : Value) (x : Int32) (σ : Hs) : ru d 86 1 [.ref a0, l1, l2, l3, l4] [.int x] σ = ru d 86 2 [.ref a0, .int x, l2, l3, l4] [] σ := q_istore_n t86_1 ⟨Nat.le_of_ble_eq_true rfl, rfl⟩ rfl
theorem t86_2 : decode (mb 86) 2 = .ok (.iconst (-1), 1) := by decide +kernel
theorem s86_2 (d : Nat) (l0 : Value) (l1 : Value) (l2 : Value) (l3 : Value) (l4 : Value) (σ : Hs) : ru d 86 2 [l0, l1, l2, l3, l4] [] σ = ru d 86 3 [l0, l1, l2, l3, l4] [.int (-1)] σ := q_iconst t86_2 (by decide +kernel)
theorem t86_3 : decode (mb 86) 3 = .ok (.istore_n 2, 1) := by decide +kernel
theorem s86_3 (d : Nat) (l0 : Value) (i1 : Int32) (l2 : Value) (l3 : Value) (l4 : Value) (x : Int32) (σ : Hs) : ru d 86 3 [l0, .int i1, l2, l3, l4] [.int x] σ = ru d 86 4 [l0, .int i1, .int x, l3, l4] [] σ := q_istore_n t86_3 ⟨Nat.le_of_ble_eq_true rfl, rfl⟩ rfl
theorem t86_4 : decode (mb 86) 4 = .ok (.iconst 0, 1) := by decide +kernel
theorem s86_4 (d : Nat) (l0 : Value) (l1 : Value) (l2 : Value) (l3 : Value) (l4 : Value) (σ : Hs) : ru d 86 4 [l0, l1, l2, l3, l4] [] σ = ru d 86 5 [l0, l1, l2, l3, l4] [.int 0] σ := q_iconst t86_4 (by decide +kernel)
theorem t86_5 : decode (mb 86) 5 = .ok (.istore_n 3, 1) := by decide +kernel
theorem s86_5 (d : Nat) (l0 : Value) (l1 : Value) (i2 : Int32) (l3 : Value) (l4 : Value) (x : Int32) (σ : Hs) : ru d 86 5 [l0, l1, .int i2, l3, l4] [.int x] σ = ru d 86 6 [l0, l1, .int i2, .int x, l4] [] σ := q_istore_n t86_5 ⟨Nat.le_of_ble_eq_true rfl, rfl⟩ rfl
theorem t86_6 : decode (mb 86) 6 = .ok (.iload_n 3, 1) := by decide +kernel
theorem s86_6 (d : Nat) (l0 : Value) (l1 : Value) (l2 : Value) (i3 : Int32) (l4 : Value) (σ : Hs) : ru d 86 6 [l0, l1, l2, .int i3, l4] [] σ = ru d 86 7 [l0, l1, l2, .int i3, l4] [.int i3] σ := q_iload_n t86_6 rfl
theorem t86_7 : decode (mb 86) 7 = .ok (.aload_n 0, 1) := by decide +kernel
theorem s86_7 (d : Nat) (a0 : Nat) (l1 : Value) (l2 : Value) (l3 : Value) (l4 : Value) (w0 : Value) (σ : Hs) : ru d 86 7 [.ref a0, l1, l2, l3, l4] [w0] σ = ru d 86 8 [.ref a0, l1, l2, l3, l4] [.ref a0, w0] σ := q_aload_n t86_7 rfl
theorem t86_8 : decode (mb 86) 8 = .ok (.getfield 10, 3) := by decide +kernel
theorem s86_8_o0 (d : Nat) (l0 : Value) (l1 : Value) (l2 : Value) (l3 : Value) (l4 : Value) (w0 : Value) (σ : Hs) : ru d 86 8 [l0, l1, l2, l3, l4] [.ref 0, w0] σ = ru d 86 11 [l0, l1, l2, l3, l4] [.ref 1, w0] σ := q_getf t86_8 mo86 F7_10 rfl rfl
theorem t86_11 : decode (mb 86) 11 = .ok (.getfield 225, 3) := by decide +kernel
theorem s86_11_o1 (d : Nat) (l0 : Value) (l1 : Value) (l2 : Value) (l3 : Value) (l4 : Value) (w0 : Value) (σ : Hs) : ru d 86 11 [l0, l1, l2, l3, l4] [.ref 1, w0] σ = ru d 86 14 [l0, l1, l2, l3, l4] [.ref 24, w0] σ := q_getf t86_11 mo86 F7_225 rfl rfl
theorem t86_14 : decode (mb 86) 14 = .ok (.getfield 131, 3) := by decide +kernel
theorem s86_14_o24 (d : Nat) (l0 : Value) (l1 : Value) (l2 : Value) (l3 : Value) (l4 : Value) (w0 : Value) (σ : Hs) : ru d 86 14 [l0, l1, l2, l3, l4] [.ref 24, w0] σ = ru d 86 17 [l0, l1, l2, l3, l4] [.int (σ 24 1), w0] σ := q_getf t86_14 mo86 F7_131 rfl rfl
theorem t86_17 : decode (mb 86) 17 = .ok (.if_icmp .ge 33, 3) := by decide +kernel
theorem s86_17 (d : Nat) (l0 : Value) (l1 : Value) (l2 : Value) (l3 : Value) (l4 : Value) (x y : Int32) (σ : Hs) : ru d 86 17 [l0, l1, l2, l3, l4] [.int y, .int x] σ = if y ≤ x then ru d 86 50 [l0, l1, l2, l3, l4] [] σ else ru d 86 20 [l0, l1, l2, l3, l4] [] σ := q_ic_ge t86_17 (by decide +kernel)
theorem t86_20 : decode (mb 86) 20 = .ok (.aload_n 0, 1) := by decide +kernel
theorem s86_20 (d : Nat) (a0 : Nat) (l1 : Value) (l2 : Value) (l3 : Value) (l4 : Value) (σ : Hs) : ru d 86 20 [.ref a0, l1, l2, l3, l4] [] σ = ru d 86 21 [.ref a0, l1, l2, l3, l4] [.ref a0] σ := q_aload_n t86_20 rfl
theorem t86_21 : decode (mb 86) 21 = .ok (.getfield 10, 3) := by decide +kernel
theorem s86_21_o0 (d : Nat) (l0 : Value) (l1 : Value) (l2 : Value) (l3 : Value) (l4 : Value) (σ : Hs) : ru d 86 21 [l0, l1, l2, l3, l4] [.ref 0] σ = ru d 86 24 [l0, l1, l2, l3, l4] [.ref 1] σ := q_getf t86_21 mo86 F7_10 rfl rfl
theorem t86_24 : decode (mb 86) 24 = .ok (.iload_n 3, 1) := by decide +kernel
theorem s86_24 (d : Nat) (l0 : Value) (l1 : Value) (l2 : Value) (i3 : Int32) (l4 : Value) (w0 : Value) (σ : Hs) : ru d 86 24 [l0, l1, l2, .int i3, l4] [w0] σ = ru d 86 25 [l0, l1, l2, .int i3, l4] [.int i3, w0] σ := q_iload_n t86_24 rfl
theorem t86_25 : decode (mb 86) 25 = .ok (.invokevirtual 231, 3) := by decide +kernel
theorem s86_25_o1 (d : Nat) (l0 : Value) (l1 : Value) (l2 : Value) (l3 : Value) (l4 : Value) (v1 : Value) (σ : Hs) : ru d 86 25 [l0, l1, l2, l3, l4] [v1, .ref 1] σ = kont (callD d 52 [.ref 1, v1] σ) d 86 28 [l0, l1, l2, l3, l4] [] := q_invv t86_25 mo86 K7_231 mj52 rfl rfl rfl rfl (Nat.le_of_ble_eq_true rfl)
theorem t86_28 : decode (mb 86) 28 = .ok (.invokestatic 185, 3) := by decide +kernel
theorem s86_28 (d : Nat) (l0 : Value) (l1 : Value) (l2 : Value) (l3 : Value) (l4 : Value) (v0 : Value) (σ : Hs) : ru d 86 28 [l0, l1, l2, l3, l4] [v0] σ = kont (callD d 222 [v0] σ) d 86 31 [l0, l1, l2, l3, l4] [] := q_invs t86_28 mo86 (by decide +kernel) K7_185 mj222 (Nat.le_of_ble_eq_true rfl) rfl rfl (Nat.le_of_ble_eq_true rfl)
theorem t86_31 : decode (mb 86) 31 = .ok (.istore 4, 2) := by decide +kernel
theorem s86_31 (d : Nat) (l0 : Value) (l1 : Value) (l2 : Value) (i3 : Int32) (l4 : Value) (x : Int32) (σ : Hs) : ru d 86 31 [l0, l1, l2, .int i3, l4] [.int x] σ = ru d 86 33 [l0, l1, l2, .int i3, .int x] [] σ := q_istore t86_31 ⟨Nat.le_of_ble_eq_true rfl, rfl⟩ rfl
theorem t86_33 : decode (mb 86) 33 = .ok (.iload 4, 2) := by decide +kernel
theorem s86_33 (d : Nat) (l0 : Value) (l1 : Value) (l2 : Value) (l3 : Value) (i4 : Int32) (σ : Hs) : ru d 86 33 [l0, l1, l2, l3, .int i4] [] σ = ru d 86 35 [l0, l1, l2, l3, .int i4] [.int i4] σ := q_iload t86_33 rfl
theorem t86_35 : decode (mb 86) 35 = .ok (.iload_n 2, 1) := by decide +kernel
theorem s86_35 (d : Nat) (l0 : Value) (l1 : Value) (i2 : Int32) (l3 : Value) (l4 : Value) (w0 : Value) (σ : Hs) : ru d 86 35 [l0, l1, .int i2, l3, l4] [w0] σ = ru d 86 36 [l0, l1, .int i2, l3, l4] [.int i2, w0] σ := q_iload_n t86_35 rfl
theorem t86_36 : decode (mb 86) 36 = .ok (.if_icmp .le 8, 3) := by decide +kernel
theorem s86_36 (d : Nat) (l0 : Value) (l1 : Value) (l2 : Value) (l3 : Value) (l4 : Value) (x y : Int32) (σ : Hs) : ru d 86 36 [l0, l1, l2, l3, l4] [.int y, .int x] σ = if x ≤ y then ru d 86 44 [l0, l1, l2, l3, l4] [] σ else ru d 86 39 [l0, l1, l2, l3, l4] [] σ := q_ic_le t86_36 (by decide +kernel)
theorem t86_39 : decode (mb 86) 39 = .ok (.iload_n 3, 1) := by decide +kernel
theorem s86_39 (d : Nat) (l0 : Value) (l1 : Value) (l2 : Value) (i3 : Int32) (l4 : Value) (σ : Hs) : ru d 86 39 [l0, l1, l2, .int i3, l4] [] σ = ru d 86 40 [l0, l1, l2, .int i3, l4] [.int i3] σ := q_iload_n t86_39 rfl
theorem t86_40 : decode (mb 86) 40 = .ok (.istore_n 1, 1) := by decide +kernel
theorem s86_40 (d : Nat) (a0 : Nat) (l1 : Value) (l2 : Value) (l3 : Value) (l4 : Value) (x : Int32) (σ : Hs) : ru d 86 40 [.ref a0, l1, l2, l3, l4] [.int x] σ = ru d 86 41 [.ref a0, .int x, l2, l3, l4] [] σ := q_istore_n t86_40 ⟨Nat.le_of_ble_eq_true rfl, rfl⟩ rfl
theorem t86_41 : decode (mb 86) 41 = .ok (.iload 4, 2) := by decide +kernel
theorem s86_41 (d : Nat) (l0 : Value) (l1 : Value) (l2 : Value) (l3 : Value) (i4 : Int32) (σ : Hs) : ru d 86 41 [l0, l1, l2, l3, .int i4] [] σ = ru d 86 43 [l0, l1, l2, l3, .int i4] [.int i4] σ := q_iload t86_41 rfl
theorem t86_43 : decode (mb 86) 43 = .ok (.istore_n 2, 1) := by decide +kernel
theorem s86_43 (d : Nat) (l0 : Value) (i1 : Int32) (l2 : Value) (l3 : Value) (l4 : Value) (x : Int32) (σ : Hs) : ru d 86 43 [l0, .int i1, l2, l3, l4] [.int x] σ = ru d 86 44 [l0, .int i1, .int x, l3, l4] [] σ := q_istore_n t86_43 ⟨Nat.le_of_ble_eq_true rfl, rfl⟩ rfl
theorem t86_44 : decode (mb 86) 44 = .ok (.iinc 3 1, 3) := by decide +kernel
theorem s86_44 (d : Nat) (l0 : Value) (l1 : Value) (i2 : Int32) (i3 : Int32) (l4 : Value) (σ : Hs) : ru d 86 44 [l0, l1, .int i2, .int i3, l4] [] σ = ru d 86 47 [l0, l1, .int i2, .int (i3 + 1), l4] [] σ := q_iinc t86_44 ⟨Nat.le_of_ble_eq_true rfl, rfl⟩ rfl (by decide +kernel) rfl
theorem t86_47 : decode (mb 86) 47 = .ok (.goto (-41), 3) := by decide +kernel
theorem s86_47 (d : Nat) (l0 : Value) (l1 : Value) (l2 : Value) (l3 : Value) (l4 : Value) (σ : Hs) : ru d 86 47 [l0, l1, l2, l3, l4] [] σ = ru d 86 6 [l0, l1, l2, l3, l4] [] σ := q_goto t86_47 (by decide +kernel)
theorem t86_50 : decode (mb 86) 50 = .ok (.iload_n 1, 1) := by decide +kernel
theorem s86_50 (d : Nat) (l0 : Value) (i1 : Int32) (l2 : Value) (l3 : Value) (l4 : Value) (σ : Hs) : ru d 86 50 [l0, .int i1, l2, l3, l4] [] σ = ru d 86 51 [l0, .int i1, l2, l3, l4] [.int i1] σ := q_iload_n t86_50 rfl
theorem t86_51 : decode (mb 86) 51 = .ok (.iconst (-1), 1) := by decide +kernel
theorem s86_51 (d : Nat) (l0 : Value) (l1 : Value) (l2 : Value) (l3 : Value) (l4 : Value) (w0 : Value) (σ : Hs) : ru d 86 51 [l0, l1, l2, l3, l4] [w0] σ = ru d 86 52 [l0, l1, l2, l3, l4] [.int (-1), w0] σ := q_iconst t86_51 (by decide +kernel)
theorem t86_52 : decode (mb 86) 52 = .ok (.if_icmp .ne 11, 3) := by decide +kernel
theorem s86_52 (d : Nat) (l0 : Value) (l1 : Value) (l2 : Value) (l3 : Value) (l4 : Value) (x y : Int32) (σ : Hs) : ru d 86 52 [l0, l1, l2, l3, l4] [.int y, .int x] σ = if x = y then ru d 86 55 [l0, l1, l2, l3, l4] [] σ else ru d 86 63 [l0, l1, l2, l3, l4] [] σ := q_ic_ne t86_52 (by decide +kernel)
theorem t86_55 : decode (mb 86) 55 = .ok (.aload_n 0, 1) := by decide +kernel
theorem s86_55 (d : Nat) (a0 : Nat) (l1 : Value) (l2 : Value) (l3 : Value) (l4 : Value) (σ : Hs) : ru d 86 55 [.ref a0, l1, l2, l3, l4] [] σ = ru d 86 56 [.ref a0, l1, l2, l3, l4] [.ref a0] σ := q_aload_n t86_55 rfl
theorem t86_56 : decode (mb 86) 56 = .ok (.iconst 2, 1) := by decide +kernel
theorem s86_56 (d : Nat) (l0 : Value) (l1 : Value) (l2 : Value) (l3 : Value) (l4 : Value) (w0 : Value) (σ : Hs) : ru d 86 56 [l0, l1, l2, l3, l4] [w0] σ = ru d 86 57 [l0, l1, l2, l3, l4] [.int 2, w0] σ := q_iconst t86_56 (by decide +kernel)
theorem t86_57 : decode (mb 86) 57 = .ok (.invokevirtual 65, 3) := by decide +kernel
theorem s86_57_o0 (d : Nat) (l0 : Value) (l1 : Value) (l2 : Value) (l3 : Value) (l4 : Value) (v1 : Value) (σ : Hs) : ru d 86 57 [l0, l1, l2, l3, l4] [v1, .ref 0] σ = kont (callD d 99 [.ref 0, v1] σ) d 86 60 [l0, l1, l2, l3, l4] [] := q_invv t86_57 mo86 K7_65 mj99 rfl rfl rfl rfl (Nat.le_of_ble_eq_true rfl)
theorem t86_60 : decode (mb 86) 60 = .ok (.goto 4, 3) := by decide +kernel
theorem s86_60 (d : Nat) (l0 : Value) (l1 : Value) (l2 : Value) (l3 : Value) (l4 : Value) (w0 : Value) (σ : Hs) : ru d 86 60 [l0, l1, l2, l3, l4] [w0] σ = ru d 86 64 [l0, l1, l2, l3, l4] [w0] σ := q_goto t86_60 (by decide +kernel)
theorem t86_63 : decode (mb 86) 63 = .ok (.iload_n 1, 1) := by decide +kernel
theorem s86_63 (d : Nat) (l0 : Value) (i1 : Int32) (l2 : Value) (l3 : Value) (l4 : Value) (σ : Hs) : ru d 86 63 [l0, .int i1, l2, l3, l4] [] σ = ru d 86 64 [l0, .int i1, l2, l3, l4] [.int i1] σ := q_iload_n t86_63 rfl
theorem t86_64 : decode (mb 86) 64 = .ok (.ireturn, 1) := by decide +kernel
theorem s86_64 (d : Nat) (l0 : Value) (l1 : Value) (l2 : Value) (l3 : Value) (l4 : Value) (x : Int32) (σ : Hs) : ru d 86 64 [l0, l1, l2, l3, l4] [.int x] σ = some (some (.int x), σ) := q_ireti t86_64 mr86
theorem c86 (d : Nat) (x0 : Nat) (σ : Hs) : callD (d + 1) 86 [.ref x0] σ = ru d 86 0 [.ref x0, uu, uu, uu, uu] [] σ := callD_ru ml86 rfl rfl (Nat.le_of_ble_eq_true rfl)
-- 87: SmokyHeap.voice(III)I
theorem t87_0 : decode (mb 87) 0 = .ok (.iload_n 1, 1) := by decide +kernel
theorem s87_0 (d : Nat) (l0 : Value) (i1 : Int32) (l2 : Value) (l3 : Value) (l4 : Value) (σ : Hs) : ru d 87 0 [l0, .int i1, l2, l3, l4] [] σ = ru d 87 1 [l0, .int i1, l2, l3, l4] [.int i1] σ := q_iload_n t87_0 rfl
theorem t87_1 : decode (mb 87) 1 = .ok (.invokestatic 69, 3) := by decide +kernel
theorem s87_1 (d : Nat) (l0 : Value) (l1 : Value) (l2 : Value) (l3 : Value) (l4 : Value) (v0 : Value) (σ : Hs) : ru d 87 1 [l0, l1, l2, l3, l4] [v0] σ = kont (callD d 103 [v0] σ) d 87 4 [l0, l1, l2, l3, l4] [] := q_invs t87_1 mo87 (by decide +kernel) K7_69 mj103 (Nat.le_of_ble_eq_true rfl) rfl rfl (Nat.le_of_ble_eq_true rfl)
theorem t87_4 : decode (mb 87) 4 = .ok (.ifCond .eq 12, 3) := by decide +kernel
theorem s87_4 (d : Nat) (l0 : Value) (l1 : Value) (l2 : Value) (l3 : Value) (l4 : Value) (x : Int32) (σ : Hs) : ru d 87 4 [l0, l1, l2, l3, l4] [.int x] σ = if x = 0 then ru d 87 16 [l0, l1, l2, l3, l4] [] σ else ru d 87 7 [l0, l1, l2, l3, l4] [] σ := q_if_eq t87_4 (by decide +kernel)
theorem t87_7 : decode (mb 87) 7 = .ok (.iload_n 2, 1) := by decide +kernel
theorem s87_7 (d : Nat) (l0 : Value) (l1 : Value) (i2 : Int32) (l3 : Value) (l4 : Value) (σ : Hs) : ru d 87 7 [l0, l1, .int i2, l3, l4] [] σ = ru d 87 8 [l0, l1, .int i2, l3, l4] [.int i2] σ := q_iload_n t87_7 rfl
theorem t87_8 : decode (mb 87) 8 = .ok (.iconst 0, 1) := by decide +kernel
theorem s87_8 (d : Nat) (l0 : Value) (l1 : Value) (l2 : Value) (l3 : Value) (l4 : Value) (w0 : Value) (σ : Hs) : ru d 87 8 [l0, l1, l2, l3, l4] [w0] σ = ru d 87 9 [l0, l1, l2, l3, l4] [.int 0, w0] σ := q_iconst t87_8 (by decide +kernel)
theorem t87_9 : decode (mb 87) 9 = .ok (.iconst 3, 1) := by decide +kernel
theorem s87_9 (d : Nat) (l0 : Value) (l1 : Value) (l2 : Value) (l3 : Value) (l4 : Value) (w0 w1 : Value) (σ : Hs) : ru d 87 9 [l0, l1, l2, l3, l4] [w0, w1] σ = ru d 87 10 [l0, l1, l2, l3, l4] [.int 3, w0, w1] σ := q_iconst t87_9 (by decide +kernel)
theorem t87_10 : decode (mb 87) 10 = .ok (.invokestatic 83, 3) := by decide +kernel
theorem s87_10 (d : Nat) (l0 : Value) (l1 : Value) (l2 : Value) (l3 : Value) (l4 : Value) (v0 v1 v2 : Value) (σ : Hs) : ru d 87 10 [l0, l1, l2, l3, l4] [v2, v1, v0] σ = kont (callD d 102 [v0, v1, v2] σ) d 87 13 [l0, l1, l2, l3, l4] [] := q_invs t87_10 mo87 (by decide +kernel) K7_83 mj102 (Nat.le_of_ble_eq_true rfl) rfl rfl (Nat.le_of_ble_eq_true rfl)
theorem t87_13 : decode (mb 87) 13 = .ok (.ifCond .ne 9, 3) := by decide +kernel
theorem s87_13 (d : Nat) (l0 : Value) (l1 : Value) (l2 : Value) (l3 : Value) (l4 : Value) (x : Int32) (σ : Hs) : ru d 87 13 [l0, l1, l2, l3, l4] [.int x] σ = if x = 0 then ru d 87 16 [l0, l1, l2, l3, l4] [] σ else ru d 87 22 [l0, l1, l2, l3, l4] [] σ := q_if_ne t87_13 (by decide +kernel)
theorem t87_16 : decode (mb 87) 16 = .ok (.aload_n 0, 1) := by decide +kernel
theorem s87_16 (d : Nat) (a0 : Nat) (l1 : Value) (l2 : Value) (l3 : Value) (l4 : Value) (σ : Hs) : ru d 87 16 [.ref a0, l1, l2, l3, l4] [] σ = ru d 87 17 [.ref a0, l1, l2, l3, l4] [.ref a0] σ := q_aload_n t87_16 rfl
theorem t87_17 : decode (mb 87) 17 = .ok (.iconst 1, 1) := by decide +kernel
theorem s87_17 (d : Nat) (l0 : Value) (l1 : Value) (l2 : Value) (l3 : Value) (l4 : Value) (w0 : Value) (σ : Hs) : ru d 87 17 [l0, l1, l2, l3, l4] [w0] σ = ru d 87 18 [l0, l1, l2, l3, l4] [.int 1, w0] σ := q_iconst t87_17 (by decide +kernel)
theorem t87_18 : decode (mb 87) 18 = .ok (.invokevirtual 65, 3) := by decide +kernel
theorem s87_18_o0 (d : Nat) (l0 : Value) (l1 : Value) (l2 : Value) (l3 : Value) (l4 : Value) (v1 : Value) (σ : Hs) : ru d 87 18 [l0, l1, l2, l3, l4] [v1, .ref 0] σ = kont (callD d 99 [.ref 0, v1] σ) d 87 21 [l0, l1, l2, l3, l4] [] := q_invv t87_18 mo87 K7_65 mj99 rfl rfl rfl rfl (Nat.le_of_ble_eq_true rfl)
theorem t87_21 : decode (mb 87) 21 = .ok (.ireturn, 1) := by decide +kernel
theorem s87_21 (d : Nat) (l0 : Value) (l1 : Value) (l2 : Value) (l3 : Value) (l4 : Value) (x : Int32) (σ : Hs) : ru d 87 21 [l0, l1, l2, l3, l4] [.int x] σ = some (some (.int x), σ) := q_ireti t87_21 mr87
theorem t87_22 : decode (mb 87) 22 = .ok (.aload_n 0, 1) := by decide +kernel
theorem s87_22 (d : Nat) (a0 : Nat) (l1 : Value) (l2 : Value) (l3 : Value) (l4 : Value) (σ : Hs) : ru d 87 22 [.ref a0, l1, l2, l3, l4] [] σ = ru d 87 23 [.ref a0, l1, l2, l3, l4] [.ref a0] σ := q_aload_n t87_22 rfl
theorem t87_23 : decode (mb 87) 23 = .ok (.getfield 10, 3) := by decide +kernel
theorem s87_23_o0 (d : Nat) (l0 : Value) (l1 : Value) (l2 : Value) (l3 : Value) (l4 : Value) (σ : Hs) : ru d 87 23 [l0, l1, l2, l3, l4] [.ref 0] σ = ru d 87 26 [l0, l1, l2, l3, l4] [.ref 1] σ := q_getf t87_23 mo87 F7_10 rfl rfl
theorem t87_26 : decode (mb 87) 26 = .ok (.getfield 58, 3) := by decide +kernel
theorem s87_26_o1 (d : Nat) (l0 : Value) (l1 : Value) (l2 : Value) (l3 : Value) (l4 : Value) (σ : Hs) : ru d 87 26 [l0, l1, l2, l3, l4] [.ref 1] σ = ru d 87 29 [l0, l1, l2, l3, l4] [.ref 2] σ := q_getf t87_26 mo87 F7_58 rfl rfl
theorem t87_29 : decode (mb 87) 29 = .ok (.iload_n 1, 1) := by decide +kernel
theorem s87_29 (d : Nat) (l0 : Value) (i1 : Int32) (l2 : Value) (l3 : Value) (l4 : Value) (w0 : Value) (σ : Hs) : ru d 87 29 [l0, .int i1, l2, l3, l4] [w0] σ = ru d 87 30 [l0, .int i1, l2, l3, l4] [.int i1, w0] σ := q_iload_n t87_29 rfl
theorem t87_30 : decode (mb 87) 30 = .ok (.invokevirtual 73, 3) := by decide +kernel
theorem s87_30_o2 (d : Nat) (l0 : Value) (l1 : Value) (l2 : Value) (l3 : Value) (l4 : Value) (v1 : Value) (σ : Hs) : ru d 87 30 [l0, l1, l2, l3, l4] [v1, .ref 2] σ = kont (callD d 1 [.ref 2, v1] σ) d 87 33 [l0, l1, l2, l3, l4] [] := q_invv t87_30 mo87 K7_73 mj1 rfl rfl rfl rfl (Nat.le_of_ble_eq_true rfl)
theorem t87_33 : decode (mb 87) 33 = .ok (.ifCond .ne 9, 3) := by decide +kernel
theorem s87_33 (d : Nat) (l0 : Value) (l1 : Value) (l2 : Value) (l3 : Value) (l4 : Value) (x : Int32) (σ : Hs) : ru d 87 33 [l0, l1, l2, l3, l4] [.int x] σ = if x = 0 then ru d 87 36 [l0, l1, l2, l3, l4] [] σ else ru d 87 42 [l0, l1, l2, l3, l4] [] σ := q_if_ne t87_33 (by decide +kernel)
theorem t87_36 : decode (mb 87) 36 = .ok (.aload_n 0, 1) := by decide +kernel
theorem s87_36 (d : Nat) (a0 : Nat) (l1 : Value) (l2 : Value) (l3 : Value) (l4 : Value) (σ : Hs) : ru d 87 36 [.ref a0, l1, l2, l3, l4] [] σ = ru d 87 37 [.ref a0, l1, l2, l3, l4] [.ref a0] σ := q_aload_n t87_36 rfl
theorem t87_37 : decode (mb 87) 37 = .ok (.iconst 2, 1) := by decide +kernel
theorem s87_37 (d : Nat) (l0 : Value) (l1 : Value) (l2 : Value) (l3 : Value) (l4 : Value) (w0 : Value) (σ : Hs) : ru d 87 37 [l0, l1, l2, l3, l4] [w0] σ = ru d 87 38 [l0, l1, l2, l3, l4] [.int 2, w0] σ := q_iconst t87_37 (by decide +kernel)
theorem t87_38 : decode (mb 87) 38 = .ok (.invokevirtual 65, 3) := by decide +kernel
theorem s87_38_o0 (d : Nat) (l0 : Value) (l1 : Value) (l2 : Value) (l3 : Value) (l4 : Value) (v1 : Value) (σ : Hs) : ru d 87 38 [l0, l1, l2, l3, l4] [v1, .ref 0] σ = kont (callD d 99 [.ref 0, v1] σ) d 87 41 [l0, l1, l2, l3, l4] [] := q_invv t87_38 mo87 K7_65 mj99 rfl rfl rfl rfl (Nat.le_of_ble_eq_true rfl)
theorem t87_41 : decode (mb 87) 41 = .ok (.ireturn, 1) := by decide +kernel
theorem s87_41 (d : Nat) (l0 : Value) (l1 : Value) (l2 : Value) (l3 : Value) (l4 : Value) (x : Int32) (σ : Hs) : ru d 87 41 [l0, l1, l2, l3, l4] [.int x] σ = some (some (.int x), σ) := q_ireti t87_41 mr87
theorem t87_42 : decode (mb 87) 42 = .ok (.aload_n 0, 1) := by decide +kernel
theorem s87_42 (d : Nat) (a0 : Nat) (l1 : Value) (l2 : Value) (l3 : Value) (l4 : Value) (σ : Hs) : ru d 87 42 [.ref a0, l1, l2, l3, l4] [] σ = ru d 87 43 [.ref a0, l1, l2, l3, l4] [.ref a0] σ := q_aload_n t87_42 rfl
theorem t87_43 : decode (mb 87) 43 = .ok (.getfield 36, 3) := by decide +kernel
theorem s87_43_o0 (d : Nat) (l0 : Value) (l1 : Value) (l2 : Value) (l3 : Value) (l4 : Value) (σ : Hs) : ru d 87 43 [l0, l1, l2, l3, l4] [.ref 0] σ = ru d 87 46 [l0, l1, l2, l3, l4] [.ref 73] σ := q_getf t87_43 mo87 F7_36 rfl rfl
theorem t87_46 : decode (mb 87) 46 = .ok (.aload_n 0, 1) := by decide +kernel
theorem s87_46 (d : Nat) (a0 : Nat) (l1 : Value) (l2 : Value) (l3 : Value) (l4 : Value) (w0 : Value) (σ : Hs) : ru d 87 46 [.ref a0, l1, l2, l3, l4] [w0] σ = ru d 87 47 [.ref a0, l1, l2, l3, l4] [.ref a0, w0] σ := q_aload_n t87_46 rfl
theorem t87_47 : decode (mb 87) 47 = .ok (.getfield 10, 3) := by decide +kernel
theorem s87_47_o0 (d : Nat) (l0 : Value) (l1 : Value) (l2 : Value) (l3 : Value) (l4 : Value) (w0 : Value) (σ : Hs) : ru d 87 47 [l0, l1, l2, l3, l4] [.ref 0, w0] σ = ru d 87 50 [l0, l1, l2, l3, l4] [.ref 1, w0] σ := q_getf t87_47 mo87 F7_10 rfl rfl
theorem t87_50 : decode (mb 87) 50 = .ok (.getfield 58, 3) := by decide +kernel
theorem s87_50_o1 (d : Nat) (l0 : Value) (l1 : Value) (l2 : Value) (l3 : Value) (l4 : Value) (w0 : Value) (σ : Hs) : ru d 87 50 [l0, l1, l2, l3, l4] [.ref 1, w0] σ = ru d 87 53 [l0, l1, l2, l3, l4] [.ref 2, w0] σ := q_getf t87_50 mo87 F7_58 rfl rfl
theorem t87_53 : decode (mb 87) 53 = .ok (.getfield 94, 3) := by decide +kernel
theorem s87_53_o2 (d : Nat) (l0 : Value) (l1 : Value) (l2 : Value) (l3 : Value) (l4 : Value) (w0 : Value) (σ : Hs) : ru d 87 53 [l0, l1, l2, l3, l4] [.ref 2, w0] σ = ru d 87 56 [l0, l1, l2, l3, l4] [.ref 3, w0] σ := q_getf t87_53 mo87 F7_94 rfl rfl
theorem t87_56 : decode (mb 87) 56 = .ok (.iload_n 1, 1) := by decide +kernel
theorem s87_56 (d : Nat) (l0 : Value) (i1 : Int32) (l2 : Value) (l3 : Value) (l4 : Value) (w0 w1 : Value) (σ : Hs) : ru d 87 56 [l0, .int i1, l2, l3, l4] [w0, w1] σ = ru d 87 57 [l0, .int i1, l2, l3, l4] [.int i1, w0, w1] σ := q_iload_n t87_56 rfl
theorem t87_57 : decode (mb 87) 57 = .ok (.iaload, 1) := by decide +kernel
theorem s87_57_o3 (d : Nat) (l0 : Value) (l1 : Value) (l2 : Value) (l3 : Value) (l4 : Value) (i : Int32) (w0 : Value) (σ : Hs) : ru d 87 57 [l0, l1, l2, l3, l4] [.int i, .ref 3, w0] σ = gd (vp_in i 30) (ru d 87 58 [l0, l1, l2, l3, l4] [.int (σ 3 i.toNatClampNeg), w0] σ) := q_iald t87_57 rfl (by decide +kernel) rfl
theorem t87_58 : decode (mb 87) 58 = .ok (.iload_n 1, 1) := by decide +kernel
theorem s87_58 (d : Nat) (l0 : Value) (i1 : Int32) (l2 : Value) (l3 : Value) (l4 : Value) (w0 w1 : Value) (σ : Hs) : ru d 87 58 [l0, .int i1, l2, l3, l4] [w0, w1] σ = ru d 87 59 [l0, .int i1, l2, l3, l4] [.int i1, w0, w1] σ := q_iload_n t87_58 rfl
theorem t87_59 : decode (mb 87) 59 = .ok (.aload_n 0, 1) := by decide +kernel
theorem s87_59 (d : Nat) (a0 : Nat) (l1 : Value) (l2 : Value) (l3 : Value) (l4 : Value) (w0 w1 w2 : Value) (σ : Hs) : ru d 87 59 [.ref a0, l1, l2, l3, l4] [w0, w1, w2] σ = ru d 87 60 [.ref a0, l1, l2, l3, l4] [.ref a0, w0, w1, w2] σ := q_aload_n t87_59 rfl
theorem t87_60 : decode (mb 87) 60 = .ok (.getfield 10, 3) := by decide +kernel
theorem s87_60_o0 (d : Nat) (l0 : Value) (l1 : Value) (l2 : Value) (l3 : Value) (l4 : Value) (w0 w1 w2 : Value) (σ : Hs) : ru d 87 60 [l0, l1, l2, l3, l4] [.ref 0, w0, w1, w2] σ = ru d 87 63 [l0, l1, l2, l3, l4] [.ref 1, w0, w1, w2] σ := q_getf t87_60 mo87 F7_10 rfl rfl
theorem t87_63 : decode (mb 87) 63 = .ok (.getfield 58, 3) := by decide +kernel
theorem s87_63_o1 (d : Nat) (l0 : Value) (l1 : Value) (l2 : Value) (l3 : Value) (l4 : Value) (w0 w1 w2 : Value) (σ : Hs) : ru d 87 63 [l0, l1, l2, l3, l4] [.ref 1, w0, w1, w2] σ = ru d 87 66 [l0, l1, l2, l3, l4] [.ref 2, w0, w1, w2] σ := q_getf t87_63 mo87 F7_58 rfl rfl
theorem t87_66 : decode (mb 87) 66 = .ok (.getfield 76, 3) := by decide +kernel
theorem s87_66_o2 (d : Nat) (l0 : Value) (l1 : Value) (l2 : Value) (l3 : Value) (l4 : Value) (w0 w1 w2 : Value) (σ : Hs) : ru d 87 66 [l0, l1, l2, l3, l4] [.ref 2, w0, w1, w2] σ = ru d 87 69 [l0, l1, l2, l3, l4] [.ref 4, w0, w1, w2] σ := q_getf t87_66 mo87 F7_76 rfl rfl
theorem t87_69 : decode (mb 87) 69 = .ok (.iload_n 1, 1) := by decide +kernel
theorem s87_69 (d : Nat) (l0 : Value) (i1 : Int32) (l2 : Value) (l3 : Value) (l4 : Value) (w0 w1 w2 w3 : Value) (σ : Hs) : ru d 87 69 [l0, .int i1, l2, l3, l4] [w0, w1, w2, w3] σ = ru d 87 70 [l0, .int i1, l2, l3, l4] [.int i1, w0, w1, w2, w3] σ := q_iload_n t87_69 rfl
theorem t87_70 : decode (mb 87) 70 = .ok (.iaload, 1) := by decide +kernel
theorem s87_70_o4 (d : Nat) (l0 : Value) (l1 : Value) (l2 : Value) (l3 : Value) (l4 : Value) (i : Int32) (w0 w1 w2 : Value) (σ : Hs) : ru d 87 70 [l0, l1, l2, l3, l4] [.int i, .ref 4, w0, w1, w2] σ = gd (vp_in i 30) (ru d 87 71 [l0, l1, l2, l3, l4] [.int (σ 4 i.toNatClampNeg), w0, w1, w2] σ) := q_iald t87_70 rfl (by decide +kernel) rfl
theorem t87_71 : decode (mb 87) 71 = .ok (.iload_n 2, 1) := by decide +kernel
theorem s87_71 (d : Nat) (l0 : Value) (l1 : Value) (i2 : Int32) (l3 : Value) (l4 : Value) (w0 w1 w2 w3 : Value) (σ : Hs) : ru d 87 71 [l0, l1, .int i2, l3, l4] [w0, w1, w2, w3] σ = ru d 87 72 [l0, l1, .int i2, l3, l4] [.int i2, w0, w1, w2, w3] σ := q_iload_n t87_71 rfl
theorem t87_72 : decode (mb 87) 72 = .ok (.iload_n 3, 1) := by decide +kernel
theorem s87_72 (d : Nat) (l0 : Value) (l1 : Value) (l2 : Value) (i3 : Int32) (l4 : Value) (w0 w1 w2 w3 w4 : Value) (σ : Hs) : ru d 87 72 [l0, l1, l2, .int i3, l4] [w0, w1, w2, w3, w4] σ = ru d 87 73 [l0, l1, l2, .int i3, l4] [.int i3, w0, w1, w2, w3, w4] σ := q_iload_n t87_72 rfl
theorem t87_73 : decode (mb 87) 73 = .ok (.invokevirtual 234, 3) := by decide +kernel
theorem s87_73_o73 (d : Nat) (l0 : Value) (l1 : Value) (l2 : Value) (l3 : Value) (l4 : Value) (v1 v2 v3 v4 v5 : Value) (σ : Hs) : ru d 87 73 [l0, l1, l2, l3, l4] [v5, v4, v3, v2, v1, .ref 73] σ = kont (callD d 54 [.ref 73, v1, v2, v3, v4, v5] σ) d 87 76 [l0, l1, l2, l3, l4] [] := q_invv t87_73 mo87 K7_234 mj54 rfl rfl rfl rfl (Nat.le_of_ble_eq_true rfl)
theorem t87_76 : decode (mb 87) 76 = .ok (.istore 4, 2) := by decide +kernel
theorem s87_76 (d : Nat) (l0 : Value) (l1 : Value) (l2 : Value) (i3 : Int32) (l4 : Value) (x : Int32) (σ : Hs) : ru d 87 76 [l0, l1, l2, .int i3, l4] [.int x] σ = ru d 87 78 [l0, l1, l2, .int i3, .int x] [] σ := q_istore t87_76 ⟨Nat.le_of_ble_eq_true rfl, rfl⟩ rfl
theorem t87_78 : decode (mb 87) 78 = .ok (.aload_n 0, 1) := by decide +kernel
theorem s87_78 (d : Nat) (a0 : Nat) (l1 : Value) (l2 : Value) (l3 : Value) (l4 : Value) (σ : Hs) : ru d 87 78 [.ref a0, l1, l2, l3, l4] [] σ = ru d 87 79 [.ref a0, l1, l2, l3, l4] [.ref a0] σ := q_aload_n t87_78 rfl
theorem t87_79 : decode (mb 87) 79 = .ok (.getfield 36, 3) := by decide +kernel
theorem s87_79_o0 (d : Nat) (l0 : Value) (l1 : Value) (l2 : Value) (l3 : Value) (l4 : Value) (σ : Hs) : ru d 87 79 [l0, l1, l2, l3, l4] [.ref 0] σ = ru d 87 82 [l0, l1, l2, l3, l4] [.ref 73] σ := q_getf t87_79 mo87 F7_36 rfl rfl
theorem t87_82 : decode (mb 87) 82 = .ok (.getfield 238, 3) := by decide +kernel
theorem s87_82_o73 (d : Nat) (l0 : Value) (l1 : Value) (l2 : Value) (l3 : Value) (l4 : Value) (σ : Hs) : ru d 87 82 [l0, l1, l2, l3, l4] [.ref 73] σ = ru d 87 85 [l0, l1, l2, l3, l4] [.int (σ 73 1)] σ := q_getf t87_82 mo87 F7_238 rfl rfl
theorem t87_85 : decode (mb 87) 85 = .ok (.ifCond .eq 12, 3) := by decide +kernel
theorem s87_85 (d : Nat) (l0 : Value) (l1 : Value) (l2 : Value) (l3 : Value) (l4 : Value) (x : Int32) (σ : Hs) : ru d 87 85 [l0, l1, l2, l3, l4] [.int x] σ = if x = 0 then ru d 87 97 [l0, l1, l2, l3, l4] [] σ else ru d 87 88 [l0, l1, l2, l3, l4] [] σ := q_if_eq t87_85 (by decide +kernel)
theorem t87_88 : decode (mb 87) 88 = .ok (.aload_n 0, 1) := by decide +kernel
theorem s87_88 (d : Nat) (a0 : Nat) (l1 : Value) (l2 : Value) (l3 : Value) (l4 : Value) (σ : Hs) : ru d 87 88 [.ref a0, l1, l2, l3, l4] [] σ = ru d 87 89 [.ref a0, l1, l2, l3, l4] [.ref a0] σ := q_aload_n t87_88 rfl
theorem t87_89 : decode (mb 87) 89 = .ok (.bipush 6, 2) := by decide +kernel
theorem s87_89 (d : Nat) (l0 : Value) (l1 : Value) (l2 : Value) (l3 : Value) (l4 : Value) (w0 : Value) (σ : Hs) : ru d 87 89 [l0, l1, l2, l3, l4] [w0] σ = ru d 87 91 [l0, l1, l2, l3, l4] [.int 6, w0] σ := q_bipush t87_89 (by decide +kernel)
theorem t87_91 : decode (mb 87) 91 = .ok (.invokevirtual 65, 3) := by decide +kernel
theorem s87_91_o0 (d : Nat) (l0 : Value) (l1 : Value) (l2 : Value) (l3 : Value) (l4 : Value) (v1 : Value) (σ : Hs) : ru d 87 91 [l0, l1, l2, l3, l4] [v1, .ref 0] σ = kont (callD d 99 [.ref 0, v1] σ) d 87 94 [l0, l1, l2, l3, l4] [] := q_invv t87_91 mo87 K7_65 mj99 rfl rfl rfl rfl (Nat.le_of_ble_eq_true rfl)
theorem t87_94 : decode (mb 87) 94 = .ok (.goto 5, 3) := by decide +kernel
theorem s87_94 (d : Nat) (l0 : Value) (l1 : Value) (l2 : Value) (l3 : Value) (l4 : Value) (w0 : Value) (σ : Hs) : ru d 87 94 [l0, l1, l2, l3, l4] [w0] σ = ru d 87 99 [l0, l1, l2, l3, l4] [w0] σ := q_goto t87_94 (by decide +kernel)
theorem t87_97 : decode (mb 87) 97 = .ok (.iload 4, 2) := by decide +kernel
theorem s87_97 (d : Nat) (l0 : Value) (l1 : Value) (l2 : Value) (l3 : Value) (i4 : Int32) (σ : Hs) : ru d 87 97 [l0, l1, l2, l3, .int i4] [] σ = ru d 87 99 [l0, l1, l2, l3, .int i4] [.int i4] σ := q_iload t87_97 rfl
theorem t87_99 : decode (mb 87) 99 = .ok (.ireturn, 1) := by decide +kernel
theorem s87_99 (d : Nat) (l0 : Value) (l1 : Value) (l2 : Value) (l3 : Value) (l4 : Value) (x : Int32) (σ : Hs) : ru d 87 99 [l0, l1, l2, l3, l4] [.int x] σ = some (some (.int x), σ) := q_ireti t87_99 mr87
theorem c87 (d : Nat) (x0 : Nat) (x1 : Int32) (x2 : Int32) (x3 : Int32) (σ : Hs) : callD (d + 1) 87 [.ref x0, .int x1, .int x2, .int x3] σ = ru d 87 0 [.ref x0, .int x1, .int x2, .int x3, uu] [] σ := callD_ru ml87 rfl rfl (Nat.le_of_ble_eq_true rfl)
-- 88: SmokyHeap.body(I)I
theorem t88_0 : decode (mb 88) 0 = .ok (.aload_n 0, 1) := by decide +kernel
theorem s88_0 (d : Nat) (a0 : Nat) (l1 : Value) (σ : Hs) : ru d 88 0 [.ref a0, l1] [] σ = ru d 88 1 [.ref a0, l1] [.ref a0] σ := q_aload_n t88_0 rfl
theorem t88_1 : decode (mb 88) 1 = .ok (.getfield 36, 3) := by decide +kernel
theorem s88_1_o0 (d : Nat) (l0 : Value) (l1 : Value) (σ : Hs) : ru d 88 1 [l0, l1] [.ref 0] σ = ru d 88 4 [l0, l1] [.ref 73] σ := q_getf t88_1 mo88 F7_36 rfl rfl
theorem t88_4 : decode (mb 88) 4 = .ok (.getfield 242, 3) := by decide +kernel
theorem s88_4_o73 (d : Nat) (l0 : Value) (l1 : Value) (σ : Hs) : ru d 88 4 [l0, l1] [.ref 73] σ = ru d 88 7 [l0, l1] [.ref 74] σ := q_getf t88_4 mo88 F7_242 rfl rfl
theorem t88_7 : decode (mb 88) 7 = .ok (.iload_n 1, 1) := by decide +kernel
theorem s88_7 (d : Nat) (l0 : Value) (i1 : Int32) (w0 : Value) (σ : Hs) : ru d 88 7 [l0, .int i1] [w0] σ = ru d 88 8 [l0, .int i1] [.int i1, w0] σ := q_iload_n t88_7 rfl
theorem t88_8 : decode (mb 88) 8 = .ok (.invokevirtual 245, 3) := by decide +kernel
theorem s88_8_o74 (d : Nat) (l0 : Value) (l1 : Value) (v1 : Value) (σ : Hs) : ru d 88 8 [l0, l1] [v1, .ref 74] σ = kont (callD d 43 [.ref 74, v1] σ) d 88 11 [l0, l1] [] := q_invv t88_8 mo88 K7_245 mj43 rfl rfl rfl rfl (Nat.le_of_ble_eq_true rfl)
theorem t88_11 : decode (mb 88) 11 = .ok (.ifCond .eq 18, 3) := by decide +kernel
theorem s88_11 (d : Nat) (l0 : Value) (l1 : Value) (x : Int32) (σ : Hs) : ru d 88 11 [l0, l1] [.int x] σ = if x = 0 then ru d 88 29 [l0, l1] [] σ else ru d 88 14 [l0, l1] [] σ := q_if_eq t88_11 (by decide +kernel)
theorem t88_14 : decode (mb 88) 14 = .ok (.aload_n 0, 1) := by decide +kernel
theorem s88_14 (d : Nat) (a0 : Nat) (l1 : Value) (σ : Hs) : ru d 88 14 [.ref a0, l1] [] σ = ru d 88 15 [.ref a0, l1] [.ref a0] σ := q_aload_n t88_14 rfl
theorem t88_15 : decode (mb 88) 15 = .ok (.getfield 36, 3) := by decide +kernel
theorem s88_15_o0 (d : Nat) (l0 : Value) (l1 : Value) (σ : Hs) : ru d 88 15 [l0, l1] [.ref 0] σ = ru d 88 18 [l0, l1] [.ref 73] σ := q_getf t88_15 mo88 F7_36 rfl rfl
theorem t88_18 : decode (mb 88) 18 = .ok (.getfield 242, 3) := by decide +kernel
theorem s88_18_o73 (d : Nat) (l0 : Value) (l1 : Value) (σ : Hs) : ru d 88 18 [l0, l1] [.ref 73] σ = ru d 88 21 [l0, l1] [.ref 74] σ := q_getf t88_18 mo88 F7_242 rfl rfl
theorem t88_21 : decode (mb 88) 21 = .ok (.getfield 246, 3) := by decide +kernel
theorem s88_21_o74 (d : Nat) (l0 : Value) (l1 : Value) (σ : Hs) : ru d 88 21 [l0, l1] [.ref 74] σ = ru d 88 24 [l0, l1] [.ref 75] σ := q_getf t88_21 mo88 F7_246 rfl rfl
theorem t88_24 : decode (mb 88) 24 = .ok (.iload_n 1, 1) := by decide +kernel
theorem s88_24 (d : Nat) (l0 : Value) (i1 : Int32) (w0 : Value) (σ : Hs) : ru d 88 24 [l0, .int i1] [w0] σ = ru d 88 25 [l0, .int i1] [.int i1, w0] σ := q_iload_n t88_24 rfl
theorem t88_25 : decode (mb 88) 25 = .ok (.iaload, 1) := by decide +kernel
theorem s88_25_o75 (d : Nat) (l0 : Value) (l1 : Value) (i : Int32) (σ : Hs) : ru d 88 25 [l0, l1] [.int i, .ref 75] σ = gd (vp_in i 30) (ru d 88 26 [l0, l1] [.int (σ 75 i.toNatClampNeg)] σ) := q_iald t88_25 rfl (by decide +kernel) rfl
theorem t88_26 : decode (mb 88) 26 = .ok (.goto 8, 3) := by decide +kernel
theorem s88_26 (d : Nat) (l0 : Value) (l1 : Value) (w0 : Value) (σ : Hs) : ru d 88 26 [l0, l1] [w0] σ = ru d 88 34 [l0, l1] [w0] σ := q_goto t88_26 (by decide +kernel)
theorem t88_29 : decode (mb 88) 29 = .ok (.aload_n 0, 1) := by decide +kernel
theorem s88_29 (d : Nat) (a0 : Nat) (l1 : Value) (σ : Hs) : ru d 88 29 [.ref a0, l1] [] σ = ru d 88 30 [.ref a0, l1] [.ref a0] σ := q_aload_n t88_29 rfl
theorem t88_30 : decode (mb 88) 30 = .ok (.iconst 2, 1) := by decide +kernel
theorem s88_30 (d : Nat) (l0 : Value) (l1 : Value) (w0 : Value) (σ : Hs) : ru d 88 30 [l0, l1] [w0] σ = ru d 88 31 [l0, l1] [.int 2, w0] σ := q_iconst t88_30 (by decide +kernel)
theorem t88_31 : decode (mb 88) 31 = .ok (.invokevirtual 65, 3) := by decide +kernel
theorem s88_31_o0 (d : Nat) (l0 : Value) (l1 : Value) (v1 : Value) (σ : Hs) : ru d 88 31 [l0, l1] [v1, .ref 0] σ = kont (callD d 99 [.ref 0, v1] σ) d 88 34 [l0, l1] [] := q_invv t88_31 mo88 K7_65 mj99 rfl rfl rfl rfl (Nat.le_of_ble_eq_true rfl)
theorem t88_34 : decode (mb 88) 34 = .ok (.ireturn, 1) := by decide +kernel
theorem s88_34 (d : Nat) (l0 : Value) (l1 : Value) (x : Int32) (σ : Hs) : ru d 88 34 [l0, l1] [.int x] σ = some (some (.int x), σ) := q_ireti t88_34 mr88
theorem c88 (d : Nat) (x0 : Nat) (x1 : Int32) (σ : Hs) : callD (d + 1) 88 [.ref x0, .int x1] σ = ru d 88 0 [.ref x0, .int x1] [] σ := callD_ru ml88 rfl rfl (Nat.le_of_ble_eq_true rfl)
-- 89: SmokyHeap.sheet(III)I
theorem t89_0 : decode (mb 89) 0 = .ok (.iload_n 1, 1) := by decide +kernel
theorem s89_0 (d : Nat) (l0 : Value) (i1 : Int32) (l2 : Value) (l3 : Value) (σ : Hs) : ru d 89 0 [l0, .int i1, l2, l3] [] σ = ru d 89 1 [l0, .int i1, l2, l3] [.int i1] σ := q_iload_n t89_0 rfl
theorem t89_1 : decode (mb 89) 1 = .ok (.invokestatic 249, 3) := by decide +kernel
theorem s89_1 (d : Nat) (l0 : Value) (l1 : Value) (l2 : Value) (l3 : Value) (v0 : Value) (σ : Hs) : ru d 89 1 [l0, l1, l2, l3] [v0] σ = kont (callD d 107 [v0] σ) d 89 4 [l0, l1, l2, l3] [] := q_invs t89_1 mo89 (by decide +kernel) K7_249 mj107 (Nat.le_of_ble_eq_true rfl) rfl rfl (Nat.le_of_ble_eq_true rfl)
theorem t89_4 : decode (mb 89) 4 = .ok (.ifCond .eq 25, 3) := by decide +kernel
theorem s89_4 (d : Nat) (l0 : Value) (l1 : Value) (l2 : Value) (l3 : Value) (x : Int32) (σ : Hs) : ru d 89 4 [l0, l1, l2, l3] [.int x] σ = if x = 0 then ru d 89 29 [l0, l1, l2, l3] [] σ else ru d 89 7 [l0, l1, l2, l3] [] σ := q_if_eq t89_4 (by decide +kernel)
theorem t89_7 : decode (mb 89) 7 = .ok (.iload_n 2, 1) := by decide +kernel
theorem s89_7 (d : Nat) (l0 : Value) (l1 : Value) (i2 : Int32) (l3 : Value) (σ : Hs) : ru d 89 7 [l0, l1, .int i2, l3] [] σ = ru d 89 8 [l0, l1, .int i2, l3] [.int i2] σ := q_iload_n t89_7 rfl
theorem t89_8 : decode (mb 89) 8 = .ok (.ifCond .eq 27, 3) := by decide +kernel
theorem s89_8 (d : Nat) (l0 : Value) (l1 : Value) (l2 : Value) (l3 : Value) (x : Int32) (σ : Hs) : ru d 89 8 [l0, l1, l2, l3] [.int x] σ = if x = 0 then ru d 89 35 [l0, l1, l2, l3] [] σ else ru d 89 11 [l0, l1, l2, l3] [] σ := q_if_eq t89_8 (by decide +kernel)
theorem t89_11 : decode (mb 89) 11 = .ok (.iload_n 2, 1) := by decide +kernel
theorem s89_11 (d : Nat) (l0 : Value) (l1 : Value) (i2 : Int32) (l3 : Value) (σ : Hs) : ru d 89 11 [l0, l1, .int i2, l3] [] σ = ru d 89 12 [l0, l1, .int i2, l3] [.int i2] σ := q_iload_n t89_11 rfl
theorem t89_12 : decode (mb 89) 12 = .ok (.bipush 8, 2) := by decide +kernel
theorem s89_12 (d : Nat) (l0 : Value) (l1 : Value) (l2 : Value) (l3 : Value) (w0 : Value) (σ : Hs) : ru d 89 12 [l0, l1, l2, l3] [w0] σ = ru d 89 14 [l0, l1, l2, l3] [.int 8, w0] σ := q_bipush t89_12 (by decide +kernel)
theorem t89_14 : decode (mb 89) 14 = .ok (.if_icmp .eq 21, 3) := by decide +kernel
theorem s89_14 (d : Nat) (l0 : Value) (l1 : Value) (l2 : Value) (l3 : Value) (x y : Int32) (σ : Hs) : ru d 89 14 [l0, l1, l2, l3] [.int y, .int x] σ = if x = y then ru d 89 35 [l0, l1, l2, l3] [] σ else ru d 89 17 [l0, l1, l2, l3] [] σ := q_ic_eq t89_14 (by decide +kernel)
theorem t89_17 : decode (mb 89) 17 = .ok (.iload_n 2, 1) := by decide +kernel
theorem s89_17 (d : Nat) (l0 : Value) (l1 : Value) (i2 : Int32) (l3 : Value) (σ : Hs) : ru d 89 17 [l0, l1, .int i2, l3] [] σ = ru d 89 18 [l0, l1, .int i2, l3] [.int i2] σ := q_iload_n t89_17 rfl
theorem t89_18 : decode (mb 89) 18 = .ok (.bipush 16, 2) := by decide +kernel
theorem s89_18 (d : Nat) (l0 : Value) (l1 : Value) (l2 : Value) (l3 : Value) (w0 : Value) (σ : Hs) : ru d 89 18 [l0, l1, l2, l3] [w0] σ = ru d 89 20 [l0, l1, l2, l3] [.int 16, w0] σ := q_bipush t89_18 (by decide +kernel)
theorem t89_20 : decode (mb 89) 20 = .ok (.if_icmp .eq 15, 3) := by decide +kernel
theorem s89_20 (d : Nat) (l0 : Value) (l1 : Value) (l2 : Value) (l3 : Value) (x y : Int32) (σ : Hs) : ru d 89 20 [l0, l1, l2, l3] [.int y, .int x] σ = if x = y then ru d 89 35 [l0, l1, l2, l3] [] σ else ru d 89 23 [l0, l1, l2, l3] [] σ := q_ic_eq t89_20 (by decide +kernel)
theorem t89_23 : decode (mb 89) 23 = .ok (.iload_n 2, 1) := by decide +kernel
theorem s89_23 (d : Nat) (l0 : Value) (l1 : Value) (i2 : Int32) (l3 : Value) (σ : Hs) : ru d 89 23 [l0, l1, .int i2, l3] [] σ = ru d 89 24 [l0, l1, .int i2, l3] [.int i2] σ := q_iload_n t89_23 rfl
theorem t89_24 : decode (mb 89) 24 = .ok (.bipush 32, 2) := by decide +kernel
theorem s89_24 (d : Nat) (l0 : Value) (l1 : Value) (l2 : Value) (l3 : Value) (w0 : Value) (σ : Hs) : ru d 89 24 [l0, l1, l2, l3] [w0] σ = ru d 89 26 [l0, l1, l2, l3] [.int 32, w0] σ := q_bipush t89_24 (by decide +kernel)
theorem t89_26 : decode (mb 89) 26 = .ok (.if_icmp .eq 9, 3) := by decide +kernel
theorem s89_26 (d : Nat) (l0 : Value) (l1 : Value) (l2 : Value) (l3 : Value) (x y : Int32) (σ : Hs) : ru d 89 26 [l0, l1, l2, l3] [.int y, .int x] σ = if x = y then ru d 89 35 [l0, l1, l2, l3] [] σ else ru d 89 29 [l0, l1, l2, l3] [] σ := q_ic_eq t89_26 (by decide +kernel)
theorem t89_29 : decode (mb 89) 29 = .ok (.aload_n 0, 1) := by decide +kernel
theorem s89_29 (d : Nat) (a0 : Nat) (l1 : Value) (l2 : Value) (l3 : Value) (σ : Hs) : ru d 89 29 [.ref a0, l1, l2, l3] [] σ = ru d 89 30 [.ref a0, l1, l2, l3] [.ref a0] σ := q_aload_n t89_29 rfl
theorem t89_30 : decode (mb 89) 30 = .ok (.iconst 1, 1) := by decide +kernel
theorem s89_30 (d : Nat) (l0 : Value) (l1 : Value) (l2 : Value) (l3 : Value) (w0 : Value) (σ : Hs) : ru d 89 30 [l0, l1, l2, l3] [w0] σ = ru d 89 31 [l0, l1, l2, l3] [.int 1, w0] σ := q_iconst t89_30 (by decide +kernel)
theorem t89_31 : decode (mb 89) 31 = .ok (.invokevirtual 65, 3) := by decide +kernel
theorem s89_31_o0 (d : Nat) (l0 : Value) (l1 : Value) (l2 : Value) (l3 : Value) (v1 : Value) (σ : Hs) : ru d 89 31 [l0, l1, l2, l3] [v1, .ref 0] σ = kont (callD d 99 [.ref 0, v1] σ) d 89 34 [l0, l1, l2, l3] [] := q_invv t89_31 mo89 K7_65 mj99 rfl rfl rfl rfl (Nat.le_of_ble_eq_true rfl)
theorem t89_34 : decode (mb 89) 34 = .ok (.ireturn, 1) := by decide +kernel
theorem s89_34 (d : Nat) (l0 : Value) (l1 : Value) (l2 : Value) (l3 : Value) (x : Int32) (σ : Hs) : ru d 89 34 [l0, l1, l2, l3] [.int x] σ = some (some (.int x), σ) := q_ireti t89_34 mr89
theorem t89_35 : decode (mb 89) 35 = .ok (.iload_n 2, 1) := by decide +kernel
theorem s89_35 (d : Nat) (l0 : Value) (l1 : Value) (i2 : Int32) (l3 : Value) (σ : Hs) : ru d 89 35 [l0, l1, .int i2, l3] [] σ = ru d 89 36 [l0, l1, .int i2, l3] [.int i2] σ := q_iload_n t89_35 rfl
theorem t89_36 : decode (mb 89) 36 = .ok (.ifCond .eq 13, 3) := by decide +kernel
theorem s89_36 (d : Nat) (l0 : Value) (l1 : Value) (l2 : Value) (l3 : Value) (x : Int32) (σ : Hs) : ru d 89 36 [l0, l1, l2, l3] [.int x] σ = if x = 0 then ru d 89 49 [l0, l1, l2, l3] [] σ else ru d 89 39 [l0, l1, l2, l3] [] σ := q_if_eq t89_36 (by decide +kernel)
theorem t89_39 : decode (mb 89) 39 = .ok (.iload_n 3, 1) := by decide +kernel
theorem s89_39 (d : Nat) (l0 : Value) (l1 : Value) (l2 : Value) (i3 : Int32) (σ : Hs) : ru d 89 39 [l0, l1, l2, .int i3] [] σ = ru d 89 40 [l0, l1, l2, .int i3] [.int i3] σ := q_iload_n t89_39 rfl
theorem t89_40 : decode (mb 89) 40 = .ok (.ifCond .ge 9, 3) := by decide +kernel
theorem s89_40 (d : Nat) (l0 : Value) (l1 : Value) (l2 : Value) (l3 : Value) (x : Int32) (σ : Hs) : ru d 89 40 [l0, l1, l2, l3] [.int x] σ = if 0 ≤ x then ru d 89 49 [l0, l1, l2, l3] [] σ else ru d 89 43 [l0, l1, l2, l3] [] σ := q_if_ge t89_40 (by decide +kernel)
theorem t89_43 : decode (mb 89) 43 = .ok (.aload_n 0, 1) := by decide +kernel
theorem s89_43 (d : Nat) (a0 : Nat) (l1 : Value) (l2 : Value) (l3 : Value) (σ : Hs) : ru d 89 43 [.ref a0, l1, l2, l3] [] σ = ru d 89 44 [.ref a0, l1, l2, l3] [.ref a0] σ := q_aload_n t89_43 rfl
theorem t89_44 : decode (mb 89) 44 = .ok (.iconst 3, 1) := by decide +kernel
theorem s89_44 (d : Nat) (l0 : Value) (l1 : Value) (l2 : Value) (l3 : Value) (w0 : Value) (σ : Hs) : ru d 89 44 [l0, l1, l2, l3] [w0] σ = ru d 89 45 [l0, l1, l2, l3] [.int 3, w0] σ := q_iconst t89_44 (by decide +kernel)
theorem t89_45 : decode (mb 89) 45 = .ok (.invokevirtual 65, 3) := by decide +kernel
theorem s89_45_o0 (d : Nat) (l0 : Value) (l1 : Value) (l2 : Value) (l3 : Value) (v1 : Value) (σ : Hs) : ru d 89 45 [l0, l1, l2, l3] [v1, .ref 0] σ = kont (callD d 99 [.ref 0, v1] σ) d 89 48 [l0, l1, l2, l3] [] := q_invv t89_45 mo89 K7_65 mj99 rfl rfl rfl rfl (Nat.le_of_ble_eq_true rfl)
theorem t89_48 : decode (mb 89) 48 = .ok (.ireturn, 1) := by decide +kernel
theorem s89_48 (d : Nat) (l0 : Value) (l1 : Value) (l2 : Value) (l3 : Value) (x : Int32) (σ : Hs) : ru d 89 48 [l0, l1, l2, l3] [.int x] σ = some (some (.int x), σ) := q_ireti t89_48 mr89
theorem t89_49 : decode (mb 89) 49 = .ok (.iload_n 2, 1) := by decide +kernel
theorem s89_49 (d : Nat) (l0 : Value) (l1 : Value) (i2 : Int32) (l3 : Value) (σ : Hs) : ru d 89 49 [l0, l1, .int i2, l3] [] σ = ru d 89 50 [l0, l1, .int i2, l3] [.int i2] σ := q_iload_n t89_49 rfl
theorem t89_50 : decode (mb 89) 50 = .ok (.ifCond .eq 15, 3) := by decide +kernel
theorem s89_50 (d : Nat) (l0 : Value) (l1 : Value) (l2 : Value) (l3 : Value) (x : Int32) (σ : Hs) : ru d 89 50 [l0, l1, l2, l3] [.int x] σ = if x = 0 then ru d 89 65 [l0, l1, l2, l3] [] σ else ru d 89 53 [l0, l1, l2, l3] [] σ := q_if_eq t89_50 (by decide +kernel)
theorem t89_53 : decode (mb 89) 53 = .ok (.iload_n 3, 1) := by decide +kernel
theorem s89_53 (d : Nat) (l0 : Value) (l1 : Value) (l2 : Value) (i3 : Int32) (σ : Hs) : ru d 89 53 [l0, l1, l2, .int i3] [] σ = ru d 89 54 [l0, l1, l2, .int i3] [.int i3] σ := q_iload_n t89_53 rfl
theorem t89_54 : decode (mb 89) 54 = .ok (.bipush 24, 2) := by decide +kernel
theorem s89_54 (d : Nat) (l0 : Value) (l1 : Value) (l2 : Value) (l3 : Value) (w0 : Value) (σ : Hs) : ru d 89 54 [l0, l1, l2, l3] [w0] σ = ru d 89 56 [l0, l1, l2, l3] [.int 24, w0] σ := q_bipush t89_54 (by decide +kernel)
theorem t89_56 : decode (mb 89) 56 = .ok (.if_icmp .le 9, 3) := by decide +kernel
theorem s89_56 (d : Nat) (l0 : Value) (l1 : Value) (l2 : Value) (l3 : Value) (x y : Int32) (σ : Hs) : ru d 89 56 [l0, l1, l2, l3] [.int y, .int x] σ = if x ≤ y then ru d 89 65 [l0, l1, l2, l3] [] σ else ru d 89 59 [l0, l1, l2, l3] [] σ := q_ic_le t89_56 (by decide +kernel)
theorem t89_59 : decode (mb 89) 59 = .ok (.aload_n 0, 1) := by decide +kernel
theorem s89_59 (d : Nat) (a0 : Nat) (l1 : Value) (l2 : Value) (l3 : Value) (σ : Hs) : ru d 89 59 [.ref a0, l1, l2, l3] [] σ = ru d 89 60 [.ref a0, l1, l2, l3] [.ref a0] σ := q_aload_n t89_59 rfl
theorem t89_60 : decode (mb 89) 60 = .ok (.iconst 1, 1) := by decide +kernel
theorem s89_60 (d : Nat) (l0 : Value) (l1 : Value) (l2 : Value) (l3 : Value) (w0 : Value) (σ : Hs) : ru d 89 60 [l0, l1, l2, l3] [w0] σ = ru d 89 61 [l0, l1, l2, l3] [.int 1, w0] σ := q_iconst t89_60 (by decide +kernel)
theorem t89_61 : decode (mb 89) 61 = .ok (.invokevirtual 65, 3) := by decide +kernel
theorem s89_61_o0 (d : Nat) (l0 : Value) (l1 : Value) (l2 : Value) (l3 : Value) (v1 : Value) (σ : Hs) : ru d 89 61 [l0, l1, l2, l3] [v1, .ref 0] σ = kont (callD d 99 [.ref 0, v1] σ) d 89 64 [l0, l1, l2, l3] [] := q_invv t89_61 mo89 K7_65 mj99 rfl rfl rfl rfl (Nat.le_of_ble_eq_true rfl)
theorem t89_64 : decode (mb 89) 64 = .ok (.ireturn, 1) := by decide +kernel
theorem s89_64 (d : Nat) (l0 : Value) (l1 : Value) (l2 : Value) (l3 : Value) (x : Int32) (σ : Hs) : ru d 89 64 [l0, l1, l2, l3] [.int x] σ = some (some (.int x), σ) := q_ireti t89_64 mr89
theorem t89_65 : decode (mb 89) 65 = .ok (.aload_n 0, 1) := by decide +kernel
theorem s89_65 (d : Nat) (a0 : Nat) (l1 : Value) (l2 : Value) (l3 : Value) (σ : Hs) : ru d 89 65 [.ref a0, l1, l2, l3] [] σ = ru d 89 66 [.ref a0, l1, l2, l3] [.ref a0] σ := q_aload_n t89_65 rfl
theorem t89_66 : decode (mb 89) 66 = .ok (.getfield 42, 3) := by decide +kernel
theorem s89_66_o0 (d : Nat) (l0 : Value) (l1 : Value) (l2 : Value) (l3 : Value) (σ : Hs) : ru d 89 66 [l0, l1, l2, l3] [.ref 0] σ = ru d 89 69 [l0, l1, l2, l3] [.ref 76] σ := q_getf t89_66 mo89 F7_42 rfl rfl
theorem t89_69 : decode (mb 89) 69 = .ok (.iload_n 1, 1) := by decide +kernel
theorem s89_69 (d : Nat) (l0 : Value) (i1 : Int32) (l2 : Value) (l3 : Value) (w0 : Value) (σ : Hs) : ru d 89 69 [l0, .int i1, l2, l3] [w0] σ = ru d 89 70 [l0, .int i1, l2, l3] [.int i1, w0] σ := q_iload_n t89_69 rfl
theorem t89_70 : decode (mb 89) 70 = .ok (.aaload, 1) := by decide +kernel
theorem s89_70_o76 (d : Nat) (l0 : Value) (l1 : Value) (l2 : Value) (l3 : Value) (i : Int32) (σ : Hs) : ru d 89 70 [l0, l1, l2, l3] [.int i, .ref 76] σ = gd (vp_in i 4) (ru d 89 71 [l0, l1, l2, l3] [.ref (cr 76 i.toNatClampNeg)] σ) := q_aald t89_70 (by decide +kernel) (by decide +kernel) rfl
theorem t89_71 : decode (mb 89) 71 = .ok (.iload_n 2, 1) := by decide +kernel
theorem s89_71 (d : Nat) (l0 : Value) (l1 : Value) (i2 : Int32) (l3 : Value) (w0 : Value) (σ : Hs) : ru d 89 71 [l0, l1, .int i2, l3] [w0] σ = ru d 89 72 [l0, l1, .int i2, l3] [.int i2, w0] σ := q_iload_n t89_71 rfl
theorem t89_72 : decode (mb 89) 72 = .ok (.iload_n 2, 1) := by decide +kernel
theorem s89_72 (d : Nat) (l0 : Value) (l1 : Value) (i2 : Int32) (l3 : Value) (w0 w1 : Value) (σ : Hs) : ru d 89 72 [l0, l1, .int i2, l3] [w0, w1] σ = ru d 89 73 [l0, l1, .int i2, l3] [.int i2, w0, w1] σ := q_iload_n t89_72 rfl
theorem t89_73 : decode (mb 89) 73 = .ok (.ifCond .ne 7, 3) := by decide +kernel
theorem s89_73 (d : Nat) (l0 : Value) (l1 : Value) (l2 : Value) (l3 : Value) (x : Int32) (w0 w1 : Value) (σ : Hs) : ru d 89 73 [l0, l1, l2, l3] [.int x, w0, w1] σ = if x = 0 then ru d 89 76 [l0, l1, l2, l3] [w0, w1] σ else ru d 89 80 [l0, l1, l2, l3] [w0, w1] σ := q_if_ne t89_73 (by decide +kernel)
theorem t89_76 : decode (mb 89) 76 = .ok (.iconst 0, 1) := by decide +kernel
theorem s89_76 (d : Nat) (l0 : Value) (l1 : Value) (l2 : Value) (l3 : Value) (w0 w1 : Value) (σ : Hs) : ru d 89 76 [l0, l1, l2, l3] [w0, w1] σ = ru d 89 77 [l0, l1, l2, l3] [.int 0, w0, w1] σ := q_iconst t89_76 (by decide +kernel)
theorem t89_77 : decode (mb 89) 77 = .ok (.goto 4, 3) := by decide +kernel
theorem s89_77 (d : Nat) (l0 : Value) (l1 : Value) (l2 : Value) (l3 : Value) (w0 w1 w2 : Value) (σ : Hs) : ru d 89 77 [l0, l1, l2, l3] [w0, w1, w2] σ = ru d 89 81 [l0, l1, l2, l3] [w0, w1, w2] σ := q_goto t89_77 (by decide +kernel)
theorem t89_80 : decode (mb 89) 80 = .ok (.iload_n 3, 1) := by decide +kernel
theorem s89_80 (d : Nat) (l0 : Value) (l1 : Value) (l2 : Value) (i3 : Int32) (w0 w1 : Value) (σ : Hs) : ru d 89 80 [l0, l1, l2, .int i3] [w0, w1] σ = ru d 89 81 [l0, l1, l2, .int i3] [.int i3, w0, w1] σ := q_iload_n t89_80 rfl
theorem t89_81 : decode (mb 89) 81 = .ok (.invokevirtual 252, 3) := by decide +kernel
theorem s89_81_o77 (d : Nat) (l0 : Value) (l1 : Value) (l2 : Value) (l3 : Value) (v1 v2 : Value) (σ : Hs) : ru d 89 81 [l0, l1, l2, l3] [v2, v1, .ref 77] σ = kont (callD d 47 [.ref 77, v1, v2] σ) d 89 84 [l0, l1, l2, l3] [] := q_invv t89_81 mo89 K7_252 mj47 rfl rfl rfl rfl (Nat.le_of_ble_eq_true rfl)
theorem s89_81_o79 (d : Nat) (l0 : Value) (l1 : Value) (l2 : Value) (l3 : Value) (v1 v2 : Value) (σ : Hs) : ru d 89 81 [l0, l1, l2, l3] [v2, v1, .ref 79] σ = kont (callD d 47 [.ref 79, v1, v2] σ) d 89 84 [l0, l1, l2, l3] [] := q_invv t89_81 mo89 K7_252 mj47 rfl rfl rfl rfl (Nat.le_of_ble_eq_true rfl)
theorem s89_81_o81 (d : Nat) (l0 : Value) (l1 : Value) (l2 : Value) (l3 : Value) (v1 v2 : Value) (σ : Hs) : ru d 89 81 [l0, l1, l2, l3] [v2, v1, .ref 81] σ = kont (callD d 47 [.ref 81, v1, v2] σ) d 89 84 [l0, l1, l2, l3] [] := q_invv t89_81 mo89 K7_252 mj47 rfl rfl rfl rfl (Nat.le_of_ble_eq_true rfl)
theorem s89_81_o83 (d : Nat) (l0 : Value) (l1 : Value) (l2 : Value) (l3 : Value) (v1 v2 : Value) (σ : Hs) : ru d 89 81 [l0, l1, l2, l3] [v2, v1, .ref 83] σ = kont (callD d 47 [.ref 83, v1, v2] σ) d 89 84 [l0, l1, l2, l3] [] := q_invv t89_81 mo89 K7_252 mj47 rfl rfl rfl rfl (Nat.le_of_ble_eq_true rfl)
theorem t89_84 : decode (mb 89) 84 = .ok (.iconst 1, 1) := by decide +kernel
theorem s89_84 (d : Nat) (l0 : Value) (l1 : Value) (l2 : Value) (l3 : Value) (σ : Hs) : ru d 89 84 [l0, l1, l2, l3] [] σ = ru d 89 85 [l0, l1, l2, l3] [.int 1] σ := q_iconst t89_84 (by decide +kernel)
theorem t89_85 : decode (mb 89) 85 = .ok (.ireturn, 1) := by decide +kernel
theorem s89_85 (d : Nat) (l0 : Value) (l1 : Value) (l2 : Value) (l3 : Value) (x : Int32) (σ : Hs) : ru d 89 85 [l0, l1, l2, l3] [.int x] σ = some (some (.int x), σ) := q_ireti t89_85 mr89
theorem c89 (d : Nat) (x0 : Nat) (x1 : Int32) (x2 : Int32) (x3 : Int32) (σ : Hs) : callD (d + 1) 89 [.ref x0, .int x1, .int x2, .int x3] σ = ru d 89 0 [.ref x0, .int x1, .int x2, .int x3] [] σ := callD_ru ml89 rfl rfl (Nat.le_of_ble_eq_true rfl)
