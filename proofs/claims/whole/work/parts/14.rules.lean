-- 70: SmokyHeap.untell(I)I
theorem t70_0 : decode (mb 70) 0 = .ok (.iload_n 1, 1) := by decide +kernel
theorem s70_0 (d : Nat) (l0 : Value) (i1 : Int32) (l2 : Value) (σ : Hs) : ru d 70 0 [l0, .int i1, l2] [] σ = ru d 70 1 [l0, .int i1, l2] [.int i1] σ := q_iload_n t70_0 rfl
theorem t70_1 : decode (mb 70) 1 = .ok (.invokestatic 139, 3) := by decide +kernel
theorem s70_1 (d : Nat) (l0 : Value) (l1 : Value) (l2 : Value) (v0 : Value) (σ : Hs) : ru d 70 1 [l0, l1, l2] [v0] σ = kont (callD d 106 [v0] σ) d 70 4 [l0, l1, l2] [] := q_invs t70_1 mo70 (by decide +kernel) K7_139 mj106 (Nat.le_of_ble_eq_true rfl) rfl rfl (Nat.le_of_ble_eq_true rfl)
theorem t70_4 : decode (mb 70) 4 = .ok (.ifCond .ne 9, 3) := by decide +kernel
theorem s70_4 (d : Nat) (l0 : Value) (l1 : Value) (l2 : Value) (x : Int32) (σ : Hs) : ru d 70 4 [l0, l1, l2] [.int x] σ = if x = 0 then ru d 70 7 [l0, l1, l2] [] σ else ru d 70 13 [l0, l1, l2] [] σ := q_if_ne t70_4 (by decide +kernel)
theorem t70_7 : decode (mb 70) 7 = .ok (.aload_n 0, 1) := by decide +kernel
theorem s70_7 (d : Nat) (a0 : Nat) (l1 : Value) (l2 : Value) (σ : Hs) : ru d 70 7 [.ref a0, l1, l2] [] σ = ru d 70 8 [.ref a0, l1, l2] [.ref a0] σ := q_aload_n t70_7 rfl
theorem t70_8 : decode (mb 70) 8 = .ok (.iconst 1, 1) := by decide +kernel
theorem s70_8 (d : Nat) (l0 : Value) (l1 : Value) (l2 : Value) (w0 : Value) (σ : Hs) : ru d 70 8 [l0, l1, l2] [w0] σ = ru d 70 9 [l0, l1, l2] [.int 1, w0] σ := q_iconst t70_8 (by decide +kernel)
theorem t70_9 : decode (mb 70) 9 = .ok (.invokevirtual 65, 3) := by decide +kernel
theorem s70_9_o0 (d : Nat) (l0 : Value) (l1 : Value) (l2 : Value) (v1 : Value) (σ : Hs) : ru d 70 9 [l0, l1, l2] [v1, .ref 0] σ = kont (callD d 100 [.ref 0, v1] σ) d 70 12 [l0, l1, l2] [] := q_invv t70_9 mo70 K7_65 mj100 rfl rfl rfl rfl (Nat.le_of_ble_eq_true rfl)
theorem t70_12 : decode (mb 70) 12 = .ok (.ireturn, 1) := by decide +kernel
theorem s70_12 (d : Nat) (l0 : Value) (l1 : Value) (l2 : Value) (x : Int32) (σ : Hs) : ru d 70 12 [l0, l1, l2] [.int x] σ = some (some (.int x), σ) := q_ireti t70_12 mr70
theorem t70_13 : decode (mb 70) 13 = .ok (.aload_n 0, 1) := by decide +kernel
theorem s70_13 (d : Nat) (a0 : Nat) (l1 : Value) (l2 : Value) (σ : Hs) : ru d 70 13 [.ref a0, l1, l2] [] σ = ru d 70 14 [.ref a0, l1, l2] [.ref a0] σ := q_aload_n t70_13 rfl
theorem t70_14 : decode (mb 70) 14 = .ok (.getfield 10, 3) := by decide +kernel
theorem s70_14_o0 (d : Nat) (l0 : Value) (l1 : Value) (l2 : Value) (σ : Hs) : ru d 70 14 [l0, l1, l2] [.ref 0] σ = ru d 70 17 [l0, l1, l2] [.ref 1] σ := q_getf t70_14 mo70 F7_10 rfl rfl
theorem t70_17 : decode (mb 70) 17 = .ok (.getfield 146, 3) := by decide +kernel
theorem s70_17_o1 (d : Nat) (l0 : Value) (l1 : Value) (l2 : Value) (σ : Hs) : ru d 70 17 [l0, l1, l2] [.ref 1] σ = ru d 70 20 [l0, l1, l2] [.ref 13] σ := q_getf t70_17 mo70 F7_146 rfl rfl
theorem t70_20 : decode (mb 70) 20 = .ok (.iload_n 1, 1) := by decide +kernel
theorem s70_20 (d : Nat) (l0 : Value) (i1 : Int32) (l2 : Value) (w0 : Value) (σ : Hs) : ru d 70 20 [l0, .int i1, l2] [w0] σ = ru d 70 21 [l0, .int i1, l2] [.int i1, w0] σ := q_iload_n t70_20 rfl
theorem t70_21 : decode (mb 70) 21 = .ok (.invokevirtual 163, 3) := by decide +kernel
theorem s70_21_o13 (d : Nat) (l0 : Value) (l1 : Value) (l2 : Value) (v1 : Value) (σ : Hs) : ru d 70 21 [l0, l1, l2] [v1, .ref 13] σ = kont (callD d 31 [.ref 13, v1] σ) d 70 24 [l0, l1, l2] [] := q_invv t70_21 mo70 K7_163 mj31 rfl rfl rfl rfl (Nat.le_of_ble_eq_true rfl)
theorem t70_24 : decode (mb 70) 24 = .ok (.ifCond .eq 7, 3) := by decide +kernel
theorem s70_24 (d : Nat) (l0 : Value) (l1 : Value) (l2 : Value) (x : Int32) (σ : Hs) : ru d 70 24 [l0, l1, l2] [.int x] σ = if x = 0 then ru d 70 31 [l0, l1, l2] [] σ else ru d 70 27 [l0, l1, l2] [] σ := q_if_eq t70_24 (by decide +kernel)
theorem t70_27 : decode (mb 70) 27 = .ok (.iconst 1, 1) := by decide +kernel
theorem s70_27 (d : Nat) (l0 : Value) (l1 : Value) (l2 : Value) (σ : Hs) : ru d 70 27 [l0, l1, l2] [] σ = ru d 70 28 [l0, l1, l2] [.int 1] σ := q_iconst t70_27 (by decide +kernel)
theorem t70_28 : decode (mb 70) 28 = .ok (.goto 4, 3) := by decide +kernel
theorem s70_28 (d : Nat) (l0 : Value) (l1 : Value) (l2 : Value) (w0 : Value) (σ : Hs) : ru d 70 28 [l0, l1, l2] [w0] σ = ru d 70 32 [l0, l1, l2] [w0] σ := q_goto t70_28 (by decide +kernel)
theorem t70_31 : decode (mb 70) 31 = .ok (.iconst 0, 1) := by decide +kernel
theorem s70_31 (d : Nat) (l0 : Value) (l1 : Value) (l2 : Value) (σ : Hs) : ru d 70 31 [l0, l1, l2] [] σ = ru d 70 32 [l0, l1, l2] [.int 0] σ := q_iconst t70_31 (by decide +kernel)
theorem t70_32 : decode (mb 70) 32 = .ok (.istore_n 2, 1) := by decide +kernel
theorem s70_32 (d : Nat) (l0 : Value) (i1 : Int32) (l2 : Value) (x : Int32) (σ : Hs) : ru d 70 32 [l0, .int i1, l2] [.int x] σ = ru d 70 33 [l0, .int i1, .int x] [] σ := q_istore_n t70_32 ⟨Nat.le_of_ble_eq_true rfl, rfl⟩ rfl
theorem t70_33 : decode (mb 70) 33 = .ok (.aload_n 0, 1) := by decide +kernel
theorem s70_33 (d : Nat) (a0 : Nat) (l1 : Value) (l2 : Value) (σ : Hs) : ru d 70 33 [.ref a0, l1, l2] [] σ = ru d 70 34 [.ref a0, l1, l2] [.ref a0] σ := q_aload_n t70_33 rfl
theorem t70_34 : decode (mb 70) 34 = .ok (.getfield 10, 3) := by decide +kernel
theorem s70_34_o0 (d : Nat) (l0 : Value) (l1 : Value) (l2 : Value) (σ : Hs) : ru d 70 34 [l0, l1, l2] [.ref 0] σ = ru d 70 37 [l0, l1, l2] [.ref 1] σ := q_getf t70_34 mo70 F7_10 rfl rfl
theorem t70_37 : decode (mb 70) 37 = .ok (.getfield 146, 3) := by decide +kernel
theorem s70_37_o1 (d : Nat) (l0 : Value) (l1 : Value) (l2 : Value) (σ : Hs) : ru d 70 37 [l0, l1, l2] [.ref 1] σ = ru d 70 40 [l0, l1, l2] [.ref 13] σ := q_getf t70_37 mo70 F7_146 rfl rfl
theorem t70_40 : decode (mb 70) 40 = .ok (.getfield 150, 3) := by decide +kernel
theorem s70_40_o13 (d : Nat) (l0 : Value) (l1 : Value) (l2 : Value) (σ : Hs) : ru d 70 40 [l0, l1, l2] [.ref 13] σ = ru d 70 43 [l0, l1, l2] [.ref 14] σ := q_getf t70_40 mo70 F7_150 rfl rfl
theorem t70_43 : decode (mb 70) 43 = .ok (.iload_n 1, 1) := by decide +kernel
theorem s70_43 (d : Nat) (l0 : Value) (i1 : Int32) (l2 : Value) (w0 : Value) (σ : Hs) : ru d 70 43 [l0, .int i1, l2] [w0] σ = ru d 70 44 [l0, .int i1, l2] [.int i1, w0] σ := q_iload_n t70_43 rfl
theorem t70_44 : decode (mb 70) 44 = .ok (.aaload, 1) := by decide +kernel
theorem s70_44_o14 (d : Nat) (l0 : Value) (l1 : Value) (l2 : Value) (i : Int32) (σ : Hs) : ru d 70 44 [l0, l1, l2] [.int i, .ref 14] σ = gd (vp_in i 3) (ru d 70 45 [l0, l1, l2] [.ref (cr 14 i.toNatClampNeg)] σ) := q_aald t70_44 (by decide +kernel) (by decide +kernel) rfl
theorem t70_45 : decode (mb 70) 45 = .ok (.iconst 0, 1) := by decide +kernel
theorem s70_45 (d : Nat) (l0 : Value) (l1 : Value) (l2 : Value) (w0 : Value) (σ : Hs) : ru d 70 45 [l0, l1, l2] [w0] σ = ru d 70 46 [l0, l1, l2] [.int 0, w0] σ := q_iconst t70_45 (by decide +kernel)
theorem t70_46 : decode (mb 70) 46 = .ok (.putfield 131, 3) := by decide +kernel
theorem s70_46_o16 (d : Nat) (l0 : Value) (l1 : Value) (l2 : Value) (x : Int32) (σ : Hs) : ru d 70 46 [l0, l1, l2] [.int x, .ref 16] σ = ru d 70 49 [l0, l1, l2] [] (up2 σ 16 1 x) := q_puti t70_46 mo70 F7_131 (by decide +kernel) rfl rfl
theorem s70_46_o18 (d : Nat) (l0 : Value) (l1 : Value) (l2 : Value) (x : Int32) (σ : Hs) : ru d 70 46 [l0, l1, l2] [.int x, .ref 18] σ = ru d 70 49 [l0, l1, l2] [] (up2 σ 18 1 x) := q_puti t70_46 mo70 F7_131 (by decide +kernel) rfl rfl
theorem s70_46_o20 (d : Nat) (l0 : Value) (l1 : Value) (l2 : Value) (x : Int32) (σ : Hs) : ru d 70 46 [l0, l1, l2] [.int x, .ref 20] σ = ru d 70 49 [l0, l1, l2] [] (up2 σ 20 1 x) := q_puti t70_46 mo70 F7_131 (by decide +kernel) rfl rfl
theorem t70_49 : decode (mb 70) 49 = .ok (.iload_n 2, 1) := by decide +kernel
theorem s70_49 (d : Nat) (l0 : Value) (l1 : Value) (i2 : Int32) (σ : Hs) : ru d 70 49 [l0, l1, .int i2] [] σ = ru d 70 50 [l0, l1, .int i2] [.int i2] σ := q_iload_n t70_49 rfl
theorem t70_50 : decode (mb 70) 50 = .ok (.ireturn, 1) := by decide +kernel
theorem s70_50 (d : Nat) (l0 : Value) (l1 : Value) (l2 : Value) (x : Int32) (σ : Hs) : ru d 70 50 [l0, l1, l2] [.int x] σ = some (some (.int x), σ) := q_ireti t70_50 mr70
theorem c70 (d : Nat) (x0 : Nat) (x1 : Int32) (σ : Hs) : callD (d + 1) 70 [.ref x0, .int x1] σ = ru d 70 0 [.ref x0, .int x1, uu] [] σ := callD_ru ml70 rfl rfl (Nat.le_of_ble_eq_true rfl)
-- 71: SmokyHeap.minutes(I)I
theorem t71_0 : decode (mb 71) 0 = .ok (.iload_n 1, 1) := by decide +kernel
theorem s71_0 (d : Nat) (l0 : Value) (i1 : Int32) (σ : Hs) : ru d 71 0 [l0, .int i1] [] σ = ru d 71 1 [l0, .int i1] [.int i1] σ := q_iload_n t71_0 rfl
theorem t71_1 : decode (mb 71) 1 = .ok (.iconst 1, 1) := by decide +kernel
theorem s71_1 (d : Nat) (l0 : Value) (l1 : Value) (w0 : Value) (σ : Hs) : ru d 71 1 [l0, l1] [w0] σ = ru d 71 2 [l0, l1] [.int 1, w0] σ := q_iconst t71_1 (by decide +kernel)
theorem t71_2 : decode (mb 71) 2 = .ok (.sipush 200, 3) := by decide +kernel
theorem s71_2 (d : Nat) (l0 : Value) (l1 : Value) (w0 w1 : Value) (σ : Hs) : ru d 71 2 [l0, l1] [w0, w1] σ = ru d 71 5 [l0, l1] [.int 200, w0, w1] σ := q_sipush t71_2 (by decide +kernel)
theorem t71_5 : decode (mb 71) 5 = .ok (.invokestatic 83, 3) := by decide +kernel
theorem s71_5 (d : Nat) (l0 : Value) (l1 : Value) (v0 v1 v2 : Value) (σ : Hs) : ru d 71 5 [l0, l1] [v2, v1, v0] σ = kont (callD d 103 [v0, v1, v2] σ) d 71 8 [l0, l1] [] := q_invs t71_5 mo71 (by decide +kernel) K7_83 mj103 (Nat.le_of_ble_eq_true rfl) rfl rfl (Nat.le_of_ble_eq_true rfl)
theorem t71_8 : decode (mb 71) 8 = .ok (.ifCond .ne 9, 3) := by decide +kernel
theorem s71_8 (d : Nat) (l0 : Value) (l1 : Value) (x : Int32) (σ : Hs) : ru d 71 8 [l0, l1] [.int x] σ = if x = 0 then ru d 71 11 [l0, l1] [] σ else ru d 71 17 [l0, l1] [] σ := q_if_ne t71_8 (by decide +kernel)
theorem t71_11 : decode (mb 71) 11 = .ok (.aload_n 0, 1) := by decide +kernel
theorem s71_11 (d : Nat) (a0 : Nat) (l1 : Value) (σ : Hs) : ru d 71 11 [.ref a0, l1] [] σ = ru d 71 12 [.ref a0, l1] [.ref a0] σ := q_aload_n t71_11 rfl
theorem t71_12 : decode (mb 71) 12 = .ok (.iconst 1, 1) := by decide +kernel
theorem s71_12 (d : Nat) (l0 : Value) (l1 : Value) (w0 : Value) (σ : Hs) : ru d 71 12 [l0, l1] [w0] σ = ru d 71 13 [l0, l1] [.int 1, w0] σ := q_iconst t71_12 (by decide +kernel)
theorem t71_13 : decode (mb 71) 13 = .ok (.invokevirtual 65, 3) := by decide +kernel
theorem s71_13_o0 (d : Nat) (l0 : Value) (l1 : Value) (v1 : Value) (σ : Hs) : ru d 71 13 [l0, l1] [v1, .ref 0] σ = kont (callD d 100 [.ref 0, v1] σ) d 71 16 [l0, l1] [] := q_invv t71_13 mo71 K7_65 mj100 rfl rfl rfl rfl (Nat.le_of_ble_eq_true rfl)
theorem t71_16 : decode (mb 71) 16 = .ok (.ireturn, 1) := by decide +kernel
theorem s71_16 (d : Nat) (l0 : Value) (l1 : Value) (x : Int32) (σ : Hs) : ru d 71 16 [l0, l1] [.int x] σ = some (some (.int x), σ) := q_ireti t71_16 mr71
theorem t71_17 : decode (mb 71) 17 = .ok (.aload_n 0, 1) := by decide +kernel
theorem s71_17 (d : Nat) (a0 : Nat) (l1 : Value) (σ : Hs) : ru d 71 17 [.ref a0, l1] [] σ = ru d 71 18 [.ref a0, l1] [.ref a0] σ := q_aload_n t71_17 rfl
theorem t71_18 : decode (mb 71) 18 = .ok (.getfield 10, 3) := by decide +kernel
theorem s71_18_o0 (d : Nat) (l0 : Value) (l1 : Value) (σ : Hs) : ru d 71 18 [l0, l1] [.ref 0] σ = ru d 71 21 [l0, l1] [.ref 1] σ := q_getf t71_18 mo71 F7_10 rfl rfl
theorem t71_21 : decode (mb 71) 21 = .ok (.getfield 58, 3) := by decide +kernel
theorem s71_21_o1 (d : Nat) (l0 : Value) (l1 : Value) (σ : Hs) : ru d 71 21 [l0, l1] [.ref 1] σ = ru d 71 24 [l0, l1] [.ref 2] σ := q_getf t71_21 mo71 F7_58 rfl rfl
theorem t71_24 : decode (mb 71) 24 = .ok (.getfield 164, 3) := by decide +kernel
theorem s71_24_o2 (d : Nat) (l0 : Value) (l1 : Value) (σ : Hs) : ru d 71 24 [l0, l1] [.ref 2] σ = ru d 71 27 [l0, l1] [.int (σ 2 13)] σ := q_getf t71_24 mo71 F7_164 rfl rfl
theorem t71_27 : decode (mb 71) 27 = .ok (.iload_n 1, 1) := by decide +kernel
theorem s71_27 (d : Nat) (l0 : Value) (i1 : Int32) (w0 : Value) (σ : Hs) : ru d 71 27 [l0, .int i1] [w0] σ = ru d 71 28 [l0, .int i1] [.int i1, w0] σ := q_iload_n t71_27 rfl
theorem t71_28 : decode (mb 71) 28 = .ok (.iadd, 1) := by decide +kernel
theorem s71_28 (d : Nat) (l0 : Value) (l1 : Value) (x y : Int32) (σ : Hs) : ru d 71 28 [l0, l1] [.int y, .int x] σ = ru d 71 29 [l0, l1] [.int (x + y)] σ := q_iadd t71_28
theorem t71_29 : decode (mb 71) 29 = .ok (.ldc 167, 2) := by decide +kernel
theorem s71_29 (d : Nat) (l0 : Value) (l1 : Value) (w0 : Value) (σ : Hs) : ru d 71 29 [l0, l1] [w0] σ = ru d 71 31 [l0, l1] [.int 99999, w0] σ := q_ldc t71_29 mo71 C7_167
theorem t71_31 : decode (mb 71) 31 = .ok (.if_icmp .le 9, 3) := by decide +kernel
theorem s71_31 (d : Nat) (l0 : Value) (l1 : Value) (x y : Int32) (σ : Hs) : ru d 71 31 [l0, l1] [.int y, .int x] σ = if x ≤ y then ru d 71 40 [l0, l1] [] σ else ru d 71 34 [l0, l1] [] σ := q_ic_le t71_31 (by decide +kernel)
theorem t71_34 : decode (mb 71) 34 = .ok (.aload_n 0, 1) := by decide +kernel
theorem s71_34 (d : Nat) (a0 : Nat) (l1 : Value) (σ : Hs) : ru d 71 34 [.ref a0, l1] [] σ = ru d 71 35 [.ref a0, l1] [.ref a0] σ := q_aload_n t71_34 rfl
theorem t71_35 : decode (mb 71) 35 = .ok (.iconst 3, 1) := by decide +kernel
theorem s71_35 (d : Nat) (l0 : Value) (l1 : Value) (w0 : Value) (σ : Hs) : ru d 71 35 [l0, l1] [w0] σ = ru d 71 36 [l0, l1] [.int 3, w0] σ := q_iconst t71_35 (by decide +kernel)
theorem t71_36 : decode (mb 71) 36 = .ok (.invokevirtual 65, 3) := by decide +kernel
theorem s71_36_o0 (d : Nat) (l0 : Value) (l1 : Value) (v1 : Value) (σ : Hs) : ru d 71 36 [l0, l1] [v1, .ref 0] σ = kont (callD d 100 [.ref 0, v1] σ) d 71 39 [l0, l1] [] := q_invv t71_36 mo71 K7_65 mj100 rfl rfl rfl rfl (Nat.le_of_ble_eq_true rfl)
theorem t71_39 : decode (mb 71) 39 = .ok (.ireturn, 1) := by decide +kernel
theorem s71_39 (d : Nat) (l0 : Value) (l1 : Value) (x : Int32) (σ : Hs) : ru d 71 39 [l0, l1] [.int x] σ = some (some (.int x), σ) := q_ireti t71_39 mr71
theorem t71_40 : decode (mb 71) 40 = .ok (.aload_n 0, 1) := by decide +kernel
theorem s71_40 (d : Nat) (a0 : Nat) (l1 : Value) (σ : Hs) : ru d 71 40 [.ref a0, l1] [] σ = ru d 71 41 [.ref a0, l1] [.ref a0] σ := q_aload_n t71_40 rfl
theorem t71_41 : decode (mb 71) 41 = .ok (.getfield 10, 3) := by decide +kernel
theorem s71_41_o0 (d : Nat) (l0 : Value) (l1 : Value) (σ : Hs) : ru d 71 41 [l0, l1] [.ref 0] σ = ru d 71 44 [l0, l1] [.ref 1] σ := q_getf t71_41 mo71 F7_10 rfl rfl
theorem t71_44 : decode (mb 71) 44 = .ok (.getfield 58, 3) := by decide +kernel
theorem s71_44_o1 (d : Nat) (l0 : Value) (l1 : Value) (σ : Hs) : ru d 71 44 [l0, l1] [.ref 1] σ = ru d 71 47 [l0, l1] [.ref 2] σ := q_getf t71_44 mo71 F7_58 rfl rfl
theorem t71_47 : decode (mb 71) 47 = .ok (.iload_n 1, 1) := by decide +kernel
theorem s71_47 (d : Nat) (l0 : Value) (i1 : Int32) (w0 : Value) (σ : Hs) : ru d 71 47 [l0, .int i1] [w0] σ = ru d 71 48 [l0, .int i1] [.int i1, w0] σ := q_iload_n t71_47 rfl
theorem t71_48 : decode (mb 71) 48 = .ok (.aload_n 0, 1) := by decide +kernel
theorem s71_48 (d : Nat) (a0 : Nat) (l1 : Value) (w0 w1 : Value) (σ : Hs) : ru d 71 48 [.ref a0, l1] [w0, w1] σ = ru d 71 49 [.ref a0, l1] [.ref a0, w0, w1] σ := q_aload_n t71_48 rfl
theorem t71_49 : decode (mb 71) 49 = .ok (.getfield 10, 3) := by decide +kernel
theorem s71_49_o0 (d : Nat) (l0 : Value) (l1 : Value) (w0 w1 : Value) (σ : Hs) : ru d 71 49 [l0, l1] [.ref 0, w0, w1] σ = ru d 71 52 [l0, l1] [.ref 1, w0, w1] σ := q_getf t71_49 mo71 F7_10 rfl rfl
theorem t71_52 : decode (mb 71) 52 = .ok (.getfield 146, 3) := by decide +kernel
theorem s71_52_o1 (d : Nat) (l0 : Value) (l1 : Value) (w0 w1 : Value) (σ : Hs) : ru d 71 52 [l0, l1] [.ref 1, w0, w1] σ = ru d 71 55 [l0, l1] [.ref 13, w0, w1] σ := q_getf t71_52 mo71 F7_146 rfl rfl
theorem t71_55 : decode (mb 71) 55 = .ok (.invokevirtual 168, 3) := by decide +kernel
theorem s71_55_o2 (d : Nat) (l0 : Value) (l1 : Value) (v1 v2 : Value) (σ : Hs) : ru d 71 55 [l0, l1] [v2, v1, .ref 2] σ = kont (callD d 13 [.ref 2, v1, v2] σ) d 71 58 [l0, l1] [] := q_invv t71_55 mo71 K7_168 mj13 rfl rfl rfl rfl (Nat.le_of_ble_eq_true rfl)
theorem t71_58 : decode (mb 71) 58 = .ok (.aload_n 0, 1) := by decide +kernel
theorem s71_58 (d : Nat) (a0 : Nat) (l1 : Value) (σ : Hs) : ru d 71 58 [.ref a0, l1] [] σ = ru d 71 59 [.ref a0, l1] [.ref a0] σ := q_aload_n t71_58 rfl
theorem t71_59 : decode (mb 71) 59 = .ok (.getfield 10, 3) := by decide +kernel
theorem s71_59_o0 (d : Nat) (l0 : Value) (l1 : Value) (σ : Hs) : ru d 71 59 [l0, l1] [.ref 0] σ = ru d 71 62 [l0, l1] [.ref 1] σ := q_getf t71_59 mo71 F7_10 rfl rfl
theorem t71_62 : decode (mb 71) 62 = .ok (.getfield 58, 3) := by decide +kernel
theorem s71_62_o1 (d : Nat) (l0 : Value) (l1 : Value) (σ : Hs) : ru d 71 62 [l0, l1] [.ref 1] σ = ru d 71 65 [l0, l1] [.ref 2] σ := q_getf t71_62 mo71 F7_58 rfl rfl
theorem t71_65 : decode (mb 71) 65 = .ok (.getfield 164, 3) := by decide +kernel
theorem s71_65_o2 (d : Nat) (l0 : Value) (l1 : Value) (σ : Hs) : ru d 71 65 [l0, l1] [.ref 2] σ = ru d 71 68 [l0, l1] [.int (σ 2 13)] σ := q_getf t71_65 mo71 F7_164 rfl rfl
theorem t71_68 : decode (mb 71) 68 = .ok (.ireturn, 1) := by decide +kernel
theorem s71_68 (d : Nat) (l0 : Value) (l1 : Value) (x : Int32) (σ : Hs) : ru d 71 68 [l0, l1] [.int x] σ = some (some (.int x), σ) := q_ireti t71_68 mr71
theorem c71 (d : Nat) (x0 : Nat) (x1 : Int32) (σ : Hs) : callD (d + 1) 71 [.ref x0, .int x1] σ = ru d 71 0 [.ref x0, .int x1] [] σ := callD_ru ml71 rfl rfl (Nat.le_of_ble_eq_true rfl)
-- 72: SmokyHeap.gusts(I)I
theorem t72_0 : decode (mb 72) 0 = .ok (.iload_n 1, 1) := by decide +kernel
theorem s72_0 (d : Nat) (l0 : Value) (i1 : Int32) (l2 : Value) (l3 : Value) (σ : Hs) : ru d 72 0 [l0, .int i1, l2, l3] [] σ = ru d 72 1 [l0, .int i1, l2, l3] [.int i1] σ := q_iload_n t72_0 rfl
theorem t72_1 : decode (mb 72) 1 = .ok (.iconst 1, 1) := by decide +kernel
theorem s72_1 (d : Nat) (l0 : Value) (l1 : Value) (l2 : Value) (l3 : Value) (w0 : Value) (σ : Hs) : ru d 72 1 [l0, l1, l2, l3] [w0] σ = ru d 72 2 [l0, l1, l2, l3] [.int 1, w0] σ := q_iconst t72_1 (by decide +kernel)
theorem t72_2 : decode (mb 72) 2 = .ok (.sipush 200, 3) := by decide +kernel
theorem s72_2 (d : Nat) (l0 : Value) (l1 : Value) (l2 : Value) (l3 : Value) (w0 w1 : Value) (σ : Hs) : ru d 72 2 [l0, l1, l2, l3] [w0, w1] σ = ru d 72 5 [l0, l1, l2, l3] [.int 200, w0, w1] σ := q_sipush t72_2 (by decide +kernel)
theorem t72_5 : decode (mb 72) 5 = .ok (.invokestatic 83, 3) := by decide +kernel
theorem s72_5 (d : Nat) (l0 : Value) (l1 : Value) (l2 : Value) (l3 : Value) (v0 v1 v2 : Value) (σ : Hs) : ru d 72 5 [l0, l1, l2, l3] [v2, v1, v0] σ = kont (callD d 103 [v0, v1, v2] σ) d 72 8 [l0, l1, l2, l3] [] := q_invs t72_5 mo72 (by decide +kernel) K7_83 mj103 (Nat.le_of_ble_eq_true rfl) rfl rfl (Nat.le_of_ble_eq_true rfl)
theorem t72_8 : decode (mb 72) 8 = .ok (.ifCond .ne 9, 3) := by decide +kernel
theorem s72_8 (d : Nat) (l0 : Value) (l1 : Value) (l2 : Value) (l3 : Value) (x : Int32) (σ : Hs) : ru d 72 8 [l0, l1, l2, l3] [.int x] σ = if x = 0 then ru d 72 11 [l0, l1, l2, l3] [] σ else ru d 72 17 [l0, l1, l2, l3] [] σ := q_if_ne t72_8 (by decide +kernel)
theorem t72_11 : decode (mb 72) 11 = .ok (.aload_n 0, 1) := by decide +kernel
theorem s72_11 (d : Nat) (a0 : Nat) (l1 : Value) (l2 : Value) (l3 : Value) (σ : Hs) : ru d 72 11 [.ref a0, l1, l2, l3] [] σ = ru d 72 12 [.ref a0, l1, l2, l3] [.ref a0] σ := q_aload_n t72_11 rfl
theorem t72_12 : decode (mb 72) 12 = .ok (.iconst 1, 1) := by decide +kernel
theorem s72_12 (d : Nat) (l0 : Value) (l1 : Value) (l2 : Value) (l3 : Value) (w0 : Value) (σ : Hs) : ru d 72 12 [l0, l1, l2, l3] [w0] σ = ru d 72 13 [l0, l1, l2, l3] [.int 1, w0] σ := q_iconst t72_12 (by decide +kernel)
theorem t72_13 : decode (mb 72) 13 = .ok (.invokevirtual 65, 3) := by decide +kernel
theorem s72_13_o0 (d : Nat) (l0 : Value) (l1 : Value) (l2 : Value) (l3 : Value) (v1 : Value) (σ : Hs) : ru d 72 13 [l0, l1, l2, l3] [v1, .ref 0] σ = kont (callD d 100 [.ref 0, v1] σ) d 72 16 [l0, l1, l2, l3] [] := q_invv t72_13 mo72 K7_65 mj100 rfl rfl rfl rfl (Nat.le_of_ble_eq_true rfl)
theorem t72_16 : decode (mb 72) 16 = .ok (.ireturn, 1) := by decide +kernel
theorem s72_16 (d : Nat) (l0 : Value) (l1 : Value) (l2 : Value) (l3 : Value) (x : Int32) (σ : Hs) : ru d 72 16 [l0, l1, l2, l3] [.int x] σ = some (some (.int x), σ) := q_ireti t72_16 mr72
theorem t72_17 : decode (mb 72) 17 = .ok (.aload_n 0, 1) := by decide +kernel
theorem s72_17 (d : Nat) (a0 : Nat) (l1 : Value) (l2 : Value) (l3 : Value) (σ : Hs) : ru d 72 17 [.ref a0, l1, l2, l3] [] σ = ru d 72 18 [.ref a0, l1, l2, l3] [.ref a0] σ := q_aload_n t72_17 rfl
theorem t72_18 : decode (mb 72) 18 = .ok (.getfield 10, 3) := by decide +kernel
theorem s72_18_o0 (d : Nat) (l0 : Value) (l1 : Value) (l2 : Value) (l3 : Value) (σ : Hs) : ru d 72 18 [l0, l1, l2, l3] [.ref 0] σ = ru d 72 21 [l0, l1, l2, l3] [.ref 1] σ := q_getf t72_18 mo72 F7_10 rfl rfl
theorem t72_21 : decode (mb 72) 21 = .ok (.getfield 58, 3) := by decide +kernel
theorem s72_21_o1 (d : Nat) (l0 : Value) (l1 : Value) (l2 : Value) (l3 : Value) (σ : Hs) : ru d 72 21 [l0, l1, l2, l3] [.ref 1] σ = ru d 72 24 [l0, l1, l2, l3] [.ref 2] σ := q_getf t72_21 mo72 F7_58 rfl rfl
theorem t72_24 : decode (mb 72) 24 = .ok (.getfield 164, 3) := by decide +kernel
theorem s72_24_o2 (d : Nat) (l0 : Value) (l1 : Value) (l2 : Value) (l3 : Value) (σ : Hs) : ru d 72 24 [l0, l1, l2, l3] [.ref 2] σ = ru d 72 27 [l0, l1, l2, l3] [.int (σ 2 13)] σ := q_getf t72_24 mo72 F7_164 rfl rfl
theorem t72_27 : decode (mb 72) 27 = .ok (.iload_n 1, 1) := by decide +kernel
theorem s72_27 (d : Nat) (l0 : Value) (i1 : Int32) (l2 : Value) (l3 : Value) (w0 : Value) (σ : Hs) : ru d 72 27 [l0, .int i1, l2, l3] [w0] σ = ru d 72 28 [l0, .int i1, l2, l3] [.int i1, w0] σ := q_iload_n t72_27 rfl
theorem t72_28 : decode (mb 72) 28 = .ok (.iadd, 1) := by decide +kernel
theorem s72_28 (d : Nat) (l0 : Value) (l1 : Value) (l2 : Value) (l3 : Value) (x y : Int32) (σ : Hs) : ru d 72 28 [l0, l1, l2, l3] [.int y, .int x] σ = ru d 72 29 [l0, l1, l2, l3] [.int (x + y)] σ := q_iadd t72_28
theorem t72_29 : decode (mb 72) 29 = .ok (.ldc 167, 2) := by decide +kernel
theorem s72_29 (d : Nat) (l0 : Value) (l1 : Value) (l2 : Value) (l3 : Value) (w0 : Value) (σ : Hs) : ru d 72 29 [l0, l1, l2, l3] [w0] σ = ru d 72 31 [l0, l1, l2, l3] [.int 99999, w0] σ := q_ldc t72_29 mo72 C7_167
theorem t72_31 : decode (mb 72) 31 = .ok (.if_icmp .le 9, 3) := by decide +kernel
theorem s72_31 (d : Nat) (l0 : Value) (l1 : Value) (l2 : Value) (l3 : Value) (x y : Int32) (σ : Hs) : ru d 72 31 [l0, l1, l2, l3] [.int y, .int x] σ = if x ≤ y then ru d 72 40 [l0, l1, l2, l3] [] σ else ru d 72 34 [l0, l1, l2, l3] [] σ := q_ic_le t72_31 (by decide +kernel)
theorem t72_34 : decode (mb 72) 34 = .ok (.aload_n 0, 1) := by decide +kernel
theorem s72_34 (d : Nat) (a0 : Nat) (l1 : Value) (l2 : Value) (l3 : Value) (σ : Hs) : ru d 72 34 [.ref a0, l1, l2, l3] [] σ = ru d 72 35 [.ref a0, l1, l2, l3] [.ref a0] σ := q_aload_n t72_34 rfl
theorem t72_35 : decode (mb 72) 35 = .ok (.iconst 3, 1) := by decide +kernel
theorem s72_35 (d : Nat) (l0 : Value) (l1 : Value) (l2 : Value) (l3 : Value) (w0 : Value) (σ : Hs) : ru d 72 35 [l0, l1, l2, l3] [w0] σ = ru d 72 36 [l0, l1, l2, l3] [.int 3, w0] σ := q_iconst t72_35 (by decide +kernel)
theorem t72_36 : decode (mb 72) 36 = .ok (.invokevirtual 65, 3) := by decide +kernel
theorem s72_36_o0 (d : Nat) (l0 : Value) (l1 : Value) (l2 : Value) (l3 : Value) (v1 : Value) (σ : Hs) : ru d 72 36 [l0, l1, l2, l3] [v1, .ref 0] σ = kont (callD d 100 [.ref 0, v1] σ) d 72 39 [l0, l1, l2, l3] [] := q_invv t72_36 mo72 K7_65 mj100 rfl rfl rfl rfl (Nat.le_of_ble_eq_true rfl)
theorem t72_39 : decode (mb 72) 39 = .ok (.ireturn, 1) := by decide +kernel
theorem s72_39 (d : Nat) (l0 : Value) (l1 : Value) (l2 : Value) (l3 : Value) (x : Int32) (σ : Hs) : ru d 72 39 [l0, l1, l2, l3] [.int x] σ = some (some (.int x), σ) := q_ireti t72_39 mr72
theorem t72_40 : decode (mb 72) 40 = .ok (.aload_n 0, 1) := by decide +kernel
theorem s72_40 (d : Nat) (a0 : Nat) (l1 : Value) (l2 : Value) (l3 : Value) (σ : Hs) : ru d 72 40 [.ref a0, l1, l2, l3] [] σ = ru d 72 41 [.ref a0, l1, l2, l3] [.ref a0] σ := q_aload_n t72_40 rfl
theorem t72_41 : decode (mb 72) 41 = .ok (.getfield 10, 3) := by decide +kernel
theorem s72_41_o0 (d : Nat) (l0 : Value) (l1 : Value) (l2 : Value) (l3 : Value) (σ : Hs) : ru d 72 41 [l0, l1, l2, l3] [.ref 0] σ = ru d 72 44 [l0, l1, l2, l3] [.ref 1] σ := q_getf t72_41 mo72 F7_10 rfl rfl
theorem t72_44 : decode (mb 72) 44 = .ok (.getfield 58, 3) := by decide +kernel
theorem s72_44_o1 (d : Nat) (l0 : Value) (l1 : Value) (l2 : Value) (l3 : Value) (σ : Hs) : ru d 72 44 [l0, l1, l2, l3] [.ref 1] σ = ru d 72 47 [l0, l1, l2, l3] [.ref 2] σ := q_getf t72_44 mo72 F7_58 rfl rfl
theorem t72_47 : decode (mb 72) 47 = .ok (.getfield 124, 3) := by decide +kernel
theorem s72_47_o2 (d : Nat) (l0 : Value) (l1 : Value) (l2 : Value) (l3 : Value) (σ : Hs) : ru d 72 47 [l0, l1, l2, l3] [.ref 2] σ = ru d 72 50 [l0, l1, l2, l3] [.ref 9] σ := q_getf t72_47 mo72 F7_124 rfl rfl
theorem t72_50 : decode (mb 72) 50 = .ok (.iconst 1, 1) := by decide +kernel
theorem s72_50 (d : Nat) (l0 : Value) (l1 : Value) (l2 : Value) (l3 : Value) (w0 : Value) (σ : Hs) : ru d 72 50 [l0, l1, l2, l3] [w0] σ = ru d 72 51 [l0, l1, l2, l3] [.int 1, w0] σ := q_iconst t72_50 (by decide +kernel)
theorem t72_51 : decode (mb 72) 51 = .ok (.iaload, 1) := by decide +kernel
theorem s72_51_o9 (d : Nat) (l0 : Value) (l1 : Value) (l2 : Value) (l3 : Value) (i : Int32) (σ : Hs) : ru d 72 51 [l0, l1, l2, l3] [.int i, .ref 9] σ = gd (vp_in i 5) (ru d 72 52 [l0, l1, l2, l3] [.int (σ 9 i.toNatClampNeg)] σ) := q_iald t72_51 rfl (by decide +kernel) rfl
theorem t72_52 : decode (mb 72) 52 = .ok (.istore_n 2, 1) := by decide +kernel
theorem s72_52 (d : Nat) (l0 : Value) (i1 : Int32) (l2 : Value) (l3 : Value) (x : Int32) (σ : Hs) : ru d 72 52 [l0, .int i1, l2, l3] [.int x] σ = ru d 72 53 [l0, .int i1, .int x, l3] [] σ := q_istore_n t72_52 ⟨Nat.le_of_ble_eq_true rfl, rfl⟩ rfl
theorem t72_53 : decode (mb 72) 53 = .ok (.iconst 0, 1) := by decide +kernel
theorem s72_53 (d : Nat) (l0 : Value) (l1 : Value) (l2 : Value) (l3 : Value) (σ : Hs) : ru d 72 53 [l0, l1, l2, l3] [] σ = ru d 72 54 [l0, l1, l2, l3] [.int 0] σ := q_iconst t72_53 (by decide +kernel)
theorem t72_54 : decode (mb 72) 54 = .ok (.istore_n 3, 1) := by decide +kernel
theorem s72_54 (d : Nat) (l0 : Value) (l1 : Value) (i2 : Int32) (l3 : Value) (x : Int32) (σ : Hs) : ru d 72 54 [l0, l1, .int i2, l3] [.int x] σ = ru d 72 55 [l0, l1, .int i2, .int x] [] σ := q_istore_n t72_54 ⟨Nat.le_of_ble_eq_true rfl, rfl⟩ rfl
theorem t72_55 : decode (mb 72) 55 = .ok (.iload_n 3, 1) := by decide +kernel
theorem s72_55 (d : Nat) (l0 : Value) (l1 : Value) (l2 : Value) (i3 : Int32) (σ : Hs) : ru d 72 55 [l0, l1, l2, .int i3] [] σ = ru d 72 56 [l0, l1, l2, .int i3] [.int i3] σ := q_iload_n t72_55 rfl
theorem t72_56 : decode (mb 72) 56 = .ok (.iload_n 1, 1) := by decide +kernel
theorem s72_56 (d : Nat) (l0 : Value) (i1 : Int32) (l2 : Value) (l3 : Value) (w0 : Value) (σ : Hs) : ru d 72 56 [l0, .int i1, l2, l3] [w0] σ = ru d 72 57 [l0, .int i1, l2, l3] [.int i1, w0] σ := q_iload_n t72_56 rfl
theorem t72_57 : decode (mb 72) 57 = .ok (.if_icmp .ge 49, 3) := by decide +kernel
theorem s72_57 (d : Nat) (l0 : Value) (l1 : Value) (l2 : Value) (l3 : Value) (x y : Int32) (σ : Hs) : ru d 72 57 [l0, l1, l2, l3] [.int y, .int x] σ = if y ≤ x then ru d 72 106 [l0, l1, l2, l3] [] σ else ru d 72 60 [l0, l1, l2, l3] [] σ := q_ic_ge t72_57 (by decide +kernel)
theorem t72_60 : decode (mb 72) 60 = .ok (.aload_n 0, 1) := by decide +kernel
theorem s72_60 (d : Nat) (a0 : Nat) (l1 : Value) (l2 : Value) (l3 : Value) (σ : Hs) : ru d 72 60 [.ref a0, l1, l2, l3] [] σ = ru d 72 61 [.ref a0, l1, l2, l3] [.ref a0] σ := q_aload_n t72_60 rfl
theorem t72_61 : decode (mb 72) 61 = .ok (.getfield 10, 3) := by decide +kernel
theorem s72_61_o0 (d : Nat) (l0 : Value) (l1 : Value) (l2 : Value) (l3 : Value) (σ : Hs) : ru d 72 61 [l0, l1, l2, l3] [.ref 0] σ = ru d 72 64 [l0, l1, l2, l3] [.ref 1] σ := q_getf t72_61 mo72 F7_10 rfl rfl
theorem t72_64 : decode (mb 72) 64 = .ok (.getfield 58, 3) := by decide +kernel
theorem s72_64_o1 (d : Nat) (l0 : Value) (l1 : Value) (l2 : Value) (l3 : Value) (σ : Hs) : ru d 72 64 [l0, l1, l2, l3] [.ref 1] σ = ru d 72 67 [l0, l1, l2, l3] [.ref 2] σ := q_getf t72_64 mo72 F7_58 rfl rfl
theorem t72_67 : decode (mb 72) 67 = .ok (.getfield 124, 3) := by decide +kernel
theorem s72_67_o2 (d : Nat) (l0 : Value) (l1 : Value) (l2 : Value) (l3 : Value) (σ : Hs) : ru d 72 67 [l0, l1, l2, l3] [.ref 2] σ = ru d 72 70 [l0, l1, l2, l3] [.ref 9] σ := q_getf t72_67 mo72 F7_124 rfl rfl
theorem t72_70 : decode (mb 72) 70 = .ok (.iconst 1, 1) := by decide +kernel
theorem s72_70 (d : Nat) (l0 : Value) (l1 : Value) (l2 : Value) (l3 : Value) (w0 : Value) (σ : Hs) : ru d 72 70 [l0, l1, l2, l3] [w0] σ = ru d 72 71 [l0, l1, l2, l3] [.int 1, w0] σ := q_iconst t72_70 (by decide +kernel)
theorem t72_71 : decode (mb 72) 71 = .ok (.aload_n 0, 1) := by decide +kernel
theorem s72_71 (d : Nat) (a0 : Nat) (l1 : Value) (l2 : Value) (l3 : Value) (w0 w1 : Value) (σ : Hs) : ru d 72 71 [.ref a0, l1, l2, l3] [w0, w1] σ = ru d 72 72 [.ref a0, l1, l2, l3] [.ref a0, w0, w1] σ := q_aload_n t72_71 rfl
theorem t72_72 : decode (mb 72) 72 = .ok (.getfield 10, 3) := by decide +kernel
theorem s72_72_o0 (d : Nat) (l0 : Value) (l1 : Value) (l2 : Value) (l3 : Value) (w0 w1 : Value) (σ : Hs) : ru d 72 72 [l0, l1, l2, l3] [.ref 0, w0, w1] σ = ru d 72 75 [l0, l1, l2, l3] [.ref 1, w0, w1] σ := q_getf t72_72 mo72 F7_10 rfl rfl
theorem t72_75 : decode (mb 72) 75 = .ok (.invokevirtual 172, 3) := by decide +kernel
theorem s72_75_o1 (d : Nat) (l0 : Value) (l1 : Value) (l2 : Value) (l3 : Value) (w0 : Int32) (w1 : Nat) (σ : Hs) : ru d 72 75 [l0, l1, l2, l3] [.ref 1, .int w0, .ref w1] σ = kont (callD d 52 [.ref 1] σ) d 72 78 [l0, l1, l2, l3] [.int w0, .ref w1] := q_invv t72_75 mo72 K7_172 mj52 rfl rfl rfl rfl (Nat.le_of_ble_eq_true rfl)
theorem t72_78 : decode (mb 72) 78 = .ok (.bipush 100, 2) := by decide +kernel
theorem s72_78 (d : Nat) (l0 : Value) (l1 : Value) (l2 : Value) (l3 : Value) (w0 w1 w2 : Value) (σ : Hs) : ru d 72 78 [l0, l1, l2, l3] [w0, w1, w2] σ = ru d 72 80 [l0, l1, l2, l3] [.int 100, w0, w1, w2] σ := q_bipush t72_78 (by decide +kernel)
theorem t72_80 : decode (mb 72) 80 = .ok (.irem, 1) := by decide +kernel
theorem s72_80 (d : Nat) (l0 : Value) (l1 : Value) (l2 : Value) (l3 : Value) (x y : Int32) (w0 w1 : Value) (σ : Hs) : ru d 72 80 [l0, l1, l2, l3] [.int y, .int x, w0, w1] σ = gd (¬ y = 0) (ru d 72 81 [l0, l1, l2, l3] [.int (x - x / y * y), w0, w1] σ) := q_irem t72_80
theorem t72_81 : decode (mb 72) 81 = .ok (.iastore, 1) := by decide +kernel
theorem s72_81_o9 (d : Nat) (l0 : Value) (l1 : Value) (l2 : Value) (l3 : Value) (i x : Int32) (σ : Hs) : ru d 72 81 [l0, l1, l2, l3] [.int x, .int i, .ref 9] σ = gd (vp_in i 5) (ru d 72 82 [l0, l1, l2, l3] [] (up2 σ 9 i.toNatClampNeg x)) := q_iast t72_81 (by decide +kernel) rfl rfl
theorem t72_82 : decode (mb 72) 82 = .ok (.aload_n 0, 1) := by decide +kernel
theorem s72_82 (d : Nat) (a0 : Nat) (l1 : Value) (l2 : Value) (l3 : Value) (σ : Hs) : ru d 72 82 [.ref a0, l1, l2, l3] [] σ = ru d 72 83 [.ref a0, l1, l2, l3] [.ref a0] σ := q_aload_n t72_82 rfl
theorem t72_83 : decode (mb 72) 83 = .ok (.getfield 10, 3) := by decide +kernel
theorem s72_83_o0 (d : Nat) (l0 : Value) (l1 : Value) (l2 : Value) (l3 : Value) (σ : Hs) : ru d 72 83 [l0, l1, l2, l3] [.ref 0] σ = ru d 72 86 [l0, l1, l2, l3] [.ref 1] σ := q_getf t72_83 mo72 F7_10 rfl rfl
theorem t72_86 : decode (mb 72) 86 = .ok (.getfield 58, 3) := by decide +kernel
theorem s72_86_o1 (d : Nat) (l0 : Value) (l1 : Value) (l2 : Value) (l3 : Value) (σ : Hs) : ru d 72 86 [l0, l1, l2, l3] [.ref 1] σ = ru d 72 89 [l0, l1, l2, l3] [.ref 2] σ := q_getf t72_86 mo72 F7_58 rfl rfl
theorem t72_89 : decode (mb 72) 89 = .ok (.iconst 1, 1) := by decide +kernel
theorem s72_89 (d : Nat) (l0 : Value) (l1 : Value) (l2 : Value) (l3 : Value) (w0 : Value) (σ : Hs) : ru d 72 89 [l0, l1, l2, l3] [w0] σ = ru d 72 90 [l0, l1, l2, l3] [.int 1, w0] σ := q_iconst t72_89 (by decide +kernel)
theorem t72_90 : decode (mb 72) 90 = .ok (.aload_n 0, 1) := by decide +kernel
theorem s72_90 (d : Nat) (a0 : Nat) (l1 : Value) (l2 : Value) (l3 : Value) (w0 w1 : Value) (σ : Hs) : ru d 72 90 [.ref a0, l1, l2, l3] [w0, w1] σ = ru d 72 91 [.ref a0, l1, l2, l3] [.ref a0, w0, w1] σ := q_aload_n t72_90 rfl
theorem t72_91 : decode (mb 72) 91 = .ok (.getfield 10, 3) := by decide +kernel
theorem s72_91_o0 (d : Nat) (l0 : Value) (l1 : Value) (l2 : Value) (l3 : Value) (w0 w1 : Value) (σ : Hs) : ru d 72 91 [l0, l1, l2, l3] [.ref 0, w0, w1] σ = ru d 72 94 [l0, l1, l2, l3] [.ref 1, w0, w1] σ := q_getf t72_91 mo72 F7_10 rfl rfl
theorem t72_94 : decode (mb 72) 94 = .ok (.getfield 146, 3) := by decide +kernel
theorem s72_94_o1 (d : Nat) (l0 : Value) (l1 : Value) (l2 : Value) (l3 : Value) (w0 w1 : Value) (σ : Hs) : ru d 72 94 [l0, l1, l2, l3] [.ref 1, w0, w1] σ = ru d 72 97 [l0, l1, l2, l3] [.ref 13, w0, w1] σ := q_getf t72_94 mo72 F7_146 rfl rfl
theorem t72_97 : decode (mb 72) 97 = .ok (.invokevirtual 168, 3) := by decide +kernel
theorem s72_97_o2 (d : Nat) (l0 : Value) (l1 : Value) (l2 : Value) (l3 : Value) (v1 v2 : Value) (σ : Hs) : ru d 72 97 [l0, l1, l2, l3] [v2, v1, .ref 2] σ = kont (callD d 13 [.ref 2, v1, v2] σ) d 72 100 [l0, l1, l2, l3] [] := q_invv t72_97 mo72 K7_168 mj13 rfl rfl rfl rfl (Nat.le_of_ble_eq_true rfl)
theorem t72_100 : decode (mb 72) 100 = .ok (.iinc 3 1, 3) := by decide +kernel
theorem s72_100 (d : Nat) (l0 : Value) (l1 : Value) (i2 : Int32) (i3 : Int32) (σ : Hs) : ru d 72 100 [l0, l1, .int i2, .int i3] [] σ = ru d 72 103 [l0, l1, .int i2, .int (i3 + 1)] [] σ := q_iinc t72_100 ⟨Nat.le_of_ble_eq_true rfl, rfl⟩ rfl (by decide +kernel) rfl
theorem t72_103 : decode (mb 72) 103 = .ok (.goto (-48), 3) := by decide +kernel
theorem s72_103 (d : Nat) (l0 : Value) (l1 : Value) (l2 : Value) (l3 : Value) (σ : Hs) : ru d 72 103 [l0, l1, l2, l3] [] σ = ru d 72 55 [l0, l1, l2, l3] [] σ := q_goto t72_103 (by decide +kernel)
theorem t72_106 : decode (mb 72) 106 = .ok (.aload_n 0, 1) := by decide +kernel
theorem s72_106 (d : Nat) (a0 : Nat) (l1 : Value) (l2 : Value) (l3 : Value) (σ : Hs) : ru d 72 106 [.ref a0, l1, l2, l3] [] σ = ru d 72 107 [.ref a0, l1, l2, l3] [.ref a0] σ := q_aload_n t72_106 rfl
theorem t72_107 : decode (mb 72) 107 = .ok (.getfield 10, 3) := by decide +kernel
theorem s72_107_o0 (d : Nat) (l0 : Value) (l1 : Value) (l2 : Value) (l3 : Value) (σ : Hs) : ru d 72 107 [l0, l1, l2, l3] [.ref 0] σ = ru d 72 110 [l0, l1, l2, l3] [.ref 1] σ := q_getf t72_107 mo72 F7_10 rfl rfl
theorem t72_110 : decode (mb 72) 110 = .ok (.getfield 58, 3) := by decide +kernel
theorem s72_110_o1 (d : Nat) (l0 : Value) (l1 : Value) (l2 : Value) (l3 : Value) (σ : Hs) : ru d 72 110 [l0, l1, l2, l3] [.ref 1] σ = ru d 72 113 [l0, l1, l2, l3] [.ref 2] σ := q_getf t72_110 mo72 F7_58 rfl rfl
theorem t72_113 : decode (mb 72) 113 = .ok (.getfield 124, 3) := by decide +kernel
theorem s72_113_o2 (d : Nat) (l0 : Value) (l1 : Value) (l2 : Value) (l3 : Value) (σ : Hs) : ru d 72 113 [l0, l1, l2, l3] [.ref 2] σ = ru d 72 116 [l0, l1, l2, l3] [.ref 9] σ := q_getf t72_113 mo72 F7_124 rfl rfl
theorem t72_116 : decode (mb 72) 116 = .ok (.iconst 1, 1) := by decide +kernel
theorem s72_116 (d : Nat) (l0 : Value) (l1 : Value) (l2 : Value) (l3 : Value) (w0 : Value) (σ : Hs) : ru d 72 116 [l0, l1, l2, l3] [w0] σ = ru d 72 117 [l0, l1, l2, l3] [.int 1, w0] σ := q_iconst t72_116 (by decide +kernel)
theorem t72_117 : decode (mb 72) 117 = .ok (.iload_n 2, 1) := by decide +kernel
theorem s72_117 (d : Nat) (l0 : Value) (l1 : Value) (i2 : Int32) (l3 : Value) (w0 w1 : Value) (σ : Hs) : ru d 72 117 [l0, l1, .int i2, l3] [w0, w1] σ = ru d 72 118 [l0, l1, .int i2, l3] [.int i2, w0, w1] σ := q_iload_n t72_117 rfl
theorem t72_118 : decode (mb 72) 118 = .ok (.iastore, 1) := by decide +kernel
theorem s72_118_o9 (d : Nat) (l0 : Value) (l1 : Value) (l2 : Value) (l3 : Value) (i x : Int32) (σ : Hs) : ru d 72 118 [l0, l1, l2, l3] [.int x, .int i, .ref 9] σ = gd (vp_in i 5) (ru d 72 119 [l0, l1, l2, l3] [] (up2 σ 9 i.toNatClampNeg x)) := q_iast t72_118 (by decide +kernel) rfl rfl
theorem t72_119 : decode (mb 72) 119 = .ok (.aload_n 0, 1) := by decide +kernel
theorem s72_119 (d : Nat) (a0 : Nat) (l1 : Value) (l2 : Value) (l3 : Value) (σ : Hs) : ru d 72 119 [.ref a0, l1, l2, l3] [] σ = ru d 72 120 [.ref a0, l1, l2, l3] [.ref a0] σ := q_aload_n t72_119 rfl
theorem t72_120 : decode (mb 72) 120 = .ok (.getfield 10, 3) := by decide +kernel
theorem s72_120_o0 (d : Nat) (l0 : Value) (l1 : Value) (l2 : Value) (l3 : Value) (σ : Hs) : ru d 72 120 [l0, l1, l2, l3] [.ref 0] σ = ru d 72 123 [l0, l1, l2, l3] [.ref 1] σ := q_getf t72_120 mo72 F7_10 rfl rfl
theorem t72_123 : decode (mb 72) 123 = .ok (.getfield 58, 3) := by decide +kernel
theorem s72_123_o1 (d : Nat) (l0 : Value) (l1 : Value) (l2 : Value) (l3 : Value) (σ : Hs) : ru d 72 123 [l0, l1, l2, l3] [.ref 1] σ = ru d 72 126 [l0, l1, l2, l3] [.ref 2] σ := q_getf t72_123 mo72 F7_58 rfl rfl
theorem t72_126 : decode (mb 72) 126 = .ok (.getfield 164, 3) := by decide +kernel
theorem s72_126_o2 (d : Nat) (l0 : Value) (l1 : Value) (l2 : Value) (l3 : Value) (σ : Hs) : ru d 72 126 [l0, l1, l2, l3] [.ref 2] σ = ru d 72 129 [l0, l1, l2, l3] [.int (σ 2 13)] σ := q_getf t72_126 mo72 F7_164 rfl rfl
theorem t72_129 : decode (mb 72) 129 = .ok (.ireturn, 1) := by decide +kernel
theorem s72_129 (d : Nat) (l0 : Value) (l1 : Value) (l2 : Value) (l3 : Value) (x : Int32) (σ : Hs) : ru d 72 129 [l0, l1, l2, l3] [.int x] σ = some (some (.int x), σ) := q_ireti t72_129 mr72
theorem c72 (d : Nat) (x0 : Nat) (x1 : Int32) (σ : Hs) : callD (d + 1) 72 [.ref x0, .int x1] σ = ru d 72 0 [.ref x0, .int x1, uu, uu] [] σ := callD_ru ml72 rfl rfl (Nat.le_of_ble_eq_true rfl)
-- 73: SmokyHeap.seed(I)I
theorem t73_0 : decode (mb 73) 0 = .ok (.aload_n 0, 1) := by decide +kernel
theorem s73_0 (d : Nat) (a0 : Nat) (l1 : Value) (l2 : Value) (σ : Hs) : ru d 73 0 [.ref a0, l1, l2] [] σ = ru d 73 1 [.ref a0, l1, l2] [.ref a0] σ := q_aload_n t73_0 rfl
theorem t73_1 : decode (mb 73) 1 = .ok (.getfield 10, 3) := by decide +kernel
theorem s73_1_o0 (d : Nat) (l0 : Value) (l1 : Value) (l2 : Value) (σ : Hs) : ru d 73 1 [l0, l1, l2] [.ref 0] σ = ru d 73 4 [l0, l1, l2] [.ref 1] σ := q_getf t73_1 mo73 F7_10 rfl rfl
theorem t73_4 : decode (mb 73) 4 = .ok (.getfield 176, 3) := by decide +kernel
theorem s73_4_o1 (d : Nat) (l0 : Value) (l1 : Value) (l2 : Value) (σ : Hs) : ru d 73 4 [l0, l1, l2] [.ref 1] σ = ru d 73 7 [l0, l1, l2] [.int (σ 1 6)] σ := q_getf t73_4 mo73 F7_176 rfl rfl
theorem t73_7 : decode (mb 73) 7 = .ok (.istore_n 2, 1) := by decide +kernel
theorem s73_7 (d : Nat) (l0 : Value) (i1 : Int32) (l2 : Value) (x : Int32) (σ : Hs) : ru d 73 7 [l0, .int i1, l2] [.int x] σ = ru d 73 8 [l0, .int i1, .int x] [] σ := q_istore_n t73_7 ⟨Nat.le_of_ble_eq_true rfl, rfl⟩ rfl
theorem t73_8 : decode (mb 73) 8 = .ok (.aload_n 0, 1) := by decide +kernel
theorem s73_8 (d : Nat) (a0 : Nat) (l1 : Value) (l2 : Value) (σ : Hs) : ru d 73 8 [.ref a0, l1, l2] [] σ = ru d 73 9 [.ref a0, l1, l2] [.ref a0] σ := q_aload_n t73_8 rfl
theorem t73_9 : decode (mb 73) 9 = .ok (.getfield 10, 3) := by decide +kernel
theorem s73_9_o0 (d : Nat) (l0 : Value) (l1 : Value) (l2 : Value) (σ : Hs) : ru d 73 9 [l0, l1, l2] [.ref 0] σ = ru d 73 12 [l0, l1, l2] [.ref 1] σ := q_getf t73_9 mo73 F7_10 rfl rfl
theorem t73_12 : decode (mb 73) 12 = .ok (.iload_n 1, 1) := by decide +kernel
theorem s73_12 (d : Nat) (l0 : Value) (i1 : Int32) (l2 : Value) (w0 : Value) (σ : Hs) : ru d 73 12 [l0, .int i1, l2] [w0] σ = ru d 73 13 [l0, .int i1, l2] [.int i1, w0] σ := q_iload_n t73_12 rfl
theorem t73_13 : decode (mb 73) 13 = .ok (.putfield 176, 3) := by decide +kernel
theorem s73_13_o1 (d : Nat) (l0 : Value) (l1 : Value) (l2 : Value) (x : Int32) (σ : Hs) : ru d 73 13 [l0, l1, l2] [.int x, .ref 1] σ = ru d 73 16 [l0, l1, l2] [] (up2 σ 1 6 x) := q_puti t73_13 mo73 F7_176 (by decide +kernel) rfl rfl
theorem t73_16 : decode (mb 73) 16 = .ok (.iload_n 2, 1) := by decide +kernel
theorem s73_16 (d : Nat) (l0 : Value) (l1 : Value) (i2 : Int32) (σ : Hs) : ru d 73 16 [l0, l1, .int i2] [] σ = ru d 73 17 [l0, l1, .int i2] [.int i2] σ := q_iload_n t73_16 rfl
theorem t73_17 : decode (mb 73) 17 = .ok (.ireturn, 1) := by decide +kernel
theorem s73_17 (d : Nat) (l0 : Value) (l1 : Value) (l2 : Value) (x : Int32) (σ : Hs) : ru d 73 17 [l0, l1, l2] [.int x] σ = some (some (.int x), σ) := q_ireti t73_17 mr73
theorem c73 (d : Nat) (x0 : Nat) (x1 : Int32) (σ : Hs) : callD (d + 1) 73 [.ref x0, .int x1] σ = ru d 73 0 [.ref x0, .int x1, uu] [] σ := callD_ru ml73 rfl rfl (Nat.le_of_ble_eq_true rfl)
-- 74: SmokyHeap.washing(III)I
theorem t74_0 : decode (mb 74) 0 = .ok (.iload_n 1, 1) := by decide +kernel
theorem s74_0 (d : Nat) (l0 : Value) (i1 : Int32) (l2 : Value) (l3 : Value) (l4 : Value) (l5 : Value) (σ : Hs) : ru d 74 0 [l0, .int i1, l2, l3, l4, l5] [] σ = ru d 74 1 [l0, .int i1, l2, l3, l4, l5] [.int i1] σ := q_iload_n t74_0 rfl
theorem t74_1 : decode (mb 74) 1 = .ok (.invokestatic 179, 3) := by decide +kernel
theorem s74_1 (d : Nat) (l0 : Value) (l1 : Value) (l2 : Value) (l3 : Value) (l4 : Value) (l5 : Value) (v0 : Value) (σ : Hs) : ru d 74 1 [l0, l1, l2, l3, l4, l5] [v0] σ = kont (callD d 107 [v0] σ) d 74 4 [l0, l1, l2, l3, l4, l5] [] := q_invs t74_1 mo74 (by decide +kernel) K7_179 mj107 (Nat.le_of_ble_eq_true rfl) rfl rfl (Nat.le_of_ble_eq_true rfl)
theorem t74_4 : decode (mb 74) 4 = .ok (.ifCond .eq 23, 3) := by decide +kernel
theorem s74_4 (d : Nat) (l0 : Value) (l1 : Value) (l2 : Value) (l3 : Value) (l4 : Value) (l5 : Value) (x : Int32) (σ : Hs) : ru d 74 4 [l0, l1, l2, l3, l4, l5] [.int x] σ = if x = 0 then ru d 74 27 [l0, l1, l2, l3, l4, l5] [] σ else ru d 74 7 [l0, l1, l2, l3, l4, l5] [] σ := q_if_eq t74_4 (by decide +kernel)
theorem t74_7 : decode (mb 74) 7 = .ok (.iload_n 2, 1) := by decide +kernel
theorem s74_7 (d : Nat) (l0 : Value) (l1 : Value) (i2 : Int32) (l3 : Value) (l4 : Value) (l5 : Value) (σ : Hs) : ru d 74 7 [l0, l1, .int i2, l3, l4, l5] [] σ = ru d 74 8 [l0, l1, .int i2, l3, l4, l5] [.int i2] σ := q_iload_n t74_7 rfl
theorem t74_8 : decode (mb 74) 8 = .ok (.iconst 0, 1) := by decide +kernel
theorem s74_8 (d : Nat) (l0 : Value) (l1 : Value) (l2 : Value) (l3 : Value) (l4 : Value) (l5 : Value) (w0 : Value) (σ : Hs) : ru d 74 8 [l0, l1, l2, l3, l4, l5] [w0] σ = ru d 74 9 [l0, l1, l2, l3, l4, l5] [.int 0, w0] σ := q_iconst t74_8 (by decide +kernel)
theorem t74_9 : decode (mb 74) 9 = .ok (.bipush 23, 2) := by decide +kernel
theorem s74_9 (d : Nat) (l0 : Value) (l1 : Value) (l2 : Value) (l3 : Value) (l4 : Value) (l5 : Value) (w0 w1 : Value) (σ : Hs) : ru d 74 9 [l0, l1, l2, l3, l4, l5] [w0, w1] σ = ru d 74 11 [l0, l1, l2, l3, l4, l5] [.int 23, w0, w1] σ := q_bipush t74_9 (by decide +kernel)
theorem t74_11 : decode (mb 74) 11 = .ok (.invokestatic 83, 3) := by decide +kernel
theorem s74_11 (d : Nat) (l0 : Value) (l1 : Value) (l2 : Value) (l3 : Value) (l4 : Value) (l5 : Value) (v0 v1 v2 : Value) (σ : Hs) : ru d 74 11 [l0, l1, l2, l3, l4, l5] [v2, v1, v0] σ = kont (callD d 103 [v0, v1, v2] σ) d 74 14 [l0, l1, l2, l3, l4, l5] [] := q_invs t74_11 mo74 (by decide +kernel) K7_83 mj103 (Nat.le_of_ble_eq_true rfl) rfl rfl (Nat.le_of_ble_eq_true rfl)
theorem t74_14 : decode (mb 74) 14 = .ok (.ifCond .eq 13, 3) := by decide +kernel
theorem s74_14 (d : Nat) (l0 : Value) (l1 : Value) (l2 : Value) (l3 : Value) (l4 : Value) (l5 : Value) (x : Int32) (σ : Hs) : ru d 74 14 [l0, l1, l2, l3, l4, l5] [.int x] σ = if x = 0 then ru d 74 27 [l0, l1, l2, l3, l4, l5] [] σ else ru d 74 17 [l0, l1, l2, l3, l4, l5] [] σ := q_if_eq t74_14 (by decide +kernel)
theorem t74_17 : decode (mb 74) 17 = .ok (.iload_n 3, 1) := by decide +kernel
theorem s74_17 (d : Nat) (l0 : Value) (l1 : Value) (l2 : Value) (i3 : Int32) (l4 : Value) (l5 : Value) (σ : Hs) : ru d 74 17 [l0, l1, l2, .int i3, l4, l5] [] σ = ru d 74 18 [l0, l1, l2, .int i3, l4, l5] [.int i3] σ := q_iload_n t74_17 rfl
theorem t74_18 : decode (mb 74) 18 = .ok (.iconst 0, 1) := by decide +kernel
theorem s74_18 (d : Nat) (l0 : Value) (l1 : Value) (l2 : Value) (l3 : Value) (l4 : Value) (l5 : Value) (w0 : Value) (σ : Hs) : ru d 74 18 [l0, l1, l2, l3, l4, l5] [w0] σ = ru d 74 19 [l0, l1, l2, l3, l4, l5] [.int 0, w0] σ := q_iconst t74_18 (by decide +kernel)
theorem t74_19 : decode (mb 74) 19 = .ok (.bipush 23, 2) := by decide +kernel
theorem s74_19 (d : Nat) (l0 : Value) (l1 : Value) (l2 : Value) (l3 : Value) (l4 : Value) (l5 : Value) (w0 w1 : Value) (σ : Hs) : ru d 74 19 [l0, l1, l2, l3, l4, l5] [w0, w1] σ = ru d 74 21 [l0, l1, l2, l3, l4, l5] [.int 23, w0, w1] σ := q_bipush t74_19 (by decide +kernel)
theorem t74_21 : decode (mb 74) 21 = .ok (.invokestatic 83, 3) := by decide +kernel
theorem s74_21 (d : Nat) (l0 : Value) (l1 : Value) (l2 : Value) (l3 : Value) (l4 : Value) (l5 : Value) (v0 v1 v2 : Value) (σ : Hs) : ru d 74 21 [l0, l1, l2, l3, l4, l5] [v2, v1, v0] σ = kont (callD d 103 [v0, v1, v2] σ) d 74 24 [l0, l1, l2, l3, l4, l5] [] := q_invs t74_21 mo74 (by decide +kernel) K7_83 mj103 (Nat.le_of_ble_eq_true rfl) rfl rfl (Nat.le_of_ble_eq_true rfl)
theorem t74_24 : decode (mb 74) 24 = .ok (.ifCond .ne 9, 3) := by decide +kernel
theorem s74_24 (d : Nat) (l0 : Value) (l1 : Value) (l2 : Value) (l3 : Value) (l4 : Value) (l5 : Value) (x : Int32) (σ : Hs) : ru d 74 24 [l0, l1, l2, l3, l4, l5] [.int x] σ = if x = 0 then ru d 74 27 [l0, l1, l2, l3, l4, l5] [] σ else ru d 74 33 [l0, l1, l2, l3, l4, l5] [] σ := q_if_ne t74_24 (by decide +kernel)
theorem t74_27 : decode (mb 74) 27 = .ok (.aload_n 0, 1) := by decide +kernel
theorem s74_27 (d : Nat) (a0 : Nat) (l1 : Value) (l2 : Value) (l3 : Value) (l4 : Value) (l5 : Value) (σ : Hs) : ru d 74 27 [.ref a0, l1, l2, l3, l4, l5] [] σ = ru d 74 28 [.ref a0, l1, l2, l3, l4, l5] [.ref a0] σ := q_aload_n t74_27 rfl
theorem t74_28 : decode (mb 74) 28 = .ok (.iconst 1, 1) := by decide +kernel
theorem s74_28 (d : Nat) (l0 : Value) (l1 : Value) (l2 : Value) (l3 : Value) (l4 : Value) (l5 : Value) (w0 : Value) (σ : Hs) : ru d 74 28 [l0, l1, l2, l3, l4, l5] [w0] σ = ru d 74 29 [l0, l1, l2, l3, l4, l5] [.int 1, w0] σ := q_iconst t74_28 (by decide +kernel)
theorem t74_29 : decode (mb 74) 29 = .ok (.invokevirtual 65, 3) := by decide +kernel
theorem s74_29_o0 (d : Nat) (l0 : Value) (l1 : Value) (l2 : Value) (l3 : Value) (l4 : Value) (l5 : Value) (v1 : Value) (σ : Hs) : ru d 74 29 [l0, l1, l2, l3, l4, l5] [v1, .ref 0] σ = kont (callD d 100 [.ref 0, v1] σ) d 74 32 [l0, l1, l2, l3, l4, l5] [] := q_invv t74_29 mo74 K7_65 mj100 rfl rfl rfl rfl (Nat.le_of_ble_eq_true rfl)
theorem t74_32 : decode (mb 74) 32 = .ok (.ireturn, 1) := by decide +kernel
theorem s74_32 (d : Nat) (l0 : Value) (l1 : Value) (l2 : Value) (l3 : Value) (l4 : Value) (l5 : Value) (x : Int32) (σ : Hs) : ru d 74 32 [l0, l1, l2, l3, l4, l5] [.int x] σ = some (some (.int x), σ) := q_ireti t74_32 mr74
theorem t74_33 : decode (mb 74) 33 = .ok (.iconst 0, 1) := by decide +kernel
theorem s74_33 (d : Nat) (l0 : Value) (l1 : Value) (l2 : Value) (l3 : Value) (l4 : Value) (l5 : Value) (σ : Hs) : ru d 74 33 [l0, l1, l2, l3, l4, l5] [] σ = ru d 74 34 [l0, l1, l2, l3, l4, l5] [.int 0] σ := q_iconst t74_33 (by decide +kernel)
theorem t74_34 : decode (mb 74) 34 = .ok (.istore 4, 2) := by decide +kernel
theorem s74_34 (d : Nat) (l0 : Value) (l1 : Value) (l2 : Value) (i3 : Int32) (l4 : Value) (l5 : Value) (x : Int32) (σ : Hs) : ru d 74 34 [l0, l1, l2, .int i3, l4, l5] [.int x] σ = ru d 74 36 [l0, l1, l2, .int i3, .int x, l5] [] σ := q_istore t74_34 ⟨Nat.le_of_ble_eq_true rfl, rfl⟩ rfl
theorem t74_36 : decode (mb 74) 36 = .ok (.iload_n 2, 1) := by decide +kernel
theorem s74_36 (d : Nat) (l0 : Value) (l1 : Value) (i2 : Int32) (l3 : Value) (l4 : Value) (l5 : Value) (σ : Hs) : ru d 74 36 [l0, l1, .int i2, l3, l4, l5] [] σ = ru d 74 37 [l0, l1, .int i2, l3, l4, l5] [.int i2] σ := q_iload_n t74_36 rfl
theorem t74_37 : decode (mb 74) 37 = .ok (.istore 5, 2) := by decide +kernel
theorem s74_37 (d : Nat) (l0 : Value) (l1 : Value) (l2 : Value) (l3 : Value) (i4 : Int32) (l5 : Value) (x : Int32) (σ : Hs) : ru d 74 37 [l0, l1, l2, l3, .int i4, l5] [.int x] σ = ru d 74 39 [l0, l1, l2, l3, .int i4, .int x] [] σ := q_istore t74_37 ⟨Nat.le_of_ble_eq_true rfl, rfl⟩ rfl
theorem t74_39 : decode (mb 74) 39 = .ok (.iload 5, 2) := by decide +kernel
theorem s74_39 (d : Nat) (l0 : Value) (l1 : Value) (l2 : Value) (l3 : Value) (l4 : Value) (i5 : Int32) (σ : Hs) : ru d 74 39 [l0, l1, l2, l3, l4, .int i5] [] σ = ru d 74 41 [l0, l1, l2, l3, l4, .int i5] [.int i5] σ := q_iload t74_39 rfl
theorem t74_41 : decode (mb 74) 41 = .ok (.iload_n 3, 1) := by decide +kernel
theorem s74_41 (d : Nat) (l0 : Value) (l1 : Value) (l2 : Value) (i3 : Int32) (l4 : Value) (l5 : Value) (w0 : Value) (σ : Hs) : ru d 74 41 [l0, l1, l2, .int i3, l4, l5] [w0] σ = ru d 74 42 [l0, l1, l2, .int i3, l4, l5] [.int i3, w0] σ := q_iload_n t74_41 rfl
theorem t74_42 : decode (mb 74) 42 = .ok (.if_icmp .gt 18, 3) := by decide +kernel
theorem s74_42 (d : Nat) (l0 : Value) (l1 : Value) (l2 : Value) (l3 : Value) (l4 : Value) (l5 : Value) (x y : Int32) (σ : Hs) : ru d 74 42 [l0, l1, l2, l3, l4, l5] [.int y, .int x] σ = if y < x then ru d 74 60 [l0, l1, l2, l3, l4, l5] [] σ else ru d 74 45 [l0, l1, l2, l3, l4, l5] [] σ := q_ic_gt t74_42 (by decide +kernel)
theorem t74_45 : decode (mb 74) 45 = .ok (.iload 4, 2) := by decide +kernel
theorem s74_45 (d : Nat) (l0 : Value) (l1 : Value) (l2 : Value) (l3 : Value) (i4 : Int32) (l5 : Value) (σ : Hs) : ru d 74 45 [l0, l1, l2, l3, .int i4, l5] [] σ = ru d 74 47 [l0, l1, l2, l3, .int i4, l5] [.int i4] σ := q_iload t74_45 rfl
theorem t74_47 : decode (mb 74) 47 = .ok (.iconst 1, 1) := by decide +kernel
theorem s74_47 (d : Nat) (l0 : Value) (l1 : Value) (l2 : Value) (l3 : Value) (l4 : Value) (l5 : Value) (w0 : Value) (σ : Hs) : ru d 74 47 [l0, l1, l2, l3, l4, l5] [w0] σ = ru d 74 48 [l0, l1, l2, l3, l4, l5] [.int 1, w0] σ := q_iconst t74_47 (by decide +kernel)
theorem t74_48 : decode (mb 74) 48 = .ok (.iload 5, 2) := by decide +kernel
theorem s74_48 (d : Nat) (l0 : Value) (l1 : Value) (l2 : Value) (l3 : Value) (l4 : Value) (i5 : Int32) (w0 w1 : Value) (σ : Hs) : ru d 74 48 [l0, l1, l2, l3, l4, .int i5] [w0, w1] σ = ru d 74 50 [l0, l1, l2, l3, l4, .int i5] [.int i5, w0, w1] σ := q_iload t74_48 rfl
theorem t74_50 : decode (mb 74) 50 = .ok (.ishl, 1) := by decide +kernel
theorem s74_50 (d : Nat) (l0 : Value) (l1 : Value) (l2 : Value) (l3 : Value) (l4 : Value) (l5 : Value) (x y : Int32) (w0 : Value) (σ : Hs) : ru d 74 50 [l0, l1, l2, l3, l4, l5] [.int y, .int x, w0] σ = ru d 74 51 [l0, l1, l2, l3, l4, l5] [.int (x <<< (y &&& 31)), w0] σ := q_ishl t74_50
theorem t74_51 : decode (mb 74) 51 = .ok (.ior, 1) := by decide +kernel
theorem s74_51 (d : Nat) (l0 : Value) (l1 : Value) (l2 : Value) (l3 : Value) (l4 : Value) (l5 : Value) (x y : Int32) (σ : Hs) : ru d 74 51 [l0, l1, l2, l3, l4, l5] [.int y, .int x] σ = ru d 74 52 [l0, l1, l2, l3, l4, l5] [.int (x ||| y)] σ := q_ior t74_51
theorem t74_52 : decode (mb 74) 52 = .ok (.istore 4, 2) := by decide +kernel
theorem s74_52 (d : Nat) (l0 : Value) (l1 : Value) (l2 : Value) (i3 : Int32) (l4 : Value) (l5 : Value) (x : Int32) (σ : Hs) : ru d 74 52 [l0, l1, l2, .int i3, l4, l5] [.int x] σ = ru d 74 54 [l0, l1, l2, .int i3, .int x, l5] [] σ := q_istore t74_52 ⟨Nat.le_of_ble_eq_true rfl, rfl⟩ rfl
theorem t74_54 : decode (mb 74) 54 = .ok (.iinc 5 1, 3) := by decide +kernel
theorem s74_54 (d : Nat) (l0 : Value) (l1 : Value) (l2 : Value) (l3 : Value) (i4 : Int32) (i5 : Int32) (σ : Hs) : ru d 74 54 [l0, l1, l2, l3, .int i4, .int i5] [] σ = ru d 74 57 [l0, l1, l2, l3, .int i4, .int (i5 + 1)] [] σ := q_iinc t74_54 ⟨Nat.le_of_ble_eq_true rfl, rfl⟩ rfl (by decide +kernel) rfl
theorem t74_57 : decode (mb 74) 57 = .ok (.goto (-18), 3) := by decide +kernel
theorem s74_57 (d : Nat) (l0 : Value) (l1 : Value) (l2 : Value) (l3 : Value) (l4 : Value) (l5 : Value) (σ : Hs) : ru d 74 57 [l0, l1, l2, l3, l4, l5] [] σ = ru d 74 39 [l0, l1, l2, l3, l4, l5] [] σ := q_goto t74_57 (by decide +kernel)
theorem t74_60 : decode (mb 74) 60 = .ok (.aload_n 0, 1) := by decide +kernel
theorem s74_60 (d : Nat) (a0 : Nat) (l1 : Value) (l2 : Value) (l3 : Value) (l4 : Value) (l5 : Value) (σ : Hs) : ru d 74 60 [.ref a0, l1, l2, l3, l4, l5] [] σ = ru d 74 61 [.ref a0, l1, l2, l3, l4, l5] [.ref a0] σ := q_aload_n t74_60 rfl
theorem t74_61 : decode (mb 74) 61 = .ok (.getfield 10, 3) := by decide +kernel
theorem s74_61_o0 (d : Nat) (l0 : Value) (l1 : Value) (l2 : Value) (l3 : Value) (l4 : Value) (l5 : Value) (σ : Hs) : ru d 74 61 [l0, l1, l2, l3, l4, l5] [.ref 0] σ = ru d 74 64 [l0, l1, l2, l3, l4, l5] [.ref 1] σ := q_getf t74_61 mo74 F7_10 rfl rfl
theorem t74_64 : decode (mb 74) 64 = .ok (.getfield 58, 3) := by decide +kernel
theorem s74_64_o1 (d : Nat) (l0 : Value) (l1 : Value) (l2 : Value) (l3 : Value) (l4 : Value) (l5 : Value) (σ : Hs) : ru d 74 64 [l0, l1, l2, l3, l4, l5] [.ref 1] σ = ru d 74 67 [l0, l1, l2, l3, l4, l5] [.ref 2] σ := q_getf t74_64 mo74 F7_58 rfl rfl
theorem t74_67 : decode (mb 74) 67 = .ok (.getfield 182, 3) := by decide +kernel
theorem s74_67_o2 (d : Nat) (l0 : Value) (l1 : Value) (l2 : Value) (l3 : Value) (l4 : Value) (l5 : Value) (σ : Hs) : ru d 74 67 [l0, l1, l2, l3, l4, l5] [.ref 2] σ = ru d 74 70 [l0, l1, l2, l3, l4, l5] [.ref 10] σ := q_getf t74_67 mo74 F7_182 rfl rfl
theorem t74_70 : decode (mb 74) 70 = .ok (.iload_n 1, 1) := by decide +kernel
theorem s74_70 (d : Nat) (l0 : Value) (i1 : Int32) (l2 : Value) (l3 : Value) (l4 : Value) (l5 : Value) (w0 : Value) (σ : Hs) : ru d 74 70 [l0, .int i1, l2, l3, l4, l5] [w0] σ = ru d 74 71 [l0, .int i1, l2, l3, l4, l5] [.int i1, w0] σ := q_iload_n t74_70 rfl
theorem t74_71 : decode (mb 74) 71 = .ok (.iload 4, 2) := by decide +kernel
theorem s74_71 (d : Nat) (l0 : Value) (l1 : Value) (l2 : Value) (l3 : Value) (i4 : Int32) (l5 : Value) (w0 w1 : Value) (σ : Hs) : ru d 74 71 [l0, l1, l2, l3, .int i4, l5] [w0, w1] σ = ru d 74 73 [l0, l1, l2, l3, .int i4, l5] [.int i4, w0, w1] σ := q_iload t74_71 rfl
theorem t74_73 : decode (mb 74) 73 = .ok (.iastore, 1) := by decide +kernel
theorem s74_73_o10 (d : Nat) (l0 : Value) (l1 : Value) (l2 : Value) (l3 : Value) (l4 : Value) (l5 : Value) (i x : Int32) (σ : Hs) : ru d 74 73 [l0, l1, l2, l3, l4, l5] [.int x, .int i, .ref 10] σ = gd (vp_in i 9) (ru d 74 74 [l0, l1, l2, l3, l4, l5] [] (up2 σ 10 i.toNatClampNeg x)) := q_iast t74_73 (by decide +kernel) rfl rfl
theorem t74_74 : decode (mb 74) 74 = .ok (.iload 4, 2) := by decide +kernel
theorem s74_74 (d : Nat) (l0 : Value) (l1 : Value) (l2 : Value) (l3 : Value) (i4 : Int32) (l5 : Value) (σ : Hs) : ru d 74 74 [l0, l1, l2, l3, .int i4, l5] [] σ = ru d 74 76 [l0, l1, l2, l3, .int i4, l5] [.int i4] σ := q_iload t74_74 rfl
theorem t74_76 : decode (mb 74) 76 = .ok (.invokestatic 185, 3) := by decide +kernel
theorem s74_76 (d : Nat) (l0 : Value) (l1 : Value) (l2 : Value) (l3 : Value) (l4 : Value) (l5 : Value) (v0 : Value) (σ : Hs) : ru d 74 76 [l0, l1, l2, l3, l4, l5] [v0] σ = kont (callD d 223 [v0] σ) d 74 79 [l0, l1, l2, l3, l4, l5] [] := q_invs t74_76 mo74 (by decide +kernel) K7_185 mj223 (Nat.le_of_ble_eq_true rfl) rfl rfl (Nat.le_of_ble_eq_true rfl)
theorem t74_79 : decode (mb 74) 79 = .ok (.ireturn, 1) := by decide +kernel
theorem s74_79 (d : Nat) (l0 : Value) (l1 : Value) (l2 : Value) (l3 : Value) (l4 : Value) (l5 : Value) (x : Int32) (σ : Hs) : ru d 74 79 [l0, l1, l2, l3, l4, l5] [.int x] σ = some (some (.int x), σ) := q_ireti t74_79 mr74
theorem c74 (d : Nat) (x0 : Nat) (x1 : Int32) (x2 : Int32) (x3 : Int32) (σ : Hs) : callD (d + 1) 74 [.ref x0, .int x1, .int x2, .int x3] σ = ru d 74 0 [.ref x0, .int x1, .int x2, .int x3, uu, uu] [] σ := callD_ru ml74 rfl rfl (Nat.le_of_ble_eq_true rfl)
-- 75: SmokyHeap.garden(II)I
theorem t75_0 : decode (mb 75) 0 = .ok (.iload_n 1, 1) := by decide +kernel
theorem s75_0 (d : Nat) (l0 : Value) (i1 : Int32) (l2 : Value) (σ : Hs) : ru d 75 0 [l0, .int i1, l2] [] σ = ru d 75 1 [l0, .int i1, l2] [.int i1] σ := q_iload_n t75_0 rfl
theorem t75_1 : decode (mb 75) 1 = .ok (.invokestatic 179, 3) := by decide +kernel
theorem s75_1 (d : Nat) (l0 : Value) (l1 : Value) (l2 : Value) (v0 : Value) (σ : Hs) : ru d 75 1 [l0, l1, l2] [v0] σ = kont (callD d 107 [v0] σ) d 75 4 [l0, l1, l2] [] := q_invs t75_1 mo75 (by decide +kernel) K7_179 mj107 (Nat.le_of_ble_eq_true rfl) rfl rfl (Nat.le_of_ble_eq_true rfl)
theorem t75_4 : decode (mb 75) 4 = .ok (.ifCond .eq 12, 3) := by decide +kernel
theorem s75_4 (d : Nat) (l0 : Value) (l1 : Value) (l2 : Value) (x : Int32) (σ : Hs) : ru d 75 4 [l0, l1, l2] [.int x] σ = if x = 0 then ru d 75 16 [l0, l1, l2] [] σ else ru d 75 7 [l0, l1, l2] [] σ := q_if_eq t75_4 (by decide +kernel)
theorem t75_7 : decode (mb 75) 7 = .ok (.iload_n 2, 1) := by decide +kernel
theorem s75_7 (d : Nat) (l0 : Value) (l1 : Value) (i2 : Int32) (σ : Hs) : ru d 75 7 [l0, l1, .int i2] [] σ = ru d 75 8 [l0, l1, .int i2] [.int i2] σ := q_iload_n t75_7 rfl
theorem t75_8 : decode (mb 75) 8 = .ok (.iconst 0, 1) := by decide +kernel
theorem s75_8 (d : Nat) (l0 : Value) (l1 : Value) (l2 : Value) (w0 : Value) (σ : Hs) : ru d 75 8 [l0, l1, l2] [w0] σ = ru d 75 9 [l0, l1, l2] [.int 0, w0] σ := q_iconst t75_8 (by decide +kernel)
theorem t75_9 : decode (mb 75) 9 = .ok (.iconst 2, 1) := by decide +kernel
theorem s75_9 (d : Nat) (l0 : Value) (l1 : Value) (l2 : Value) (w0 w1 : Value) (σ : Hs) : ru d 75 9 [l0, l1, l2] [w0, w1] σ = ru d 75 10 [l0, l1, l2] [.int 2, w0, w1] σ := q_iconst t75_9 (by decide +kernel)
theorem t75_10 : decode (mb 75) 10 = .ok (.invokestatic 83, 3) := by decide +kernel
theorem s75_10 (d : Nat) (l0 : Value) (l1 : Value) (l2 : Value) (v0 v1 v2 : Value) (σ : Hs) : ru d 75 10 [l0, l1, l2] [v2, v1, v0] σ = kont (callD d 103 [v0, v1, v2] σ) d 75 13 [l0, l1, l2] [] := q_invs t75_10 mo75 (by decide +kernel) K7_83 mj103 (Nat.le_of_ble_eq_true rfl) rfl rfl (Nat.le_of_ble_eq_true rfl)
theorem t75_13 : decode (mb 75) 13 = .ok (.ifCond .ne 9, 3) := by decide +kernel
theorem s75_13 (d : Nat) (l0 : Value) (l1 : Value) (l2 : Value) (x : Int32) (σ : Hs) : ru d 75 13 [l0, l1, l2] [.int x] σ = if x = 0 then ru d 75 16 [l0, l1, l2] [] σ else ru d 75 22 [l0, l1, l2] [] σ := q_if_ne t75_13 (by decide +kernel)
theorem t75_16 : decode (mb 75) 16 = .ok (.aload_n 0, 1) := by decide +kernel
theorem s75_16 (d : Nat) (a0 : Nat) (l1 : Value) (l2 : Value) (σ : Hs) : ru d 75 16 [.ref a0, l1, l2] [] σ = ru d 75 17 [.ref a0, l1, l2] [.ref a0] σ := q_aload_n t75_16 rfl
theorem t75_17 : decode (mb 75) 17 = .ok (.iconst 1, 1) := by decide +kernel
theorem s75_17 (d : Nat) (l0 : Value) (l1 : Value) (l2 : Value) (w0 : Value) (σ : Hs) : ru d 75 17 [l0, l1, l2] [w0] σ = ru d 75 18 [l0, l1, l2] [.int 1, w0] σ := q_iconst t75_17 (by decide +kernel)
theorem t75_18 : decode (mb 75) 18 = .ok (.invokevirtual 65, 3) := by decide +kernel
theorem s75_18_o0 (d : Nat) (l0 : Value) (l1 : Value) (l2 : Value) (v1 : Value) (σ : Hs) : ru d 75 18 [l0, l1, l2] [v1, .ref 0] σ = kont (callD d 100 [.ref 0, v1] σ) d 75 21 [l0, l1, l2] [] := q_invv t75_18 mo75 K7_65 mj100 rfl rfl rfl rfl (Nat.le_of_ble_eq_true rfl)
theorem t75_21 : decode (mb 75) 21 = .ok (.ireturn, 1) := by decide +kernel
theorem s75_21 (d : Nat) (l0 : Value) (l1 : Value) (l2 : Value) (x : Int32) (σ : Hs) : ru d 75 21 [l0, l1, l2] [.int x] σ = some (some (.int x), σ) := q_ireti t75_21 mr75
theorem t75_22 : decode (mb 75) 22 = .ok (.aload_n 0, 1) := by decide +kernel
theorem s75_22 (d : Nat) (a0 : Nat) (l1 : Value) (l2 : Value) (σ : Hs) : ru d 75 22 [.ref a0, l1, l2] [] σ = ru d 75 23 [.ref a0, l1, l2] [.ref a0] σ := q_aload_n t75_22 rfl
theorem t75_23 : decode (mb 75) 23 = .ok (.getfield 10, 3) := by decide +kernel
theorem s75_23_o0 (d : Nat) (l0 : Value) (l1 : Value) (l2 : Value) (σ : Hs) : ru d 75 23 [l0, l1, l2] [.ref 0] σ = ru d 75 26 [l0, l1, l2] [.ref 1] σ := q_getf t75_23 mo75 F7_10 rfl rfl
theorem t75_26 : decode (mb 75) 26 = .ok (.getfield 58, 3) := by decide +kernel
theorem s75_26_o1 (d : Nat) (l0 : Value) (l1 : Value) (l2 : Value) (σ : Hs) : ru d 75 26 [l0, l1, l2] [.ref 1] σ = ru d 75 29 [l0, l1, l2] [.ref 2] σ := q_getf t75_26 mo75 F7_58 rfl rfl
theorem t75_29 : decode (mb 75) 29 = .ok (.iload_n 1, 1) := by decide +kernel
theorem s75_29 (d : Nat) (l0 : Value) (i1 : Int32) (l2 : Value) (w0 : Value) (σ : Hs) : ru d 75 29 [l0, .int i1, l2] [w0] σ = ru d 75 30 [l0, .int i1, l2] [.int i1, w0] σ := q_iload_n t75_29 rfl
theorem t75_30 : decode (mb 75) 30 = .ok (.iload_n 2, 1) := by decide +kernel
theorem s75_30 (d : Nat) (l0 : Value) (l1 : Value) (i2 : Int32) (w0 w1 : Value) (σ : Hs) : ru d 75 30 [l0, l1, .int i2] [w0, w1] σ = ru d 75 31 [l0, l1, .int i2] [.int i2, w0, w1] σ := q_iload_n t75_30 rfl
theorem t75_31 : decode (mb 75) 31 = .ok (.invokevirtual 190, 3) := by decide +kernel
theorem s75_31_o2 (d : Nat) (l0 : Value) (l1 : Value) (l2 : Value) (v1 v2 : Value) (σ : Hs) : ru d 75 31 [l0, l1, l2] [v2, v1, .ref 2] σ = kont (callD d 27 [.ref 2, v1, v2] σ) d 75 34 [l0, l1, l2] [] := q_invv t75_31 mo75 K7_190 mj27 rfl rfl rfl rfl (Nat.le_of_ble_eq_true rfl)
theorem t75_34 : decode (mb 75) 34 = .ok (.ireturn, 1) := by decide +kernel
theorem s75_34 (d : Nat) (l0 : Value) (l1 : Value) (l2 : Value) (x : Int32) (σ : Hs) : ru d 75 34 [l0, l1, l2] [.int x] σ = some (some (.int x), σ) := q_ireti t75_34 mr75
theorem c75 (d : Nat) (x0 : Nat) (x1 : Int32) (x2 : Int32) (σ : Hs) : callD (d + 1) 75 [.ref x0, .int x1, .int x2] σ = ru d 75 0 [.ref x0, .int x1, .int x2] [] σ := callD_ru ml75 rfl rfl (Nat.le_of_ble_eq_true rfl)
-- 76: SmokyHeap.heap(I)I
theorem t76_0 : decode (mb 76) 0 = .ok (.iload_n 1, 1) := by decide +kernel
theorem s76_0 (d : Nat) (l0 : Value) (i1 : Int32) (σ : Hs) : ru d 76 0 [l0, .int i1] [] σ = ru d 76 1 [l0, .int i1] [.int i1] σ := q_iload_n t76_0 rfl
theorem t76_1 : decode (mb 76) 1 = .ok (.iconst 0, 1) := by decide +kernel
theorem s76_1 (d : Nat) (l0 : Value) (l1 : Value) (w0 : Value) (σ : Hs) : ru d 76 1 [l0, l1] [w0] σ = ru d 76 2 [l0, l1] [.int 0, w0] σ := q_iconst t76_1 (by decide +kernel)
theorem t76_2 : decode (mb 76) 2 = .ok (.bipush 7, 2) := by decide +kernel
theorem s76_2 (d : Nat) (l0 : Value) (l1 : Value) (w0 w1 : Value) (σ : Hs) : ru d 76 2 [l0, l1] [w0, w1] σ = ru d 76 4 [l0, l1] [.int 7, w0, w1] σ := q_bipush t76_2 (by decide +kernel)
theorem t76_4 : decode (mb 76) 4 = .ok (.invokestatic 83, 3) := by decide +kernel
theorem s76_4 (d : Nat) (l0 : Value) (l1 : Value) (v0 v1 v2 : Value) (σ : Hs) : ru d 76 4 [l0, l1] [v2, v1, v0] σ = kont (callD d 103 [v0, v1, v2] σ) d 76 7 [l0, l1] [] := q_invs t76_4 mo76 (by decide +kernel) K7_83 mj103 (Nat.le_of_ble_eq_true rfl) rfl rfl (Nat.le_of_ble_eq_true rfl)
theorem t76_7 : decode (mb 76) 7 = .ok (.ifCond .ne 9, 3) := by decide +kernel
theorem s76_7 (d : Nat) (l0 : Value) (l1 : Value) (x : Int32) (σ : Hs) : ru d 76 7 [l0, l1] [.int x] σ = if x = 0 then ru d 76 10 [l0, l1] [] σ else ru d 76 16 [l0, l1] [] σ := q_if_ne t76_7 (by decide +kernel)
theorem t76_10 : decode (mb 76) 10 = .ok (.aload_n 0, 1) := by decide +kernel
theorem s76_10 (d : Nat) (a0 : Nat) (l1 : Value) (σ : Hs) : ru d 76 10 [.ref a0, l1] [] σ = ru d 76 11 [.ref a0, l1] [.ref a0] σ := q_aload_n t76_10 rfl
theorem t76_11 : decode (mb 76) 11 = .ok (.iconst 1, 1) := by decide +kernel
theorem s76_11 (d : Nat) (l0 : Value) (l1 : Value) (w0 : Value) (σ : Hs) : ru d 76 11 [l0, l1] [w0] σ = ru d 76 12 [l0, l1] [.int 1, w0] σ := q_iconst t76_11 (by decide +kernel)
theorem t76_12 : decode (mb 76) 12 = .ok (.invokevirtual 65, 3) := by decide +kernel
theorem s76_12_o0 (d : Nat) (l0 : Value) (l1 : Value) (v1 : Value) (σ : Hs) : ru d 76 12 [l0, l1] [v1, .ref 0] σ = kont (callD d 100 [.ref 0, v1] σ) d 76 15 [l0, l1] [] := q_invv t76_12 mo76 K7_65 mj100 rfl rfl rfl rfl (Nat.le_of_ble_eq_true rfl)
theorem t76_15 : decode (mb 76) 15 = .ok (.ireturn, 1) := by decide +kernel
theorem s76_15 (d : Nat) (l0 : Value) (l1 : Value) (x : Int32) (σ : Hs) : ru d 76 15 [l0, l1] [.int x] σ = some (some (.int x), σ) := q_ireti t76_15 mr76
theorem t76_16 : decode (mb 76) 16 = .ok (.aload_n 0, 1) := by decide +kernel
theorem s76_16 (d : Nat) (a0 : Nat) (l1 : Value) (σ : Hs) : ru d 76 16 [.ref a0, l1] [] σ = ru d 76 17 [.ref a0, l1] [.ref a0] σ := q_aload_n t76_16 rfl
theorem t76_17 : decode (mb 76) 17 = .ok (.getfield 10, 3) := by decide +kernel
theorem s76_17_o0 (d : Nat) (l0 : Value) (l1 : Value) (σ : Hs) : ru d 76 17 [l0, l1] [.ref 0] σ = ru d 76 20 [l0, l1] [.ref 1] σ := q_getf t76_17 mo76 F7_10 rfl rfl
theorem t76_20 : decode (mb 76) 20 = .ok (.getfield 58, 3) := by decide +kernel
theorem s76_20_o1 (d : Nat) (l0 : Value) (l1 : Value) (σ : Hs) : ru d 76 20 [l0, l1] [.ref 1] σ = ru d 76 23 [l0, l1] [.ref 2] σ := q_getf t76_20 mo76 F7_58 rfl rfl
theorem t76_23 : decode (mb 76) 23 = .ok (.iload_n 1, 1) := by decide +kernel
theorem s76_23 (d : Nat) (l0 : Value) (i1 : Int32) (w0 : Value) (σ : Hs) : ru d 76 23 [l0, .int i1] [w0] σ = ru d 76 24 [l0, .int i1] [.int i1, w0] σ := q_iload_n t76_23 rfl
theorem t76_24 : decode (mb 76) 24 = .ok (.invokevirtual 193, 3) := by decide +kernel
theorem s76_24_o2 (d : Nat) (l0 : Value) (l1 : Value) (v1 : Value) (σ : Hs) : ru d 76 24 [l0, l1] [v1, .ref 2] σ = kont (callD d 28 [.ref 2, v1] σ) d 76 27 [l0, l1] [] := q_invv t76_24 mo76 K7_193 mj28 rfl rfl rfl rfl (Nat.le_of_ble_eq_true rfl)
theorem t76_27 : decode (mb 76) 27 = .ok (.ireturn, 1) := by decide +kernel
theorem s76_27 (d : Nat) (l0 : Value) (l1 : Value) (x : Int32) (σ : Hs) : ru d 76 27 [l0, l1] [.int x] σ = some (some (.int x), σ) := q_ireti t76_27 mr76
theorem c76 (d : Nat) (x0 : Nat) (x1 : Int32) (σ : Hs) : callD (d + 1) 76 [.ref x0, .int x1] σ = ru d 76 0 [.ref x0, .int x1] [] σ := callD_ru ml76 rfl rfl (Nat.le_of_ble_eq_true rfl)
-- 77: SmokyHeap.may()I
theorem t77_0 : decode (mb 77) 0 = .ok (.aload_n 0, 1) := by decide +kernel
theorem s77_0 (d : Nat) (a0 : Nat) (σ : Hs) : ru d 77 0 [.ref a0] [] σ = ru d 77 1 [.ref a0] [.ref a0] σ := q_aload_n t77_0 rfl
theorem t77_1 : decode (mb 77) 1 = .ok (.invokevirtual 104, 3) := by decide +kernel
theorem s77_1_o0 (d : Nat) (l0 : Value) (σ : Hs) : ru d 77 1 [l0] [.ref 0] σ = kont (callD d 101 [.ref 0] σ) d 77 4 [l0] [] := q_invv t77_1 mo77 K7_104 mj101 rfl rfl rfl rfl (Nat.le_of_ble_eq_true rfl)
theorem t77_4 : decode (mb 77) 4 = .ok (.ifCond .eq 7, 3) := by decide +kernel
theorem s77_4 (d : Nat) (l0 : Value) (x : Int32) (σ : Hs) : ru d 77 4 [l0] [.int x] σ = if x = 0 then ru d 77 11 [l0] [] σ else ru d 77 7 [l0] [] σ := q_if_eq t77_4 (by decide +kernel)
theorem t77_7 : decode (mb 77) 7 = .ok (.iconst 1, 1) := by decide +kernel
theorem s77_7 (d : Nat) (l0 : Value) (σ : Hs) : ru d 77 7 [l0] [] σ = ru d 77 8 [l0] [.int 1] σ := q_iconst t77_7 (by decide +kernel)
theorem t77_8 : decode (mb 77) 8 = .ok (.goto 4, 3) := by decide +kernel
theorem s77_8 (d : Nat) (l0 : Value) (w0 : Value) (σ : Hs) : ru d 77 8 [l0] [w0] σ = ru d 77 12 [l0] [w0] σ := q_goto t77_8 (by decide +kernel)
theorem t77_11 : decode (mb 77) 11 = .ok (.iconst 0, 1) := by decide +kernel
theorem s77_11 (d : Nat) (l0 : Value) (σ : Hs) : ru d 77 11 [l0] [] σ = ru d 77 12 [l0] [.int 0] σ := q_iconst t77_11 (by decide +kernel)
theorem t77_12 : decode (mb 77) 12 = .ok (.ireturn, 1) := by decide +kernel
theorem s77_12 (d : Nat) (l0 : Value) (x : Int32) (σ : Hs) : ru d 77 12 [l0] [.int x] σ = some (some (.int x), σ) := q_ireti t77_12 mr77
theorem c77 (d : Nat) (x0 : Nat) (σ : Hs) : callD (d + 1) 77 [.ref x0] σ = ru d 77 0 [.ref x0] [] σ := callD_ru ml77 rfl rfl (Nat.le_of_ble_eq_true rfl)
-- 78: SmokyHeap.then(II)I
theorem t78_0 : decode (mb 78) 0 = .ok (.iload_n 1, 1) := by decide +kernel
theorem s78_0 (d : Nat) (l0 : Value) (i1 : Int32) (l2 : Value) (σ : Hs) : ru d 78 0 [l0, .int i1, l2] [] σ = ru d 78 1 [l0, .int i1, l2] [.int i1] σ := q_iload_n t78_0 rfl
theorem t78_1 : decode (mb 78) 1 = .ok (.invokestatic 196, 3) := by decide +kernel
theorem s78_1 (d : Nat) (l0 : Value) (l1 : Value) (l2 : Value) (v0 : Value) (σ : Hs) : ru d 78 1 [l0, l1, l2] [v0] σ = kont (callD d 109 [v0] σ) d 78 4 [l0, l1, l2] [] := q_invs t78_1 mo78 (by decide +kernel) K7_196 mj109 (Nat.le_of_ble_eq_true rfl) rfl rfl (Nat.le_of_ble_eq_true rfl)
theorem t78_4 : decode (mb 78) 4 = .ok (.ifCond .eq 13, 3) := by decide +kernel
theorem s78_4 (d : Nat) (l0 : Value) (l1 : Value) (l2 : Value) (x : Int32) (σ : Hs) : ru d 78 4 [l0, l1, l2] [.int x] σ = if x = 0 then ru d 78 17 [l0, l1, l2] [] σ else ru d 78 7 [l0, l1, l2] [] σ := q_if_eq t78_4 (by decide +kernel)
theorem t78_7 : decode (mb 78) 7 = .ok (.iload_n 2, 1) := by decide +kernel
theorem s78_7 (d : Nat) (l0 : Value) (l1 : Value) (i2 : Int32) (σ : Hs) : ru d 78 7 [l0, l1, .int i2] [] σ = ru d 78 8 [l0, l1, .int i2] [.int i2] σ := q_iload_n t78_7 rfl
theorem t78_8 : decode (mb 78) 8 = .ok (.iconst 0, 1) := by decide +kernel
theorem s78_8 (d : Nat) (l0 : Value) (l1 : Value) (l2 : Value) (w0 : Value) (σ : Hs) : ru d 78 8 [l0, l1, l2] [w0] σ = ru d 78 9 [l0, l1, l2] [.int 0, w0] σ := q_iconst t78_8 (by decide +kernel)
theorem t78_9 : decode (mb 78) 9 = .ok (.bipush 7, 2) := by decide +kernel
theorem s78_9 (d : Nat) (l0 : Value) (l1 : Value) (l2 : Value) (w0 w1 : Value) (σ : Hs) : ru d 78 9 [l0, l1, l2] [w0, w1] σ = ru d 78 11 [l0, l1, l2] [.int 7, w0, w1] σ := q_bipush t78_9 (by decide +kernel)
theorem t78_11 : decode (mb 78) 11 = .ok (.invokestatic 83, 3) := by decide +kernel
theorem s78_11 (d : Nat) (l0 : Value) (l1 : Value) (l2 : Value) (v0 v1 v2 : Value) (σ : Hs) : ru d 78 11 [l0, l1, l2] [v2, v1, v0] σ = kont (callD d 103 [v0, v1, v2] σ) d 78 14 [l0, l1, l2] [] := q_invs t78_11 mo78 (by decide +kernel) K7_83 mj103 (Nat.le_of_ble_eq_true rfl) rfl rfl (Nat.le_of_ble_eq_true rfl)
theorem t78_14 : decode (mb 78) 14 = .ok (.ifCond .ne 9, 3) := by decide +kernel
theorem s78_14 (d : Nat) (l0 : Value) (l1 : Value) (l2 : Value) (x : Int32) (σ : Hs) : ru d 78 14 [l0, l1, l2] [.int x] σ = if x = 0 then ru d 78 17 [l0, l1, l2] [] σ else ru d 78 23 [l0, l1, l2] [] σ := q_if_ne t78_14 (by decide +kernel)
theorem t78_17 : decode (mb 78) 17 = .ok (.aload_n 0, 1) := by decide +kernel
theorem s78_17 (d : Nat) (a0 : Nat) (l1 : Value) (l2 : Value) (σ : Hs) : ru d 78 17 [.ref a0, l1, l2] [] σ = ru d 78 18 [.ref a0, l1, l2] [.ref a0] σ := q_aload_n t78_17 rfl
theorem t78_18 : decode (mb 78) 18 = .ok (.iconst 1, 1) := by decide +kernel
theorem s78_18 (d : Nat) (l0 : Value) (l1 : Value) (l2 : Value) (w0 : Value) (σ : Hs) : ru d 78 18 [l0, l1, l2] [w0] σ = ru d 78 19 [l0, l1, l2] [.int 1, w0] σ := q_iconst t78_18 (by decide +kernel)
theorem t78_19 : decode (mb 78) 19 = .ok (.invokevirtual 65, 3) := by decide +kernel
theorem s78_19_o0 (d : Nat) (l0 : Value) (l1 : Value) (l2 : Value) (v1 : Value) (σ : Hs) : ru d 78 19 [l0, l1, l2] [v1, .ref 0] σ = kont (callD d 100 [.ref 0, v1] σ) d 78 22 [l0, l1, l2] [] := q_invv t78_19 mo78 K7_65 mj100 rfl rfl rfl rfl (Nat.le_of_ble_eq_true rfl)
theorem t78_22 : decode (mb 78) 22 = .ok (.ireturn, 1) := by decide +kernel
theorem s78_22 (d : Nat) (l0 : Value) (l1 : Value) (l2 : Value) (x : Int32) (σ : Hs) : ru d 78 22 [l0, l1, l2] [.int x] σ = some (some (.int x), σ) := q_ireti t78_22 mr78
theorem t78_23 : decode (mb 78) 23 = .ok (.aload_n 0, 1) := by decide +kernel
theorem s78_23 (d : Nat) (a0 : Nat) (l1 : Value) (l2 : Value) (σ : Hs) : ru d 78 23 [.ref a0, l1, l2] [] σ = ru d 78 24 [.ref a0, l1, l2] [.ref a0] σ := q_aload_n t78_23 rfl
theorem t78_24 : decode (mb 78) 24 = .ok (.getfield 22, 3) := by decide +kernel
theorem s78_24_o0 (d : Nat) (l0 : Value) (l1 : Value) (l2 : Value) (σ : Hs) : ru d 78 24 [l0, l1, l2] [.ref 0] σ = ru d 78 27 [l0, l1, l2] [.ref 59] σ := q_getf t78_24 mo78 F7_22 rfl rfl
theorem t78_27 : decode (mb 78) 27 = .ok (.aload_n 0, 1) := by decide +kernel
theorem s78_27 (d : Nat) (a0 : Nat) (l1 : Value) (l2 : Value) (w0 : Value) (σ : Hs) : ru d 78 27 [.ref a0, l1, l2] [w0] σ = ru d 78 28 [.ref a0, l1, l2] [.ref a0, w0] σ := q_aload_n t78_27 rfl
theorem t78_28 : decode (mb 78) 28 = .ok (.getfield 10, 3) := by decide +kernel
theorem s78_28_o0 (d : Nat) (l0 : Value) (l1 : Value) (l2 : Value) (w0 : Value) (σ : Hs) : ru d 78 28 [l0, l1, l2] [.ref 0, w0] σ = ru d 78 31 [l0, l1, l2] [.ref 1, w0] σ := q_getf t78_28 mo78 F7_10 rfl rfl
theorem t78_31 : decode (mb 78) 31 = .ok (.getfield 58, 3) := by decide +kernel
theorem s78_31_o1 (d : Nat) (l0 : Value) (l1 : Value) (l2 : Value) (w0 : Value) (σ : Hs) : ru d 78 31 [l0, l1, l2] [.ref 1, w0] σ = ru d 78 34 [l0, l1, l2] [.ref 2, w0] σ := q_getf t78_31 mo78 F7_58 rfl rfl
theorem t78_34 : decode (mb 78) 34 = .ok (.invokevirtual 199, 3) := by decide +kernel
theorem s78_34_o59 (d : Nat) (l0 : Value) (l1 : Value) (l2 : Value) (v1 : Value) (σ : Hs) : ru d 78 34 [l0, l1, l2] [v1, .ref 59] σ = kont (callD d 0 [.ref 59, v1] σ) d 78 37 [l0, l1, l2] [] := q_invv t78_34 mo78 K7_199 mj0 rfl rfl rfl rfl (Nat.le_of_ble_eq_true rfl)
theorem t78_37 : decode (mb 78) 37 = .ok (.aload_n 0, 1) := by decide +kernel
theorem s78_37 (d : Nat) (a0 : Nat) (l1 : Value) (l2 : Value) (σ : Hs) : ru d 78 37 [.ref a0, l1, l2] [] σ = ru d 78 38 [.ref a0, l1, l2] [.ref a0] σ := q_aload_n t78_37 rfl
theorem t78_38 : decode (mb 78) 38 = .ok (.getfield 22, 3) := by decide +kernel
theorem s78_38_o0 (d : Nat) (l0 : Value) (l1 : Value) (l2 : Value) (σ : Hs) : ru d 78 38 [l0, l1, l2] [.ref 0] σ = ru d 78 41 [l0, l1, l2] [.ref 59] σ := q_getf t78_38 mo78 F7_22 rfl rfl
theorem t78_41 : decode (mb 78) 41 = .ok (.iload_n 1, 1) := by decide +kernel
theorem s78_41 (d : Nat) (l0 : Value) (i1 : Int32) (l2 : Value) (w0 : Value) (σ : Hs) : ru d 78 41 [l0, .int i1, l2] [w0] σ = ru d 78 42 [l0, .int i1, l2] [.int i1, w0] σ := q_iload_n t78_41 rfl
theorem t78_42 : decode (mb 78) 42 = .ok (.aload_n 0, 1) := by decide +kernel
theorem s78_42 (d : Nat) (a0 : Nat) (l1 : Value) (l2 : Value) (w0 w1 : Value) (σ : Hs) : ru d 78 42 [.ref a0, l1, l2] [w0, w1] σ = ru d 78 43 [.ref a0, l1, l2] [.ref a0, w0, w1] σ := q_aload_n t78_42 rfl
theorem t78_43 : decode (mb 78) 43 = .ok (.getfield 10, 3) := by decide +kernel
theorem s78_43_o0 (d : Nat) (l0 : Value) (l1 : Value) (l2 : Value) (w0 w1 : Value) (σ : Hs) : ru d 78 43 [l0, l1, l2] [.ref 0, w0, w1] σ = ru d 78 46 [l0, l1, l2] [.ref 1, w0, w1] σ := q_getf t78_43 mo78 F7_10 rfl rfl
theorem t78_46 : decode (mb 78) 46 = .ok (.getfield 146, 3) := by decide +kernel
theorem s78_46_o1 (d : Nat) (l0 : Value) (l1 : Value) (l2 : Value) (w0 w1 : Value) (σ : Hs) : ru d 78 46 [l0, l1, l2] [.ref 1, w0, w1] σ = ru d 78 49 [l0, l1, l2] [.ref 13, w0, w1] σ := q_getf t78_46 mo78 F7_146 rfl rfl
theorem t78_49 : decode (mb 78) 49 = .ok (.invokevirtual 168, 3) := by decide +kernel
theorem s78_49_o59 (d : Nat) (l0 : Value) (l1 : Value) (l2 : Value) (v1 v2 : Value) (σ : Hs) : ru d 78 49 [l0, l1, l2] [v2, v1, .ref 59] σ = kont (callD d 13 [.ref 59, v1, v2] σ) d 78 52 [l0, l1, l2] [] := q_invv t78_49 mo78 K7_168 mj13 rfl rfl rfl rfl (Nat.le_of_ble_eq_true rfl)
theorem t78_52 : decode (mb 78) 52 = .ok (.aload_n 0, 1) := by decide +kernel
theorem s78_52 (d : Nat) (a0 : Nat) (l1 : Value) (l2 : Value) (σ : Hs) : ru d 78 52 [.ref a0, l1, l2] [] σ = ru d 78 53 [.ref a0, l1, l2] [.ref a0] σ := q_aload_n t78_52 rfl
theorem t78_53 : decode (mb 78) 53 = .ok (.getfield 22, 3) := by decide +kernel
theorem s78_53_o0 (d : Nat) (l0 : Value) (l1 : Value) (l2 : Value) (σ : Hs) : ru d 78 53 [l0, l1, l2] [.ref 0] σ = ru d 78 56 [l0, l1, l2] [.ref 59] σ := q_getf t78_53 mo78 F7_22 rfl rfl
theorem t78_56 : decode (mb 78) 56 = .ok (.iload_n 2, 1) := by decide +kernel
theorem s78_56 (d : Nat) (l0 : Value) (l1 : Value) (i2 : Int32) (w0 : Value) (σ : Hs) : ru d 78 56 [l0, l1, .int i2] [w0] σ = ru d 78 57 [l0, l1, .int i2] [.int i2, w0] σ := q_iload_n t78_56 rfl
theorem t78_57 : decode (mb 78) 57 = .ok (.invokevirtual 193, 3) := by decide +kernel
theorem s78_57_o59 (d : Nat) (l0 : Value) (l1 : Value) (l2 : Value) (v1 : Value) (σ : Hs) : ru d 78 57 [l0, l1, l2] [v1, .ref 59] σ = kont (callD d 28 [.ref 59, v1] σ) d 78 60 [l0, l1, l2] [] := q_invv t78_57 mo78 K7_193 mj28 rfl rfl rfl rfl (Nat.le_of_ble_eq_true rfl)
theorem t78_60 : decode (mb 78) 60 = .ok (.ireturn, 1) := by decide +kernel
theorem s78_60 (d : Nat) (l0 : Value) (l1 : Value) (l2 : Value) (x : Int32) (σ : Hs) : ru d 78 60 [l0, l1, l2] [.int x] σ = some (some (.int x), σ) := q_ireti t78_60 mr78
theorem c78 (d : Nat) (x0 : Nat) (x1 : Int32) (x2 : Int32) (σ : Hs) : callD (d + 1) 78 [.ref x0, .int x1, .int x2] σ = ru d 78 0 [.ref x0, .int x1, .int x2] [] σ := callD_ru ml78 rfl rfl (Nat.le_of_ble_eq_true rfl)
-- 79: SmokyHeap.gardenThen(III)I
theorem t79_0 : decode (mb 79) 0 = .ok (.iload_n 1, 1) := by decide +kernel
theorem s79_0 (d : Nat) (l0 : Value) (i1 : Int32) (l2 : Value) (l3 : Value) (σ : Hs) : ru d 79 0 [l0, .int i1, l2, l3] [] σ = ru d 79 1 [l0, .int i1, l2, l3] [.int i1] σ := q_iload_n t79_0 rfl
theorem t79_1 : decode (mb 79) 1 = .ok (.invokestatic 196, 3) := by decide +kernel
theorem s79_1 (d : Nat) (l0 : Value) (l1 : Value) (l2 : Value) (l3 : Value) (v0 : Value) (σ : Hs) : ru d 79 1 [l0, l1, l2, l3] [v0] σ = kont (callD d 109 [v0] σ) d 79 4 [l0, l1, l2, l3] [] := q_invs t79_1 mo79 (by decide +kernel) K7_196 mj109 (Nat.le_of_ble_eq_true rfl) rfl rfl (Nat.le_of_ble_eq_true rfl)
theorem t79_4 : decode (mb 79) 4 = .ok (.ifCond .eq 19, 3) := by decide +kernel
theorem s79_4 (d : Nat) (l0 : Value) (l1 : Value) (l2 : Value) (l3 : Value) (x : Int32) (σ : Hs) : ru d 79 4 [l0, l1, l2, l3] [.int x] σ = if x = 0 then ru d 79 23 [l0, l1, l2, l3] [] σ else ru d 79 7 [l0, l1, l2, l3] [] σ := q_if_eq t79_4 (by decide +kernel)
theorem t79_7 : decode (mb 79) 7 = .ok (.iload_n 2, 1) := by decide +kernel
theorem s79_7 (d : Nat) (l0 : Value) (l1 : Value) (i2 : Int32) (l3 : Value) (σ : Hs) : ru d 79 7 [l0, l1, .int i2, l3] [] σ = ru d 79 8 [l0, l1, .int i2, l3] [.int i2] σ := q_iload_n t79_7 rfl
theorem t79_8 : decode (mb 79) 8 = .ok (.invokestatic 179, 3) := by decide +kernel
theorem s79_8 (d : Nat) (l0 : Value) (l1 : Value) (l2 : Value) (l3 : Value) (v0 : Value) (σ : Hs) : ru d 79 8 [l0, l1, l2, l3] [v0] σ = kont (callD d 107 [v0] σ) d 79 11 [l0, l1, l2, l3] [] := q_invs t79_8 mo79 (by decide +kernel) K7_179 mj107 (Nat.le_of_ble_eq_true rfl) rfl rfl (Nat.le_of_ble_eq_true rfl)
theorem t79_11 : decode (mb 79) 11 = .ok (.ifCond .eq 12, 3) := by decide +kernel
theorem s79_11 (d : Nat) (l0 : Value) (l1 : Value) (l2 : Value) (l3 : Value) (x : Int32) (σ : Hs) : ru d 79 11 [l0, l1, l2, l3] [.int x] σ = if x = 0 then ru d 79 23 [l0, l1, l2, l3] [] σ else ru d 79 14 [l0, l1, l2, l3] [] σ := q_if_eq t79_11 (by decide +kernel)
theorem t79_14 : decode (mb 79) 14 = .ok (.iload_n 3, 1) := by decide +kernel
theorem s79_14 (d : Nat) (l0 : Value) (l1 : Value) (l2 : Value) (i3 : Int32) (σ : Hs) : ru d 79 14 [l0, l1, l2, .int i3] [] σ = ru d 79 15 [l0, l1, l2, .int i3] [.int i3] σ := q_iload_n t79_14 rfl
theorem t79_15 : decode (mb 79) 15 = .ok (.iconst 0, 1) := by decide +kernel
theorem s79_15 (d : Nat) (l0 : Value) (l1 : Value) (l2 : Value) (l3 : Value) (w0 : Value) (σ : Hs) : ru d 79 15 [l0, l1, l2, l3] [w0] σ = ru d 79 16 [l0, l1, l2, l3] [.int 0, w0] σ := q_iconst t79_15 (by decide +kernel)
theorem t79_16 : decode (mb 79) 16 = .ok (.iconst 2, 1) := by decide +kernel
theorem s79_16 (d : Nat) (l0 : Value) (l1 : Value) (l2 : Value) (l3 : Value) (w0 w1 : Value) (σ : Hs) : ru d 79 16 [l0, l1, l2, l3] [w0, w1] σ = ru d 79 17 [l0, l1, l2, l3] [.int 2, w0, w1] σ := q_iconst t79_16 (by decide +kernel)
theorem t79_17 : decode (mb 79) 17 = .ok (.invokestatic 83, 3) := by decide +kernel
theorem s79_17 (d : Nat) (l0 : Value) (l1 : Value) (l2 : Value) (l3 : Value) (v0 v1 v2 : Value) (σ : Hs) : ru d 79 17 [l0, l1, l2, l3] [v2, v1, v0] σ = kont (callD d 103 [v0, v1, v2] σ) d 79 20 [l0, l1, l2, l3] [] := q_invs t79_17 mo79 (by decide +kernel) K7_83 mj103 (Nat.le_of_ble_eq_true rfl) rfl rfl (Nat.le_of_ble_eq_true rfl)
theorem t79_20 : decode (mb 79) 20 = .ok (.ifCond .ne 9, 3) := by decide +kernel
theorem s79_20 (d : Nat) (l0 : Value) (l1 : Value) (l2 : Value) (l3 : Value) (x : Int32) (σ : Hs) : ru d 79 20 [l0, l1, l2, l3] [.int x] σ = if x = 0 then ru d 79 23 [l0, l1, l2, l3] [] σ else ru d 79 29 [l0, l1, l2, l3] [] σ := q_if_ne t79_20 (by decide +kernel)
theorem t79_23 : decode (mb 79) 23 = .ok (.aload_n 0, 1) := by decide +kernel
theorem s79_23 (d : Nat) (a0 : Nat) (l1 : Value) (l2 : Value) (l3 : Value) (σ : Hs) : ru d 79 23 [.ref a0, l1, l2, l3] [] σ = ru d 79 24 [.ref a0, l1, l2, l3] [.ref a0] σ := q_aload_n t79_23 rfl
theorem t79_24 : decode (mb 79) 24 = .ok (.iconst 1, 1) := by decide +kernel
theorem s79_24 (d : Nat) (l0 : Value) (l1 : Value) (l2 : Value) (l3 : Value) (w0 : Value) (σ : Hs) : ru d 79 24 [l0, l1, l2, l3] [w0] σ = ru d 79 25 [l0, l1, l2, l3] [.int 1, w0] σ := q_iconst t79_24 (by decide +kernel)
theorem t79_25 : decode (mb 79) 25 = .ok (.invokevirtual 65, 3) := by decide +kernel
theorem s79_25_o0 (d : Nat) (l0 : Value) (l1 : Value) (l2 : Value) (l3 : Value) (v1 : Value) (σ : Hs) : ru d 79 25 [l0, l1, l2, l3] [v1, .ref 0] σ = kont (callD d 100 [.ref 0, v1] σ) d 79 28 [l0, l1, l2, l3] [] := q_invv t79_25 mo79 K7_65 mj100 rfl rfl rfl rfl (Nat.le_of_ble_eq_true rfl)
theorem t79_28 : decode (mb 79) 28 = .ok (.ireturn, 1) := by decide +kernel
theorem s79_28 (d : Nat) (l0 : Value) (l1 : Value) (l2 : Value) (l3 : Value) (x : Int32) (σ : Hs) : ru d 79 28 [l0, l1, l2, l3] [.int x] σ = some (some (.int x), σ) := q_ireti t79_28 mr79
theorem t79_29 : decode (mb 79) 29 = .ok (.aload_n 0, 1) := by decide +kernel
theorem s79_29 (d : Nat) (a0 : Nat) (l1 : Value) (l2 : Value) (l3 : Value) (σ : Hs) : ru d 79 29 [.ref a0, l1, l2, l3] [] σ = ru d 79 30 [.ref a0, l1, l2, l3] [.ref a0] σ := q_aload_n t79_29 rfl
theorem t79_30 : decode (mb 79) 30 = .ok (.getfield 22, 3) := by decide +kernel
theorem s79_30_o0 (d : Nat) (l0 : Value) (l1 : Value) (l2 : Value) (l3 : Value) (σ : Hs) : ru d 79 30 [l0, l1, l2, l3] [.ref 0] σ = ru d 79 33 [l0, l1, l2, l3] [.ref 59] σ := q_getf t79_30 mo79 F7_22 rfl rfl
theorem t79_33 : decode (mb 79) 33 = .ok (.aload_n 0, 1) := by decide +kernel
theorem s79_33 (d : Nat) (a0 : Nat) (l1 : Value) (l2 : Value) (l3 : Value) (w0 : Value) (σ : Hs) : ru d 79 33 [.ref a0, l1, l2, l3] [w0] σ = ru d 79 34 [.ref a0, l1, l2, l3] [.ref a0, w0] σ := q_aload_n t79_33 rfl
theorem t79_34 : decode (mb 79) 34 = .ok (.getfield 10, 3) := by decide +kernel
theorem s79_34_o0 (d : Nat) (l0 : Value) (l1 : Value) (l2 : Value) (l3 : Value) (w0 : Value) (σ : Hs) : ru d 79 34 [l0, l1, l2, l3] [.ref 0, w0] σ = ru d 79 37 [l0, l1, l2, l3] [.ref 1, w0] σ := q_getf t79_34 mo79 F7_10 rfl rfl
theorem t79_37 : decode (mb 79) 37 = .ok (.getfield 58, 3) := by decide +kernel
theorem s79_37_o1 (d : Nat) (l0 : Value) (l1 : Value) (l2 : Value) (l3 : Value) (w0 : Value) (σ : Hs) : ru d 79 37 [l0, l1, l2, l3] [.ref 1, w0] σ = ru d 79 40 [l0, l1, l2, l3] [.ref 2, w0] σ := q_getf t79_37 mo79 F7_58 rfl rfl
theorem t79_40 : decode (mb 79) 40 = .ok (.invokevirtual 199, 3) := by decide +kernel
theorem s79_40_o59 (d : Nat) (l0 : Value) (l1 : Value) (l2 : Value) (l3 : Value) (v1 : Value) (σ : Hs) : ru d 79 40 [l0, l1, l2, l3] [v1, .ref 59] σ = kont (callD d 0 [.ref 59, v1] σ) d 79 43 [l0, l1, l2, l3] [] := q_invv t79_40 mo79 K7_199 mj0 rfl rfl rfl rfl (Nat.le_of_ble_eq_true rfl)
theorem t79_43 : decode (mb 79) 43 = .ok (.aload_n 0, 1) := by decide +kernel
theorem s79_43 (d : Nat) (a0 : Nat) (l1 : Value) (l2 : Value) (l3 : Value) (σ : Hs) : ru d 79 43 [.ref a0, l1, l2, l3] [] σ = ru d 79 44 [.ref a0, l1, l2, l3] [.ref a0] σ := q_aload_n t79_43 rfl
theorem t79_44 : decode (mb 79) 44 = .ok (.getfield 22, 3) := by decide +kernel
theorem s79_44_o0 (d : Nat) (l0 : Value) (l1 : Value) (l2 : Value) (l3 : Value) (σ : Hs) : ru d 79 44 [l0, l1, l2, l3] [.ref 0] σ = ru d 79 47 [l0, l1, l2, l3] [.ref 59] σ := q_getf t79_44 mo79 F7_22 rfl rfl
theorem t79_47 : decode (mb 79) 47 = .ok (.iload_n 1, 1) := by decide +kernel
theorem s79_47 (d : Nat) (l0 : Value) (i1 : Int32) (l2 : Value) (l3 : Value) (w0 : Value) (σ : Hs) : ru d 79 47 [l0, .int i1, l2, l3] [w0] σ = ru d 79 48 [l0, .int i1, l2, l3] [.int i1, w0] σ := q_iload_n t79_47 rfl
theorem t79_48 : decode (mb 79) 48 = .ok (.aload_n 0, 1) := by decide +kernel
theorem s79_48 (d : Nat) (a0 : Nat) (l1 : Value) (l2 : Value) (l3 : Value) (w0 w1 : Value) (σ : Hs) : ru d 79 48 [.ref a0, l1, l2, l3] [w0, w1] σ = ru d 79 49 [.ref a0, l1, l2, l3] [.ref a0, w0, w1] σ := q_aload_n t79_48 rfl
theorem t79_49 : decode (mb 79) 49 = .ok (.getfield 10, 3) := by decide +kernel
theorem s79_49_o0 (d : Nat) (l0 : Value) (l1 : Value) (l2 : Value) (l3 : Value) (w0 w1 : Value) (σ : Hs) : ru d 79 49 [l0, l1, l2, l3] [.ref 0, w0, w1] σ = ru d 79 52 [l0, l1, l2, l3] [.ref 1, w0, w1] σ := q_getf t79_49 mo79 F7_10 rfl rfl
theorem t79_52 : decode (mb 79) 52 = .ok (.getfield 146, 3) := by decide +kernel
theorem s79_52_o1 (d : Nat) (l0 : Value) (l1 : Value) (l2 : Value) (l3 : Value) (w0 w1 : Value) (σ : Hs) : ru d 79 52 [l0, l1, l2, l3] [.ref 1, w0, w1] σ = ru d 79 55 [l0, l1, l2, l3] [.ref 13, w0, w1] σ := q_getf t79_52 mo79 F7_146 rfl rfl
theorem t79_55 : decode (mb 79) 55 = .ok (.invokevirtual 168, 3) := by decide +kernel
theorem s79_55_o59 (d : Nat) (l0 : Value) (l1 : Value) (l2 : Value) (l3 : Value) (v1 v2 : Value) (σ : Hs) : ru d 79 55 [l0, l1, l2, l3] [v2, v1, .ref 59] σ = kont (callD d 13 [.ref 59, v1, v2] σ) d 79 58 [l0, l1, l2, l3] [] := q_invv t79_55 mo79 K7_168 mj13 rfl rfl rfl rfl (Nat.le_of_ble_eq_true rfl)
theorem t79_58 : decode (mb 79) 58 = .ok (.aload_n 0, 1) := by decide +kernel
theorem s79_58 (d : Nat) (a0 : Nat) (l1 : Value) (l2 : Value) (l3 : Value) (σ : Hs) : ru d 79 58 [.ref a0, l1, l2, l3] [] σ = ru d 79 59 [.ref a0, l1, l2, l3] [.ref a0] σ := q_aload_n t79_58 rfl
theorem t79_59 : decode (mb 79) 59 = .ok (.getfield 22, 3) := by decide +kernel
theorem s79_59_o0 (d : Nat) (l0 : Value) (l1 : Value) (l2 : Value) (l3 : Value) (σ : Hs) : ru d 79 59 [l0, l1, l2, l3] [.ref 0] σ = ru d 79 62 [l0, l1, l2, l3] [.ref 59] σ := q_getf t79_59 mo79 F7_22 rfl rfl
theorem t79_62 : decode (mb 79) 62 = .ok (.iload_n 2, 1) := by decide +kernel
theorem s79_62 (d : Nat) (l0 : Value) (l1 : Value) (i2 : Int32) (l3 : Value) (w0 : Value) (σ : Hs) : ru d 79 62 [l0, l1, .int i2, l3] [w0] σ = ru d 79 63 [l0, l1, .int i2, l3] [.int i2, w0] σ := q_iload_n t79_62 rfl
theorem t79_63 : decode (mb 79) 63 = .ok (.iload_n 3, 1) := by decide +kernel
theorem s79_63 (d : Nat) (l0 : Value) (l1 : Value) (l2 : Value) (i3 : Int32) (w0 w1 : Value) (σ : Hs) : ru d 79 63 [l0, l1, l2, .int i3] [w0, w1] σ = ru d 79 64 [l0, l1, l2, .int i3] [.int i3, w0, w1] σ := q_iload_n t79_63 rfl
theorem t79_64 : decode (mb 79) 64 = .ok (.invokevirtual 190, 3) := by decide +kernel
theorem s79_64_o59 (d : Nat) (l0 : Value) (l1 : Value) (l2 : Value) (l3 : Value) (v1 v2 : Value) (σ : Hs) : ru d 79 64 [l0, l1, l2, l3] [v2, v1, .ref 59] σ = kont (callD d 27 [.ref 59, v1, v2] σ) d 79 67 [l0, l1, l2, l3] [] := q_invv t79_64 mo79 K7_190 mj27 rfl rfl rfl rfl (Nat.le_of_ble_eq_true rfl)
theorem t79_67 : decode (mb 79) 67 = .ok (.ireturn, 1) := by decide +kernel
theorem s79_67 (d : Nat) (l0 : Value) (l1 : Value) (l2 : Value) (l3 : Value) (x : Int32) (σ : Hs) : ru d 79 67 [l0, l1, l2, l3] [.int x] σ = some (some (.int x), σ) := q_ireti t79_67 mr79
theorem c79 (d : Nat) (x0 : Nat) (x1 : Int32) (x2 : Int32) (x3 : Int32) (σ : Hs) : callD (d + 1) 79 [.ref x0, .int x1, .int x2, .int x3] σ = ru d 79 0 [.ref x0, .int x1, .int x2, .int x3] [] σ := callD_ru ml79 rfl rfl (Nat.le_of_ble_eq_true rfl)
-- 80: SmokyHeap.hour(II)I
theorem t80_0 : decode (mb 80) 0 = .ok (.iload_n 1, 1) := by decide +kernel
theorem s80_0 (d : Nat) (l0 : Value) (i1 : Int32) (l2 : Value) (l3 : Value) (l4 : Value) (l5 : Value) (l6 : Value) (σ : Hs) : ru d 80 0 [l0, .int i1, l2, l3, l4, l5, l6] [] σ = ru d 80 1 [l0, .int i1, l2, l3, l4, l5, l6] [.int i1] σ := q_iload_n t80_0 rfl
theorem t80_1 : decode (mb 80) 1 = .ok (.invokestatic 69, 3) := by decide +kernel
theorem s80_1 (d : Nat) (l0 : Value) (l1 : Value) (l2 : Value) (l3 : Value) (l4 : Value) (l5 : Value) (l6 : Value) (v0 : Value) (σ : Hs) : ru d 80 1 [l0, l1, l2, l3, l4, l5, l6] [v0] σ = kont (callD d 104 [v0] σ) d 80 4 [l0, l1, l2, l3, l4, l5, l6] [] := q_invs t80_1 mo80 (by decide +kernel) K7_69 mj104 (Nat.le_of_ble_eq_true rfl) rfl rfl (Nat.le_of_ble_eq_true rfl)
theorem t80_4 : decode (mb 80) 4 = .ok (.ifCond .eq 10, 3) := by decide +kernel
theorem s80_4 (d : Nat) (l0 : Value) (l1 : Value) (l2 : Value) (l3 : Value) (l4 : Value) (l5 : Value) (l6 : Value) (x : Int32) (σ : Hs) : ru d 80 4 [l0, l1, l2, l3, l4, l5, l6] [.int x] σ = if x = 0 then ru d 80 14 [l0, l1, l2, l3, l4, l5, l6] [] σ else ru d 80 7 [l0, l1, l2, l3, l4, l5, l6] [] σ := q_if_eq t80_4 (by decide +kernel)
theorem t80_7 : decode (mb 80) 7 = .ok (.iload_n 2, 1) := by decide +kernel
theorem s80_7 (d : Nat) (l0 : Value) (l1 : Value) (i2 : Int32) (l3 : Value) (l4 : Value) (l5 : Value) (l6 : Value) (σ : Hs) : ru d 80 7 [l0, l1, .int i2, l3, l4, l5, l6] [] σ = ru d 80 8 [l0, l1, .int i2, l3, l4, l5, l6] [.int i2] σ := q_iload_n t80_7 rfl
theorem t80_8 : decode (mb 80) 8 = .ok (.invokestatic 196, 3) := by decide +kernel
theorem s80_8 (d : Nat) (l0 : Value) (l1 : Value) (l2 : Value) (l3 : Value) (l4 : Value) (l5 : Value) (l6 : Value) (v0 : Value) (σ : Hs) : ru d 80 8 [l0, l1, l2, l3, l4, l5, l6] [v0] σ = kont (callD d 109 [v0] σ) d 80 11 [l0, l1, l2, l3, l4, l5, l6] [] := q_invs t80_8 mo80 (by decide +kernel) K7_196 mj109 (Nat.le_of_ble_eq_true rfl) rfl rfl (Nat.le_of_ble_eq_true rfl)
theorem t80_11 : decode (mb 80) 11 = .ok (.ifCond .ne 9, 3) := by decide +kernel
theorem s80_11 (d : Nat) (l0 : Value) (l1 : Value) (l2 : Value) (l3 : Value) (l4 : Value) (l5 : Value) (l6 : Value) (x : Int32) (σ : Hs) : ru d 80 11 [l0, l1, l2, l3, l4, l5, l6] [.int x] σ = if x = 0 then ru d 80 14 [l0, l1, l2, l3, l4, l5, l6] [] σ else ru d 80 20 [l0, l1, l2, l3, l4, l5, l6] [] σ := q_if_ne t80_11 (by decide +kernel)
theorem t80_14 : decode (mb 80) 14 = .ok (.aload_n 0, 1) := by decide +kernel
theorem s80_14 (d : Nat) (a0 : Nat) (l1 : Value) (l2 : Value) (l3 : Value) (l4 : Value) (l5 : Value) (l6 : Value) (σ : Hs) : ru d 80 14 [.ref a0, l1, l2, l3, l4, l5, l6] [] σ = ru d 80 15 [.ref a0, l1, l2, l3, l4, l5, l6] [.ref a0] σ := q_aload_n t80_14 rfl
theorem t80_15 : decode (mb 80) 15 = .ok (.iconst 1, 1) := by decide +kernel
theorem s80_15 (d : Nat) (l0 : Value) (l1 : Value) (l2 : Value) (l3 : Value) (l4 : Value) (l5 : Value) (l6 : Value) (w0 : Value) (σ : Hs) : ru d 80 15 [l0, l1, l2, l3, l4, l5, l6] [w0] σ = ru d 80 16 [l0, l1, l2, l3, l4, l5, l6] [.int 1, w0] σ := q_iconst t80_15 (by decide +kernel)
theorem t80_16 : decode (mb 80) 16 = .ok (.invokevirtual 65, 3) := by decide +kernel
theorem s80_16_o0 (d : Nat) (l0 : Value) (l1 : Value) (l2 : Value) (l3 : Value) (l4 : Value) (l5 : Value) (l6 : Value) (v1 : Value) (σ : Hs) : ru d 80 16 [l0, l1, l2, l3, l4, l5, l6] [v1, .ref 0] σ = kont (callD d 100 [.ref 0, v1] σ) d 80 19 [l0, l1, l2, l3, l4, l5, l6] [] := q_invv t80_16 mo80 K7_65 mj100 rfl rfl rfl rfl (Nat.le_of_ble_eq_true rfl)
theorem t80_19 : decode (mb 80) 19 = .ok (.ireturn, 1) := by decide +kernel
theorem s80_19 (d : Nat) (l0 : Value) (l1 : Value) (l2 : Value) (l3 : Value) (l4 : Value) (l5 : Value) (l6 : Value) (x : Int32) (σ : Hs) : ru d 80 19 [l0, l1, l2, l3, l4, l5, l6] [.int x] σ = some (some (.int x), σ) := q_ireti t80_19 mr80
theorem t80_20 : decode (mb 80) 20 = .ok (.aload_n 0, 1) := by decide +kernel
theorem s80_20 (d : Nat) (a0 : Nat) (l1 : Value) (l2 : Value) (l3 : Value) (l4 : Value) (l5 : Value) (l6 : Value) (σ : Hs) : ru d 80 20 [.ref a0, l1, l2, l3, l4, l5, l6] [] σ = ru d 80 21 [.ref a0, l1, l2, l3, l4, l5, l6] [.ref a0] σ := q_aload_n t80_20 rfl
theorem t80_21 : decode (mb 80) 21 = .ok (.getfield 10, 3) := by decide +kernel
theorem s80_21_o0 (d : Nat) (l0 : Value) (l1 : Value) (l2 : Value) (l3 : Value) (l4 : Value) (l5 : Value) (l6 : Value) (σ : Hs) : ru d 80 21 [l0, l1, l2, l3, l4, l5, l6] [.ref 0] σ = ru d 80 24 [l0, l1, l2, l3, l4, l5, l6] [.ref 1] σ := q_getf t80_21 mo80 F7_10 rfl rfl
theorem t80_24 : decode (mb 80) 24 = .ok (.getfield 58, 3) := by decide +kernel
theorem s80_24_o1 (d : Nat) (l0 : Value) (l1 : Value) (l2 : Value) (l3 : Value) (l4 : Value) (l5 : Value) (l6 : Value) (σ : Hs) : ru d 80 24 [l0, l1, l2, l3, l4, l5, l6] [.ref 1] σ = ru d 80 27 [l0, l1, l2, l3, l4, l5, l6] [.ref 2] σ := q_getf t80_24 mo80 F7_58 rfl rfl
theorem t80_27 : decode (mb 80) 27 = .ok (.iload_n 1, 1) := by decide +kernel
theorem s80_27 (d : Nat) (l0 : Value) (i1 : Int32) (l2 : Value) (l3 : Value) (l4 : Value) (l5 : Value) (l6 : Value) (w0 : Value) (σ : Hs) : ru d 80 27 [l0, .int i1, l2, l3, l4, l5, l6] [w0] σ = ru d 80 28 [l0, .int i1, l2, l3, l4, l5, l6] [.int i1, w0] σ := q_iload_n t80_27 rfl
theorem t80_28 : decode (mb 80) 28 = .ok (.invokevirtual 73, 3) := by decide +kernel
theorem s80_28_o2 (d : Nat) (l0 : Value) (l1 : Value) (l2 : Value) (l3 : Value) (l4 : Value) (l5 : Value) (l6 : Value) (v1 : Value) (σ : Hs) : ru d 80 28 [l0, l1, l2, l3, l4, l5, l6] [v1, .ref 2] σ = kont (callD d 1 [.ref 2, v1] σ) d 80 31 [l0, l1, l2, l3, l4, l5, l6] [] := q_invv t80_28 mo80 K7_73 mj1 rfl rfl rfl rfl (Nat.le_of_ble_eq_true rfl)
theorem t80_31 : decode (mb 80) 31 = .ok (.ifCond .ne 9, 3) := by decide +kernel
theorem s80_31 (d : Nat) (l0 : Value) (l1 : Value) (l2 : Value) (l3 : Value) (l4 : Value) (l5 : Value) (l6 : Value) (x : Int32) (σ : Hs) : ru d 80 31 [l0, l1, l2, l3, l4, l5, l6] [.int x] σ = if x = 0 then ru d 80 34 [l0, l1, l2, l3, l4, l5, l6] [] σ else ru d 80 40 [l0, l1, l2, l3, l4, l5, l6] [] σ := q_if_ne t80_31 (by decide +kernel)
theorem t80_34 : decode (mb 80) 34 = .ok (.aload_n 0, 1) := by decide +kernel
theorem s80_34 (d : Nat) (a0 : Nat) (l1 : Value) (l2 : Value) (l3 : Value) (l4 : Value) (l5 : Value) (l6 : Value) (σ : Hs) : ru d 80 34 [.ref a0, l1, l2, l3, l4, l5, l6] [] σ = ru d 80 35 [.ref a0, l1, l2, l3, l4, l5, l6] [.ref a0] σ := q_aload_n t80_34 rfl
theorem t80_35 : decode (mb 80) 35 = .ok (.iconst 2, 1) := by decide +kernel
theorem s80_35 (d : Nat) (l0 : Value) (l1 : Value) (l2 : Value) (l3 : Value) (l4 : Value) (l5 : Value) (l6 : Value) (w0 : Value) (σ : Hs) : ru d 80 35 [l0, l1, l2, l3, l4, l5, l6] [w0] σ = ru d 80 36 [l0, l1, l2, l3, l4, l5, l6] [.int 2, w0] σ := q_iconst t80_35 (by decide +kernel)
theorem t80_36 : decode (mb 80) 36 = .ok (.invokevirtual 65, 3) := by decide +kernel
theorem s80_36_o0 (d : Nat) (l0 : Value) (l1 : Value) (l2 : Value) (l3 : Value) (l4 : Value) (l5 : Value) (l6 : Value) (v1 : Value) (σ : Hs) : ru d 80 36 [l0, l1, l2, l3, l4, l5, l6] [v1, .ref 0] σ = kont (callD d 100 [.ref 0, v1] σ) d 80 39 [l0, l1, l2, l3, l4, l5, l6] [] := q_invv t80_36 mo80 K7_65 mj100 rfl rfl rfl rfl (Nat.le_of_ble_eq_true rfl)
theorem t80_39 : decode (mb 80) 39 = .ok (.ireturn, 1) := by decide +kernel
theorem s80_39 (d : Nat) (l0 : Value) (l1 : Value) (l2 : Value) (l3 : Value) (l4 : Value) (l5 : Value) (l6 : Value) (x : Int32) (σ : Hs) : ru d 80 39 [l0, l1, l2, l3, l4, l5, l6] [.int x] σ = some (some (.int x), σ) := q_ireti t80_39 mr80
theorem t80_40 : decode (mb 80) 40 = .ok (.aload_n 0, 1) := by decide +kernel
theorem s80_40 (d : Nat) (a0 : Nat) (l1 : Value) (l2 : Value) (l3 : Value) (l4 : Value) (l5 : Value) (l6 : Value) (σ : Hs) : ru d 80 40 [.ref a0, l1, l2, l3, l4, l5, l6] [] σ = ru d 80 41 [.ref a0, l1, l2, l3, l4, l5, l6] [.ref a0] σ := q_aload_n t80_40 rfl
theorem t80_41 : decode (mb 80) 41 = .ok (.getfield 22, 3) := by decide +kernel
theorem s80_41_o0 (d : Nat) (l0 : Value) (l1 : Value) (l2 : Value) (l3 : Value) (l4 : Value) (l5 : Value) (l6 : Value) (σ : Hs) : ru d 80 41 [l0, l1, l2, l3, l4, l5, l6] [.ref 0] σ = ru d 80 44 [l0, l1, l2, l3, l4, l5, l6] [.ref 59] σ := q_getf t80_41 mo80 F7_22 rfl rfl
theorem t80_44 : decode (mb 80) 44 = .ok (.aload_n 0, 1) := by decide +kernel
theorem s80_44 (d : Nat) (a0 : Nat) (l1 : Value) (l2 : Value) (l3 : Value) (l4 : Value) (l5 : Value) (l6 : Value) (w0 : Value) (σ : Hs) : ru d 80 44 [.ref a0, l1, l2, l3, l4, l5, l6] [w0] σ = ru d 80 45 [.ref a0, l1, l2, l3, l4, l5, l6] [.ref a0, w0] σ := q_aload_n t80_44 rfl
theorem t80_45 : decode (mb 80) 45 = .ok (.getfield 10, 3) := by decide +kernel
theorem s80_45_o0 (d : Nat) (l0 : Value) (l1 : Value) (l2 : Value) (l3 : Value) (l4 : Value) (l5 : Value) (l6 : Value) (w0 : Value) (σ : Hs) : ru d 80 45 [l0, l1, l2, l3, l4, l5, l6] [.ref 0, w0] σ = ru d 80 48 [l0, l1, l2, l3, l4, l5, l6] [.ref 1, w0] σ := q_getf t80_45 mo80 F7_10 rfl rfl
theorem t80_48 : decode (mb 80) 48 = .ok (.getfield 58, 3) := by decide +kernel
theorem s80_48_o1 (d : Nat) (l0 : Value) (l1 : Value) (l2 : Value) (l3 : Value) (l4 : Value) (l5 : Value) (l6 : Value) (w0 : Value) (σ : Hs) : ru d 80 48 [l0, l1, l2, l3, l4, l5, l6] [.ref 1, w0] σ = ru d 80 51 [l0, l1, l2, l3, l4, l5, l6] [.ref 2, w0] σ := q_getf t80_48 mo80 F7_58 rfl rfl
theorem t80_51 : decode (mb 80) 51 = .ok (.invokevirtual 199, 3) := by decide +kernel
theorem s80_51_o59 (d : Nat) (l0 : Value) (l1 : Value) (l2 : Value) (l3 : Value) (l4 : Value) (l5 : Value) (l6 : Value) (v1 : Value) (σ : Hs) : ru d 80 51 [l0, l1, l2, l3, l4, l5, l6] [v1, .ref 59] σ = kont (callD d 0 [.ref 59, v1] σ) d 80 54 [l0, l1, l2, l3, l4, l5, l6] [] := q_invv t80_51 mo80 K7_199 mj0 rfl rfl rfl rfl (Nat.le_of_ble_eq_true rfl)
theorem t80_54 : decode (mb 80) 54 = .ok (.aload_n 0, 1) := by decide +kernel
theorem s80_54 (d : Nat) (a0 : Nat) (l1 : Value) (l2 : Value) (l3 : Value) (l4 : Value) (l5 : Value) (l6 : Value) (σ : Hs) : ru d 80 54 [.ref a0, l1, l2, l3, l4, l5, l6] [] σ = ru d 80 55 [.ref a0, l1, l2, l3, l4, l5, l6] [.ref a0] σ := q_aload_n t80_54 rfl
theorem t80_55 : decode (mb 80) 55 = .ok (.getfield 22, 3) := by decide +kernel
theorem s80_55_o0 (d : Nat) (l0 : Value) (l1 : Value) (l2 : Value) (l3 : Value) (l4 : Value) (l5 : Value) (l6 : Value) (σ : Hs) : ru d 80 55 [l0, l1, l2, l3, l4, l5, l6] [.ref 0] σ = ru d 80 58 [l0, l1, l2, l3, l4, l5, l6] [.ref 59] σ := q_getf t80_55 mo80 F7_22 rfl rfl
theorem t80_58 : decode (mb 80) 58 = .ok (.iload_n 1, 1) := by decide +kernel
theorem s80_58 (d : Nat) (l0 : Value) (i1 : Int32) (l2 : Value) (l3 : Value) (l4 : Value) (l5 : Value) (l6 : Value) (w0 : Value) (σ : Hs) : ru d 80 58 [l0, .int i1, l2, l3, l4, l5, l6] [w0] σ = ru d 80 59 [l0, .int i1, l2, l3, l4, l5, l6] [.int i1, w0] σ := q_iload_n t80_58 rfl
theorem t80_59 : decode (mb 80) 59 = .ok (.invokevirtual 108, 3) := by decide +kernel
theorem s80_59_o59 (d : Nat) (l0 : Value) (l1 : Value) (l2 : Value) (l3 : Value) (l4 : Value) (l5 : Value) (l6 : Value) (v1 : Value) (σ : Hs) : ru d 80 59 [l0, l1, l2, l3, l4, l5, l6] [v1, .ref 59] σ = kont (callD d 9 [.ref 59, v1] σ) d 80 62 [l0, l1, l2, l3, l4, l5, l6] [] := q_invv t80_59 mo80 K7_108 mj9 rfl rfl rfl rfl (Nat.le_of_ble_eq_true rfl)
theorem t80_62 : decode (mb 80) 62 = .ok (.iconst 0, 1) := by decide +kernel
theorem s80_62 (d : Nat) (l0 : Value) (l1 : Value) (l2 : Value) (l3 : Value) (l4 : Value) (l5 : Value) (l6 : Value) (σ : Hs) : ru d 80 62 [l0, l1, l2, l3, l4, l5, l6] [] σ = ru d 80 63 [l0, l1, l2, l3, l4, l5, l6] [.int 0] σ := q_iconst t80_62 (by decide +kernel)
theorem t80_63 : decode (mb 80) 63 = .ok (.istore_n 3, 1) := by decide +kernel
theorem s80_63 (d : Nat) (l0 : Value) (l1 : Value) (i2 : Int32) (l3 : Value) (l4 : Value) (l5 : Value) (l6 : Value) (x : Int32) (σ : Hs) : ru d 80 63 [l0, l1, .int i2, l3, l4, l5, l6] [.int x] σ = ru d 80 64 [l0, l1, .int i2, .int x, l4, l5, l6] [] σ := q_istore_n t80_63 ⟨Nat.le_of_ble_eq_true rfl, rfl⟩ rfl
theorem t80_64 : decode (mb 80) 64 = .ok (.iload_n 3, 1) := by decide +kernel
theorem s80_64 (d : Nat) (l0 : Value) (l1 : Value) (l2 : Value) (i3 : Int32) (l4 : Value) (l5 : Value) (l6 : Value) (σ : Hs) : ru d 80 64 [l0, l1, l2, .int i3, l4, l5, l6] [] σ = ru d 80 65 [l0, l1, l2, .int i3, l4, l5, l6] [.int i3] σ := q_iload_n t80_64 rfl
theorem t80_65 : decode (mb 80) 65 = .ok (.iload_n 2, 1) := by decide +kernel
theorem s80_65 (d : Nat) (l0 : Value) (l1 : Value) (i2 : Int32) (l3 : Value) (l4 : Value) (l5 : Value) (l6 : Value) (w0 : Value) (σ : Hs) : ru d 80 65 [l0, l1, .int i2, l3, l4, l5, l6] [w0] σ = ru d 80 66 [l0, l1, .int i2, l3, l4, l5, l6] [.int i2, w0] σ := q_iload_n t80_65 rfl
theorem t80_66 : decode (mb 80) 66 = .ok (.if_icmp .ge 29, 3) := by decide +kernel
theorem s80_66 (d : Nat) (l0 : Value) (l1 : Value) (l2 : Value) (l3 : Value) (l4 : Value) (l5 : Value) (l6 : Value) (x y : Int32) (σ : Hs) : ru d 80 66 [l0, l1, l2, l3, l4, l5, l6] [.int y, .int x] σ = if y ≤ x then ru d 80 95 [l0, l1, l2, l3, l4, l5, l6] [] σ else ru d 80 69 [l0, l1, l2, l3, l4, l5, l6] [] σ := q_ic_ge t80_66 (by decide +kernel)
theorem t80_69 : decode (mb 80) 69 = .ok (.aload_n 0, 1) := by decide +kernel
theorem s80_69 (d : Nat) (a0 : Nat) (l1 : Value) (l2 : Value) (l3 : Value) (l4 : Value) (l5 : Value) (l6 : Value) (σ : Hs) : ru d 80 69 [.ref a0, l1, l2, l3, l4, l5, l6] [] σ = ru d 80 70 [.ref a0, l1, l2, l3, l4, l5, l6] [.ref a0] σ := q_aload_n t80_69 rfl
theorem t80_70 : decode (mb 80) 70 = .ok (.getfield 51, 3) := by decide +kernel
theorem s80_70_o0 (d : Nat) (l0 : Value) (l1 : Value) (l2 : Value) (l3 : Value) (l4 : Value) (l5 : Value) (l6 : Value) (σ : Hs) : ru d 80 70 [l0, l1, l2, l3, l4, l5, l6] [.ref 0] σ = ru d 80 73 [l0, l1, l2, l3, l4, l5, l6] [.ref 86] σ := q_getf t80_70 mo80 F7_51 rfl rfl
theorem t80_73 : decode (mb 80) 73 = .ok (.iload_n 3, 1) := by decide +kernel
theorem s80_73 (d : Nat) (l0 : Value) (l1 : Value) (l2 : Value) (i3 : Int32) (l4 : Value) (l5 : Value) (l6 : Value) (w0 : Value) (σ : Hs) : ru d 80 73 [l0, l1, l2, .int i3, l4, l5, l6] [w0] σ = ru d 80 74 [l0, l1, l2, .int i3, l4, l5, l6] [.int i3, w0] σ := q_iload_n t80_73 rfl
theorem t80_74 : decode (mb 80) 74 = .ok (.aload_n 0, 1) := by decide +kernel
theorem s80_74 (d : Nat) (a0 : Nat) (l1 : Value) (l2 : Value) (l3 : Value) (l4 : Value) (l5 : Value) (l6 : Value) (w0 w1 : Value) (σ : Hs) : ru d 80 74 [.ref a0, l1, l2, l3, l4, l5, l6] [w0, w1] σ = ru d 80 75 [.ref a0, l1, l2, l3, l4, l5, l6] [.ref a0, w0, w1] σ := q_aload_n t80_74 rfl
theorem t80_75 : decode (mb 80) 75 = .ok (.getfield 22, 3) := by decide +kernel
theorem s80_75_o0 (d : Nat) (l0 : Value) (l1 : Value) (l2 : Value) (l3 : Value) (l4 : Value) (l5 : Value) (l6 : Value) (w0 w1 : Value) (σ : Hs) : ru d 80 75 [l0, l1, l2, l3, l4, l5, l6] [.ref 0, w0, w1] σ = ru d 80 78 [l0, l1, l2, l3, l4, l5, l6] [.ref 59, w0, w1] σ := q_getf t80_75 mo80 F7_22 rfl rfl
theorem t80_78 : decode (mb 80) 78 = .ok (.aload_n 0, 1) := by decide +kernel
theorem s80_78 (d : Nat) (a0 : Nat) (l1 : Value) (l2 : Value) (l3 : Value) (l4 : Value) (l5 : Value) (l6 : Value) (w0 w1 w2 : Value) (σ : Hs) : ru d 80 78 [.ref a0, l1, l2, l3, l4, l5, l6] [w0, w1, w2] σ = ru d 80 79 [.ref a0, l1, l2, l3, l4, l5, l6] [.ref a0, w0, w1, w2] σ := q_aload_n t80_78 rfl
theorem t80_79 : decode (mb 80) 79 = .ok (.getfield 10, 3) := by decide +kernel
theorem s80_79_o0 (d : Nat) (l0 : Value) (l1 : Value) (l2 : Value) (l3 : Value) (l4 : Value) (l5 : Value) (l6 : Value) (w0 w1 w2 : Value) (σ : Hs) : ru d 80 79 [l0, l1, l2, l3, l4, l5, l6] [.ref 0, w0, w1, w2] σ = ru d 80 82 [l0, l1, l2, l3, l4, l5, l6] [.ref 1, w0, w1, w2] σ := q_getf t80_79 mo80 F7_10 rfl rfl
theorem t80_82 : decode (mb 80) 82 = .ok (.getfield 146, 3) := by decide +kernel
theorem s80_82_o1 (d : Nat) (l0 : Value) (l1 : Value) (l2 : Value) (l3 : Value) (l4 : Value) (l5 : Value) (l6 : Value) (w0 w1 w2 : Value) (σ : Hs) : ru d 80 82 [l0, l1, l2, l3, l4, l5, l6] [.ref 1, w0, w1, w2] σ = ru d 80 85 [l0, l1, l2, l3, l4, l5, l6] [.ref 13, w0, w1, w2] σ := q_getf t80_82 mo80 F7_146 rfl rfl
theorem t80_85 : decode (mb 80) 85 = .ok (.invokevirtual 202, 3) := by decide +kernel
theorem s80_85_o59 (d : Nat) (l0 : Value) (l1 : Value) (l2 : Value) (l3 : Value) (l4 : Value) (l5 : Value) (l6 : Value) (v1 : Value) (w0 : Int32) (w1 : Nat) (σ : Hs) : ru d 80 85 [l0, l1, l2, l3, l4, l5, l6] [v1, .ref 59, .int w0, .ref w1] σ = kont (callD d 14 [.ref 59, v1] σ) d 80 88 [l0, l1, l2, l3, l4, l5, l6] [.int w0, .ref w1] := q_invv t80_85 mo80 K7_202 mj14 rfl rfl rfl rfl (Nat.le_of_ble_eq_true rfl)
theorem t80_88 : decode (mb 80) 88 = .ok (.iastore, 1) := by decide +kernel
theorem s80_88_o86 (d : Nat) (l0 : Value) (l1 : Value) (l2 : Value) (l3 : Value) (l4 : Value) (l5 : Value) (l6 : Value) (i x : Int32) (σ : Hs) : ru d 80 88 [l0, l1, l2, l3, l4, l5, l6] [.int x, .int i, .ref 86] σ = gd (vp_in i 60) (ru d 80 89 [l0, l1, l2, l3, l4, l5, l6] [] (up2 σ 86 i.toNatClampNeg x)) := q_iast t80_88 (by decide +kernel) rfl rfl
theorem t80_89 : decode (mb 80) 89 = .ok (.iinc 3 1, 3) := by decide +kernel
theorem s80_89 (d : Nat) (l0 : Value) (l1 : Value) (i2 : Int32) (i3 : Int32) (l4 : Value) (l5 : Value) (l6 : Value) (σ : Hs) : ru d 80 89 [l0, l1, .int i2, .int i3, l4, l5, l6] [] σ = ru d 80 92 [l0, l1, .int i2, .int (i3 + 1), l4, l5, l6] [] σ := q_iinc t80_89 ⟨Nat.le_of_ble_eq_true rfl, rfl⟩ rfl (by decide +kernel) rfl
theorem t80_92 : decode (mb 80) 92 = .ok (.goto (-28), 3) := by decide +kernel
theorem s80_92 (d : Nat) (l0 : Value) (l1 : Value) (l2 : Value) (l3 : Value) (l4 : Value) (l5 : Value) (l6 : Value) (σ : Hs) : ru d 80 92 [l0, l1, l2, l3, l4, l5, l6] [] σ = ru d 80 64 [l0, l1, l2, l3, l4, l5, l6] [] σ := q_goto t80_92 (by decide +kernel)
theorem t80_95 : decode (mb 80) 95 = .ok (.iconst 0, 1) := by decide +kernel
theorem s80_95 (d : Nat) (l0 : Value) (l1 : Value) (l2 : Value) (l3 : Value) (l4 : Value) (l5 : Value) (l6 : Value) (σ : Hs) : ru d 80 95 [l0, l1, l2, l3, l4, l5, l6] [] σ = ru d 80 96 [l0, l1, l2, l3, l4, l5, l6] [.int 0] σ := q_iconst t80_95 (by decide +kernel)
theorem t80_96 : decode (mb 80) 96 = .ok (.istore_n 3, 1) := by decide +kernel
theorem s80_96 (d : Nat) (l0 : Value) (l1 : Value) (i2 : Int32) (l3 : Value) (l4 : Value) (l5 : Value) (l6 : Value) (x : Int32) (σ : Hs) : ru d 80 96 [l0, l1, .int i2, l3, l4, l5, l6] [.int x] σ = ru d 80 97 [l0, l1, .int i2, .int x, l4, l5, l6] [] σ := q_istore_n t80_96 ⟨Nat.le_of_ble_eq_true rfl, rfl⟩ rfl
theorem t80_97 : decode (mb 80) 97 = .ok (.aload_n 0, 1) := by decide +kernel
theorem s80_97 (d : Nat) (a0 : Nat) (l1 : Value) (l2 : Value) (l3 : Value) (l4 : Value) (l5 : Value) (l6 : Value) (σ : Hs) : ru d 80 97 [.ref a0, l1, l2, l3, l4, l5, l6] [] σ = ru d 80 98 [.ref a0, l1, l2, l3, l4, l5, l6] [.ref a0] σ := q_aload_n t80_97 rfl
theorem t80_98 : decode (mb 80) 98 = .ok (.iconst 0, 1) := by decide +kernel
theorem s80_98 (d : Nat) (l0 : Value) (l1 : Value) (l2 : Value) (l3 : Value) (l4 : Value) (l5 : Value) (l6 : Value) (w0 : Value) (σ : Hs) : ru d 80 98 [l0, l1, l2, l3, l4, l5, l6] [w0] σ = ru d 80 99 [l0, l1, l2, l3, l4, l5, l6] [.int 0, w0] σ := q_iconst t80_98 (by decide +kernel)
theorem t80_99 : decode (mb 80) 99 = .ok (.iload_n 2, 1) := by decide +kernel
theorem s80_99 (d : Nat) (l0 : Value) (l1 : Value) (i2 : Int32) (l3 : Value) (l4 : Value) (l5 : Value) (l6 : Value) (w0 w1 : Value) (σ : Hs) : ru d 80 99 [l0, l1, .int i2, l3, l4, l5, l6] [w0, w1] σ = ru d 80 100 [l0, l1, .int i2, l3, l4, l5, l6] [.int i2, w0, w1] σ := q_iload_n t80_99 rfl
theorem t80_100 : decode (mb 80) 100 = .ok (.invokevirtual 206, 3) := by decide +kernel
theorem s80_100_o0 (d : Nat) (l0 : Value) (l1 : Value) (l2 : Value) (l3 : Value) (l4 : Value) (l5 : Value) (l6 : Value) (v1 v2 : Value) (σ : Hs) : ru d 80 100 [l0, l1, l2, l3, l4, l5, l6] [v2, v1, .ref 0] σ = kont (callD d 102 [.ref 0, v1, v2] σ) d 80 103 [l0, l1, l2, l3, l4, l5, l6] [] := q_invv t80_100 mo80 K7_206 mj102 rfl rfl rfl rfl (Nat.le_of_ble_eq_true rfl)
theorem t80_103 : decode (mb 80) 103 = .ok (.istore 4, 2) := by decide +kernel
theorem s80_103 (d : Nat) (l0 : Value) (l1 : Value) (l2 : Value) (i3 : Int32) (l4 : Value) (l5 : Value) (l6 : Value) (x : Int32) (σ : Hs) : ru d 80 103 [l0, l1, l2, .int i3, l4, l5, l6] [.int x] σ = ru d 80 105 [l0, l1, l2, .int i3, .int x, l5, l6] [] σ := q_istore t80_103 ⟨Nat.le_of_ble_eq_true rfl, rfl⟩ rfl
theorem t80_105 : decode (mb 80) 105 = .ok (.iconst 1, 1) := by decide +kernel
theorem s80_105 (d : Nat) (l0 : Value) (l1 : Value) (l2 : Value) (l3 : Value) (l4 : Value) (l5 : Value) (l6 : Value) (σ : Hs) : ru d 80 105 [l0, l1, l2, l3, l4, l5, l6] [] σ = ru d 80 106 [l0, l1, l2, l3, l4, l5, l6] [.int 1] σ := q_iconst t80_105 (by decide +kernel)
theorem t80_106 : decode (mb 80) 106 = .ok (.istore 5, 2) := by decide +kernel
theorem s80_106 (d : Nat) (l0 : Value) (l1 : Value) (l2 : Value) (l3 : Value) (i4 : Int32) (l5 : Value) (l6 : Value) (x : Int32) (σ : Hs) : ru d 80 106 [l0, l1, l2, l3, .int i4, l5, l6] [.int x] σ = ru d 80 108 [l0, l1, l2, l3, .int i4, .int x, l6] [] σ := q_istore t80_106 ⟨Nat.le_of_ble_eq_true rfl, rfl⟩ rfl
theorem t80_108 : decode (mb 80) 108 = .ok (.iload 5, 2) := by decide +kernel
theorem s80_108 (d : Nat) (l0 : Value) (l1 : Value) (l2 : Value) (l3 : Value) (l4 : Value) (i5 : Int32) (l6 : Value) (σ : Hs) : ru d 80 108 [l0, l1, l2, l3, l4, .int i5, l6] [] σ = ru d 80 110 [l0, l1, l2, l3, l4, .int i5, l6] [.int i5] σ := q_iload t80_108 rfl
theorem t80_110 : decode (mb 80) 110 = .ok (.bipush 24, 2) := by decide +kernel
theorem s80_110 (d : Nat) (l0 : Value) (l1 : Value) (l2 : Value) (l3 : Value) (l4 : Value) (l5 : Value) (l6 : Value) (w0 : Value) (σ : Hs) : ru d 80 110 [l0, l1, l2, l3, l4, l5, l6] [w0] σ = ru d 80 112 [l0, l1, l2, l3, l4, l5, l6] [.int 24, w0] σ := q_bipush t80_110 (by decide +kernel)
theorem t80_112 : decode (mb 80) 112 = .ok (.if_icmp .ge 32, 3) := by decide +kernel
theorem s80_112 (d : Nat) (l0 : Value) (l1 : Value) (l2 : Value) (l3 : Value) (l4 : Value) (l5 : Value) (l6 : Value) (x y : Int32) (σ : Hs) : ru d 80 112 [l0, l1, l2, l3, l4, l5, l6] [.int y, .int x] σ = if y ≤ x then ru d 80 144 [l0, l1, l2, l3, l4, l5, l6] [] σ else ru d 80 115 [l0, l1, l2, l3, l4, l5, l6] [] σ := q_ic_ge t80_112 (by decide +kernel)
theorem t80_115 : decode (mb 80) 115 = .ok (.aload_n 0, 1) := by decide +kernel
theorem s80_115 (d : Nat) (a0 : Nat) (l1 : Value) (l2 : Value) (l3 : Value) (l4 : Value) (l5 : Value) (l6 : Value) (σ : Hs) : ru d 80 115 [.ref a0, l1, l2, l3, l4, l5, l6] [] σ = ru d 80 116 [.ref a0, l1, l2, l3, l4, l5, l6] [.ref a0] σ := q_aload_n t80_115 rfl
theorem t80_116 : decode (mb 80) 116 = .ok (.iload 5, 2) := by decide +kernel
theorem s80_116 (d : Nat) (l0 : Value) (l1 : Value) (l2 : Value) (l3 : Value) (l4 : Value) (i5 : Int32) (l6 : Value) (w0 : Value) (σ : Hs) : ru d 80 116 [l0, l1, l2, l3, l4, .int i5, l6] [w0] σ = ru d 80 118 [l0, l1, l2, l3, l4, .int i5, l6] [.int i5, w0] σ := q_iload t80_116 rfl
theorem t80_118 : decode (mb 80) 118 = .ok (.iload_n 2, 1) := by decide +kernel
theorem s80_118 (d : Nat) (l0 : Value) (l1 : Value) (i2 : Int32) (l3 : Value) (l4 : Value) (l5 : Value) (l6 : Value) (w0 w1 : Value) (σ : Hs) : ru d 80 118 [l0, l1, .int i2, l3, l4, l5, l6] [w0, w1] σ = ru d 80 119 [l0, l1, .int i2, l3, l4, l5, l6] [.int i2, w0, w1] σ := q_iload_n t80_118 rfl
theorem t80_119 : decode (mb 80) 119 = .ok (.invokevirtual 206, 3) := by decide +kernel
theorem s80_119_o0 (d : Nat) (l0 : Value) (l1 : Value) (l2 : Value) (l3 : Value) (l4 : Value) (l5 : Value) (l6 : Value) (v1 v2 : Value) (σ : Hs) : ru d 80 119 [l0, l1, l2, l3, l4, l5, l6] [v2, v1, .ref 0] σ = kont (callD d 102 [.ref 0, v1, v2] σ) d 80 122 [l0, l1, l2, l3, l4, l5, l6] [] := q_invv t80_119 mo80 K7_206 mj102 rfl rfl rfl rfl (Nat.le_of_ble_eq_true rfl)
theorem t80_122 : decode (mb 80) 122 = .ok (.istore 6, 2) := by decide +kernel
theorem s80_122 (d : Nat) (l0 : Value) (l1 : Value) (l2 : Value) (l3 : Value) (l4 : Value) (i5 : Int32) (l6 : Value) (x : Int32) (σ : Hs) : ru d 80 122 [l0, l1, l2, l3, l4, .int i5, l6] [.int x] σ = ru d 80 124 [l0, l1, l2, l3, l4, .int i5, .int x] [] σ := q_istore t80_122 ⟨Nat.le_of_ble_eq_true rfl, rfl⟩ rfl
theorem t80_124 : decode (mb 80) 124 = .ok (.iload 6, 2) := by decide +kernel
theorem s80_124 (d : Nat) (l0 : Value) (l1 : Value) (l2 : Value) (l3 : Value) (l4 : Value) (l5 : Value) (i6 : Int32) (σ : Hs) : ru d 80 124 [l0, l1, l2, l3, l4, l5, .int i6] [] σ = ru d 80 126 [l0, l1, l2, l3, l4, l5, .int i6] [.int i6] σ := q_iload t80_124 rfl
theorem t80_126 : decode (mb 80) 126 = .ok (.iload 4, 2) := by decide +kernel
theorem s80_126 (d : Nat) (l0 : Value) (l1 : Value) (l2 : Value) (l3 : Value) (i4 : Int32) (l5 : Value) (l6 : Value) (w0 : Value) (σ : Hs) : ru d 80 126 [l0, l1, l2, l3, .int i4, l5, l6] [w0] σ = ru d 80 128 [l0, l1, l2, l3, .int i4, l5, l6] [.int i4, w0] σ := q_iload t80_126 rfl
theorem t80_128 : decode (mb 80) 128 = .ok (.if_icmp .ge 10, 3) := by decide +kernel
theorem s80_128 (d : Nat) (l0 : Value) (l1 : Value) (l2 : Value) (l3 : Value) (l4 : Value) (l5 : Value) (l6 : Value) (x y : Int32) (σ : Hs) : ru d 80 128 [l0, l1, l2, l3, l4, l5, l6] [.int y, .int x] σ = if y ≤ x then ru d 80 138 [l0, l1, l2, l3, l4, l5, l6] [] σ else ru d 80 131 [l0, l1, l2, l3, l4, l5, l6] [] σ := q_ic_ge t80_128 (by decide +kernel)
theorem t80_131 : decode (mb 80) 131 = .ok (.iload 5, 2) := by decide +kernel
theorem s80_131 (d : Nat) (l0 : Value) (l1 : Value) (l2 : Value) (l3 : Value) (l4 : Value) (i5 : Int32) (l6 : Value) (σ : Hs) : ru d 80 131 [l0, l1, l2, l3, l4, .int i5, l6] [] σ = ru d 80 133 [l0, l1, l2, l3, l4, .int i5, l6] [.int i5] σ := q_iload t80_131 rfl
theorem t80_133 : decode (mb 80) 133 = .ok (.istore_n 3, 1) := by decide +kernel
theorem s80_133 (d : Nat) (l0 : Value) (l1 : Value) (i2 : Int32) (l3 : Value) (l4 : Value) (l5 : Value) (l6 : Value) (x : Int32) (σ : Hs) : ru d 80 133 [l0, l1, .int i2, l3, l4, l5, l6] [.int x] σ = ru d 80 134 [l0, l1, .int i2, .int x, l4, l5, l6] [] σ := q_istore_n t80_133 ⟨Nat.le_of_ble_eq_true rfl, rfl⟩ rfl
theorem t80_134 : decode (mb 80) 134 = .ok (.iload 6, 2) := by decide +kernel
theorem s80_134 (d : Nat) (l0 : Value) (l1 : Value) (l2 : Value) (l3 : Value) (l4 : Value) (l5 : Value) (i6 : Int32) (σ : Hs) : ru d 80 134 [l0, l1, l2, l3, l4, l5, .int i6] [] σ = ru d 80 136 [l0, l1, l2, l3, l4, l5, .int i6] [.int i6] σ := q_iload t80_134 rfl
theorem t80_136 : decode (mb 80) 136 = .ok (.istore 4, 2) := by decide +kernel
theorem s80_136 (d : Nat) (l0 : Value) (l1 : Value) (l2 : Value) (i3 : Int32) (l4 : Value) (l5 : Value) (l6 : Value) (x : Int32) (σ : Hs) : ru d 80 136 [l0, l1, l2, .int i3, l4, l5, l6] [.int x] σ = ru d 80 138 [l0, l1, l2, .int i3, .int x, l5, l6] [] σ := q_istore t80_136 ⟨Nat.le_of_ble_eq_true rfl, rfl⟩ rfl
theorem t80_138 : decode (mb 80) 138 = .ok (.iinc 5 1, 3) := by decide +kernel
theorem s80_138 (d : Nat) (l0 : Value) (l1 : Value) (l2 : Value) (l3 : Value) (i4 : Int32) (i5 : Int32) (l6 : Value) (σ : Hs) : ru d 80 138 [l0, l1, l2, l3, .int i4, .int i5, l6] [] σ = ru d 80 141 [l0, l1, l2, l3, .int i4, .int (i5 + 1), l6] [] σ := q_iinc t80_138 ⟨Nat.le_of_ble_eq_true rfl, rfl⟩ rfl (by decide +kernel) rfl
theorem t80_141 : decode (mb 80) 141 = .ok (.goto (-33), 3) := by decide +kernel
theorem s80_141 (d : Nat) (l0 : Value) (l1 : Value) (l2 : Value) (l3 : Value) (l4 : Value) (l5 : Value) (l6 : Value) (σ : Hs) : ru d 80 141 [l0, l1, l2, l3, l4, l5, l6] [] σ = ru d 80 108 [l0, l1, l2, l3, l4, l5, l6] [] σ := q_goto t80_141 (by decide +kernel)
theorem t80_144 : decode (mb 80) 144 = .ok (.iload_n 3, 1) := by decide +kernel
theorem s80_144 (d : Nat) (l0 : Value) (l1 : Value) (l2 : Value) (i3 : Int32) (l4 : Value) (l5 : Value) (l6 : Value) (σ : Hs) : ru d 80 144 [l0, l1, l2, .int i3, l4, l5, l6] [] σ = ru d 80 145 [l0, l1, l2, .int i3, l4, l5, l6] [.int i3] σ := q_iload_n t80_144 rfl
theorem t80_145 : decode (mb 80) 145 = .ok (.ireturn, 1) := by decide +kernel
theorem s80_145 (d : Nat) (l0 : Value) (l1 : Value) (l2 : Value) (l3 : Value) (l4 : Value) (l5 : Value) (l6 : Value) (x : Int32) (σ : Hs) : ru d 80 145 [l0, l1, l2, l3, l4, l5, l6] [.int x] σ = some (some (.int x), σ) := q_ireti t80_145 mr80
theorem c80 (d : Nat) (x0 : Nat) (x1 : Int32) (x2 : Int32) (σ : Hs) : callD (d + 1) 80 [.ref x0, .int x1, .int x2] σ = ru d 80 0 [.ref x0, .int x1, .int x2, uu, uu, uu, uu] [] σ := callD_ru ml80 rfl rfl (Nat.le_of_ble_eq_true rfl)
-- 81: SmokyHeap.spot(I)I
theorem t81_0 : decode (mb 81) 0 = .ok (.iload_n 1, 1) := by decide +kernel
theorem s81_0 (d : Nat) (l0 : Value) (i1 : Int32) (l2 : Value) (l3 : Value) (l4 : Value) (σ : Hs) : ru d 81 0 [l0, .int i1, l2, l3, l4] [] σ = ru d 81 1 [l0, .int i1, l2, l3, l4] [.int i1] σ := q_iload_n t81_0 rfl
theorem t81_1 : decode (mb 81) 1 = .ok (.invokestatic 196, 3) := by decide +kernel
theorem s81_1 (d : Nat) (l0 : Value) (l1 : Value) (l2 : Value) (l3 : Value) (l4 : Value) (v0 : Value) (σ : Hs) : ru d 81 1 [l0, l1, l2, l3, l4] [v0] σ = kont (callD d 109 [v0] σ) d 81 4 [l0, l1, l2, l3, l4] [] := q_invs t81_1 mo81 (by decide +kernel) K7_196 mj109 (Nat.le_of_ble_eq_true rfl) rfl rfl (Nat.le_of_ble_eq_true rfl)
theorem t81_4 : decode (mb 81) 4 = .ok (.ifCond .ne 9, 3) := by decide +kernel
theorem s81_4 (d : Nat) (l0 : Value) (l1 : Value) (l2 : Value) (l3 : Value) (l4 : Value) (x : Int32) (σ : Hs) : ru d 81 4 [l0, l1, l2, l3, l4] [.int x] σ = if x = 0 then ru d 81 7 [l0, l1, l2, l3, l4] [] σ else ru d 81 13 [l0, l1, l2, l3, l4] [] σ := q_if_ne t81_4 (by decide +kernel)
theorem t81_7 : decode (mb 81) 7 = .ok (.aload_n 0, 1) := by decide +kernel
theorem s81_7 (d : Nat) (a0 : Nat) (l1 : Value) (l2 : Value) (l3 : Value) (l4 : Value) (σ : Hs) : ru d 81 7 [.ref a0, l1, l2, l3, l4] [] σ = ru d 81 8 [.ref a0, l1, l2, l3, l4] [.ref a0] σ := q_aload_n t81_7 rfl
theorem t81_8 : decode (mb 81) 8 = .ok (.iconst 1, 1) := by decide +kernel
theorem s81_8 (d : Nat) (l0 : Value) (l1 : Value) (l2 : Value) (l3 : Value) (l4 : Value) (w0 : Value) (σ : Hs) : ru d 81 8 [l0, l1, l2, l3, l4] [w0] σ = ru d 81 9 [l0, l1, l2, l3, l4] [.int 1, w0] σ := q_iconst t81_8 (by decide +kernel)
theorem t81_9 : decode (mb 81) 9 = .ok (.invokevirtual 65, 3) := by decide +kernel
theorem s81_9_o0 (d : Nat) (l0 : Value) (l1 : Value) (l2 : Value) (l3 : Value) (l4 : Value) (v1 : Value) (σ : Hs) : ru d 81 9 [l0, l1, l2, l3, l4] [v1, .ref 0] σ = kont (callD d 100 [.ref 0, v1] σ) d 81 12 [l0, l1, l2, l3, l4] [] := q_invv t81_9 mo81 K7_65 mj100 rfl rfl rfl rfl (Nat.le_of_ble_eq_true rfl)
theorem t81_12 : decode (mb 81) 12 = .ok (.ireturn, 1) := by decide +kernel
theorem s81_12 (d : Nat) (l0 : Value) (l1 : Value) (l2 : Value) (l3 : Value) (l4 : Value) (x : Int32) (σ : Hs) : ru d 81 12 [l0, l1, l2, l3, l4] [.int x] σ = some (some (.int x), σ) := q_ireti t81_12 mr81
theorem t81_13 : decode (mb 81) 13 = .ok (.iconst (-1), 1) := by decide +kernel
theorem s81_13 (d : Nat) (l0 : Value) (l1 : Value) (l2 : Value) (l3 : Value) (l4 : Value) (σ : Hs) : ru d 81 13 [l0, l1, l2, l3, l4] [] σ = ru d 81 14 [l0, l1, l2, l3, l4] [.int (-1)] σ := q_iconst t81_13 (by decide +kernel)
theorem t81_14 : decode (mb 81) 14 = .ok (.istore_n 2, 1) := by decide +kernel
theorem s81_14 (d : Nat) (l0 : Value) (i1 : Int32) (l2 : Value) (l3 : Value) (l4 : Value) (x : Int32) (σ : Hs) : ru d 81 14 [l0, .int i1, l2, l3, l4] [.int x] σ = ru d 81 15 [l0, .int i1, .int x, l3, l4] [] σ := q_istore_n t81_14 ⟨Nat.le_of_ble_eq_true rfl, rfl⟩ rfl
theorem t81_15 : decode (mb 81) 15 = .ok (.iconst (-1), 1) := by decide +kernel
theorem s81_15 (d : Nat) (l0 : Value) (l1 : Value) (l2 : Value) (l3 : Value) (l4 : Value) (σ : Hs) : ru d 81 15 [l0, l1, l2, l3, l4] [] σ = ru d 81 16 [l0, l1, l2, l3, l4] [.int (-1)] σ := q_iconst t81_15 (by decide +kernel)
theorem t81_16 : decode (mb 81) 16 = .ok (.istore_n 3, 1) := by decide +kernel
theorem s81_16 (d : Nat) (l0 : Value) (l1 : Value) (i2 : Int32) (l3 : Value) (l4 : Value) (x : Int32) (σ : Hs) : ru d 81 16 [l0, l1, .int i2, l3, l4] [.int x] σ = ru d 81 17 [l0, l1, .int i2, .int x, l4] [] σ := q_istore_n t81_16 ⟨Nat.le_of_ble_eq_true rfl, rfl⟩ rfl
theorem t81_17 : decode (mb 81) 17 = .ok (.iconst 0, 1) := by decide +kernel
theorem s81_17 (d : Nat) (l0 : Value) (l1 : Value) (l2 : Value) (l3 : Value) (l4 : Value) (σ : Hs) : ru d 81 17 [l0, l1, l2, l3, l4] [] σ = ru d 81 18 [l0, l1, l2, l3, l4] [.int 0] σ := q_iconst t81_17 (by decide +kernel)
theorem t81_18 : decode (mb 81) 18 = .ok (.istore 4, 2) := by decide +kernel
theorem s81_18 (d : Nat) (l0 : Value) (l1 : Value) (l2 : Value) (i3 : Int32) (l4 : Value) (x : Int32) (σ : Hs) : ru d 81 18 [l0, l1, l2, .int i3, l4] [.int x] σ = ru d 81 20 [l0, l1, l2, .int i3, .int x] [] σ := q_istore t81_18 ⟨Nat.le_of_ble_eq_true rfl, rfl⟩ rfl
theorem t81_20 : decode (mb 81) 20 = .ok (.iload 4, 2) := by decide +kernel
theorem s81_20 (d : Nat) (l0 : Value) (l1 : Value) (l2 : Value) (l3 : Value) (i4 : Int32) (σ : Hs) : ru d 81 20 [l0, l1, l2, l3, .int i4] [] σ = ru d 81 22 [l0, l1, l2, l3, .int i4] [.int i4] σ := q_iload t81_20 rfl
theorem t81_22 : decode (mb 81) 22 = .ok (.bipush 30, 2) := by decide +kernel
theorem s81_22 (d : Nat) (l0 : Value) (l1 : Value) (l2 : Value) (l3 : Value) (l4 : Value) (w0 : Value) (σ : Hs) : ru d 81 22 [l0, l1, l2, l3, l4] [w0] σ = ru d 81 24 [l0, l1, l2, l3, l4] [.int 30, w0] σ := q_bipush t81_22 (by decide +kernel)
theorem t81_24 : decode (mb 81) 24 = .ok (.if_icmp .ge 84, 3) := by decide +kernel
theorem s81_24 (d : Nat) (l0 : Value) (l1 : Value) (l2 : Value) (l3 : Value) (l4 : Value) (x y : Int32) (σ : Hs) : ru d 81 24 [l0, l1, l2, l3, l4] [.int y, .int x] σ = if y ≤ x then ru d 81 108 [l0, l1, l2, l3, l4] [] σ else ru d 81 27 [l0, l1, l2, l3, l4] [] σ := q_ic_ge t81_24 (by decide +kernel)
theorem t81_27 : decode (mb 81) 27 = .ok (.aload_n 0, 1) := by decide +kernel
theorem s81_27 (d : Nat) (a0 : Nat) (l1 : Value) (l2 : Value) (l3 : Value) (l4 : Value) (σ : Hs) : ru d 81 27 [.ref a0, l1, l2, l3, l4] [] σ = ru d 81 28 [.ref a0, l1, l2, l3, l4] [.ref a0] σ := q_aload_n t81_27 rfl
theorem t81_28 : decode (mb 81) 28 = .ok (.getfield 10, 3) := by decide +kernel
theorem s81_28_o0 (d : Nat) (l0 : Value) (l1 : Value) (l2 : Value) (l3 : Value) (l4 : Value) (σ : Hs) : ru d 81 28 [l0, l1, l2, l3, l4] [.ref 0] σ = ru d 81 31 [l0, l1, l2, l3, l4] [.ref 1] σ := q_getf t81_28 mo81 F7_10 rfl rfl
theorem t81_31 : decode (mb 81) 31 = .ok (.getfield 58, 3) := by decide +kernel
theorem s81_31_o1 (d : Nat) (l0 : Value) (l1 : Value) (l2 : Value) (l3 : Value) (l4 : Value) (σ : Hs) : ru d 81 31 [l0, l1, l2, l3, l4] [.ref 1] σ = ru d 81 34 [l0, l1, l2, l3, l4] [.ref 2] σ := q_getf t81_31 mo81 F7_58 rfl rfl
theorem t81_34 : decode (mb 81) 34 = .ok (.iload 4, 2) := by decide +kernel
theorem s81_34 (d : Nat) (l0 : Value) (l1 : Value) (l2 : Value) (l3 : Value) (i4 : Int32) (w0 : Value) (σ : Hs) : ru d 81 34 [l0, l1, l2, l3, .int i4] [w0] σ = ru d 81 36 [l0, l1, l2, l3, .int i4] [.int i4, w0] σ := q_iload t81_34 rfl
theorem t81_36 : decode (mb 81) 36 = .ok (.invokevirtual 73, 3) := by decide +kernel
theorem s81_36_o2 (d : Nat) (l0 : Value) (l1 : Value) (l2 : Value) (l3 : Value) (l4 : Value) (v1 : Value) (σ : Hs) : ru d 81 36 [l0, l1, l2, l3, l4] [v1, .ref 2] σ = kont (callD d 1 [.ref 2, v1] σ) d 81 39 [l0, l1, l2, l3, l4] [] := q_invv t81_36 mo81 K7_73 mj1 rfl rfl rfl rfl (Nat.le_of_ble_eq_true rfl)
theorem t81_39 : decode (mb 81) 39 = .ok (.ifCond .eq 63, 3) := by decide +kernel
theorem s81_39 (d : Nat) (l0 : Value) (l1 : Value) (l2 : Value) (l3 : Value) (l4 : Value) (x : Int32) (σ : Hs) : ru d 81 39 [l0, l1, l2, l3, l4] [.int x] σ = if x = 0 then ru d 81 102 [l0, l1, l2, l3, l4] [] σ else ru d 81 42 [l0, l1, l2, l3, l4] [] σ := q_if_eq t81_39 (by decide +kernel)
theorem t81_42 : decode (mb 81) 42 = .ok (.aload_n 0, 1) := by decide +kernel
theorem s81_42 (d : Nat) (a0 : Nat) (l1 : Value) (l2 : Value) (l3 : Value) (l4 : Value) (σ : Hs) : ru d 81 42 [.ref a0, l1, l2, l3, l4] [] σ = ru d 81 43 [.ref a0, l1, l2, l3, l4] [.ref a0] σ := q_aload_n t81_42 rfl
theorem t81_43 : decode (mb 81) 43 = .ok (.getfield 22, 3) := by decide +kernel
theorem s81_43_o0 (d : Nat) (l0 : Value) (l1 : Value) (l2 : Value) (l3 : Value) (l4 : Value) (σ : Hs) : ru d 81 43 [l0, l1, l2, l3, l4] [.ref 0] σ = ru d 81 46 [l0, l1, l2, l3, l4] [.ref 59] σ := q_getf t81_43 mo81 F7_22 rfl rfl
theorem t81_46 : decode (mb 81) 46 = .ok (.aload_n 0, 1) := by decide +kernel
theorem s81_46 (d : Nat) (a0 : Nat) (l1 : Value) (l2 : Value) (l3 : Value) (l4 : Value) (w0 : Value) (σ : Hs) : ru d 81 46 [.ref a0, l1, l2, l3, l4] [w0] σ = ru d 81 47 [.ref a0, l1, l2, l3, l4] [.ref a0, w0] σ := q_aload_n t81_46 rfl
theorem t81_47 : decode (mb 81) 47 = .ok (.getfield 10, 3) := by decide +kernel
theorem s81_47_o0 (d : Nat) (l0 : Value) (l1 : Value) (l2 : Value) (l3 : Value) (l4 : Value) (w0 : Value) (σ : Hs) : ru d 81 47 [l0, l1, l2, l3, l4] [.ref 0, w0] σ = ru d 81 50 [l0, l1, l2, l3, l4] [.ref 1, w0] σ := q_getf t81_47 mo81 F7_10 rfl rfl
theorem t81_50 : decode (mb 81) 50 = .ok (.getfield 58, 3) := by decide +kernel
theorem s81_50_o1 (d : Nat) (l0 : Value) (l1 : Value) (l2 : Value) (l3 : Value) (l4 : Value) (w0 : Value) (σ : Hs) : ru d 81 50 [l0, l1, l2, l3, l4] [.ref 1, w0] σ = ru d 81 53 [l0, l1, l2, l3, l4] [.ref 2, w0] σ := q_getf t81_50 mo81 F7_58 rfl rfl
theorem t81_53 : decode (mb 81) 53 = .ok (.invokevirtual 199, 3) := by decide +kernel
theorem s81_53_o59 (d : Nat) (l0 : Value) (l1 : Value) (l2 : Value) (l3 : Value) (l4 : Value) (v1 : Value) (σ : Hs) : ru d 81 53 [l0, l1, l2, l3, l4] [v1, .ref 59] σ = kont (callD d 0 [.ref 59, v1] σ) d 81 56 [l0, l1, l2, l3, l4] [] := q_invv t81_53 mo81 K7_199 mj0 rfl rfl rfl rfl (Nat.le_of_ble_eq_true rfl)
theorem t81_56 : decode (mb 81) 56 = .ok (.aload_n 0, 1) := by decide +kernel
theorem s81_56 (d : Nat) (a0 : Nat) (l1 : Value) (l2 : Value) (l3 : Value) (l4 : Value) (σ : Hs) : ru d 81 56 [.ref a0, l1, l2, l3, l4] [] σ = ru d 81 57 [.ref a0, l1, l2, l3, l4] [.ref a0] σ := q_aload_n t81_56 rfl
theorem t81_57 : decode (mb 81) 57 = .ok (.getfield 22, 3) := by decide +kernel
theorem s81_57_o0 (d : Nat) (l0 : Value) (l1 : Value) (l2 : Value) (l3 : Value) (l4 : Value) (σ : Hs) : ru d 81 57 [l0, l1, l2, l3, l4] [.ref 0] σ = ru d 81 60 [l0, l1, l2, l3, l4] [.ref 59] σ := q_getf t81_57 mo81 F7_22 rfl rfl
theorem t81_60 : decode (mb 81) 60 = .ok (.iload 4, 2) := by decide +kernel
theorem s81_60 (d : Nat) (l0 : Value) (l1 : Value) (l2 : Value) (l3 : Value) (i4 : Int32) (w0 : Value) (σ : Hs) : ru d 81 60 [l0, l1, l2, l3, .int i4] [w0] σ = ru d 81 62 [l0, l1, l2, l3, .int i4] [.int i4, w0] σ := q_iload t81_60 rfl
theorem t81_62 : decode (mb 81) 62 = .ok (.invokevirtual 108, 3) := by decide +kernel
theorem s81_62_o59 (d : Nat) (l0 : Value) (l1 : Value) (l2 : Value) (l3 : Value) (l4 : Value) (v1 : Value) (σ : Hs) : ru d 81 62 [l0, l1, l2, l3, l4] [v1, .ref 59] σ = kont (callD d 9 [.ref 59, v1] σ) d 81 65 [l0, l1, l2, l3, l4] [] := q_invv t81_62 mo81 K7_108 mj9 rfl rfl rfl rfl (Nat.le_of_ble_eq_true rfl)
theorem t81_65 : decode (mb 81) 65 = .ok (.aload_n 0, 1) := by decide +kernel
theorem s81_65 (d : Nat) (a0 : Nat) (l1 : Value) (l2 : Value) (l3 : Value) (l4 : Value) (σ : Hs) : ru d 81 65 [.ref a0, l1, l2, l3, l4] [] σ = ru d 81 66 [.ref a0, l1, l2, l3, l4] [.ref a0] σ := q_aload_n t81_65 rfl
theorem t81_66 : decode (mb 81) 66 = .ok (.getfield 22, 3) := by decide +kernel
theorem s81_66_o0 (d : Nat) (l0 : Value) (l1 : Value) (l2 : Value) (l3 : Value) (l4 : Value) (σ : Hs) : ru d 81 66 [l0, l1, l2, l3, l4] [.ref 0] σ = ru d 81 69 [l0, l1, l2, l3, l4] [.ref 59] σ := q_getf t81_66 mo81 F7_22 rfl rfl
theorem t81_69 : decode (mb 81) 69 = .ok (.iload_n 1, 1) := by decide +kernel
theorem s81_69 (d : Nat) (l0 : Value) (i1 : Int32) (l2 : Value) (l3 : Value) (l4 : Value) (w0 : Value) (σ : Hs) : ru d 81 69 [l0, .int i1, l2, l3, l4] [w0] σ = ru d 81 70 [l0, .int i1, l2, l3, l4] [.int i1, w0] σ := q_iload_n t81_69 rfl
theorem t81_70 : decode (mb 81) 70 = .ok (.aload_n 0, 1) := by decide +kernel
theorem s81_70 (d : Nat) (a0 : Nat) (l1 : Value) (l2 : Value) (l3 : Value) (l4 : Value) (w0 w1 : Value) (σ : Hs) : ru d 81 70 [.ref a0, l1, l2, l3, l4] [w0, w1] σ = ru d 81 71 [.ref a0, l1, l2, l3, l4] [.ref a0, w0, w1] σ := q_aload_n t81_70 rfl
theorem t81_71 : decode (mb 81) 71 = .ok (.getfield 10, 3) := by decide +kernel
theorem s81_71_o0 (d : Nat) (l0 : Value) (l1 : Value) (l2 : Value) (l3 : Value) (l4 : Value) (w0 w1 : Value) (σ : Hs) : ru d 81 71 [l0, l1, l2, l3, l4] [.ref 0, w0, w1] σ = ru d 81 74 [l0, l1, l2, l3, l4] [.ref 1, w0, w1] σ := q_getf t81_71 mo81 F7_10 rfl rfl
theorem t81_74 : decode (mb 81) 74 = .ok (.getfield 146, 3) := by decide +kernel
theorem s81_74_o1 (d : Nat) (l0 : Value) (l1 : Value) (l2 : Value) (l3 : Value) (l4 : Value) (w0 w1 : Value) (σ : Hs) : ru d 81 74 [l0, l1, l2, l3, l4] [.ref 1, w0, w1] σ = ru d 81 77 [l0, l1, l2, l3, l4] [.ref 13, w0, w1] σ := q_getf t81_74 mo81 F7_146 rfl rfl
theorem t81_77 : decode (mb 81) 77 = .ok (.invokevirtual 168, 3) := by decide +kernel
theorem s81_77_o59 (d : Nat) (l0 : Value) (l1 : Value) (l2 : Value) (l3 : Value) (l4 : Value) (v1 v2 : Value) (σ : Hs) : ru d 81 77 [l0, l1, l2, l3, l4] [v2, v1, .ref 59] σ = kont (callD d 13 [.ref 59, v1, v2] σ) d 81 80 [l0, l1, l2, l3, l4] [] := q_invv t81_77 mo81 K7_168 mj13 rfl rfl rfl rfl (Nat.le_of_ble_eq_true rfl)
theorem t81_80 : decode (mb 81) 80 = .ok (.aload_n 0, 1) := by decide +kernel
theorem s81_80 (d : Nat) (a0 : Nat) (l1 : Value) (l2 : Value) (l3 : Value) (l4 : Value) (σ : Hs) : ru d 81 80 [.ref a0, l1, l2, l3, l4] [] σ = ru d 81 81 [.ref a0, l1, l2, l3, l4] [.ref a0] σ := q_aload_n t81_80 rfl
theorem t81_81 : decode (mb 81) 81 = .ok (.getfield 22, 3) := by decide +kernel
theorem s81_81_o0 (d : Nat) (l0 : Value) (l1 : Value) (l2 : Value) (l3 : Value) (l4 : Value) (σ : Hs) : ru d 81 81 [l0, l1, l2, l3, l4] [.ref 0] σ = ru d 81 84 [l0, l1, l2, l3, l4] [.ref 59] σ := q_getf t81_81 mo81 F7_22 rfl rfl
theorem t81_84 : decode (mb 81) 84 = .ok (.getfield 209, 3) := by decide +kernel
theorem s81_84_o59 (d : Nat) (l0 : Value) (l1 : Value) (l2 : Value) (l3 : Value) (l4 : Value) (σ : Hs) : ru d 81 84 [l0, l1, l2, l3, l4] [.ref 59] σ = ru d 81 87 [l0, l1, l2, l3, l4] [.int (σ 59 11)] σ := q_getf t81_84 mo81 F7_209 rfl rfl
theorem t81_87 : decode (mb 81) 87 = .ok (.iload_n 3, 1) := by decide +kernel
theorem s81_87 (d : Nat) (l0 : Value) (l1 : Value) (l2 : Value) (i3 : Int32) (l4 : Value) (w0 : Value) (σ : Hs) : ru d 81 87 [l0, l1, l2, .int i3, l4] [w0] σ = ru d 81 88 [l0, l1, l2, .int i3, l4] [.int i3, w0] σ := q_iload_n t81_87 rfl
theorem t81_88 : decode (mb 81) 88 = .ok (.if_icmp .le 14, 3) := by decide +kernel
theorem s81_88 (d : Nat) (l0 : Value) (l1 : Value) (l2 : Value) (l3 : Value) (l4 : Value) (x y : Int32) (σ : Hs) : ru d 81 88 [l0, l1, l2, l3, l4] [.int y, .int x] σ = if x ≤ y then ru d 81 102 [l0, l1, l2, l3, l4] [] σ else ru d 81 91 [l0, l1, l2, l3, l4] [] σ := q_ic_le t81_88 (by decide +kernel)
theorem t81_91 : decode (mb 81) 91 = .ok (.iload 4, 2) := by decide +kernel
theorem s81_91 (d : Nat) (l0 : Value) (l1 : Value) (l2 : Value) (l3 : Value) (i4 : Int32) (σ : Hs) : ru d 81 91 [l0, l1, l2, l3, .int i4] [] σ = ru d 81 93 [l0, l1, l2, l3, .int i4] [.int i4] σ := q_iload t81_91 rfl
theorem t81_93 : decode (mb 81) 93 = .ok (.istore_n 2, 1) := by decide +kernel
theorem s81_93 (d : Nat) (l0 : Value) (i1 : Int32) (l2 : Value) (l3 : Value) (l4 : Value) (x : Int32) (σ : Hs) : ru d 81 93 [l0, .int i1, l2, l3, l4] [.int x] σ = ru d 81 94 [l0, .int i1, .int x, l3, l4] [] σ := q_istore_n t81_93 ⟨Nat.le_of_ble_eq_true rfl, rfl⟩ rfl
theorem t81_94 : decode (mb 81) 94 = .ok (.aload_n 0, 1) := by decide +kernel
theorem s81_94 (d : Nat) (a0 : Nat) (l1 : Value) (l2 : Value) (l3 : Value) (l4 : Value) (σ : Hs) : ru d 81 94 [.ref a0, l1, l2, l3, l4] [] σ = ru d 81 95 [.ref a0, l1, l2, l3, l4] [.ref a0] σ := q_aload_n t81_94 rfl
theorem t81_95 : decode (mb 81) 95 = .ok (.getfield 22, 3) := by decide +kernel
theorem s81_95_o0 (d : Nat) (l0 : Value) (l1 : Value) (l2 : Value) (l3 : Value) (l4 : Value) (σ : Hs) : ru d 81 95 [l0, l1, l2, l3, l4] [.ref 0] σ = ru d 81 98 [l0, l1, l2, l3, l4] [.ref 59] σ := q_getf t81_95 mo81 F7_22 rfl rfl
theorem t81_98 : decode (mb 81) 98 = .ok (.getfield 209, 3) := by decide +kernel
theorem s81_98_o59 (d : Nat) (l0 : Value) (l1 : Value) (l2 : Value) (l3 : Value) (l4 : Value) (σ : Hs) : ru d 81 98 [l0, l1, l2, l3, l4] [.ref 59] σ = ru d 81 101 [l0, l1, l2, l3, l4] [.int (σ 59 11)] σ := q_getf t81_98 mo81 F7_209 rfl rfl
theorem t81_101 : decode (mb 81) 101 = .ok (.istore_n 3, 1) := by decide +kernel
theorem s81_101 (d : Nat) (l0 : Value) (l1 : Value) (i2 : Int32) (l3 : Value) (l4 : Value) (x : Int32) (σ : Hs) : ru d 81 101 [l0, l1, .int i2, l3, l4] [.int x] σ = ru d 81 102 [l0, l1, .int i2, .int x, l4] [] σ := q_istore_n t81_101 ⟨Nat.le_of_ble_eq_true rfl, rfl⟩ rfl
theorem t81_102 : decode (mb 81) 102 = .ok (.iinc 4 1, 3) := by decide +kernel
theorem s81_102 (d : Nat) (l0 : Value) (l1 : Value) (l2 : Value) (i3 : Int32) (i4 : Int32) (σ : Hs) : ru d 81 102 [l0, l1, l2, .int i3, .int i4] [] σ = ru d 81 105 [l0, l1, l2, .int i3, .int (i4 + 1)] [] σ := q_iinc t81_102 ⟨Nat.le_of_ble_eq_true rfl, rfl⟩ rfl (by decide +kernel) rfl
theorem t81_105 : decode (mb 81) 105 = .ok (.goto (-85), 3) := by decide +kernel
theorem s81_105 (d : Nat) (l0 : Value) (l1 : Value) (l2 : Value) (l3 : Value) (l4 : Value) (σ : Hs) : ru d 81 105 [l0, l1, l2, l3, l4] [] σ = ru d 81 20 [l0, l1, l2, l3, l4] [] σ := q_goto t81_105 (by decide +kernel)
theorem t81_108 : decode (mb 81) 108 = .ok (.iload_n 2, 1) := by decide +kernel
theorem s81_108 (d : Nat) (l0 : Value) (l1 : Value) (i2 : Int32) (l3 : Value) (l4 : Value) (σ : Hs) : ru d 81 108 [l0, l1, .int i2, l3, l4] [] σ = ru d 81 109 [l0, l1, .int i2, l3, l4] [.int i2] σ := q_iload_n t81_108 rfl
theorem t81_109 : decode (mb 81) 109 = .ok (.iconst (-1), 1) := by decide +kernel
theorem s81_109 (d : Nat) (l0 : Value) (l1 : Value) (l2 : Value) (l3 : Value) (l4 : Value) (w0 : Value) (σ : Hs) : ru d 81 109 [l0, l1, l2, l3, l4] [w0] σ = ru d 81 110 [l0, l1, l2, l3, l4] [.int (-1), w0] σ := q_iconst t81_109 (by decide +kernel)
theorem t81_110 : decode (mb 81) 110 = .ok (.if_icmp .ne 11, 3) := by decide +kernel
theorem s81_110 (d : Nat) (l0 : Value) (l1 : Value) (l2 : Value) (l3 : Value) (l4 : Value) (x y : Int32) (σ : Hs) : ru d 81 110 [l0, l1, l2, l3, l4] [.int y, .int x] σ = if x = y then ru d 81 113 [l0, l1, l2, l3, l4] [] σ else ru d 81 121 [l0, l1, l2, l3, l4] [] σ := q_ic_ne t81_110 (by decide +kernel)
theorem t81_113 : decode (mb 81) 113 = .ok (.aload_n 0, 1) := by decide +kernel
theorem s81_113 (d : Nat) (a0 : Nat) (l1 : Value) (l2 : Value) (l3 : Value) (l4 : Value) (σ : Hs) : ru d 81 113 [.ref a0, l1, l2, l3, l4] [] σ = ru d 81 114 [.ref a0, l1, l2, l3, l4] [.ref a0] σ := q_aload_n t81_113 rfl
theorem t81_114 : decode (mb 81) 114 = .ok (.iconst 2, 1) := by decide +kernel
theorem s81_114 (d : Nat) (l0 : Value) (l1 : Value) (l2 : Value) (l3 : Value) (l4 : Value) (w0 : Value) (σ : Hs) : ru d 81 114 [l0, l1, l2, l3, l4] [w0] σ = ru d 81 115 [l0, l1, l2, l3, l4] [.int 2, w0] σ := q_iconst t81_114 (by decide +kernel)
theorem t81_115 : decode (mb 81) 115 = .ok (.invokevirtual 65, 3) := by decide +kernel
theorem s81_115_o0 (d : Nat) (l0 : Value) (l1 : Value) (l2 : Value) (l3 : Value) (l4 : Value) (v1 : Value) (σ : Hs) : ru d 81 115 [l0, l1, l2, l3, l4] [v1, .ref 0] σ = kont (callD d 100 [.ref 0, v1] σ) d 81 118 [l0, l1, l2, l3, l4] [] := q_invv t81_115 mo81 K7_65 mj100 rfl rfl rfl rfl (Nat.le_of_ble_eq_true rfl)
theorem t81_118 : decode (mb 81) 118 = .ok (.goto 4, 3) := by decide +kernel
theorem s81_118 (d : Nat) (l0 : Value) (l1 : Value) (l2 : Value) (l3 : Value) (l4 : Value) (w0 : Value) (σ : Hs) : ru d 81 118 [l0, l1, l2, l3, l4] [w0] σ = ru d 81 122 [l0, l1, l2, l3, l4] [w0] σ := q_goto t81_118 (by decide +kernel)
theorem t81_121 : decode (mb 81) 121 = .ok (.iload_n 2, 1) := by decide +kernel
theorem s81_121 (d : Nat) (l0 : Value) (l1 : Value) (i2 : Int32) (l3 : Value) (l4 : Value) (σ : Hs) : ru d 81 121 [l0, l1, .int i2, l3, l4] [] σ = ru d 81 122 [l0, l1, .int i2, l3, l4] [.int i2] σ := q_iload_n t81_121 rfl
theorem t81_122 : decode (mb 81) 122 = .ok (.ireturn, 1) := by decide +kernel
theorem s81_122 (d : Nat) (l0 : Value) (l1 : Value) (l2 : Value) (l3 : Value) (l4 : Value) (x : Int32) (σ : Hs) : ru d 81 122 [l0, l1, l2, l3, l4] [.int x] σ = some (some (.int x), σ) := q_ireti t81_122 mr81
theorem c81 (d : Nat) (x0 : Nat) (x1 : Int32) (σ : Hs) : callD (d + 1) 81 [.ref x0, .int x1] σ = ru d 81 0 [.ref x0, .int x1, uu, uu, uu] [] σ := callD_ru ml81 rfl rfl (Nat.le_of_ble_eq_true rfl)
-- 82: SmokyHeap.out(I)I
theorem t82_0 : decode (mb 82) 0 = .ok (.iload_n 1, 1) := by decide +kernel
theorem s82_0 (d : Nat) (l0 : Value) (i1 : Int32) (l2 : Value) (σ : Hs) : ru d 82 0 [l0, .int i1, l2] [] σ = ru d 82 1 [l0, .int i1, l2] [.int i1] σ := q_iload_n t82_0 rfl
theorem t82_1 : decode (mb 82) 1 = .ok (.invokestatic 196, 3) := by decide +kernel
theorem s82_1 (d : Nat) (l0 : Value) (l1 : Value) (l2 : Value) (v0 : Value) (σ : Hs) : ru d 82 1 [l0, l1, l2] [v0] σ = kont (callD d 109 [v0] σ) d 82 4 [l0, l1, l2] [] := q_invs t82_1 mo82 (by decide +kernel) K7_196 mj109 (Nat.le_of_ble_eq_true rfl) rfl rfl (Nat.le_of_ble_eq_true rfl)
theorem t82_4 : decode (mb 82) 4 = .ok (.ifCond .ne 9, 3) := by decide +kernel
theorem s82_4 (d : Nat) (l0 : Value) (l1 : Value) (l2 : Value) (x : Int32) (σ : Hs) : ru d 82 4 [l0, l1, l2] [.int x] σ = if x = 0 then ru d 82 7 [l0, l1, l2] [] σ else ru d 82 13 [l0, l1, l2] [] σ := q_if_ne t82_4 (by decide +kernel)
theorem t82_7 : decode (mb 82) 7 = .ok (.aload_n 0, 1) := by decide +kernel
theorem s82_7 (d : Nat) (a0 : Nat) (l1 : Value) (l2 : Value) (σ : Hs) : ru d 82 7 [.ref a0, l1, l2] [] σ = ru d 82 8 [.ref a0, l1, l2] [.ref a0] σ := q_aload_n t82_7 rfl
theorem t82_8 : decode (mb 82) 8 = .ok (.iconst 1, 1) := by decide +kernel
theorem s82_8 (d : Nat) (l0 : Value) (l1 : Value) (l2 : Value) (w0 : Value) (σ : Hs) : ru d 82 8 [l0, l1, l2] [w0] σ = ru d 82 9 [l0, l1, l2] [.int 1, w0] σ := q_iconst t82_8 (by decide +kernel)
theorem t82_9 : decode (mb 82) 9 = .ok (.invokevirtual 65, 3) := by decide +kernel
theorem s82_9_o0 (d : Nat) (l0 : Value) (l1 : Value) (l2 : Value) (v1 : Value) (σ : Hs) : ru d 82 9 [l0, l1, l2] [v1, .ref 0] σ = kont (callD d 100 [.ref 0, v1] σ) d 82 12 [l0, l1, l2] [] := q_invv t82_9 mo82 K7_65 mj100 rfl rfl rfl rfl (Nat.le_of_ble_eq_true rfl)
theorem t82_12 : decode (mb 82) 12 = .ok (.ireturn, 1) := by decide +kernel
theorem s82_12 (d : Nat) (l0 : Value) (l1 : Value) (l2 : Value) (x : Int32) (σ : Hs) : ru d 82 12 [l0, l1, l2] [.int x] σ = some (some (.int x), σ) := q_ireti t82_12 mr82
theorem t82_13 : decode (mb 82) 13 = .ok (.iconst 0, 1) := by decide +kernel
theorem s82_13 (d : Nat) (l0 : Value) (l1 : Value) (l2 : Value) (σ : Hs) : ru d 82 13 [l0, l1, l2] [] σ = ru d 82 14 [l0, l1, l2] [.int 0] σ := q_iconst t82_13 (by decide +kernel)
theorem t82_14 : decode (mb 82) 14 = .ok (.istore_n 2, 1) := by decide +kernel
theorem s82_14 (d : Nat) (l0 : Value) (i1 : Int32) (l2 : Value) (x : Int32) (σ : Hs) : ru d 82 14 [l0, .int i1, l2] [.int x] σ = ru d 82 15 [l0, .int i1, .int x] [] σ := q_istore_n t82_14 ⟨Nat.le_of_ble_eq_true rfl, rfl⟩ rfl
theorem t82_15 : decode (mb 82) 15 = .ok (.iload_n 2, 1) := by decide +kernel
theorem s82_15 (d : Nat) (l0 : Value) (l1 : Value) (i2 : Int32) (σ : Hs) : ru d 82 15 [l0, l1, .int i2] [] σ = ru d 82 16 [l0, l1, .int i2] [.int i2] σ := q_iload_n t82_15 rfl
theorem t82_16 : decode (mb 82) 16 = .ok (.sipush 950, 3) := by decide +kernel
theorem s82_16 (d : Nat) (l0 : Value) (l1 : Value) (l2 : Value) (w0 : Value) (σ : Hs) : ru d 82 16 [l0, l1, l2] [w0] σ = ru d 82 19 [l0, l1, l2] [.int 950, w0] σ := q_sipush t82_16 (by decide +kernel)
theorem t82_19 : decode (mb 82) 19 = .ok (.if_icmp .gt 58, 3) := by decide +kernel
theorem s82_19 (d : Nat) (l0 : Value) (l1 : Value) (l2 : Value) (x y : Int32) (σ : Hs) : ru d 82 19 [l0, l1, l2] [.int y, .int x] σ = if y < x then ru d 82 77 [l0, l1, l2] [] σ else ru d 82 22 [l0, l1, l2] [] σ := q_ic_gt t82_19 (by decide +kernel)
theorem t82_22 : decode (mb 82) 22 = .ok (.aload_n 0, 1) := by decide +kernel
theorem s82_22 (d : Nat) (a0 : Nat) (l1 : Value) (l2 : Value) (σ : Hs) : ru d 82 22 [.ref a0, l1, l2] [] σ = ru d 82 23 [.ref a0, l1, l2] [.ref a0] σ := q_aload_n t82_22 rfl
theorem t82_23 : decode (mb 82) 23 = .ok (.getfield 22, 3) := by decide +kernel
theorem s82_23_o0 (d : Nat) (l0 : Value) (l1 : Value) (l2 : Value) (σ : Hs) : ru d 82 23 [l0, l1, l2] [.ref 0] σ = ru d 82 26 [l0, l1, l2] [.ref 59] σ := q_getf t82_23 mo82 F7_22 rfl rfl
theorem t82_26 : decode (mb 82) 26 = .ok (.aload_n 0, 1) := by decide +kernel
theorem s82_26 (d : Nat) (a0 : Nat) (l1 : Value) (l2 : Value) (w0 : Value) (σ : Hs) : ru d 82 26 [.ref a0, l1, l2] [w0] σ = ru d 82 27 [.ref a0, l1, l2] [.ref a0, w0] σ := q_aload_n t82_26 rfl
theorem t82_27 : decode (mb 82) 27 = .ok (.getfield 10, 3) := by decide +kernel
theorem s82_27_o0 (d : Nat) (l0 : Value) (l1 : Value) (l2 : Value) (w0 : Value) (σ : Hs) : ru d 82 27 [l0, l1, l2] [.ref 0, w0] σ = ru d 82 30 [l0, l1, l2] [.ref 1, w0] σ := q_getf t82_27 mo82 F7_10 rfl rfl
theorem t82_30 : decode (mb 82) 30 = .ok (.getfield 58, 3) := by decide +kernel
theorem s82_30_o1 (d : Nat) (l0 : Value) (l1 : Value) (l2 : Value) (w0 : Value) (σ : Hs) : ru d 82 30 [l0, l1, l2] [.ref 1, w0] σ = ru d 82 33 [l0, l1, l2] [.ref 2, w0] σ := q_getf t82_30 mo82 F7_58 rfl rfl
theorem t82_33 : decode (mb 82) 33 = .ok (.invokevirtual 199, 3) := by decide +kernel
theorem s82_33_o59 (d : Nat) (l0 : Value) (l1 : Value) (l2 : Value) (v1 : Value) (σ : Hs) : ru d 82 33 [l0, l1, l2] [v1, .ref 59] σ = kont (callD d 0 [.ref 59, v1] σ) d 82 36 [l0, l1, l2] [] := q_invv t82_33 mo82 K7_199 mj0 rfl rfl rfl rfl (Nat.le_of_ble_eq_true rfl)
theorem t82_36 : decode (mb 82) 36 = .ok (.aload_n 0, 1) := by decide +kernel
theorem s82_36 (d : Nat) (a0 : Nat) (l1 : Value) (l2 : Value) (σ : Hs) : ru d 82 36 [.ref a0, l1, l2] [] σ = ru d 82 37 [.ref a0, l1, l2] [.ref a0] σ := q_aload_n t82_36 rfl
theorem t82_37 : decode (mb 82) 37 = .ok (.getfield 22, 3) := by decide +kernel
theorem s82_37_o0 (d : Nat) (l0 : Value) (l1 : Value) (l2 : Value) (σ : Hs) : ru d 82 37 [l0, l1, l2] [.ref 0] σ = ru d 82 40 [l0, l1, l2] [.ref 59] σ := q_getf t82_37 mo82 F7_22 rfl rfl
theorem t82_40 : decode (mb 82) 40 = .ok (.iload_n 2, 1) := by decide +kernel
theorem s82_40 (d : Nat) (l0 : Value) (l1 : Value) (i2 : Int32) (w0 : Value) (σ : Hs) : ru d 82 40 [l0, l1, .int i2] [w0] σ = ru d 82 41 [l0, l1, .int i2] [.int i2, w0] σ := q_iload_n t82_40 rfl
theorem t82_41 : decode (mb 82) 41 = .ok (.invokevirtual 212, 3) := by decide +kernel
theorem s82_41_o59 (d : Nat) (l0 : Value) (l1 : Value) (l2 : Value) (v1 : Value) (σ : Hs) : ru d 82 41 [l0, l1, l2] [v1, .ref 59] σ = kont (callD d 11 [.ref 59, v1] σ) d 82 44 [l0, l1, l2] [] := q_invv t82_41 mo82 K7_212 mj11 rfl rfl rfl rfl (Nat.le_of_ble_eq_true rfl)
theorem t82_44 : decode (mb 82) 44 = .ok (.aload_n 0, 1) := by decide +kernel
theorem s82_44 (d : Nat) (a0 : Nat) (l1 : Value) (l2 : Value) (σ : Hs) : ru d 82 44 [.ref a0, l1, l2] [] σ = ru d 82 45 [.ref a0, l1, l2] [.ref a0] σ := q_aload_n t82_44 rfl
theorem t82_45 : decode (mb 82) 45 = .ok (.getfield 22, 3) := by decide +kernel
theorem s82_45_o0 (d : Nat) (l0 : Value) (l1 : Value) (l2 : Value) (σ : Hs) : ru d 82 45 [l0, l1, l2] [.ref 0] σ = ru d 82 48 [l0, l1, l2] [.ref 59] σ := q_getf t82_45 mo82 F7_22 rfl rfl
theorem t82_48 : decode (mb 82) 48 = .ok (.iload_n 1, 1) := by decide +kernel
theorem s82_48 (d : Nat) (l0 : Value) (i1 : Int32) (l2 : Value) (w0 : Value) (σ : Hs) : ru d 82 48 [l0, .int i1, l2] [w0] σ = ru d 82 49 [l0, .int i1, l2] [.int i1, w0] σ := q_iload_n t82_48 rfl
theorem t82_49 : decode (mb 82) 49 = .ok (.aload_n 0, 1) := by decide +kernel
theorem s82_49 (d : Nat) (a0 : Nat) (l1 : Value) (l2 : Value) (w0 w1 : Value) (σ : Hs) : ru d 82 49 [.ref a0, l1, l2] [w0, w1] σ = ru d 82 50 [.ref a0, l1, l2] [.ref a0, w0, w1] σ := q_aload_n t82_49 rfl
theorem t82_50 : decode (mb 82) 50 = .ok (.getfield 10, 3) := by decide +kernel
theorem s82_50_o0 (d : Nat) (l0 : Value) (l1 : Value) (l2 : Value) (w0 w1 : Value) (σ : Hs) : ru d 82 50 [l0, l1, l2] [.ref 0, w0, w1] σ = ru d 82 53 [l0, l1, l2] [.ref 1, w0, w1] σ := q_getf t82_50 mo82 F7_10 rfl rfl
theorem t82_53 : decode (mb 82) 53 = .ok (.getfield 146, 3) := by decide +kernel
theorem s82_53_o1 (d : Nat) (l0 : Value) (l1 : Value) (l2 : Value) (w0 w1 : Value) (σ : Hs) : ru d 82 53 [l0, l1, l2] [.ref 1, w0, w1] σ = ru d 82 56 [l0, l1, l2] [.ref 13, w0, w1] σ := q_getf t82_53 mo82 F7_146 rfl rfl
theorem t82_56 : decode (mb 82) 56 = .ok (.invokevirtual 168, 3) := by decide +kernel
theorem s82_56_o59 (d : Nat) (l0 : Value) (l1 : Value) (l2 : Value) (v1 v2 : Value) (σ : Hs) : ru d 82 56 [l0, l1, l2] [v2, v1, .ref 59] σ = kont (callD d 13 [.ref 59, v1, v2] σ) d 82 59 [l0, l1, l2] [] := q_invv t82_56 mo82 K7_168 mj13 rfl rfl rfl rfl (Nat.le_of_ble_eq_true rfl)
theorem t82_59 : decode (mb 82) 59 = .ok (.aload_n 0, 1) := by decide +kernel
theorem s82_59 (d : Nat) (a0 : Nat) (l1 : Value) (l2 : Value) (σ : Hs) : ru d 82 59 [.ref a0, l1, l2] [] σ = ru d 82 60 [.ref a0, l1, l2] [.ref a0] σ := q_aload_n t82_59 rfl
theorem t82_60 : decode (mb 82) 60 = .ok (.getfield 22, 3) := by decide +kernel
theorem s82_60_o0 (d : Nat) (l0 : Value) (l1 : Value) (l2 : Value) (σ : Hs) : ru d 82 60 [l0, l1, l2] [.ref 0] σ = ru d 82 63 [l0, l1, l2] [.ref 59] σ := q_getf t82_60 mo82 F7_22 rfl rfl
theorem t82_63 : decode (mb 82) 63 = .ok (.invokevirtual 215, 3) := by decide +kernel
theorem s82_63_o59 (d : Nat) (l0 : Value) (l1 : Value) (l2 : Value) (σ : Hs) : ru d 82 63 [l0, l1, l2] [.ref 59] σ = kont (callD d 7 [.ref 59] σ) d 82 66 [l0, l1, l2] [] := q_invv t82_63 mo82 K7_215 mj7 rfl rfl rfl rfl (Nat.le_of_ble_eq_true rfl)
theorem t82_66 : decode (mb 82) 66 = .ok (.ifCond .ne 5, 3) := by decide +kernel
theorem s82_66 (d : Nat) (l0 : Value) (l1 : Value) (l2 : Value) (x : Int32) (σ : Hs) : ru d 82 66 [l0, l1, l2] [.int x] σ = if x = 0 then ru d 82 69 [l0, l1, l2] [] σ else ru d 82 71 [l0, l1, l2] [] σ := q_if_ne t82_66 (by decide +kernel)
theorem t82_69 : decode (mb 82) 69 = .ok (.iload_n 2, 1) := by decide +kernel
theorem s82_69 (d : Nat) (l0 : Value) (l1 : Value) (i2 : Int32) (σ : Hs) : ru d 82 69 [l0, l1, .int i2] [] σ = ru d 82 70 [l0, l1, .int i2] [.int i2] σ := q_iload_n t82_69 rfl
theorem t82_70 : decode (mb 82) 70 = .ok (.ireturn, 1) := by decide +kernel
theorem s82_70 (d : Nat) (l0 : Value) (l1 : Value) (l2 : Value) (x : Int32) (σ : Hs) : ru d 82 70 [l0, l1, l2] [.int x] σ = some (some (.int x), σ) := q_ireti t82_70 mr82
theorem t82_71 : decode (mb 82) 71 = .ok (.iinc 2 50, 3) := by decide +kernel
theorem s82_71 (d : Nat) (l0 : Value) (i1 : Int32) (i2 : Int32) (σ : Hs) : ru d 82 71 [l0, .int i1, .int i2] [] σ = ru d 82 74 [l0, .int i1, .int (i2 + 50)] [] σ := q_iinc t82_71 ⟨Nat.le_of_ble_eq_true rfl, rfl⟩ rfl (by decide +kernel) rfl
theorem t82_74 : decode (mb 82) 74 = .ok (.goto (-59), 3) := by decide +kernel
theorem s82_74 (d : Nat) (l0 : Value) (l1 : Value) (l2 : Value) (σ : Hs) : ru d 82 74 [l0, l1, l2] [] σ = ru d 82 15 [l0, l1, l2] [] σ := q_goto t82_74 (by decide +kernel)
theorem t82_77 : decode (mb 82) 77 = .ok (.aload_n 0, 1) := by decide +kernel
theorem s82_77 (d : Nat) (a0 : Nat) (l1 : Value) (l2 : Value) (σ : Hs) : ru d 82 77 [.ref a0, l1, l2] [] σ = ru d 82 78 [.ref a0, l1, l2] [.ref a0] σ := q_aload_n t82_77 rfl
theorem t82_78 : decode (mb 82) 78 = .ok (.iconst 2, 1) := by decide +kernel
theorem s82_78 (d : Nat) (l0 : Value) (l1 : Value) (l2 : Value) (w0 : Value) (σ : Hs) : ru d 82 78 [l0, l1, l2] [w0] σ = ru d 82 79 [l0, l1, l2] [.int 2, w0] σ := q_iconst t82_78 (by decide +kernel)
theorem t82_79 : decode (mb 82) 79 = .ok (.invokevirtual 65, 3) := by decide +kernel
theorem s82_79_o0 (d : Nat) (l0 : Value) (l1 : Value) (l2 : Value) (v1 : Value) (σ : Hs) : ru d 82 79 [l0, l1, l2] [v1, .ref 0] σ = kont (callD d 100 [.ref 0, v1] σ) d 82 82 [l0, l1, l2] [] := q_invv t82_79 mo82 K7_65 mj100 rfl rfl rfl rfl (Nat.le_of_ble_eq_true rfl)
theorem t82_82 : decode (mb 82) 82 = .ok (.ireturn, 1) := by decide +kernel
theorem s82_82 (d : Nat) (l0 : Value) (l1 : Value) (l2 : Value) (x : Int32) (σ : Hs) : ru d 82 82 [l0, l1, l2] [.int x] σ = some (some (.int x), σ) := q_ireti t82_82 mr82
theorem c82 (d : Nat) (x0 : Nat) (x1 : Int32) (σ : Hs) : callD (d + 1) 82 [.ref x0, .int x1] σ = ru d 82 0 [.ref x0, .int x1, uu] [] σ := callD_ru ml82 rfl rfl (Nat.le_of_ble_eq_true rfl)
-- 83: SmokyHeap.catches(II)I
theorem t83_0 : decode (mb 83) 0 = .ok (.iload_n 1, 1) := by decide +kernel
theorem s83_0 (d : Nat) (l0 : Value) (i1 : Int32) (l2 : Value) (l3 : Value) (σ : Hs) : ru d 83 0 [l0, .int i1, l2, l3] [] σ = ru d 83 1 [l0, .int i1, l2, l3] [.int i1] σ := q_iload_n t83_0 rfl
theorem t83_1 : decode (mb 83) 1 = .ok (.invokestatic 69, 3) := by decide +kernel
theorem s83_1 (d : Nat) (l0 : Value) (l1 : Value) (l2 : Value) (l3 : Value) (v0 : Value) (σ : Hs) : ru d 83 1 [l0, l1, l2, l3] [v0] σ = kont (callD d 104 [v0] σ) d 83 4 [l0, l1, l2, l3] [] := q_invs t83_1 mo83 (by decide +kernel) K7_69 mj104 (Nat.le_of_ble_eq_true rfl) rfl rfl (Nat.le_of_ble_eq_true rfl)
theorem t83_4 : decode (mb 83) 4 = .ok (.ifCond .eq 10, 3) := by decide +kernel
theorem s83_4 (d : Nat) (l0 : Value) (l1 : Value) (l2 : Value) (l3 : Value) (x : Int32) (σ : Hs) : ru d 83 4 [l0, l1, l2, l3] [.int x] σ = if x = 0 then ru d 83 14 [l0, l1, l2, l3] [] σ else ru d 83 7 [l0, l1, l2, l3] [] σ := q_if_eq t83_4 (by decide +kernel)
theorem t83_7 : decode (mb 83) 7 = .ok (.iload_n 2, 1) := by decide +kernel
theorem s83_7 (d : Nat) (l0 : Value) (l1 : Value) (i2 : Int32) (l3 : Value) (σ : Hs) : ru d 83 7 [l0, l1, .int i2, l3] [] σ = ru d 83 8 [l0, l1, .int i2, l3] [.int i2] σ := q_iload_n t83_7 rfl
theorem t83_8 : decode (mb 83) 8 = .ok (.invokestatic 196, 3) := by decide +kernel
theorem s83_8 (d : Nat) (l0 : Value) (l1 : Value) (l2 : Value) (l3 : Value) (v0 : Value) (σ : Hs) : ru d 83 8 [l0, l1, l2, l3] [v0] σ = kont (callD d 109 [v0] σ) d 83 11 [l0, l1, l2, l3] [] := q_invs t83_8 mo83 (by decide +kernel) K7_196 mj109 (Nat.le_of_ble_eq_true rfl) rfl rfl (Nat.le_of_ble_eq_true rfl)
theorem t83_11 : decode (mb 83) 11 = .ok (.ifCond .ne 9, 3) := by decide +kernel
theorem s83_11 (d : Nat) (l0 : Value) (l1 : Value) (l2 : Value) (l3 : Value) (x : Int32) (σ : Hs) : ru d 83 11 [l0, l1, l2, l3] [.int x] σ = if x = 0 then ru d 83 14 [l0, l1, l2, l3] [] σ else ru d 83 20 [l0, l1, l2, l3] [] σ := q_if_ne t83_11 (by decide +kernel)
theorem t83_14 : decode (mb 83) 14 = .ok (.aload_n 0, 1) := by decide +kernel
theorem s83_14 (d : Nat) (a0 : Nat) (l1 : Value) (l2 : Value) (l3 : Value) (σ : Hs) : ru d 83 14 [.ref a0, l1, l2, l3] [] σ = ru d 83 15 [.ref a0, l1, l2, l3] [.ref a0] σ := q_aload_n t83_14 rfl
theorem t83_15 : decode (mb 83) 15 = .ok (.iconst 1, 1) := by decide +kernel
theorem s83_15 (d : Nat) (l0 : Value) (l1 : Value) (l2 : Value) (l3 : Value) (w0 : Value) (σ : Hs) : ru d 83 15 [l0, l1, l2, l3] [w0] σ = ru d 83 16 [l0, l1, l2, l3] [.int 1, w0] σ := q_iconst t83_15 (by decide +kernel)
theorem t83_16 : decode (mb 83) 16 = .ok (.invokevirtual 65, 3) := by decide +kernel
theorem s83_16_o0 (d : Nat) (l0 : Value) (l1 : Value) (l2 : Value) (l3 : Value) (v1 : Value) (σ : Hs) : ru d 83 16 [l0, l1, l2, l3] [v1, .ref 0] σ = kont (callD d 100 [.ref 0, v1] σ) d 83 19 [l0, l1, l2, l3] [] := q_invv t83_16 mo83 K7_65 mj100 rfl rfl rfl rfl (Nat.le_of_ble_eq_true rfl)
theorem t83_19 : decode (mb 83) 19 = .ok (.ireturn, 1) := by decide +kernel
theorem s83_19 (d : Nat) (l0 : Value) (l1 : Value) (l2 : Value) (l3 : Value) (x : Int32) (σ : Hs) : ru d 83 19 [l0, l1, l2, l3] [.int x] σ = some (some (.int x), σ) := q_ireti t83_19 mr83
theorem t83_20 : decode (mb 83) 20 = .ok (.aload_n 0, 1) := by decide +kernel
theorem s83_20 (d : Nat) (a0 : Nat) (l1 : Value) (l2 : Value) (l3 : Value) (σ : Hs) : ru d 83 20 [.ref a0, l1, l2, l3] [] σ = ru d 83 21 [.ref a0, l1, l2, l3] [.ref a0] σ := q_aload_n t83_20 rfl
theorem t83_21 : decode (mb 83) 21 = .ok (.getfield 22, 3) := by decide +kernel
theorem s83_21_o0 (d : Nat) (l0 : Value) (l1 : Value) (l2 : Value) (l3 : Value) (σ : Hs) : ru d 83 21 [l0, l1, l2, l3] [.ref 0] σ = ru d 83 24 [l0, l1, l2, l3] [.ref 59] σ := q_getf t83_21 mo83 F7_22 rfl rfl
theorem t83_24 : decode (mb 83) 24 = .ok (.aload_n 0, 1) := by decide +kernel
theorem s83_24 (d : Nat) (a0 : Nat) (l1 : Value) (l2 : Value) (l3 : Value) (w0 : Value) (σ : Hs) : ru d 83 24 [.ref a0, l1, l2, l3] [w0] σ = ru d 83 25 [.ref a0, l1, l2, l3] [.ref a0, w0] σ := q_aload_n t83_24 rfl
theorem t83_25 : decode (mb 83) 25 = .ok (.getfield 10, 3) := by decide +kernel
theorem s83_25_o0 (d : Nat) (l0 : Value) (l1 : Value) (l2 : Value) (l3 : Value) (w0 : Value) (σ : Hs) : ru d 83 25 [l0, l1, l2, l3] [.ref 0, w0] σ = ru d 83 28 [l0, l1, l2, l3] [.ref 1, w0] σ := q_getf t83_25 mo83 F7_10 rfl rfl
theorem t83_28 : decode (mb 83) 28 = .ok (.getfield 58, 3) := by decide +kernel
theorem s83_28_o1 (d : Nat) (l0 : Value) (l1 : Value) (l2 : Value) (l3 : Value) (w0 : Value) (σ : Hs) : ru d 83 28 [l0, l1, l2, l3] [.ref 1, w0] σ = ru d 83 31 [l0, l1, l2, l3] [.ref 2, w0] σ := q_getf t83_28 mo83 F7_58 rfl rfl
theorem t83_31 : decode (mb 83) 31 = .ok (.invokevirtual 199, 3) := by decide +kernel
theorem s83_31_o59 (d : Nat) (l0 : Value) (l1 : Value) (l2 : Value) (l3 : Value) (v1 : Value) (σ : Hs) : ru d 83 31 [l0, l1, l2, l3] [v1, .ref 59] σ = kont (callD d 0 [.ref 59, v1] σ) d 83 34 [l0, l1, l2, l3] [] := q_invv t83_31 mo83 K7_199 mj0 rfl rfl rfl rfl (Nat.le_of_ble_eq_true rfl)
theorem t83_34 : decode (mb 83) 34 = .ok (.iconst 0, 1) := by decide +kernel
theorem s83_34 (d : Nat) (l0 : Value) (l1 : Value) (l2 : Value) (l3 : Value) (σ : Hs) : ru d 83 34 [l0, l1, l2, l3] [] σ = ru d 83 35 [l0, l1, l2, l3] [.int 0] σ := q_iconst t83_34 (by decide +kernel)
theorem t83_35 : decode (mb 83) 35 = .ok (.istore_n 3, 1) := by decide +kernel
theorem s83_35 (d : Nat) (l0 : Value) (l1 : Value) (i2 : Int32) (l3 : Value) (x : Int32) (σ : Hs) : ru d 83 35 [l0, l1, .int i2, l3] [.int x] σ = ru d 83 36 [l0, l1, .int i2, .int x] [] σ := q_istore_n t83_35 ⟨Nat.le_of_ble_eq_true rfl, rfl⟩ rfl
theorem t83_36 : decode (mb 83) 36 = .ok (.iload_n 3, 1) := by decide +kernel
theorem s83_36 (d : Nat) (l0 : Value) (l1 : Value) (l2 : Value) (i3 : Int32) (σ : Hs) : ru d 83 36 [l0, l1, l2, .int i3] [] σ = ru d 83 37 [l0, l1, l2, .int i3] [.int i3] σ := q_iload_n t83_36 rfl
theorem t83_37 : decode (mb 83) 37 = .ok (.iload_n 2, 1) := by decide +kernel
theorem s83_37 (d : Nat) (l0 : Value) (l1 : Value) (i2 : Int32) (l3 : Value) (w0 : Value) (σ : Hs) : ru d 83 37 [l0, l1, .int i2, l3] [w0] σ = ru d 83 38 [l0, l1, .int i2, l3] [.int i2, w0] σ := q_iload_n t83_37 rfl
theorem t83_38 : decode (mb 83) 38 = .ok (.if_icmp .gt 57, 3) := by decide +kernel
theorem s83_38 (d : Nat) (l0 : Value) (l1 : Value) (l2 : Value) (l3 : Value) (x y : Int32) (σ : Hs) : ru d 83 38 [l0, l1, l2, l3] [.int y, .int x] σ = if y < x then ru d 83 95 [l0, l1, l2, l3] [] σ else ru d 83 41 [l0, l1, l2, l3] [] σ := q_ic_gt t83_38 (by decide +kernel)
theorem t83_41 : decode (mb 83) 41 = .ok (.aload_n 0, 1) := by decide +kernel
theorem s83_41 (d : Nat) (a0 : Nat) (l1 : Value) (l2 : Value) (l3 : Value) (σ : Hs) : ru d 83 41 [.ref a0, l1, l2, l3] [] σ = ru d 83 42 [.ref a0, l1, l2, l3] [.ref a0] σ := q_aload_n t83_41 rfl
theorem t83_42 : decode (mb 83) 42 = .ok (.getfield 22, 3) := by decide +kernel
theorem s83_42_o0 (d : Nat) (l0 : Value) (l1 : Value) (l2 : Value) (l3 : Value) (σ : Hs) : ru d 83 42 [l0, l1, l2, l3] [.ref 0] σ = ru d 83 45 [l0, l1, l2, l3] [.ref 59] σ := q_getf t83_42 mo83 F7_22 rfl rfl
theorem t83_45 : decode (mb 83) 45 = .ok (.iload_n 3, 1) := by decide +kernel
theorem s83_45 (d : Nat) (l0 : Value) (l1 : Value) (l2 : Value) (i3 : Int32) (w0 : Value) (σ : Hs) : ru d 83 45 [l0, l1, l2, .int i3] [w0] σ = ru d 83 46 [l0, l1, l2, .int i3] [.int i3, w0] σ := q_iload_n t83_45 rfl
theorem t83_46 : decode (mb 83) 46 = .ok (.ifCond .ne 7, 3) := by decide +kernel
theorem s83_46 (d : Nat) (l0 : Value) (l1 : Value) (l2 : Value) (l3 : Value) (x : Int32) (w0 : Value) (σ : Hs) : ru d 83 46 [l0, l1, l2, l3] [.int x, w0] σ = if x = 0 then ru d 83 49 [l0, l1, l2, l3] [w0] σ else ru d 83 53 [l0, l1, l2, l3] [w0] σ := q_if_ne t83_46 (by decide +kernel)
theorem t83_49 : decode (mb 83) 49 = .ok (.iconst 0, 1) := by decide +kernel
theorem s83_49 (d : Nat) (l0 : Value) (l1 : Value) (l2 : Value) (l3 : Value) (w0 : Value) (σ : Hs) : ru d 83 49 [l0, l1, l2, l3] [w0] σ = ru d 83 50 [l0, l1, l2, l3] [.int 0, w0] σ := q_iconst t83_49 (by decide +kernel)
theorem t83_50 : decode (mb 83) 50 = .ok (.goto 4, 3) := by decide +kernel
theorem s83_50 (d : Nat) (l0 : Value) (l1 : Value) (l2 : Value) (l3 : Value) (w0 w1 : Value) (σ : Hs) : ru d 83 50 [l0, l1, l2, l3] [w0, w1] σ = ru d 83 54 [l0, l1, l2, l3] [w0, w1] σ := q_goto t83_50 (by decide +kernel)
theorem t83_53 : decode (mb 83) 53 = .ok (.iconst 1, 1) := by decide +kernel
theorem s83_53 (d : Nat) (l0 : Value) (l1 : Value) (l2 : Value) (l3 : Value) (w0 : Value) (σ : Hs) : ru d 83 53 [l0, l1, l2, l3] [w0] σ = ru d 83 54 [l0, l1, l2, l3] [.int 1, w0] σ := q_iconst t83_53 (by decide +kernel)
theorem t83_54 : decode (mb 83) 54 = .ok (.aload_n 0, 1) := by decide +kernel
theorem s83_54 (d : Nat) (a0 : Nat) (l1 : Value) (l2 : Value) (l3 : Value) (w0 w1 : Value) (σ : Hs) : ru d 83 54 [.ref a0, l1, l2, l3] [w0, w1] σ = ru d 83 55 [.ref a0, l1, l2, l3] [.ref a0, w0, w1] σ := q_aload_n t83_54 rfl
theorem t83_55 : decode (mb 83) 55 = .ok (.getfield 10, 3) := by decide +kernel
theorem s83_55_o0 (d : Nat) (l0 : Value) (l1 : Value) (l2 : Value) (l3 : Value) (w0 w1 : Value) (σ : Hs) : ru d 83 55 [l0, l1, l2, l3] [.ref 0, w0, w1] σ = ru d 83 58 [l0, l1, l2, l3] [.ref 1, w0, w1] σ := q_getf t83_55 mo83 F7_10 rfl rfl
theorem t83_58 : decode (mb 83) 58 = .ok (.getfield 146, 3) := by decide +kernel
theorem s83_58_o1 (d : Nat) (l0 : Value) (l1 : Value) (l2 : Value) (l3 : Value) (w0 w1 : Value) (σ : Hs) : ru d 83 58 [l0, l1, l2, l3] [.ref 1, w0, w1] σ = ru d 83 61 [l0, l1, l2, l3] [.ref 13, w0, w1] σ := q_getf t83_58 mo83 F7_146 rfl rfl
theorem t83_61 : decode (mb 83) 61 = .ok (.invokevirtual 168, 3) := by decide +kernel
theorem s83_61_o59 (d : Nat) (l0 : Value) (l1 : Value) (l2 : Value) (l3 : Value) (v1 v2 : Value) (σ : Hs) : ru d 83 61 [l0, l1, l2, l3] [v2, v1, .ref 59] σ = kont (callD d 13 [.ref 59, v1, v2] σ) d 83 64 [l0, l1, l2, l3] [] := q_invv t83_61 mo83 K7_168 mj13 rfl rfl rfl rfl (Nat.le_of_ble_eq_true rfl)
theorem t83_64 : decode (mb 83) 64 = .ok (.aload_n 0, 1) := by decide +kernel
theorem s83_64 (d : Nat) (a0 : Nat) (l1 : Value) (l2 : Value) (l3 : Value) (σ : Hs) : ru d 83 64 [.ref a0, l1, l2, l3] [] σ = ru d 83 65 [.ref a0, l1, l2, l3] [.ref a0] σ := q_aload_n t83_64 rfl
theorem t83_65 : decode (mb 83) 65 = .ok (.getfield 22, 3) := by decide +kernel
theorem s83_65_o0 (d : Nat) (l0 : Value) (l1 : Value) (l2 : Value) (l3 : Value) (σ : Hs) : ru d 83 65 [l0, l1, l2, l3] [.ref 0] σ = ru d 83 68 [l0, l1, l2, l3] [.ref 59] σ := q_getf t83_65 mo83 F7_22 rfl rfl
theorem t83_68 : decode (mb 83) 68 = .ok (.iload_n 1, 1) := by decide +kernel
theorem s83_68 (d : Nat) (l0 : Value) (i1 : Int32) (l2 : Value) (l3 : Value) (w0 : Value) (σ : Hs) : ru d 83 68 [l0, .int i1, l2, l3] [w0] σ = ru d 83 69 [l0, .int i1, l2, l3] [.int i1, w0] σ := q_iload_n t83_68 rfl
theorem t83_69 : decode (mb 83) 69 = .ok (.invokevirtual 73, 3) := by decide +kernel
theorem s83_69_o59 (d : Nat) (l0 : Value) (l1 : Value) (l2 : Value) (l3 : Value) (v1 : Value) (σ : Hs) : ru d 83 69 [l0, l1, l2, l3] [v1, .ref 59] σ = kont (callD d 1 [.ref 59, v1] σ) d 83 72 [l0, l1, l2, l3] [] := q_invv t83_69 mo83 K7_73 mj1 rfl rfl rfl rfl (Nat.le_of_ble_eq_true rfl)
theorem t83_72 : decode (mb 83) 72 = .ok (.ifCond .eq 17, 3) := by decide +kernel
theorem s83_72 (d : Nat) (l0 : Value) (l1 : Value) (l2 : Value) (l3 : Value) (x : Int32) (σ : Hs) : ru d 83 72 [l0, l1, l2, l3] [.int x] σ = if x = 0 then ru d 83 89 [l0, l1, l2, l3] [] σ else ru d 83 75 [l0, l1, l2, l3] [] σ := q_if_eq t83_72 (by decide +kernel)
theorem t83_75 : decode (mb 83) 75 = .ok (.aload_n 0, 1) := by decide +kernel
theorem s83_75 (d : Nat) (a0 : Nat) (l1 : Value) (l2 : Value) (l3 : Value) (σ : Hs) : ru d 83 75 [.ref a0, l1, l2, l3] [] σ = ru d 83 76 [.ref a0, l1, l2, l3] [.ref a0] σ := q_aload_n t83_75 rfl
theorem t83_76 : decode (mb 83) 76 = .ok (.getfield 22, 3) := by decide +kernel
theorem s83_76_o0 (d : Nat) (l0 : Value) (l1 : Value) (l2 : Value) (l3 : Value) (σ : Hs) : ru d 83 76 [l0, l1, l2, l3] [.ref 0] σ = ru d 83 79 [l0, l1, l2, l3] [.ref 59] σ := q_getf t83_76 mo83 F7_22 rfl rfl
theorem t83_79 : decode (mb 83) 79 = .ok (.getfield 218, 3) := by decide +kernel
theorem s83_79_o59 (d : Nat) (l0 : Value) (l1 : Value) (l2 : Value) (l3 : Value) (σ : Hs) : ru d 83 79 [l0, l1, l2, l3] [.ref 59] σ = ru d 83 82 [l0, l1, l2, l3] [.ref 65] σ := q_getf t83_79 mo83 F7_218 rfl rfl
theorem t83_82 : decode (mb 83) 82 = .ok (.iload_n 1, 1) := by decide +kernel
theorem s83_82 (d : Nat) (l0 : Value) (i1 : Int32) (l2 : Value) (l3 : Value) (w0 : Value) (σ : Hs) : ru d 83 82 [l0, .int i1, l2, l3] [w0] σ = ru d 83 83 [l0, .int i1, l2, l3] [.int i1, w0] σ := q_iload_n t83_82 rfl
theorem t83_83 : decode (mb 83) 83 = .ok (.baload, 1) := by decide +kernel
theorem s83_83_o65 (d : Nat) (l0 : Value) (l1 : Value) (l2 : Value) (l3 : Value) (i : Int32) (σ : Hs) : ru d 83 83 [l0, l1, l2, l3] [.int i, .ref 65] σ = gd (vp_in i 30) (ru d 83 84 [l0, l1, l2, l3] [.int (σ 65 i.toNatClampNeg)] σ) := q_bald t83_83 (by decide +kernel) rfl rfl
theorem t83_84 : decode (mb 83) 84 = .ok (.ifCond .eq 5, 3) := by decide +kernel
theorem s83_84 (d : Nat) (l0 : Value) (l1 : Value) (l2 : Value) (l3 : Value) (x : Int32) (σ : Hs) : ru d 83 84 [l0, l1, l2, l3] [.int x] σ = if x = 0 then ru d 83 89 [l0, l1, l2, l3] [] σ else ru d 83 87 [l0, l1, l2, l3] [] σ := q_if_eq t83_84 (by decide +kernel)
theorem t83_87 : decode (mb 83) 87 = .ok (.iload_n 3, 1) := by decide +kernel
theorem s83_87 (d : Nat) (l0 : Value) (l1 : Value) (l2 : Value) (i3 : Int32) (σ : Hs) : ru d 83 87 [l0, l1, l2, .int i3] [] σ = ru d 83 88 [l0, l1, l2, .int i3] [.int i3] σ := q_iload_n t83_87 rfl
theorem t83_88 : decode (mb 83) 88 = .ok (.ireturn, 1) := by decide +kernel
theorem s83_88 (d : Nat) (l0 : Value) (l1 : Value) (l2 : Value) (l3 : Value) (x : Int32) (σ : Hs) : ru d 83 88 [l0, l1, l2, l3] [.int x] σ = some (some (.int x), σ) := q_ireti t83_88 mr83
theorem t83_89 : decode (mb 83) 89 = .ok (.iinc 3 1, 3) := by decide +kernel
theorem s83_89 (d : Nat) (l0 : Value) (l1 : Value) (i2 : Int32) (i3 : Int32) (σ : Hs) : ru d 83 89 [l0, l1, .int i2, .int i3] [] σ = ru d 83 92 [l0, l1, .int i2, .int (i3 + 1)] [] σ := q_iinc t83_89 ⟨Nat.le_of_ble_eq_true rfl, rfl⟩ rfl (by decide +kernel) rfl
theorem t83_92 : decode (mb 83) 92 = .ok (.goto (-56), 3) := by decide +kernel
theorem s83_92 (d : Nat) (l0 : Value) (l1 : Value) (l2 : Value) (l3 : Value) (σ : Hs) : ru d 83 92 [l0, l1, l2, l3] [] σ = ru d 83 36 [l0, l1, l2, l3] [] σ := q_goto t83_92 (by decide +kernel)
theorem t83_95 : decode (mb 83) 95 = .ok (.aload_n 0, 1) := by decide +kernel
theorem s83_95 (d : Nat) (a0 : Nat) (l1 : Value) (l2 : Value) (l3 : Value) (σ : Hs) : ru d 83 95 [.ref a0, l1, l2, l3] [] σ = ru d 83 96 [.ref a0, l1, l2, l3] [.ref a0] σ := q_aload_n t83_95 rfl
theorem t83_96 : decode (mb 83) 96 = .ok (.iconst 2, 1) := by decide +kernel
theorem s83_96 (d : Nat) (l0 : Value) (l1 : Value) (l2 : Value) (l3 : Value) (w0 : Value) (σ : Hs) : ru d 83 96 [l0, l1, l2, l3] [w0] σ = ru d 83 97 [l0, l1, l2, l3] [.int 2, w0] σ := q_iconst t83_96 (by decide +kernel)
theorem t83_97 : decode (mb 83) 97 = .ok (.invokevirtual 65, 3) := by decide +kernel
theorem s83_97_o0 (d : Nat) (l0 : Value) (l1 : Value) (l2 : Value) (l3 : Value) (v1 : Value) (σ : Hs) : ru d 83 97 [l0, l1, l2, l3] [v1, .ref 0] σ = kont (callD d 100 [.ref 0, v1] σ) d 83 100 [l0, l1, l2, l3] [] := q_invv t83_97 mo83 K7_65 mj100 rfl rfl rfl rfl (Nat.le_of_ble_eq_true rfl)
theorem t83_100 : decode (mb 83) 100 = .ok (.ireturn, 1) := by decide +kernel
theorem s83_100 (d : Nat) (l0 : Value) (l1 : Value) (l2 : Value) (l3 : Value) (x : Int32) (σ : Hs) : ru d 83 100 [l0, l1, l2, l3] [.int x] σ = some (some (.int x), σ) := q_ireti t83_100 mr83
theorem c83 (d : Nat) (x0 : Nat) (x1 : Int32) (x2 : Int32) (σ : Hs) : callD (d + 1) 83 [.ref x0, .int x1, .int x2] σ = ru d 83 0 [.ref x0, .int x1, .int x2, uu] [] σ := callD_ru ml83 rfl rfl (Nat.le_of_ble_eq_true rfl)
-- 84: SmokyHeap.reach(I)I
theorem t84_0 : decode (mb 84) 0 = .ok (.iload_n 1, 1) := by decide +kernel
theorem s84_0 (d : Nat) (l0 : Value) (i1 : Int32) (σ : Hs) : ru d 84 0 [l0, .int i1] [] σ = ru d 84 1 [l0, .int i1] [.int i1] σ := q_iload_n t84_0 rfl
theorem t84_1 : decode (mb 84) 1 = .ok (.invokestatic 69, 3) := by decide +kernel
theorem s84_1 (d : Nat) (l0 : Value) (l1 : Value) (v0 : Value) (σ : Hs) : ru d 84 1 [l0, l1] [v0] σ = kont (callD d 104 [v0] σ) d 84 4 [l0, l1] [] := q_invs t84_1 mo84 (by decide +kernel) K7_69 mj104 (Nat.le_of_ble_eq_true rfl) rfl rfl (Nat.le_of_ble_eq_true rfl)
theorem t84_4 : decode (mb 84) 4 = .ok (.ifCond .ne 9, 3) := by decide +kernel
theorem s84_4 (d : Nat) (l0 : Value) (l1 : Value) (x : Int32) (σ : Hs) : ru d 84 4 [l0, l1] [.int x] σ = if x = 0 then ru d 84 7 [l0, l1] [] σ else ru d 84 13 [l0, l1] [] σ := q_if_ne t84_4 (by decide +kernel)
theorem t84_7 : decode (mb 84) 7 = .ok (.aload_n 0, 1) := by decide +kernel
theorem s84_7 (d : Nat) (a0 : Nat) (l1 : Value) (σ : Hs) : ru d 84 7 [.ref a0, l1] [] σ = ru d 84 8 [.ref a0, l1] [.ref a0] σ := q_aload_n t84_7 rfl
theorem t84_8 : decode (mb 84) 8 = .ok (.iconst 1, 1) := by decide +kernel
theorem s84_8 (d : Nat) (l0 : Value) (l1 : Value) (w0 : Value) (σ : Hs) : ru d 84 8 [l0, l1] [w0] σ = ru d 84 9 [l0, l1] [.int 1, w0] σ := q_iconst t84_8 (by decide +kernel)
theorem t84_9 : decode (mb 84) 9 = .ok (.invokevirtual 65, 3) := by decide +kernel
theorem s84_9_o0 (d : Nat) (l0 : Value) (l1 : Value) (v1 : Value) (σ : Hs) : ru d 84 9 [l0, l1] [v1, .ref 0] σ = kont (callD d 100 [.ref 0, v1] σ) d 84 12 [l0, l1] [] := q_invv t84_9 mo84 K7_65 mj100 rfl rfl rfl rfl (Nat.le_of_ble_eq_true rfl)
theorem t84_12 : decode (mb 84) 12 = .ok (.ireturn, 1) := by decide +kernel
theorem s84_12 (d : Nat) (l0 : Value) (l1 : Value) (x : Int32) (σ : Hs) : ru d 84 12 [l0, l1] [.int x] σ = some (some (.int x), σ) := q_ireti t84_12 mr84
theorem t84_13 : decode (mb 84) 13 = .ok (.aload_n 0, 1) := by decide +kernel
theorem s84_13 (d : Nat) (a0 : Nat) (l1 : Value) (σ : Hs) : ru d 84 13 [.ref a0, l1] [] σ = ru d 84 14 [.ref a0, l1] [.ref a0] σ := q_aload_n t84_13 rfl
theorem t84_14 : decode (mb 84) 14 = .ok (.getfield 10, 3) := by decide +kernel
theorem s84_14_o0 (d : Nat) (l0 : Value) (l1 : Value) (σ : Hs) : ru d 84 14 [l0, l1] [.ref 0] σ = ru d 84 17 [l0, l1] [.ref 1] σ := q_getf t84_14 mo84 F7_10 rfl rfl
theorem t84_17 : decode (mb 84) 17 = .ok (.getfield 58, 3) := by decide +kernel
theorem s84_17_o1 (d : Nat) (l0 : Value) (l1 : Value) (σ : Hs) : ru d 84 17 [l0, l1] [.ref 1] σ = ru d 84 20 [l0, l1] [.ref 2] σ := q_getf t84_17 mo84 F7_58 rfl rfl
theorem t84_20 : decode (mb 84) 20 = .ok (.iload_n 1, 1) := by decide +kernel
theorem s84_20 (d : Nat) (l0 : Value) (i1 : Int32) (w0 : Value) (σ : Hs) : ru d 84 20 [l0, .int i1] [w0] σ = ru d 84 21 [l0, .int i1] [.int i1, w0] σ := q_iload_n t84_20 rfl
theorem t84_21 : decode (mb 84) 21 = .ok (.invokevirtual 73, 3) := by decide +kernel
theorem s84_21_o2 (d : Nat) (l0 : Value) (l1 : Value) (v1 : Value) (σ : Hs) : ru d 84 21 [l0, l1] [v1, .ref 2] σ = kont (callD d 1 [.ref 2, v1] σ) d 84 24 [l0, l1] [] := q_invv t84_21 mo84 K7_73 mj1 rfl rfl rfl rfl (Nat.le_of_ble_eq_true rfl)
theorem t84_24 : decode (mb 84) 24 = .ok (.ifCond .ne 9, 3) := by decide +kernel
theorem s84_24 (d : Nat) (l0 : Value) (l1 : Value) (x : Int32) (σ : Hs) : ru d 84 24 [l0, l1] [.int x] σ = if x = 0 then ru d 84 27 [l0, l1] [] σ else ru d 84 33 [l0, l1] [] σ := q_if_ne t84_24 (by decide +kernel)
theorem t84_27 : decode (mb 84) 27 = .ok (.aload_n 0, 1) := by decide +kernel
theorem s84_27 (d : Nat) (a0 : Nat) (l1 : Value) (σ : Hs) : ru d 84 27 [.ref a0, l1] [] σ = ru d 84 28 [.ref a0, l1] [.ref a0] σ := q_aload_n t84_27 rfl
theorem t84_28 : decode (mb 84) 28 = .ok (.iconst 2, 1) := by decide +kernel
theorem s84_28 (d : Nat) (l0 : Value) (l1 : Value) (w0 : Value) (σ : Hs) : ru d 84 28 [l0, l1] [w0] σ = ru d 84 29 [l0, l1] [.int 2, w0] σ := q_iconst t84_28 (by decide +kernel)
theorem t84_29 : decode (mb 84) 29 = .ok (.invokevirtual 65, 3) := by decide +kernel
theorem s84_29_o0 (d : Nat) (l0 : Value) (l1 : Value) (v1 : Value) (σ : Hs) : ru d 84 29 [l0, l1] [v1, .ref 0] σ = kont (callD d 100 [.ref 0, v1] σ) d 84 32 [l0, l1] [] := q_invv t84_29 mo84 K7_65 mj100 rfl rfl rfl rfl (Nat.le_of_ble_eq_true rfl)
theorem t84_32 : decode (mb 84) 32 = .ok (.ireturn, 1) := by decide +kernel
theorem s84_32 (d : Nat) (l0 : Value) (l1 : Value) (x : Int32) (σ : Hs) : ru d 84 32 [l0, l1] [.int x] σ = some (some (.int x), σ) := q_ireti t84_32 mr84
theorem t84_33 : decode (mb 84) 33 = .ok (.aload_n 0, 1) := by decide +kernel
theorem s84_33 (d : Nat) (a0 : Nat) (l1 : Value) (σ : Hs) : ru d 84 33 [.ref a0, l1] [] σ = ru d 84 34 [.ref a0, l1] [.ref a0] σ := q_aload_n t84_33 rfl
theorem t84_34 : decode (mb 84) 34 = .ok (.getfield 10, 3) := by decide +kernel
theorem s84_34_o0 (d : Nat) (l0 : Value) (l1 : Value) (σ : Hs) : ru d 84 34 [l0, l1] [.ref 0] σ = ru d 84 37 [l0, l1] [.ref 1] σ := q_getf t84_34 mo84 F7_10 rfl rfl
theorem t84_37 : decode (mb 84) 37 = .ok (.getfield 58, 3) := by decide +kernel
theorem s84_37_o1 (d : Nat) (l0 : Value) (l1 : Value) (σ : Hs) : ru d 84 37 [l0, l1] [.ref 1] σ = ru d 84 40 [l0, l1] [.ref 2] σ := q_getf t84_37 mo84 F7_58 rfl rfl
theorem t84_40 : decode (mb 84) 40 = .ok (.iload_n 1, 1) := by decide +kernel
theorem s84_40 (d : Nat) (l0 : Value) (i1 : Int32) (w0 : Value) (σ : Hs) : ru d 84 40 [l0, .int i1] [w0] σ = ru d 84 41 [l0, .int i1] [.int i1, w0] σ := q_iload_n t84_40 rfl
theorem t84_41 : decode (mb 84) 41 = .ok (.invokevirtual 222, 3) := by decide +kernel
theorem s84_41_o2 (d : Nat) (l0 : Value) (l1 : Value) (v1 : Value) (σ : Hs) : ru d 84 41 [l0, l1] [v1, .ref 2] σ = kont (callD d 24 [.ref 2, v1] σ) d 84 44 [l0, l1] [] := q_invv t84_41 mo84 K7_222 mj24 rfl rfl rfl rfl (Nat.le_of_ble_eq_true rfl)
theorem t84_44 : decode (mb 84) 44 = .ok (.invokestatic 185, 3) := by decide +kernel
theorem s84_44 (d : Nat) (l0 : Value) (l1 : Value) (v0 : Value) (σ : Hs) : ru d 84 44 [l0, l1] [v0] σ = kont (callD d 223 [v0] σ) d 84 47 [l0, l1] [] := q_invs t84_44 mo84 (by decide +kernel) K7_185 mj223 (Nat.le_of_ble_eq_true rfl) rfl rfl (Nat.le_of_ble_eq_true rfl)
theorem t84_47 : decode (mb 84) 47 = .ok (.ireturn, 1) := by decide +kernel
theorem s84_47 (d : Nat) (l0 : Value) (l1 : Value) (x : Int32) (σ : Hs) : ru d 84 47 [l0, l1] [.int x] σ = some (some (.int x), σ) := q_ireti t84_47 mr84
theorem c84 (d : Nat) (x0 : Nat) (x1 : Int32) (σ : Hs) : callD (d + 1) 84 [.ref x0, .int x1] σ = ru d 84 0 [.ref x0, .int x1] [] σ := callD_ru ml84 rfl rfl (Nat.le_of_ble_eq_true rfl)
-- 85: SmokyHeap.report(II)I
theorem t85_0 : decode (mb 85) 0 = .ok (.iload_n 1, 1) := by decide +kernel
theorem s85_0 (d : Nat) (l0 : Value) (i1 : Int32) (l2 : Value) (l3 : Value) (σ : Hs) : ru d 85 0 [l0, .int i1, l2, l3] [] σ = ru d 85 1 [l0, .int i1, l2, l3] [.int i1] σ := q_iload_n t85_0 rfl
theorem t85_1 : decode (mb 85) 1 = .ok (.invokestatic 179, 3) := by decide +kernel
theorem s85_1 (d : Nat) (l0 : Value) (l1 : Value) (l2 : Value) (l3 : Value) (v0 : Value) (σ : Hs) : ru d 85 1 [l0, l1, l2, l3] [v0] σ = kont (callD d 107 [v0] σ) d 85 4 [l0, l1, l2, l3] [] := q_invs t85_1 mo85 (by decide +kernel) K7_179 mj107 (Nat.le_of_ble_eq_true rfl) rfl rfl (Nat.le_of_ble_eq_true rfl)
theorem t85_4 : decode (mb 85) 4 = .ok (.ifCond .eq 12, 3) := by decide +kernel
theorem s85_4 (d : Nat) (l0 : Value) (l1 : Value) (l2 : Value) (l3 : Value) (x : Int32) (σ : Hs) : ru d 85 4 [l0, l1, l2, l3] [.int x] σ = if x = 0 then ru d 85 16 [l0, l1, l2, l3] [] σ else ru d 85 7 [l0, l1, l2, l3] [] σ := q_if_eq t85_4 (by decide +kernel)
theorem t85_7 : decode (mb 85) 7 = .ok (.iload_n 2, 1) := by decide +kernel
theorem s85_7 (d : Nat) (l0 : Value) (l1 : Value) (i2 : Int32) (l3 : Value) (σ : Hs) : ru d 85 7 [l0, l1, .int i2, l3] [] σ = ru d 85 8 [l0, l1, .int i2, l3] [.int i2] σ := q_iload_n t85_7 rfl
theorem t85_8 : decode (mb 85) 8 = .ok (.iconst 0, 1) := by decide +kernel
theorem s85_8 (d : Nat) (l0 : Value) (l1 : Value) (l2 : Value) (l3 : Value) (w0 : Value) (σ : Hs) : ru d 85 8 [l0, l1, l2, l3] [w0] σ = ru d 85 9 [l0, l1, l2, l3] [.int 0, w0] σ := q_iconst t85_8 (by decide +kernel)
theorem t85_9 : decode (mb 85) 9 = .ok (.iconst 3, 1) := by decide +kernel
theorem s85_9 (d : Nat) (l0 : Value) (l1 : Value) (l2 : Value) (l3 : Value) (w0 w1 : Value) (σ : Hs) : ru d 85 9 [l0, l1, l2, l3] [w0, w1] σ = ru d 85 10 [l0, l1, l2, l3] [.int 3, w0, w1] σ := q_iconst t85_9 (by decide +kernel)
theorem t85_10 : decode (mb 85) 10 = .ok (.invokestatic 83, 3) := by decide +kernel
theorem s85_10 (d : Nat) (l0 : Value) (l1 : Value) (l2 : Value) (l3 : Value) (v0 v1 v2 : Value) (σ : Hs) : ru d 85 10 [l0, l1, l2, l3] [v2, v1, v0] σ = kont (callD d 103 [v0, v1, v2] σ) d 85 13 [l0, l1, l2, l3] [] := q_invs t85_10 mo85 (by decide +kernel) K7_83 mj103 (Nat.le_of_ble_eq_true rfl) rfl rfl (Nat.le_of_ble_eq_true rfl)
theorem t85_13 : decode (mb 85) 13 = .ok (.ifCond .ne 9, 3) := by decide +kernel
theorem s85_13 (d : Nat) (l0 : Value) (l1 : Value) (l2 : Value) (l3 : Value) (x : Int32) (σ : Hs) : ru d 85 13 [l0, l1, l2, l3] [.int x] σ = if x = 0 then ru d 85 16 [l0, l1, l2, l3] [] σ else ru d 85 22 [l0, l1, l2, l3] [] σ := q_if_ne t85_13 (by decide +kernel)
theorem t85_16 : decode (mb 85) 16 = .ok (.aload_n 0, 1) := by decide +kernel
theorem s85_16 (d : Nat) (a0 : Nat) (l1 : Value) (l2 : Value) (l3 : Value) (σ : Hs) : ru d 85 16 [.ref a0, l1, l2, l3] [] σ = ru d 85 17 [.ref a0, l1, l2, l3] [.ref a0] σ := q_aload_n t85_16 rfl
theorem t85_17 : decode (mb 85) 17 = .ok (.iconst 1, 1) := by decide +kernel
theorem s85_17 (d : Nat) (l0 : Value) (l1 : Value) (l2 : Value) (l3 : Value) (w0 : Value) (σ : Hs) : ru d 85 17 [l0, l1, l2, l3] [w0] σ = ru d 85 18 [l0, l1, l2, l3] [.int 1, w0] σ := q_iconst t85_17 (by decide +kernel)
theorem t85_18 : decode (mb 85) 18 = .ok (.invokevirtual 65, 3) := by decide +kernel
theorem s85_18_o0 (d : Nat) (l0 : Value) (l1 : Value) (l2 : Value) (l3 : Value) (v1 : Value) (σ : Hs) : ru d 85 18 [l0, l1, l2, l3] [v1, .ref 0] σ = kont (callD d 100 [.ref 0, v1] σ) d 85 21 [l0, l1, l2, l3] [] := q_invv t85_18 mo85 K7_65 mj100 rfl rfl rfl rfl (Nat.le_of_ble_eq_true rfl)
theorem t85_21 : decode (mb 85) 21 = .ok (.ireturn, 1) := by decide +kernel
theorem s85_21 (d : Nat) (l0 : Value) (l1 : Value) (l2 : Value) (l3 : Value) (x : Int32) (σ : Hs) : ru d 85 21 [l0, l1, l2, l3] [.int x] σ = some (some (.int x), σ) := q_ireti t85_21 mr85
theorem t85_22 : decode (mb 85) 22 = .ok (.aload_n 0, 1) := by decide +kernel
theorem s85_22 (d : Nat) (a0 : Nat) (l1 : Value) (l2 : Value) (l3 : Value) (σ : Hs) : ru d 85 22 [.ref a0, l1, l2, l3] [] σ = ru d 85 23 [.ref a0, l1, l2, l3] [.ref a0] σ := q_aload_n t85_22 rfl
theorem t85_23 : decode (mb 85) 23 = .ok (.getfield 10, 3) := by decide +kernel
theorem s85_23_o0 (d : Nat) (l0 : Value) (l1 : Value) (l2 : Value) (l3 : Value) (σ : Hs) : ru d 85 23 [l0, l1, l2, l3] [.ref 0] σ = ru d 85 26 [l0, l1, l2, l3] [.ref 1] σ := q_getf t85_23 mo85 F7_10 rfl rfl
theorem t85_26 : decode (mb 85) 26 = .ok (.getfield 225, 3) := by decide +kernel
theorem s85_26_o1 (d : Nat) (l0 : Value) (l1 : Value) (l2 : Value) (l3 : Value) (σ : Hs) : ru d 85 26 [l0, l1, l2, l3] [.ref 1] σ = ru d 85 29 [l0, l1, l2, l3] [.ref 24] σ := q_getf t85_26 mo85 F7_225 rfl rfl
theorem t85_29 : decode (mb 85) 29 = .ok (.getfield 131, 3) := by decide +kernel
theorem s85_29_o24 (d : Nat) (l0 : Value) (l1 : Value) (l2 : Value) (l3 : Value) (σ : Hs) : ru d 85 29 [l0, l1, l2, l3] [.ref 24] σ = ru d 85 32 [l0, l1, l2, l3] [.int (σ 24 1)] σ := q_getf t85_29 mo85 F7_131 rfl rfl
theorem t85_32 : decode (mb 85) 32 = .ok (.istore_n 3, 1) := by decide +kernel
theorem s85_32 (d : Nat) (l0 : Value) (l1 : Value) (i2 : Int32) (l3 : Value) (x : Int32) (σ : Hs) : ru d 85 32 [l0, l1, .int i2, l3] [.int x] σ = ru d 85 33 [l0, l1, .int i2, .int x] [] σ := q_istore_n t85_32 ⟨Nat.le_of_ble_eq_true rfl, rfl⟩ rfl
theorem t85_33 : decode (mb 85) 33 = .ok (.iload_n 3, 1) := by decide +kernel
theorem s85_33 (d : Nat) (l0 : Value) (l1 : Value) (l2 : Value) (i3 : Int32) (σ : Hs) : ru d 85 33 [l0, l1, l2, .int i3] [] σ = ru d 85 34 [l0, l1, l2, .int i3] [.int i3] σ := q_iload_n t85_33 rfl
theorem t85_34 : decode (mb 85) 34 = .ok (.bipush 12, 2) := by decide +kernel
theorem s85_34 (d : Nat) (l0 : Value) (l1 : Value) (l2 : Value) (l3 : Value) (w0 : Value) (σ : Hs) : ru d 85 34 [l0, l1, l2, l3] [w0] σ = ru d 85 36 [l0, l1, l2, l3] [.int 12, w0] σ := q_bipush t85_34 (by decide +kernel)
theorem t85_36 : decode (mb 85) 36 = .ok (.if_icmp .lt 9, 3) := by decide +kernel
theorem s85_36 (d : Nat) (l0 : Value) (l1 : Value) (l2 : Value) (l3 : Value) (x y : Int32) (σ : Hs) : ru d 85 36 [l0, l1, l2, l3] [.int y, .int x] σ = if x < y then ru d 85 45 [l0, l1, l2, l3] [] σ else ru d 85 39 [l0, l1, l2, l3] [] σ := q_ic_lt t85_36 (by decide +kernel)
theorem t85_39 : decode (mb 85) 39 = .ok (.aload_n 0, 1) := by decide +kernel
theorem s85_39 (d : Nat) (a0 : Nat) (l1 : Value) (l2 : Value) (l3 : Value) (σ : Hs) : ru d 85 39 [.ref a0, l1, l2, l3] [] σ = ru d 85 40 [.ref a0, l1, l2, l3] [.ref a0] σ := q_aload_n t85_39 rfl
theorem t85_40 : decode (mb 85) 40 = .ok (.iconst 4, 1) := by decide +kernel
theorem s85_40 (d : Nat) (l0 : Value) (l1 : Value) (l2 : Value) (l3 : Value) (w0 : Value) (σ : Hs) : ru d 85 40 [l0, l1, l2, l3] [w0] σ = ru d 85 41 [l0, l1, l2, l3] [.int 4, w0] σ := q_iconst t85_40 (by decide +kernel)
theorem t85_41 : decode (mb 85) 41 = .ok (.invokevirtual 65, 3) := by decide +kernel
theorem s85_41_o0 (d : Nat) (l0 : Value) (l1 : Value) (l2 : Value) (l3 : Value) (v1 : Value) (σ : Hs) : ru d 85 41 [l0, l1, l2, l3] [v1, .ref 0] σ = kont (callD d 100 [.ref 0, v1] σ) d 85 44 [l0, l1, l2, l3] [] := q_invv t85_41 mo85 K7_65 mj100 rfl rfl rfl rfl (Nat.le_of_ble_eq_true rfl)
theorem t85_44 : decode (mb 85) 44 = .ok (.ireturn, 1) := by decide +kernel
theorem s85_44 (d : Nat) (l0 : Value) (l1 : Value) (l2 : Value) (l3 : Value) (x : Int32) (σ : Hs) : ru d 85 44 [l0, l1, l2, l3] [.int x] σ = some (some (.int x), σ) := q_ireti t85_44 mr85
theorem t85_45 : decode (mb 85) 45 = .ok (.aload_n 0, 1) := by decide +kernel
theorem s85_45 (d : Nat) (a0 : Nat) (l1 : Value) (l2 : Value) (l3 : Value) (σ : Hs) : ru d 85 45 [.ref a0, l1, l2, l3] [] σ = ru d 85 46 [.ref a0, l1, l2, l3] [.ref a0] σ := q_aload_n t85_45 rfl
theorem t85_46 : decode (mb 85) 46 = .ok (.getfield 10, 3) := by decide +kernel
theorem s85_46_o0 (d : Nat) (l0 : Value) (l1 : Value) (l2 : Value) (l3 : Value) (σ : Hs) : ru d 85 46 [l0, l1, l2, l3] [.ref 0] σ = ru d 85 49 [l0, l1, l2, l3] [.ref 1] σ := q_getf t85_46 mo85 F7_10 rfl rfl
theorem t85_49 : decode (mb 85) 49 = .ok (.getfield 225, 3) := by decide +kernel
theorem s85_49_o1 (d : Nat) (l0 : Value) (l1 : Value) (l2 : Value) (l3 : Value) (σ : Hs) : ru d 85 49 [l0, l1, l2, l3] [.ref 1] σ = ru d 85 52 [l0, l1, l2, l3] [.ref 24] σ := q_getf t85_49 mo85 F7_225 rfl rfl
theorem t85_52 : decode (mb 85) 52 = .ok (.iload_n 1, 1) := by decide +kernel
theorem s85_52 (d : Nat) (l0 : Value) (i1 : Int32) (l2 : Value) (l3 : Value) (w0 : Value) (σ : Hs) : ru d 85 52 [l0, .int i1, l2, l3] [w0] σ = ru d 85 53 [l0, .int i1, l2, l3] [.int i1, w0] σ := q_iload_n t85_52 rfl
theorem t85_53 : decode (mb 85) 53 = .ok (.invokevirtual 136, 3) := by decide +kernel
theorem s85_53_o24 (d : Nat) (l0 : Value) (l1 : Value) (l2 : Value) (l3 : Value) (v1 : Value) (σ : Hs) : ru d 85 53 [l0, l1, l2, l3] [v1, .ref 24] σ = kont (callD d 45 [.ref 24, v1] σ) d 85 56 [l0, l1, l2, l3] [] := q_invv t85_53 mo85 K7_136 mj45 rfl rfl rfl rfl (Nat.le_of_ble_eq_true rfl)
theorem t85_56 : decode (mb 85) 56 = .ok (.pop, 1) := by decide +kernel
theorem s85_56 (d : Nat) (l0 : Value) (l1 : Value) (l2 : Value) (l3 : Value) (x : Int32) (σ : Hs) : ru d 85 56 [l0, l1, l2, l3] [.int x] σ = ru d 85 57 [l0, l1, l2, l3] [] σ := q_pop t85_56 rfl
theorem t85_57 : decode (mb 85) 57 = .ok (.aload_n 0, 1) := by decide +kernel
theorem s85_57 (d : Nat) (a0 : Nat) (l1 : Value) (l2 : Value) (l3 : Value) (σ : Hs) : ru d 85 57 [.ref a0, l1, l2, l3] [] σ = ru d 85 58 [.ref a0, l1, l2, l3] [.ref a0] σ := q_aload_n t85_57 rfl
theorem t85_58 : decode (mb 85) 58 = .ok (.getfield 10, 3) := by decide +kernel
theorem s85_58_o0 (d : Nat) (l0 : Value) (l1 : Value) (l2 : Value) (l3 : Value) (σ : Hs) : ru d 85 58 [l0, l1, l2, l3] [.ref 0] σ = ru d 85 61 [l0, l1, l2, l3] [.ref 1] σ := q_getf t85_58 mo85 F7_10 rfl rfl
theorem t85_61 : decode (mb 85) 61 = .ok (.getfield 228, 3) := by decide +kernel
theorem s85_61_o1 (d : Nat) (l0 : Value) (l1 : Value) (l2 : Value) (l3 : Value) (σ : Hs) : ru d 85 61 [l0, l1, l2, l3] [.ref 1] σ = ru d 85 64 [l0, l1, l2, l3] [.ref 26] σ := q_getf t85_61 mo85 F7_228 rfl rfl
theorem t85_64 : decode (mb 85) 64 = .ok (.iload_n 2, 1) := by decide +kernel
theorem s85_64 (d : Nat) (l0 : Value) (l1 : Value) (i2 : Int32) (l3 : Value) (w0 : Value) (σ : Hs) : ru d 85 64 [l0, l1, .int i2, l3] [w0] σ = ru d 85 65 [l0, l1, .int i2, l3] [.int i2, w0] σ := q_iload_n t85_64 rfl
theorem t85_65 : decode (mb 85) 65 = .ok (.invokevirtual 136, 3) := by decide +kernel
theorem s85_65_o26 (d : Nat) (l0 : Value) (l1 : Value) (l2 : Value) (l3 : Value) (v1 : Value) (σ : Hs) : ru d 85 65 [l0, l1, l2, l3] [v1, .ref 26] σ = kont (callD d 45 [.ref 26, v1] σ) d 85 68 [l0, l1, l2, l3] [] := q_invv t85_65 mo85 K7_136 mj45 rfl rfl rfl rfl (Nat.le_of_ble_eq_true rfl)
theorem t85_68 : decode (mb 85) 68 = .ok (.pop, 1) := by decide +kernel
theorem s85_68 (d : Nat) (l0 : Value) (l1 : Value) (l2 : Value) (l3 : Value) (x : Int32) (σ : Hs) : ru d 85 68 [l0, l1, l2, l3] [.int x] σ = ru d 85 69 [l0, l1, l2, l3] [] σ := q_pop t85_68 rfl
theorem t85_69 : decode (mb 85) 69 = .ok (.iload_n 3, 1) := by decide +kernel
theorem s85_69 (d : Nat) (l0 : Value) (l1 : Value) (l2 : Value) (i3 : Int32) (σ : Hs) : ru d 85 69 [l0, l1, l2, .int i3] [] σ = ru d 85 70 [l0, l1, l2, .int i3] [.int i3] σ := q_iload_n t85_69 rfl
theorem t85_70 : decode (mb 85) 70 = .ok (.ireturn, 1) := by decide +kernel
theorem s85_70 (d : Nat) (l0 : Value) (l1 : Value) (l2 : Value) (l3 : Value) (x : Int32) (σ : Hs) : ru d 85 70 [l0, l1, l2, l3] [.int x] σ = some (some (.int x), σ) := q_ireti t85_70 mr85
theorem c85 (d : Nat) (x0 : Nat) (x1 : Int32) (x2 : Int32) (σ : Hs) : callD (d + 1) 85 [.ref x0, .int x1, .int x2] σ = ru d 85 0 [.ref x0, .int x1, .int x2, uu] [] σ := callD_ru ml85 rfl rfl (Nat.le_of_ble_eq_true rfl)
-- 86: SmokyHeap.suspects()I
theorem t86_0 : decode (mb 86) 0 = .ok (.aload_n 0, 1) := by decide +kernel
theorem s86_0 (d : Nat) (a0 : Nat) (σ : Hs) : ru d 86 0 [.ref a0] [] σ = ru d 86 1 [.ref a0] [.ref a0] σ := q_aload_n t86_0 rfl
theorem t86_1 : decode (mb 86) 1 = .ok (.getfield 10, 3) := by decide +kernel
theorem s86_1_o0 (d : Nat) (l0 : Value) (σ : Hs) : ru d 86 1 [l0] [.ref 0] σ = ru d 86 4 [l0] [.ref 1] σ := q_getf t86_1 mo86 F7_10 rfl rfl
theorem t86_4 : decode (mb 86) 4 = .ok (.iconst (-1), 1) := by decide +kernel
theorem s86_4 (d : Nat) (l0 : Value) (w0 : Value) (σ : Hs) : ru d 86 4 [l0] [w0] σ = ru d 86 5 [l0] [.int (-1), w0] σ := q_iconst t86_4 (by decide +kernel)
theorem t86_5 : decode (mb 86) 5 = .ok (.invokevirtual 231, 3) := by decide +kernel
theorem s86_5_o1 (d : Nat) (l0 : Value) (v1 : Value) (σ : Hs) : ru d 86 5 [l0] [v1, .ref 1] σ = kont (callD d 53 [.ref 1, v1] σ) d 86 8 [l0] [] := q_invv t86_5 mo86 K7_231 mj53 rfl rfl rfl rfl (Nat.le_of_ble_eq_true rfl)
theorem t86_8 : decode (mb 86) 8 = .ok (.ireturn, 1) := by decide +kernel
theorem s86_8 (d : Nat) (l0 : Value) (x : Int32) (σ : Hs) : ru d 86 8 [l0] [.int x] σ = some (some (.int x), σ) := q_ireti t86_8 mr86
theorem c86 (d : Nat) (x0 : Nat) (σ : Hs) : callD (d + 1) 86 [.ref x0] σ = ru d 86 0 [.ref x0] [] σ := callD_ru ml86 rfl rfl (Nat.le_of_ble_eq_true rfl)
-- 87: SmokyHeap.liar()I
theorem t87_0 : decode (mb 87) 0 = .ok (.iconst (-1), 1) := by decide +kernel
theorem s87_0 (d : Nat) (l0 : Value) (l1 : Value) (l2 : Value) (l3 : Value) (l4 : Value) (σ : Hs) : ru d 87 0 [l0, l1, l2, l3, l4] [] σ = ru d 87 1 [l0, l1, l2, l3, l4] [.int (-1)] σ := q_iconst t87_0 (by decide +kernel)
theorem t87_1 : decode (mb 87) 1 = .ok (.istore_n 1, 1) := by decide +kernel
theorem s87_1 (d : Nat) (a0 : Nat) (l1 : Value) (l2 : Value) (l3 : Value) (l4 : Value) (x : Int32) (σ : Hs) : ru d 87 1 [.ref a0, l1, l2, l3, l4] [.int x] σ = ru d 87 2 [.ref a0, .int x, l2, l3, l4] [] σ := q_istore_n t87_1 ⟨Nat.le_of_ble_eq_true rfl, rfl⟩ rfl
theorem t87_2 : decode (mb 87) 2 = .ok (.iconst (-1), 1) := by decide +kernel
theorem s87_2 (d : Nat) (l0 : Value) (l1 : Value) (l2 : Value) (l3 : Value) (l4 : Value) (σ : Hs) : ru d 87 2 [l0, l1, l2, l3, l4] [] σ = ru d 87 3 [l0, l1, l2, l3, l4] [.int (-1)] σ := q_iconst t87_2 (by decide +kernel)
theorem t87_3 : decode (mb 87) 3 = .ok (.istore_n 2, 1) := by decide +kernel
theorem s87_3 (d : Nat) (l0 : Value) (i1 : Int32) (l2 : Value) (l3 : Value) (l4 : Value) (x : Int32) (σ : Hs) : ru d 87 3 [l0, .int i1, l2, l3, l4] [.int x] σ = ru d 87 4 [l0, .int i1, .int x, l3, l4] [] σ := q_istore_n t87_3 ⟨Nat.le_of_ble_eq_true rfl, rfl⟩ rfl
theorem t87_4 : decode (mb 87) 4 = .ok (.iconst 0, 1) := by decide +kernel
theorem s87_4 (d : Nat) (l0 : Value) (l1 : Value) (l2 : Value) (l3 : Value) (l4 : Value) (σ : Hs) : ru d 87 4 [l0, l1, l2, l3, l4] [] σ = ru d 87 5 [l0, l1, l2, l3, l4] [.int 0] σ := q_iconst t87_4 (by decide +kernel)
theorem t87_5 : decode (mb 87) 5 = .ok (.istore_n 3, 1) := by decide +kernel
theorem s87_5 (d : Nat) (l0 : Value) (l1 : Value) (i2 : Int32) (l3 : Value) (l4 : Value) (x : Int32) (σ : Hs) : ru d 87 5 [l0, l1, .int i2, l3, l4] [.int x] σ = ru d 87 6 [l0, l1, .int i2, .int x, l4] [] σ := q_istore_n t87_5 ⟨Nat.le_of_ble_eq_true rfl, rfl⟩ rfl
theorem t87_6 : decode (mb 87) 6 = .ok (.iload_n 3, 1) := by decide +kernel
theorem s87_6 (d : Nat) (l0 : Value) (l1 : Value) (l2 : Value) (i3 : Int32) (l4 : Value) (σ : Hs) : ru d 87 6 [l0, l1, l2, .int i3, l4] [] σ = ru d 87 7 [l0, l1, l2, .int i3, l4] [.int i3] σ := q_iload_n t87_6 rfl
theorem t87_7 : decode (mb 87) 7 = .ok (.aload_n 0, 1) := by decide +kernel
theorem s87_7 (d : Nat) (a0 : Nat) (l1 : Value) (l2 : Value) (l3 : Value) (l4 : Value) (w0 : Value) (σ : Hs) : ru d 87 7 [.ref a0, l1, l2, l3, l4] [w0] σ = ru d 87 8 [.ref a0, l1, l2, l3, l4] [.ref a0, w0] σ := q_aload_n t87_7 rfl
theorem t87_8 : decode (mb 87) 8 = .ok (.getfield 10, 3) := by decide +kernel
theorem s87_8_o0 (d : Nat) (l0 : Value) (l1 : Value) (l2 : Value) (l3 : Value) (l4 : Value) (w0 : Value) (σ : Hs) : ru d 87 8 [l0, l1, l2, l3, l4] [.ref 0, w0] σ = ru d 87 11 [l0, l1, l2, l3, l4] [.ref 1, w0] σ := q_getf t87_8 mo87 F7_10 rfl rfl
theorem t87_11 : decode (mb 87) 11 = .ok (.getfield 225, 3) := by decide +kernel
theorem s87_11_o1 (d : Nat) (l0 : Value) (l1 : Value) (l2 : Value) (l3 : Value) (l4 : Value) (w0 : Value) (σ : Hs) : ru d 87 11 [l0, l1, l2, l3, l4] [.ref 1, w0] σ = ru d 87 14 [l0, l1, l2, l3, l4] [.ref 24, w0] σ := q_getf t87_11 mo87 F7_225 rfl rfl
theorem t87_14 : decode (mb 87) 14 = .ok (.getfield 131, 3) := by decide +kernel
theorem s87_14_o24 (d : Nat) (l0 : Value) (l1 : Value) (l2 : Value) (l3 : Value) (l4 : Value) (w0 : Value) (σ : Hs) : ru d 87 14 [l0, l1, l2, l3, l4] [.ref 24, w0] σ = ru d 87 17 [l0, l1, l2, l3, l4] [.int (σ 24 1), w0] σ := q_getf t87_14 mo87 F7_131 rfl rfl
theorem t87_17 : decode (mb 87) 17 = .ok (.if_icmp .ge 33, 3) := by decide +kernel
theorem s87_17 (d : Nat) (l0 : Value) (l1 : Value) (l2 : Value) (l3 : Value) (l4 : Value) (x y : Int32) (σ : Hs) : ru d 87 17 [l0, l1, l2, l3, l4] [.int y, .int x] σ = if y ≤ x then ru d 87 50 [l0, l1, l2, l3, l4] [] σ else ru d 87 20 [l0, l1, l2, l3, l4] [] σ := q_ic_ge t87_17 (by decide +kernel)
theorem t87_20 : decode (mb 87) 20 = .ok (.aload_n 0, 1) := by decide +kernel
theorem s87_20 (d : Nat) (a0 : Nat) (l1 : Value) (l2 : Value) (l3 : Value) (l4 : Value) (σ : Hs) : ru d 87 20 [.ref a0, l1, l2, l3, l4] [] σ = ru d 87 21 [.ref a0, l1, l2, l3, l4] [.ref a0] σ := q_aload_n t87_20 rfl
theorem t87_21 : decode (mb 87) 21 = .ok (.getfield 10, 3) := by decide +kernel
theorem s87_21_o0 (d : Nat) (l0 : Value) (l1 : Value) (l2 : Value) (l3 : Value) (l4 : Value) (σ : Hs) : ru d 87 21 [l0, l1, l2, l3, l4] [.ref 0] σ = ru d 87 24 [l0, l1, l2, l3, l4] [.ref 1] σ := q_getf t87_21 mo87 F7_10 rfl rfl
theorem t87_24 : decode (mb 87) 24 = .ok (.iload_n 3, 1) := by decide +kernel
theorem s87_24 (d : Nat) (l0 : Value) (l1 : Value) (l2 : Value) (i3 : Int32) (l4 : Value) (w0 : Value) (σ : Hs) : ru d 87 24 [l0, l1, l2, .int i3, l4] [w0] σ = ru d 87 25 [l0, l1, l2, .int i3, l4] [.int i3, w0] σ := q_iload_n t87_24 rfl
theorem t87_25 : decode (mb 87) 25 = .ok (.invokevirtual 231, 3) := by decide +kernel
theorem s87_25_o1 (d : Nat) (l0 : Value) (l1 : Value) (l2 : Value) (l3 : Value) (l4 : Value) (v1 : Value) (σ : Hs) : ru d 87 25 [l0, l1, l2, l3, l4] [v1, .ref 1] σ = kont (callD d 53 [.ref 1, v1] σ) d 87 28 [l0, l1, l2, l3, l4] [] := q_invv t87_25 mo87 K7_231 mj53 rfl rfl rfl rfl (Nat.le_of_ble_eq_true rfl)
theorem t87_28 : decode (mb 87) 28 = .ok (.invokestatic 185, 3) := by decide +kernel
theorem s87_28 (d : Nat) (l0 : Value) (l1 : Value) (l2 : Value) (l3 : Value) (l4 : Value) (v0 : Value) (σ : Hs) : ru d 87 28 [l0, l1, l2, l3, l4] [v0] σ = kont (callD d 223 [v0] σ) d 87 31 [l0, l1, l2, l3, l4] [] := q_invs t87_28 mo87 (by decide +kernel) K7_185 mj223 (Nat.le_of_ble_eq_true rfl) rfl rfl (Nat.le_of_ble_eq_true rfl)
theorem t87_31 : decode (mb 87) 31 = .ok (.istore 4, 2) := by decide +kernel
theorem s87_31 (d : Nat) (l0 : Value) (l1 : Value) (l2 : Value) (i3 : Int32) (l4 : Value) (x : Int32) (σ : Hs) : ru d 87 31 [l0, l1, l2, .int i3, l4] [.int x] σ = ru d 87 33 [l0, l1, l2, .int i3, .int x] [] σ := q_istore t87_31 ⟨Nat.le_of_ble_eq_true rfl, rfl⟩ rfl
theorem t87_33 : decode (mb 87) 33 = .ok (.iload 4, 2) := by decide +kernel
theorem s87_33 (d : Nat) (l0 : Value) (l1 : Value) (l2 : Value) (l3 : Value) (i4 : Int32) (σ : Hs) : ru d 87 33 [l0, l1, l2, l3, .int i4] [] σ = ru d 87 35 [l0, l1, l2, l3, .int i4] [.int i4] σ := q_iload t87_33 rfl
theorem t87_35 : decode (mb 87) 35 = .ok (.iload_n 2, 1) := by decide +kernel
theorem s87_35 (d : Nat) (l0 : Value) (l1 : Value) (i2 : Int32) (l3 : Value) (l4 : Value) (w0 : Value) (σ : Hs) : ru d 87 35 [l0, l1, .int i2, l3, l4] [w0] σ = ru d 87 36 [l0, l1, .int i2, l3, l4] [.int i2, w0] σ := q_iload_n t87_35 rfl
theorem t87_36 : decode (mb 87) 36 = .ok (.if_icmp .le 8, 3) := by decide +kernel
theorem s87_36 (d : Nat) (l0 : Value) (l1 : Value) (l2 : Value) (l3 : Value) (l4 : Value) (x y : Int32) (σ : Hs) : ru d 87 36 [l0, l1, l2, l3, l4] [.int y, .int x] σ = if x ≤ y then ru d 87 44 [l0, l1, l2, l3, l4] [] σ else ru d 87 39 [l0, l1, l2, l3, l4] [] σ := q_ic_le t87_36 (by decide +kernel)
theorem t87_39 : decode (mb 87) 39 = .ok (.iload_n 3, 1) := by decide +kernel
theorem s87_39 (d : Nat) (l0 : Value) (l1 : Value) (l2 : Value) (i3 : Int32) (l4 : Value) (σ : Hs) : ru d 87 39 [l0, l1, l2, .int i3, l4] [] σ = ru d 87 40 [l0, l1, l2, .int i3, l4] [.int i3] σ := q_iload_n t87_39 rfl
theorem t87_40 : decode (mb 87) 40 = .ok (.istore_n 1, 1) := by decide +kernel
theorem s87_40 (d : Nat) (a0 : Nat) (l1 : Value) (l2 : Value) (l3 : Value) (l4 : Value) (x : Int32) (σ : Hs) : ru d 87 40 [.ref a0, l1, l2, l3, l4] [.int x] σ = ru d 87 41 [.ref a0, .int x, l2, l3, l4] [] σ := q_istore_n t87_40 ⟨Nat.le_of_ble_eq_true rfl, rfl⟩ rfl
theorem t87_41 : decode (mb 87) 41 = .ok (.iload 4, 2) := by decide +kernel
theorem s87_41 (d : Nat) (l0 : Value) (l1 : Value) (l2 : Value) (l3 : Value) (i4 : Int32) (σ : Hs) : ru d 87 41 [l0, l1, l2, l3, .int i4] [] σ = ru d 87 43 [l0, l1, l2, l3, .int i4] [.int i4] σ := q_iload t87_41 rfl
theorem t87_43 : decode (mb 87) 43 = .ok (.istore_n 2, 1) := by decide +kernel
theorem s87_43 (d : Nat) (l0 : Value) (i1 : Int32) (l2 : Value) (l3 : Value) (l4 : Value) (x : Int32) (σ : Hs) : ru d 87 43 [l0, .int i1, l2, l3, l4] [.int x] σ = ru d 87 44 [l0, .int i1, .int x, l3, l4] [] σ := q_istore_n t87_43 ⟨Nat.le_of_ble_eq_true rfl, rfl⟩ rfl
theorem t87_44 : decode (mb 87) 44 = .ok (.iinc 3 1, 3) := by decide +kernel
theorem s87_44 (d : Nat) (l0 : Value) (l1 : Value) (i2 : Int32) (i3 : Int32) (l4 : Value) (σ : Hs) : ru d 87 44 [l0, l1, .int i2, .int i3, l4] [] σ = ru d 87 47 [l0, l1, .int i2, .int (i3 + 1), l4] [] σ := q_iinc t87_44 ⟨Nat.le_of_ble_eq_true rfl, rfl⟩ rfl (by decide +kernel) rfl
theorem t87_47 : decode (mb 87) 47 = .ok (.goto (-41), 3) := by decide +kernel
theorem s87_47 (d : Nat) (l0 : Value) (l1 : Value) (l2 : Value) (l3 : Value) (l4 : Value) (σ : Hs) : ru d 87 47 [l0, l1, l2, l3, l4] [] σ = ru d 87 6 [l0, l1, l2, l3, l4] [] σ := q_goto t87_47 (by decide +kernel)
theorem t87_50 : decode (mb 87) 50 = .ok (.iload_n 1, 1) := by decide +kernel
theorem s87_50 (d : Nat) (l0 : Value) (i1 : Int32) (l2 : Value) (l3 : Value) (l4 : Value) (σ : Hs) : ru d 87 50 [l0, .int i1, l2, l3, l4] [] σ = ru d 87 51 [l0, .int i1, l2, l3, l4] [.int i1] σ := q_iload_n t87_50 rfl
theorem t87_51 : decode (mb 87) 51 = .ok (.iconst (-1), 1) := by decide +kernel
theorem s87_51 (d : Nat) (l0 : Value) (l1 : Value) (l2 : Value) (l3 : Value) (l4 : Value) (w0 : Value) (σ : Hs) : ru d 87 51 [l0, l1, l2, l3, l4] [w0] σ = ru d 87 52 [l0, l1, l2, l3, l4] [.int (-1), w0] σ := q_iconst t87_51 (by decide +kernel)
theorem t87_52 : decode (mb 87) 52 = .ok (.if_icmp .ne 11, 3) := by decide +kernel
theorem s87_52 (d : Nat) (l0 : Value) (l1 : Value) (l2 : Value) (l3 : Value) (l4 : Value) (x y : Int32) (σ : Hs) : ru d 87 52 [l0, l1, l2, l3, l4] [.int y, .int x] σ = if x = y then ru d 87 55 [l0, l1, l2, l3, l4] [] σ else ru d 87 63 [l0, l1, l2, l3, l4] [] σ := q_ic_ne t87_52 (by decide +kernel)
theorem t87_55 : decode (mb 87) 55 = .ok (.aload_n 0, 1) := by decide +kernel
theorem s87_55 (d : Nat) (a0 : Nat) (l1 : Value) (l2 : Value) (l3 : Value) (l4 : Value) (σ : Hs) : ru d 87 55 [.ref a0, l1, l2, l3, l4] [] σ = ru d 87 56 [.ref a0, l1, l2, l3, l4] [.ref a0] σ := q_aload_n t87_55 rfl
theorem t87_56 : decode (mb 87) 56 = .ok (.iconst 2, 1) := by decide +kernel
theorem s87_56 (d : Nat) (l0 : Value) (l1 : Value) (l2 : Value) (l3 : Value) (l4 : Value) (w0 : Value) (σ : Hs) : ru d 87 56 [l0, l1, l2, l3, l4] [w0] σ = ru d 87 57 [l0, l1, l2, l3, l4] [.int 2, w0] σ := q_iconst t87_56 (by decide +kernel)
theorem t87_57 : decode (mb 87) 57 = .ok (.invokevirtual 65, 3) := by decide +kernel
theorem s87_57_o0 (d : Nat) (l0 : Value) (l1 : Value) (l2 : Value) (l3 : Value) (l4 : Value) (v1 : Value) (σ : Hs) : ru d 87 57 [l0, l1, l2, l3, l4] [v1, .ref 0] σ = kont (callD d 100 [.ref 0, v1] σ) d 87 60 [l0, l1, l2, l3, l4] [] := q_invv t87_57 mo87 K7_65 mj100 rfl rfl rfl rfl (Nat.le_of_ble_eq_true rfl)
theorem t87_60 : decode (mb 87) 60 = .ok (.goto 4, 3) := by decide +kernel
theorem s87_60 (d : Nat) (l0 : Value) (l1 : Value) (l2 : Value) (l3 : Value) (l4 : Value) (w0 : Value) (σ : Hs) : ru d 87 60 [l0, l1, l2, l3, l4] [w0] σ = ru d 87 64 [l0, l1, l2, l3, l4] [w0] σ := q_goto t87_60 (by decide +kernel)
theorem t87_63 : decode (mb 87) 63 = .ok (.iload_n 1, 1) := by decide +kernel
theorem s87_63 (d : Nat) (l0 : Value) (i1 : Int32) (l2 : Value) (l3 : Value) (l4 : Value) (σ : Hs) : ru d 87 63 [l0, .int i1, l2, l3, l4] [] σ = ru d 87 64 [l0, .int i1, l2, l3, l4] [.int i1] σ := q_iload_n t87_63 rfl
theorem t87_64 : decode (mb 87) 64 = .ok (.ireturn, 1) := by decide +kernel
theorem s87_64 (d : Nat) (l0 : Value) (l1 : Value) (l2 : Value) (l3 : Value) (l4 : Value) (x : Int32) (σ : Hs) : ru d 87 64 [l0, l1, l2, l3, l4] [.int x] σ = some (some (.int x), σ) := q_ireti t87_64 mr87
theorem c87 (d : Nat) (x0 : Nat) (σ : Hs) : callD (d + 1) 87 [.ref x0] σ = ru d 87 0 [.ref x0, uu, uu, uu, uu] [] σ := callD_ru ml87 rfl rfl (Nat.le_of_ble_eq_true rfl)
-- 88: SmokyHeap.voice(III)I
theorem t88_0 : decode (mb 88) 0 = .ok (.iload_n 1, 1) := by decide +kernel
theorem s88_0 (d : Nat) (l0 : Value) (i1 : Int32) (l2 : Value) (l3 : Value) (l4 : Value) (σ : Hs) : ru d 88 0 [l0, .int i1, l2, l3, l4] [] σ = ru d 88 1 [l0, .int i1, l2, l3, l4] [.int i1] σ := q_iload_n t88_0 rfl
theorem t88_1 : decode (mb 88) 1 = .ok (.invokestatic 69, 3) := by decide +kernel
theorem s88_1 (d : Nat) (l0 : Value) (l1 : Value) (l2 : Value) (l3 : Value) (l4 : Value) (v0 : Value) (σ : Hs) : ru d 88 1 [l0, l1, l2, l3, l4] [v0] σ = kont (callD d 104 [v0] σ) d 88 4 [l0, l1, l2, l3, l4] [] := q_invs t88_1 mo88 (by decide +kernel) K7_69 mj104 (Nat.le_of_ble_eq_true rfl) rfl rfl (Nat.le_of_ble_eq_true rfl)
theorem t88_4 : decode (mb 88) 4 = .ok (.ifCond .eq 12, 3) := by decide +kernel
theorem s88_4 (d : Nat) (l0 : Value) (l1 : Value) (l2 : Value) (l3 : Value) (l4 : Value) (x : Int32) (σ : Hs) : ru d 88 4 [l0, l1, l2, l3, l4] [.int x] σ = if x = 0 then ru d 88 16 [l0, l1, l2, l3, l4] [] σ else ru d 88 7 [l0, l1, l2, l3, l4] [] σ := q_if_eq t88_4 (by decide +kernel)
theorem t88_7 : decode (mb 88) 7 = .ok (.iload_n 2, 1) := by decide +kernel
theorem s88_7 (d : Nat) (l0 : Value) (l1 : Value) (i2 : Int32) (l3 : Value) (l4 : Value) (σ : Hs) : ru d 88 7 [l0, l1, .int i2, l3, l4] [] σ = ru d 88 8 [l0, l1, .int i2, l3, l4] [.int i2] σ := q_iload_n t88_7 rfl
theorem t88_8 : decode (mb 88) 8 = .ok (.iconst 0, 1) := by decide +kernel
theorem s88_8 (d : Nat) (l0 : Value) (l1 : Value) (l2 : Value) (l3 : Value) (l4 : Value) (w0 : Value) (σ : Hs) : ru d 88 8 [l0, l1, l2, l3, l4] [w0] σ = ru d 88 9 [l0, l1, l2, l3, l4] [.int 0, w0] σ := q_iconst t88_8 (by decide +kernel)
theorem t88_9 : decode (mb 88) 9 = .ok (.iconst 3, 1) := by decide +kernel
theorem s88_9 (d : Nat) (l0 : Value) (l1 : Value) (l2 : Value) (l3 : Value) (l4 : Value) (w0 w1 : Value) (σ : Hs) : ru d 88 9 [l0, l1, l2, l3, l4] [w0, w1] σ = ru d 88 10 [l0, l1, l2, l3, l4] [.int 3, w0, w1] σ := q_iconst t88_9 (by decide +kernel)
theorem t88_10 : decode (mb 88) 10 = .ok (.invokestatic 83, 3) := by decide +kernel
theorem s88_10 (d : Nat) (l0 : Value) (l1 : Value) (l2 : Value) (l3 : Value) (l4 : Value) (v0 v1 v2 : Value) (σ : Hs) : ru d 88 10 [l0, l1, l2, l3, l4] [v2, v1, v0] σ = kont (callD d 103 [v0, v1, v2] σ) d 88 13 [l0, l1, l2, l3, l4] [] := q_invs t88_10 mo88 (by decide +kernel) K7_83 mj103 (Nat.le_of_ble_eq_true rfl) rfl rfl (Nat.le_of_ble_eq_true rfl)
theorem t88_13 : decode (mb 88) 13 = .ok (.ifCond .ne 9, 3) := by decide +kernel
theorem s88_13 (d : Nat) (l0 : Value) (l1 : Value) (l2 : Value) (l3 : Value) (l4 : Value) (x : Int32) (σ : Hs) : ru d 88 13 [l0, l1, l2, l3, l4] [.int x] σ = if x = 0 then ru d 88 16 [l0, l1, l2, l3, l4] [] σ else ru d 88 22 [l0, l1, l2, l3, l4] [] σ := q_if_ne t88_13 (by decide +kernel)
theorem t88_16 : decode (mb 88) 16 = .ok (.aload_n 0, 1) := by decide +kernel
theorem s88_16 (d : Nat) (a0 : Nat) (l1 : Value) (l2 : Value) (l3 : Value) (l4 : Value) (σ : Hs) : ru d 88 16 [.ref a0, l1, l2, l3, l4] [] σ = ru d 88 17 [.ref a0, l1, l2, l3, l4] [.ref a0] σ := q_aload_n t88_16 rfl
theorem t88_17 : decode (mb 88) 17 = .ok (.iconst 1, 1) := by decide +kernel
theorem s88_17 (d : Nat) (l0 : Value) (l1 : Value) (l2 : Value) (l3 : Value) (l4 : Value) (w0 : Value) (σ : Hs) : ru d 88 17 [l0, l1, l2, l3, l4] [w0] σ = ru d 88 18 [l0, l1, l2, l3, l4] [.int 1, w0] σ := q_iconst t88_17 (by decide +kernel)
theorem t88_18 : decode (mb 88) 18 = .ok (.invokevirtual 65, 3) := by decide +kernel
theorem s88_18_o0 (d : Nat) (l0 : Value) (l1 : Value) (l2 : Value) (l3 : Value) (l4 : Value) (v1 : Value) (σ : Hs) : ru d 88 18 [l0, l1, l2, l3, l4] [v1, .ref 0] σ = kont (callD d 100 [.ref 0, v1] σ) d 88 21 [l0, l1, l2, l3, l4] [] := q_invv t88_18 mo88 K7_65 mj100 rfl rfl rfl rfl (Nat.le_of_ble_eq_true rfl)
theorem t88_21 : decode (mb 88) 21 = .ok (.ireturn, 1) := by decide +kernel
theorem s88_21 (d : Nat) (l0 : Value) (l1 : Value) (l2 : Value) (l3 : Value) (l4 : Value) (x : Int32) (σ : Hs) : ru d 88 21 [l0, l1, l2, l3, l4] [.int x] σ = some (some (.int x), σ) := q_ireti t88_21 mr88
theorem t88_22 : decode (mb 88) 22 = .ok (.aload_n 0, 1) := by decide +kernel
theorem s88_22 (d : Nat) (a0 : Nat) (l1 : Value) (l2 : Value) (l3 : Value) (l4 : Value) (σ : Hs) : ru d 88 22 [.ref a0, l1, l2, l3, l4] [] σ = ru d 88 23 [.ref a0, l1, l2, l3, l4] [.ref a0] σ := q_aload_n t88_22 rfl
theorem t88_23 : decode (mb 88) 23 = .ok (.getfield 10, 3) := by decide +kernel
theorem s88_23_o0 (d : Nat) (l0 : Value) (l1 : Value) (l2 : Value) (l3 : Value) (l4 : Value) (σ : Hs) : ru d 88 23 [l0, l1, l2, l3, l4] [.ref 0] σ = ru d 88 26 [l0, l1, l2, l3, l4] [.ref 1] σ := q_getf t88_23 mo88 F7_10 rfl rfl
theorem t88_26 : decode (mb 88) 26 = .ok (.getfield 58, 3) := by decide +kernel
theorem s88_26_o1 (d : Nat) (l0 : Value) (l1 : Value) (l2 : Value) (l3 : Value) (l4 : Value) (σ : Hs) : ru d 88 26 [l0, l1, l2, l3, l4] [.ref 1] σ = ru d 88 29 [l0, l1, l2, l3, l4] [.ref 2] σ := q_getf t88_26 mo88 F7_58 rfl rfl
theorem t88_29 : decode (mb 88) 29 = .ok (.iload_n 1, 1) := by decide +kernel
theorem s88_29 (d : Nat) (l0 : Value) (i1 : Int32) (l2 : Value) (l3 : Value) (l4 : Value) (w0 : Value) (σ : Hs) : ru d 88 29 [l0, .int i1, l2, l3, l4] [w0] σ = ru d 88 30 [l0, .int i1, l2, l3, l4] [.int i1, w0] σ := q_iload_n t88_29 rfl
theorem t88_30 : decode (mb 88) 30 = .ok (.invokevirtual 73, 3) := by decide +kernel
theorem s88_30_o2 (d : Nat) (l0 : Value) (l1 : Value) (l2 : Value) (l3 : Value) (l4 : Value) (v1 : Value) (σ : Hs) : ru d 88 30 [l0, l1, l2, l3, l4] [v1, .ref 2] σ = kont (callD d 1 [.ref 2, v1] σ) d 88 33 [l0, l1, l2, l3, l4] [] := q_invv t88_30 mo88 K7_73 mj1 rfl rfl rfl rfl (Nat.le_of_ble_eq_true rfl)
theorem t88_33 : decode (mb 88) 33 = .ok (.ifCond .ne 9, 3) := by decide +kernel
theorem s88_33 (d : Nat) (l0 : Value) (l1 : Value) (l2 : Value) (l3 : Value) (l4 : Value) (x : Int32) (σ : Hs) : ru d 88 33 [l0, l1, l2, l3, l4] [.int x] σ = if x = 0 then ru d 88 36 [l0, l1, l2, l3, l4] [] σ else ru d 88 42 [l0, l1, l2, l3, l4] [] σ := q_if_ne t88_33 (by decide +kernel)
theorem t88_36 : decode (mb 88) 36 = .ok (.aload_n 0, 1) := by decide +kernel
theorem s88_36 (d : Nat) (a0 : Nat) (l1 : Value) (l2 : Value) (l3 : Value) (l4 : Value) (σ : Hs) : ru d 88 36 [.ref a0, l1, l2, l3, l4] [] σ = ru d 88 37 [.ref a0, l1, l2, l3, l4] [.ref a0] σ := q_aload_n t88_36 rfl
theorem t88_37 : decode (mb 88) 37 = .ok (.iconst 2, 1) := by decide +kernel
theorem s88_37 (d : Nat) (l0 : Value) (l1 : Value) (l2 : Value) (l3 : Value) (l4 : Value) (w0 : Value) (σ : Hs) : ru d 88 37 [l0, l1, l2, l3, l4] [w0] σ = ru d 88 38 [l0, l1, l2, l3, l4] [.int 2, w0] σ := q_iconst t88_37 (by decide +kernel)
theorem t88_38 : decode (mb 88) 38 = .ok (.invokevirtual 65, 3) := by decide +kernel
theorem s88_38_o0 (d : Nat) (l0 : Value) (l1 : Value) (l2 : Value) (l3 : Value) (l4 : Value) (v1 : Value) (σ : Hs) : ru d 88 38 [l0, l1, l2, l3, l4] [v1, .ref 0] σ = kont (callD d 100 [.ref 0, v1] σ) d 88 41 [l0, l1, l2, l3, l4] [] := q_invv t88_38 mo88 K7_65 mj100 rfl rfl rfl rfl (Nat.le_of_ble_eq_true rfl)
theorem t88_41 : decode (mb 88) 41 = .ok (.ireturn, 1) := by decide +kernel
theorem s88_41 (d : Nat) (l0 : Value) (l1 : Value) (l2 : Value) (l3 : Value) (l4 : Value) (x : Int32) (σ : Hs) : ru d 88 41 [l0, l1, l2, l3, l4] [.int x] σ = some (some (.int x), σ) := q_ireti t88_41 mr88
theorem t88_42 : decode (mb 88) 42 = .ok (.aload_n 0, 1) := by decide +kernel
theorem s88_42 (d : Nat) (a0 : Nat) (l1 : Value) (l2 : Value) (l3 : Value) (l4 : Value) (σ : Hs) : ru d 88 42 [.ref a0, l1, l2, l3, l4] [] σ = ru d 88 43 [.ref a0, l1, l2, l3, l4] [.ref a0] σ := q_aload_n t88_42 rfl
theorem t88_43 : decode (mb 88) 43 = .ok (.getfield 36, 3) := by decide +kernel
theorem s88_43_o0 (d : Nat) (l0 : Value) (l1 : Value) (l2 : Value) (l3 : Value) (l4 : Value) (σ : Hs) : ru d 88 43 [l0, l1, l2, l3, l4] [.ref 0] σ = ru d 88 46 [l0, l1, l2, l3, l4] [.ref 73] σ := q_getf t88_43 mo88 F7_36 rfl rfl
theorem t88_46 : decode (mb 88) 46 = .ok (.aload_n 0, 1) := by decide +kernel
theorem s88_46 (d : Nat) (a0 : Nat) (l1 : Value) (l2 : Value) (l3 : Value) (l4 : Value) (w0 : Value) (σ : Hs) : ru d 88 46 [.ref a0, l1, l2, l3, l4] [w0] σ = ru d 88 47 [.ref a0, l1, l2, l3, l4] [.ref a0, w0] σ := q_aload_n t88_46 rfl
theorem t88_47 : decode (mb 88) 47 = .ok (.getfield 10, 3) := by decide +kernel
theorem s88_47_o0 (d : Nat) (l0 : Value) (l1 : Value) (l2 : Value) (l3 : Value) (l4 : Value) (w0 : Value) (σ : Hs) : ru d 88 47 [l0, l1, l2, l3, l4] [.ref 0, w0] σ = ru d 88 50 [l0, l1, l2, l3, l4] [.ref 1, w0] σ := q_getf t88_47 mo88 F7_10 rfl rfl
theorem t88_50 : decode (mb 88) 50 = .ok (.getfield 58, 3) := by decide +kernel
theorem s88_50_o1 (d : Nat) (l0 : Value) (l1 : Value) (l2 : Value) (l3 : Value) (l4 : Value) (w0 : Value) (σ : Hs) : ru d 88 50 [l0, l1, l2, l3, l4] [.ref 1, w0] σ = ru d 88 53 [l0, l1, l2, l3, l4] [.ref 2, w0] σ := q_getf t88_50 mo88 F7_58 rfl rfl
theorem t88_53 : decode (mb 88) 53 = .ok (.getfield 94, 3) := by decide +kernel
theorem s88_53_o2 (d : Nat) (l0 : Value) (l1 : Value) (l2 : Value) (l3 : Value) (l4 : Value) (w0 : Value) (σ : Hs) : ru d 88 53 [l0, l1, l2, l3, l4] [.ref 2, w0] σ = ru d 88 56 [l0, l1, l2, l3, l4] [.ref 3, w0] σ := q_getf t88_53 mo88 F7_94 rfl rfl
theorem t88_56 : decode (mb 88) 56 = .ok (.iload_n 1, 1) := by decide +kernel
theorem s88_56 (d : Nat) (l0 : Value) (i1 : Int32) (l2 : Value) (l3 : Value) (l4 : Value) (w0 w1 : Value) (σ : Hs) : ru d 88 56 [l0, .int i1, l2, l3, l4] [w0, w1] σ = ru d 88 57 [l0, .int i1, l2, l3, l4] [.int i1, w0, w1] σ := q_iload_n t88_56 rfl
theorem t88_57 : decode (mb 88) 57 = .ok (.iaload, 1) := by decide +kernel
theorem s88_57_o3 (d : Nat) (l0 : Value) (l1 : Value) (l2 : Value) (l3 : Value) (l4 : Value) (i : Int32) (w0 : Value) (σ : Hs) : ru d 88 57 [l0, l1, l2, l3, l4] [.int i, .ref 3, w0] σ = gd (vp_in i 30) (ru d 88 58 [l0, l1, l2, l3, l4] [.int (σ 3 i.toNatClampNeg), w0] σ) := q_iald t88_57 rfl (by decide +kernel) rfl
theorem t88_58 : decode (mb 88) 58 = .ok (.iload_n 1, 1) := by decide +kernel
theorem s88_58 (d : Nat) (l0 : Value) (i1 : Int32) (l2 : Value) (l3 : Value) (l4 : Value) (w0 w1 : Value) (σ : Hs) : ru d 88 58 [l0, .int i1, l2, l3, l4] [w0, w1] σ = ru d 88 59 [l0, .int i1, l2, l3, l4] [.int i1, w0, w1] σ := q_iload_n t88_58 rfl
theorem t88_59 : decode (mb 88) 59 = .ok (.aload_n 0, 1) := by decide +kernel
theorem s88_59 (d : Nat) (a0 : Nat) (l1 : Value) (l2 : Value) (l3 : Value) (l4 : Value) (w0 w1 w2 : Value) (σ : Hs) : ru d 88 59 [.ref a0, l1, l2, l3, l4] [w0, w1, w2] σ = ru d 88 60 [.ref a0, l1, l2, l3, l4] [.ref a0, w0, w1, w2] σ := q_aload_n t88_59 rfl
theorem t88_60 : decode (mb 88) 60 = .ok (.getfield 10, 3) := by decide +kernel
theorem s88_60_o0 (d : Nat) (l0 : Value) (l1 : Value) (l2 : Value) (l3 : Value) (l4 : Value) (w0 w1 w2 : Value) (σ : Hs) : ru d 88 60 [l0, l1, l2, l3, l4] [.ref 0, w0, w1, w2] σ = ru d 88 63 [l0, l1, l2, l3, l4] [.ref 1, w0, w1, w2] σ := q_getf t88_60 mo88 F7_10 rfl rfl
theorem t88_63 : decode (mb 88) 63 = .ok (.getfield 58, 3) := by decide +kernel
theorem s88_63_o1 (d : Nat) (l0 : Value) (l1 : Value) (l2 : Value) (l3 : Value) (l4 : Value) (w0 w1 w2 : Value) (σ : Hs) : ru d 88 63 [l0, l1, l2, l3, l4] [.ref 1, w0, w1, w2] σ = ru d 88 66 [l0, l1, l2, l3, l4] [.ref 2, w0, w1, w2] σ := q_getf t88_63 mo88 F7_58 rfl rfl
theorem t88_66 : decode (mb 88) 66 = .ok (.getfield 76, 3) := by decide +kernel
theorem s88_66_o2 (d : Nat) (l0 : Value) (l1 : Value) (l2 : Value) (l3 : Value) (l4 : Value) (w0 w1 w2 : Value) (σ : Hs) : ru d 88 66 [l0, l1, l2, l3, l4] [.ref 2, w0, w1, w2] σ = ru d 88 69 [l0, l1, l2, l3, l4] [.ref 4, w0, w1, w2] σ := q_getf t88_66 mo88 F7_76 rfl rfl
theorem t88_69 : decode (mb 88) 69 = .ok (.iload_n 1, 1) := by decide +kernel
theorem s88_69 (d : Nat) (l0 : Value) (i1 : Int32) (l2 : Value) (l3 : Value) (l4 : Value) (w0 w1 w2 w3 : Value) (σ : Hs) : ru d 88 69 [l0, .int i1, l2, l3, l4] [w0, w1, w2, w3] σ = ru d 88 70 [l0, .int i1, l2, l3, l4] [.int i1, w0, w1, w2, w3] σ := q_iload_n t88_69 rfl
theorem t88_70 : decode (mb 88) 70 = .ok (.iaload, 1) := by decide +kernel
theorem s88_70_o4 (d : Nat) (l0 : Value) (l1 : Value) (l2 : Value) (l3 : Value) (l4 : Value) (i : Int32) (w0 w1 w2 : Value) (σ : Hs) : ru d 88 70 [l0, l1, l2, l3, l4] [.int i, .ref 4, w0, w1, w2] σ = gd (vp_in i 30) (ru d 88 71 [l0, l1, l2, l3, l4] [.int (σ 4 i.toNatClampNeg), w0, w1, w2] σ) := q_iald t88_70 rfl (by decide +kernel) rfl
theorem t88_71 : decode (mb 88) 71 = .ok (.invokevirtual 234, 3) := by decide +kernel
theorem s88_71_o73 (d : Nat) (l0 : Value) (l1 : Value) (l2 : Value) (l3 : Value) (l4 : Value) (v1 v2 v3 : Value) (σ : Hs) : ru d 88 71 [l0, l1, l2, l3, l4] [v3, v2, v1, .ref 73] σ = kont (callD d 55 [.ref 73, v1, v2, v3] σ) d 88 74 [l0, l1, l2, l3, l4] [] := q_invv t88_71 mo88 K7_234 mj55 rfl rfl rfl rfl (Nat.le_of_ble_eq_true rfl)
theorem t88_74 : decode (mb 88) 74 = .ok (.aload_n 0, 1) := by decide +kernel
theorem s88_74 (d : Nat) (a0 : Nat) (l1 : Value) (l2 : Value) (l3 : Value) (l4 : Value) (σ : Hs) : ru d 88 74 [.ref a0, l1, l2, l3, l4] [] σ = ru d 88 75 [.ref a0, l1, l2, l3, l4] [.ref a0] σ := q_aload_n t88_74 rfl
theorem t88_75 : decode (mb 88) 75 = .ok (.getfield 36, 3) := by decide +kernel
theorem s88_75_o0 (d : Nat) (l0 : Value) (l1 : Value) (l2 : Value) (l3 : Value) (l4 : Value) (σ : Hs) : ru d 88 75 [l0, l1, l2, l3, l4] [.ref 0] σ = ru d 88 78 [l0, l1, l2, l3, l4] [.ref 73] σ := q_getf t88_75 mo88 F7_36 rfl rfl
theorem t88_78 : decode (mb 88) 78 = .ok (.aload_n 0, 1) := by decide +kernel
theorem s88_78 (d : Nat) (a0 : Nat) (l1 : Value) (l2 : Value) (l3 : Value) (l4 : Value) (w0 : Value) (σ : Hs) : ru d 88 78 [.ref a0, l1, l2, l3, l4] [w0] σ = ru d 88 79 [.ref a0, l1, l2, l3, l4] [.ref a0, w0] σ := q_aload_n t88_78 rfl
theorem t88_79 : decode (mb 88) 79 = .ok (.getfield 10, 3) := by decide +kernel
theorem s88_79_o0 (d : Nat) (l0 : Value) (l1 : Value) (l2 : Value) (l3 : Value) (l4 : Value) (w0 : Value) (σ : Hs) : ru d 88 79 [l0, l1, l2, l3, l4] [.ref 0, w0] σ = ru d 88 82 [l0, l1, l2, l3, l4] [.ref 1, w0] σ := q_getf t88_79 mo88 F7_10 rfl rfl
theorem t88_82 : decode (mb 88) 82 = .ok (.getfield 58, 3) := by decide +kernel
theorem s88_82_o1 (d : Nat) (l0 : Value) (l1 : Value) (l2 : Value) (l3 : Value) (l4 : Value) (w0 : Value) (σ : Hs) : ru d 88 82 [l0, l1, l2, l3, l4] [.ref 1, w0] σ = ru d 88 85 [l0, l1, l2, l3, l4] [.ref 2, w0] σ := q_getf t88_82 mo88 F7_58 rfl rfl
theorem t88_85 : decode (mb 88) 85 = .ok (.getfield 94, 3) := by decide +kernel
theorem s88_85_o2 (d : Nat) (l0 : Value) (l1 : Value) (l2 : Value) (l3 : Value) (l4 : Value) (w0 : Value) (σ : Hs) : ru d 88 85 [l0, l1, l2, l3, l4] [.ref 2, w0] σ = ru d 88 88 [l0, l1, l2, l3, l4] [.ref 3, w0] σ := q_getf t88_85 mo88 F7_94 rfl rfl
theorem t88_88 : decode (mb 88) 88 = .ok (.iload_n 1, 1) := by decide +kernel
theorem s88_88 (d : Nat) (l0 : Value) (i1 : Int32) (l2 : Value) (l3 : Value) (l4 : Value) (w0 w1 : Value) (σ : Hs) : ru d 88 88 [l0, .int i1, l2, l3, l4] [w0, w1] σ = ru d 88 89 [l0, .int i1, l2, l3, l4] [.int i1, w0, w1] σ := q_iload_n t88_88 rfl
theorem t88_89 : decode (mb 88) 89 = .ok (.iaload, 1) := by decide +kernel
theorem s88_89_o3 (d : Nat) (l0 : Value) (l1 : Value) (l2 : Value) (l3 : Value) (l4 : Value) (i : Int32) (w0 : Value) (σ : Hs) : ru d 88 89 [l0, l1, l2, l3, l4] [.int i, .ref 3, w0] σ = gd (vp_in i 30) (ru d 88 90 [l0, l1, l2, l3, l4] [.int (σ 3 i.toNatClampNeg), w0] σ) := q_iald t88_89 rfl (by decide +kernel) rfl
theorem t88_90 : decode (mb 88) 90 = .ok (.iload_n 2, 1) := by decide +kernel
theorem s88_90 (d : Nat) (l0 : Value) (l1 : Value) (i2 : Int32) (l3 : Value) (l4 : Value) (w0 w1 : Value) (σ : Hs) : ru d 88 90 [l0, l1, .int i2, l3, l4] [w0, w1] σ = ru d 88 91 [l0, l1, .int i2, l3, l4] [.int i2, w0, w1] σ := q_iload_n t88_90 rfl
theorem t88_91 : decode (mb 88) 91 = .ok (.iload_n 3, 1) := by decide +kernel
theorem s88_91 (d : Nat) (l0 : Value) (l1 : Value) (l2 : Value) (i3 : Int32) (l4 : Value) (w0 w1 w2 : Value) (σ : Hs) : ru d 88 91 [l0, l1, l2, .int i3, l4] [w0, w1, w2] σ = ru d 88 92 [l0, l1, l2, .int i3, l4] [.int i3, w0, w1, w2] σ := q_iload_n t88_91 rfl
theorem t88_92 : decode (mb 88) 92 = .ok (.iconst 0, 1) := by decide +kernel
theorem s88_92 (d : Nat) (l0 : Value) (l1 : Value) (l2 : Value) (l3 : Value) (l4 : Value) (w0 w1 w2 w3 : Value) (σ : Hs) : ru d 88 92 [l0, l1, l2, l3, l4] [w0, w1, w2, w3] σ = ru d 88 93 [l0, l1, l2, l3, l4] [.int 0, w0, w1, w2, w3] σ := q_iconst t88_92 (by decide +kernel)
theorem t88_93 : decode (mb 88) 93 = .ok (.invokevirtual 238, 3) := by decide +kernel
theorem s88_93_o73 (d : Nat) (l0 : Value) (l1 : Value) (l2 : Value) (l3 : Value) (l4 : Value) (v1 v2 v3 v4 : Value) (σ : Hs) : ru d 88 93 [l0, l1, l2, l3, l4] [v4, v3, v2, v1, .ref 73] σ = kont (callD d 56 [.ref 73, v1, v2, v3, v4] σ) d 88 96 [l0, l1, l2, l3, l4] [] := q_invv t88_93 mo88 K7_238 mj56 rfl rfl rfl rfl (Nat.le_of_ble_eq_true rfl)
theorem t88_96 : decode (mb 88) 96 = .ok (.istore 4, 2) := by decide +kernel
theorem s88_96 (d : Nat) (l0 : Value) (l1 : Value) (l2 : Value) (i3 : Int32) (l4 : Value) (x : Int32) (σ : Hs) : ru d 88 96 [l0, l1, l2, .int i3, l4] [.int x] σ = ru d 88 98 [l0, l1, l2, .int i3, .int x] [] σ := q_istore t88_96 ⟨Nat.le_of_ble_eq_true rfl, rfl⟩ rfl
theorem t88_98 : decode (mb 88) 98 = .ok (.aload_n 0, 1) := by decide +kernel
theorem s88_98 (d : Nat) (a0 : Nat) (l1 : Value) (l2 : Value) (l3 : Value) (l4 : Value) (σ : Hs) : ru d 88 98 [.ref a0, l1, l2, l3, l4] [] σ = ru d 88 99 [.ref a0, l1, l2, l3, l4] [.ref a0] σ := q_aload_n t88_98 rfl
theorem t88_99 : decode (mb 88) 99 = .ok (.getfield 36, 3) := by decide +kernel
theorem s88_99_o0 (d : Nat) (l0 : Value) (l1 : Value) (l2 : Value) (l3 : Value) (l4 : Value) (σ : Hs) : ru d 88 99 [l0, l1, l2, l3, l4] [.ref 0] σ = ru d 88 102 [l0, l1, l2, l3, l4] [.ref 73] σ := q_getf t88_99 mo88 F7_36 rfl rfl
theorem t88_102 : decode (mb 88) 102 = .ok (.getfield 241, 3) := by decide +kernel
theorem s88_102_o73 (d : Nat) (l0 : Value) (l1 : Value) (l2 : Value) (l3 : Value) (l4 : Value) (σ : Hs) : ru d 88 102 [l0, l1, l2, l3, l4] [.ref 73] σ = ru d 88 105 [l0, l1, l2, l3, l4] [.int (σ 73 1)] σ := q_getf t88_102 mo88 F7_241 rfl rfl
theorem t88_105 : decode (mb 88) 105 = .ok (.ifCond .eq 12, 3) := by decide +kernel
theorem s88_105 (d : Nat) (l0 : Value) (l1 : Value) (l2 : Value) (l3 : Value) (l4 : Value) (x : Int32) (σ : Hs) : ru d 88 105 [l0, l1, l2, l3, l4] [.int x] σ = if x = 0 then ru d 88 117 [l0, l1, l2, l3, l4] [] σ else ru d 88 108 [l0, l1, l2, l3, l4] [] σ := q_if_eq t88_105 (by decide +kernel)
theorem t88_108 : decode (mb 88) 108 = .ok (.aload_n 0, 1) := by decide +kernel
theorem s88_108 (d : Nat) (a0 : Nat) (l1 : Value) (l2 : Value) (l3 : Value) (l4 : Value) (σ : Hs) : ru d 88 108 [.ref a0, l1, l2, l3, l4] [] σ = ru d 88 109 [.ref a0, l1, l2, l3, l4] [.ref a0] σ := q_aload_n t88_108 rfl
theorem t88_109 : decode (mb 88) 109 = .ok (.bipush 6, 2) := by decide +kernel
theorem s88_109 (d : Nat) (l0 : Value) (l1 : Value) (l2 : Value) (l3 : Value) (l4 : Value) (w0 : Value) (σ : Hs) : ru d 88 109 [l0, l1, l2, l3, l4] [w0] σ = ru d 88 111 [l0, l1, l2, l3, l4] [.int 6, w0] σ := q_bipush t88_109 (by decide +kernel)
theorem t88_111 : decode (mb 88) 111 = .ok (.invokevirtual 65, 3) := by decide +kernel
theorem s88_111_o0 (d : Nat) (l0 : Value) (l1 : Value) (l2 : Value) (l3 : Value) (l4 : Value) (v1 : Value) (σ : Hs) : ru d 88 111 [l0, l1, l2, l3, l4] [v1, .ref 0] σ = kont (callD d 100 [.ref 0, v1] σ) d 88 114 [l0, l1, l2, l3, l4] [] := q_invv t88_111 mo88 K7_65 mj100 rfl rfl rfl rfl (Nat.le_of_ble_eq_true rfl)
theorem t88_114 : decode (mb 88) 114 = .ok (.goto 5, 3) := by decide +kernel
theorem s88_114 (d : Nat) (l0 : Value) (l1 : Value) (l2 : Value) (l3 : Value) (l4 : Value) (w0 : Value) (σ : Hs) : ru d 88 114 [l0, l1, l2, l3, l4] [w0] σ = ru d 88 119 [l0, l1, l2, l3, l4] [w0] σ := q_goto t88_114 (by decide +kernel)
theorem t88_117 : decode (mb 88) 117 = .ok (.iload 4, 2) := by decide +kernel
theorem s88_117 (d : Nat) (l0 : Value) (l1 : Value) (l2 : Value) (l3 : Value) (i4 : Int32) (σ : Hs) : ru d 88 117 [l0, l1, l2, l3, .int i4] [] σ = ru d 88 119 [l0, l1, l2, l3, .int i4] [.int i4] σ := q_iload t88_117 rfl
theorem t88_119 : decode (mb 88) 119 = .ok (.ireturn, 1) := by decide +kernel
theorem s88_119 (d : Nat) (l0 : Value) (l1 : Value) (l2 : Value) (l3 : Value) (l4 : Value) (x : Int32) (σ : Hs) : ru d 88 119 [l0, l1, l2, l3, l4] [.int x] σ = some (some (.int x), σ) := q_ireti t88_119 mr88
theorem c88 (d : Nat) (x0 : Nat) (x1 : Int32) (x2 : Int32) (x3 : Int32) (σ : Hs) : callD (d + 1) 88 [.ref x0, .int x1, .int x2, .int x3] σ = ru d 88 0 [.ref x0, .int x1, .int x2, .int x3, uu] [] σ := callD_ru ml88 rfl rfl (Nat.le_of_ble_eq_true rfl)
-- 89: SmokyHeap.body(I)I
theorem t89_0 : decode (mb 89) 0 = .ok (.aload_n 0, 1) := by decide +kernel
theorem s89_0 (d : Nat) (a0 : Nat) (l1 : Value) (σ : Hs) : ru d 89 0 [.ref a0, l1] [] σ = ru d 89 1 [.ref a0, l1] [.ref a0] σ := q_aload_n t89_0 rfl
theorem t89_1 : decode (mb 89) 1 = .ok (.getfield 36, 3) := by decide +kernel
theorem s89_1_o0 (d : Nat) (l0 : Value) (l1 : Value) (σ : Hs) : ru d 89 1 [l0, l1] [.ref 0] σ = ru d 89 4 [l0, l1] [.ref 73] σ := q_getf t89_1 mo89 F7_36 rfl rfl
theorem t89_4 : decode (mb 89) 4 = .ok (.getfield 245, 3) := by decide +kernel
theorem s89_4_o73 (d : Nat) (l0 : Value) (l1 : Value) (σ : Hs) : ru d 89 4 [l0, l1] [.ref 73] σ = ru d 89 7 [l0, l1] [.ref 74] σ := q_getf t89_4 mo89 F7_245 rfl rfl
theorem t89_7 : decode (mb 89) 7 = .ok (.iload_n 1, 1) := by decide +kernel
theorem s89_7 (d : Nat) (l0 : Value) (i1 : Int32) (w0 : Value) (σ : Hs) : ru d 89 7 [l0, .int i1] [w0] σ = ru d 89 8 [l0, .int i1] [.int i1, w0] σ := q_iload_n t89_7 rfl
theorem t89_8 : decode (mb 89) 8 = .ok (.invokevirtual 248, 3) := by decide +kernel
theorem s89_8_o74 (d : Nat) (l0 : Value) (l1 : Value) (v1 : Value) (σ : Hs) : ru d 89 8 [l0, l1] [v1, .ref 74] σ = kont (callD d 44 [.ref 74, v1] σ) d 89 11 [l0, l1] [] := q_invv t89_8 mo89 K7_248 mj44 rfl rfl rfl rfl (Nat.le_of_ble_eq_true rfl)
theorem t89_11 : decode (mb 89) 11 = .ok (.ifCond .eq 18, 3) := by decide +kernel
theorem s89_11 (d : Nat) (l0 : Value) (l1 : Value) (x : Int32) (σ : Hs) : ru d 89 11 [l0, l1] [.int x] σ = if x = 0 then ru d 89 29 [l0, l1] [] σ else ru d 89 14 [l0, l1] [] σ := q_if_eq t89_11 (by decide +kernel)
theorem t89_14 : decode (mb 89) 14 = .ok (.aload_n 0, 1) := by decide +kernel
theorem s89_14 (d : Nat) (a0 : Nat) (l1 : Value) (σ : Hs) : ru d 89 14 [.ref a0, l1] [] σ = ru d 89 15 [.ref a0, l1] [.ref a0] σ := q_aload_n t89_14 rfl
theorem t89_15 : decode (mb 89) 15 = .ok (.getfield 36, 3) := by decide +kernel
theorem s89_15_o0 (d : Nat) (l0 : Value) (l1 : Value) (σ : Hs) : ru d 89 15 [l0, l1] [.ref 0] σ = ru d 89 18 [l0, l1] [.ref 73] σ := q_getf t89_15 mo89 F7_36 rfl rfl
theorem t89_18 : decode (mb 89) 18 = .ok (.getfield 245, 3) := by decide +kernel
theorem s89_18_o73 (d : Nat) (l0 : Value) (l1 : Value) (σ : Hs) : ru d 89 18 [l0, l1] [.ref 73] σ = ru d 89 21 [l0, l1] [.ref 74] σ := q_getf t89_18 mo89 F7_245 rfl rfl
theorem t89_21 : decode (mb 89) 21 = .ok (.getfield 249, 3) := by decide +kernel
theorem s89_21_o74 (d : Nat) (l0 : Value) (l1 : Value) (σ : Hs) : ru d 89 21 [l0, l1] [.ref 74] σ = ru d 89 24 [l0, l1] [.ref 75] σ := q_getf t89_21 mo89 F7_249 rfl rfl
theorem t89_24 : decode (mb 89) 24 = .ok (.iload_n 1, 1) := by decide +kernel
theorem s89_24 (d : Nat) (l0 : Value) (i1 : Int32) (w0 : Value) (σ : Hs) : ru d 89 24 [l0, .int i1] [w0] σ = ru d 89 25 [l0, .int i1] [.int i1, w0] σ := q_iload_n t89_24 rfl
theorem t89_25 : decode (mb 89) 25 = .ok (.iaload, 1) := by decide +kernel
theorem s89_25_o75 (d : Nat) (l0 : Value) (l1 : Value) (i : Int32) (σ : Hs) : ru d 89 25 [l0, l1] [.int i, .ref 75] σ = gd (vp_in i 30) (ru d 89 26 [l0, l1] [.int (σ 75 i.toNatClampNeg)] σ) := q_iald t89_25 rfl (by decide +kernel) rfl
theorem t89_26 : decode (mb 89) 26 = .ok (.goto 8, 3) := by decide +kernel
theorem s89_26 (d : Nat) (l0 : Value) (l1 : Value) (w0 : Value) (σ : Hs) : ru d 89 26 [l0, l1] [w0] σ = ru d 89 34 [l0, l1] [w0] σ := q_goto t89_26 (by decide +kernel)
theorem t89_29 : decode (mb 89) 29 = .ok (.aload_n 0, 1) := by decide +kernel
theorem s89_29 (d : Nat) (a0 : Nat) (l1 : Value) (σ : Hs) : ru d 89 29 [.ref a0, l1] [] σ = ru d 89 30 [.ref a0, l1] [.ref a0] σ := q_aload_n t89_29 rfl
theorem t89_30 : decode (mb 89) 30 = .ok (.iconst 2, 1) := by decide +kernel
theorem s89_30 (d : Nat) (l0 : Value) (l1 : Value) (w0 : Value) (σ : Hs) : ru d 89 30 [l0, l1] [w0] σ = ru d 89 31 [l0, l1] [.int 2, w0] σ := q_iconst t89_30 (by decide +kernel)
theorem t89_31 : decode (mb 89) 31 = .ok (.invokevirtual 65, 3) := by decide +kernel
theorem s89_31_o0 (d : Nat) (l0 : Value) (l1 : Value) (v1 : Value) (σ : Hs) : ru d 89 31 [l0, l1] [v1, .ref 0] σ = kont (callD d 100 [.ref 0, v1] σ) d 89 34 [l0, l1] [] := q_invv t89_31 mo89 K7_65 mj100 rfl rfl rfl rfl (Nat.le_of_ble_eq_true rfl)
theorem t89_34 : decode (mb 89) 34 = .ok (.ireturn, 1) := by decide +kernel
theorem s89_34 (d : Nat) (l0 : Value) (l1 : Value) (x : Int32) (σ : Hs) : ru d 89 34 [l0, l1] [.int x] σ = some (some (.int x), σ) := q_ireti t89_34 mr89
theorem c89 (d : Nat) (x0 : Nat) (x1 : Int32) (σ : Hs) : callD (d + 1) 89 [.ref x0, .int x1] σ = ru d 89 0 [.ref x0, .int x1] [] σ := callD_ru ml89 rfl rfl (Nat.le_of_ble_eq_true rfl)
