-- 15: Heap.burnAt(ILSmokyHeap$Laws;)I
theorem t15_0 : decode (mb 15) 0 = .ok (.aload_n 0, 1) := by decide +kernel
theorem s15_0 (d : Nat) (a0 : Nat) (l1 : Value) (l2 : Value) (l3 : Value) (l4 : Value) (l5 : Value) (l6 : Value) (l7 : Value) (σ : Hs) : ru d 15 0 [.ref a0, l1, l2, l3, l4, l5, l6, l7] [] σ = ru d 15 1 [.ref a0, l1, l2, l3, l4, l5, l6, l7] [.ref a0] σ := q_aload_n t15_0 rfl
theorem t15_1 : decode (mb 15) 1 = .ok (.getfield 15, 3) := by decide +kernel
theorem s15_1_o2 (d : Nat) (l0 : Value) (l1 : Value) (l2 : Value) (l3 : Value) (l4 : Value) (l5 : Value) (l6 : Value) (l7 : Value) (σ : Hs) : ru d 15 1 [l0, l1, l2, l3, l4, l5, l6, l7] [.ref 2] σ = ru d 15 4 [l0, l1, l2, l3, l4, l5, l6, l7] [.ref 4] σ := q_getf t15_1 mo15 F0_15 rfl rfl
theorem s15_1_o59 (d : Nat) (l0 : Value) (l1 : Value) (l2 : Value) (l3 : Value) (l4 : Value) (l5 : Value) (l6 : Value) (l7 : Value) (σ : Hs) : ru d 15 1 [l0, l1, l2, l3, l4, l5, l6, l7] [.ref 59] σ = ru d 15 4 [l0, l1, l2, l3, l4, l5, l6, l7] [.ref 61] σ := q_getf t15_1 mo15 F0_15 rfl rfl
theorem t15_4 : decode (mb 15) 4 = .ok (.iload_n 1, 1) := by decide +kernel
theorem s15_4 (d : Nat) (l0 : Value) (i1 : Int32) (l2 : Value) (l3 : Value) (l4 : Value) (l5 : Value) (l6 : Value) (l7 : Value) (w0 : Value) (σ : Hs) : ru d 15 4 [l0, .int i1, l2, l3, l4, l5, l6, l7] [w0] σ = ru d 15 5 [l0, .int i1, l2, l3, l4, l5, l6, l7] [.int i1, w0] σ := q_iload_n t15_4 rfl
theorem t15_5 : decode (mb 15) 5 = .ok (.iaload, 1) := by decide +kernel
theorem s15_5_o4 (d : Nat) (l0 : Value) (l1 : Value) (l2 : Value) (l3 : Value) (l4 : Value) (l5 : Value) (l6 : Value) (l7 : Value) (i : Int32) (σ : Hs) : ru d 15 5 [l0, l1, l2, l3, l4, l5, l6, l7] [.int i, .ref 4] σ = gd (vp_in i 30) (ru d 15 6 [l0, l1, l2, l3, l4, l5, l6, l7] [.int (σ 4 i.toNatClampNeg)] σ) := q_iald t15_5 rfl (by decide +kernel) rfl
theorem s15_5_o61 (d : Nat) (l0 : Value) (l1 : Value) (l2 : Value) (l3 : Value) (l4 : Value) (l5 : Value) (l6 : Value) (l7 : Value) (i : Int32) (σ : Hs) : ru d 15 5 [l0, l1, l2, l3, l4, l5, l6, l7] [.int i, .ref 61] σ = gd (vp_in i 30) (ru d 15 6 [l0, l1, l2, l3, l4, l5, l6, l7] [.int (σ 61 i.toNatClampNeg)] σ) := q_iald t15_5 rfl (by decide +kernel) rfl
theorem t15_6 : decode (mb 15) 6 = .ok (.istore_n 3, 1) := by decide +kernel
theorem s15_6 (d : Nat) (l0 : Value) (l1 : Value) (a2 : Nat) (l3 : Value) (l4 : Value) (l5 : Value) (l6 : Value) (l7 : Value) (x : Int32) (σ : Hs) : ru d 15 6 [l0, l1, .ref a2, l3, l4, l5, l6, l7] [.int x] σ = ru d 15 7 [l0, l1, .ref a2, .int x, l4, l5, l6, l7] [] σ := q_istore_n t15_6 ⟨Nat.le_of_ble_eq_true rfl, rfl⟩ rfl
theorem t15_7 : decode (mb 15) 7 = .ok (.aload_n 0, 1) := by decide +kernel
theorem s15_7 (d : Nat) (a0 : Nat) (l1 : Value) (l2 : Value) (l3 : Value) (l4 : Value) (l5 : Value) (l6 : Value) (l7 : Value) (σ : Hs) : ru d 15 7 [.ref a0, l1, l2, l3, l4, l5, l6, l7] [] σ = ru d 15 8 [.ref a0, l1, l2, l3, l4, l5, l6, l7] [.ref a0] σ := q_aload_n t15_7 rfl
theorem t15_8 : decode (mb 15) 8 = .ok (.iload_n 1, 1) := by decide +kernel
theorem s15_8 (d : Nat) (l0 : Value) (i1 : Int32) (l2 : Value) (l3 : Value) (l4 : Value) (l5 : Value) (l6 : Value) (l7 : Value) (w0 : Value) (σ : Hs) : ru d 15 8 [l0, .int i1, l2, l3, l4, l5, l6, l7] [w0] σ = ru d 15 9 [l0, .int i1, l2, l3, l4, l5, l6, l7] [.int i1, w0] σ := q_iload_n t15_8 rfl
theorem t15_9 : decode (mb 15) 9 = .ok (.invokevirtual 113, 3) := by decide +kernel
theorem s15_9_o2 (d : Nat) (l0 : Value) (l1 : Value) (l2 : Value) (l3 : Value) (l4 : Value) (l5 : Value) (l6 : Value) (l7 : Value) (v1 : Value) (σ : Hs) : ru d 15 9 [l0, l1, l2, l3, l4, l5, l6, l7] [v1, .ref 2] σ = kont (callD d 12 [.ref 2, v1] σ) d 15 12 [l0, l1, l2, l3, l4, l5, l6, l7] [] := q_invv t15_9 mo15 K0_113 mj12 rfl rfl rfl rfl (Nat.le_of_ble_eq_true rfl)
theorem s15_9_o59 (d : Nat) (l0 : Value) (l1 : Value) (l2 : Value) (l3 : Value) (l4 : Value) (l5 : Value) (l6 : Value) (l7 : Value) (v1 : Value) (σ : Hs) : ru d 15 9 [l0, l1, l2, l3, l4, l5, l6, l7] [v1, .ref 59] σ = kont (callD d 12 [.ref 59, v1] σ) d 15 12 [l0, l1, l2, l3, l4, l5, l6, l7] [] := q_invv t15_9 mo15 K0_113 mj12 rfl rfl rfl rfl (Nat.le_of_ble_eq_true rfl)
theorem t15_12 : decode (mb 15) 12 = .ok (.istore 4, 2) := by decide +kernel
theorem s15_12 (d : Nat) (l0 : Value) (l1 : Value) (l2 : Value) (i3 : Int32) (l4 : Value) (l5 : Value) (l6 : Value) (l7 : Value) (x : Int32) (σ : Hs) : ru d 15 12 [l0, l1, l2, .int i3, l4, l5, l6, l7] [.int x] σ = ru d 15 14 [l0, l1, l2, .int i3, .int x, l5, l6, l7] [] σ := q_istore t15_12 ⟨Nat.le_of_ble_eq_true rfl, rfl⟩ rfl
theorem t15_14 : decode (mb 15) 14 = .ok (.aload_n 2, 1) := by decide +kernel
theorem s15_14 (d : Nat) (l0 : Value) (l1 : Value) (a2 : Nat) (l3 : Value) (l4 : Value) (l5 : Value) (l6 : Value) (l7 : Value) (σ : Hs) : ru d 15 14 [l0, l1, .ref a2, l3, l4, l5, l6, l7] [] σ = ru d 15 15 [l0, l1, .ref a2, l3, l4, l5, l6, l7] [.ref a2] σ := q_aload_n t15_14 rfl
theorem t15_15 : decode (mb 15) 15 = .ok (.iconst 0, 1) := by decide +kernel
theorem s15_15 (d : Nat) (l0 : Value) (l1 : Value) (l2 : Value) (l3 : Value) (l4 : Value) (l5 : Value) (l6 : Value) (l7 : Value) (w0 : Value) (σ : Hs) : ru d 15 15 [l0, l1, l2, l3, l4, l5, l6, l7] [w0] σ = ru d 15 16 [l0, l1, l2, l3, l4, l5, l6, l7] [.int 0, w0] σ := q_iconst t15_15 (by decide +kernel)
theorem t15_16 : decode (mb 15) 16 = .ok (.invokevirtual 116, 3) := by decide +kernel
theorem s15_16_o13 (d : Nat) (l0 : Value) (l1 : Value) (l2 : Value) (l3 : Value) (l4 : Value) (l5 : Value) (l6 : Value) (l7 : Value) (v1 : Value) (σ : Hs) : ru d 15 16 [l0, l1, l2, l3, l4, l5, l6, l7] [v1, .ref 13] σ = kont (callD d 30 [.ref 13, v1] σ) d 15 19 [l0, l1, l2, l3, l4, l5, l6, l7] [] := q_invv t15_16 mo15 K0_116 mj30 rfl rfl rfl rfl (Nat.le_of_ble_eq_true rfl)
theorem t15_19 : decode (mb 15) 19 = .ok (.ifCond .eq 26, 3) := by decide +kernel
theorem s15_19 (d : Nat) (l0 : Value) (l1 : Value) (l2 : Value) (l3 : Value) (l4 : Value) (l5 : Value) (l6 : Value) (l7 : Value) (x : Int32) (σ : Hs) : ru d 15 19 [l0, l1, l2, l3, l4, l5, l6, l7] [.int x] σ = if x = 0 then ru d 15 45 [l0, l1, l2, l3, l4, l5, l6, l7] [] σ else ru d 15 22 [l0, l1, l2, l3, l4, l5, l6, l7] [] σ := q_if_eq t15_19 (by decide +kernel)
theorem t15_22 : decode (mb 15) 22 = .ok (.aload_n 2, 1) := by decide +kernel
theorem s15_22 (d : Nat) (l0 : Value) (l1 : Value) (a2 : Nat) (l3 : Value) (l4 : Value) (l5 : Value) (l6 : Value) (l7 : Value) (σ : Hs) : ru d 15 22 [l0, l1, .ref a2, l3, l4, l5, l6, l7] [] σ = ru d 15 23 [l0, l1, .ref a2, l3, l4, l5, l6, l7] [.ref a2] σ := q_aload_n t15_22 rfl
theorem t15_23 : decode (mb 15) 23 = .ok (.iconst 0, 1) := by decide +kernel
theorem s15_23 (d : Nat) (l0 : Value) (l1 : Value) (l2 : Value) (l3 : Value) (l4 : Value) (l5 : Value) (l6 : Value) (l7 : Value) (w0 : Value) (σ : Hs) : ru d 15 23 [l0, l1, l2, l3, l4, l5, l6, l7] [w0] σ = ru d 15 24 [l0, l1, l2, l3, l4, l5, l6, l7] [.int 0, w0] σ := q_iconst t15_23 (by decide +kernel)
theorem t15_24 : decode (mb 15) 24 = .ok (.iload 4, 2) := by decide +kernel
theorem s15_24 (d : Nat) (l0 : Value) (l1 : Value) (l2 : Value) (l3 : Value) (i4 : Int32) (l5 : Value) (l6 : Value) (l7 : Value) (w0 w1 : Value) (σ : Hs) : ru d 15 24 [l0, l1, l2, l3, .int i4, l5, l6, l7] [w0, w1] σ = ru d 15 26 [l0, l1, l2, l3, .int i4, l5, l6, l7] [.int i4, w0, w1] σ := q_iload t15_24 rfl
theorem t15_26 : decode (mb 15) 26 = .ok (.iload_n 3, 1) := by decide +kernel
theorem s15_26 (d : Nat) (l0 : Value) (l1 : Value) (l2 : Value) (i3 : Int32) (l4 : Value) (l5 : Value) (l6 : Value) (l7 : Value) (w0 w1 w2 : Value) (σ : Hs) : ru d 15 26 [l0, l1, l2, .int i3, l4, l5, l6, l7] [w0, w1, w2] σ = ru d 15 27 [l0, l1, l2, .int i3, l4, l5, l6, l7] [.int i3, w0, w1, w2] σ := q_iload_n t15_26 rfl
theorem t15_27 : decode (mb 15) 27 = .ok (.aload_n 0, 1) := by decide +kernel
theorem s15_27 (d : Nat) (a0 : Nat) (l1 : Value) (l2 : Value) (l3 : Value) (l4 : Value) (l5 : Value) (l6 : Value) (l7 : Value) (w0 w1 w2 w3 : Value) (σ : Hs) : ru d 15 27 [.ref a0, l1, l2, l3, l4, l5, l6, l7] [w0, w1, w2, w3] σ = ru d 15 28 [.ref a0, l1, l2, l3, l4, l5, l6, l7] [.ref a0, w0, w1, w2, w3] σ := q_aload_n t15_27 rfl
theorem t15_28 : decode (mb 15) 28 = .ok (.getfield 18, 3) := by decide +kernel
theorem s15_28_o2 (d : Nat) (l0 : Value) (l1 : Value) (l2 : Value) (l3 : Value) (l4 : Value) (l5 : Value) (l6 : Value) (l7 : Value) (w0 w1 w2 w3 : Value) (σ : Hs) : ru d 15 28 [l0, l1, l2, l3, l4, l5, l6, l7] [.ref 2, w0, w1, w2, w3] σ = ru d 15 31 [l0, l1, l2, l3, l4, l5, l6, l7] [.ref 5, w0, w1, w2, w3] σ := q_getf t15_28 mo15 F0_18 rfl rfl
theorem s15_28_o59 (d : Nat) (l0 : Value) (l1 : Value) (l2 : Value) (l3 : Value) (l4 : Value) (l5 : Value) (l6 : Value) (l7 : Value) (w0 w1 w2 w3 : Value) (σ : Hs) : ru d 15 28 [l0, l1, l2, l3, l4, l5, l6, l7] [.ref 59, w0, w1, w2, w3] σ = ru d 15 31 [l0, l1, l2, l3, l4, l5, l6, l7] [.ref 62, w0, w1, w2, w3] σ := q_getf t15_28 mo15 F0_18 rfl rfl
theorem t15_31 : decode (mb 15) 31 = .ok (.iload_n 1, 1) := by decide +kernel
theorem s15_31 (d : Nat) (l0 : Value) (i1 : Int32) (l2 : Value) (l3 : Value) (l4 : Value) (l5 : Value) (l6 : Value) (l7 : Value) (w0 w1 w2 w3 w4 : Value) (σ : Hs) : ru d 15 31 [l0, .int i1, l2, l3, l4, l5, l6, l7] [w0, w1, w2, w3, w4] σ = ru d 15 32 [l0, .int i1, l2, l3, l4, l5, l6, l7] [.int i1, w0, w1, w2, w3, w4] σ := q_iload_n t15_31 rfl
theorem t15_32 : decode (mb 15) 32 = .ok (.iaload, 1) := by decide +kernel
theorem s15_32_o5 (d : Nat) (l0 : Value) (l1 : Value) (l2 : Value) (l3 : Value) (l4 : Value) (l5 : Value) (l6 : Value) (l7 : Value) (i : Int32) (w0 w1 w2 w3 : Value) (σ : Hs) : ru d 15 32 [l0, l1, l2, l3, l4, l5, l6, l7] [.int i, .ref 5, w0, w1, w2, w3] σ = gd (vp_in i 30) (ru d 15 33 [l0, l1, l2, l3, l4, l5, l6, l7] [.int (σ 5 i.toNatClampNeg), w0, w1, w2, w3] σ) := q_iald t15_32 rfl (by decide +kernel) rfl
theorem s15_32_o62 (d : Nat) (l0 : Value) (l1 : Value) (l2 : Value) (l3 : Value) (l4 : Value) (l5 : Value) (l6 : Value) (l7 : Value) (i : Int32) (w0 w1 w2 w3 : Value) (σ : Hs) : ru d 15 32 [l0, l1, l2, l3, l4, l5, l6, l7] [.int i, .ref 62, w0, w1, w2, w3] σ = gd (vp_in i 30) (ru d 15 33 [l0, l1, l2, l3, l4, l5, l6, l7] [.int (σ 62 i.toNatClampNeg), w0, w1, w2, w3] σ) := q_iald t15_32 rfl (by decide +kernel) rfl
theorem t15_33 : decode (mb 15) 33 = .ok (.aload_n 0, 1) := by decide +kernel
theorem s15_33 (d : Nat) (a0 : Nat) (l1 : Value) (l2 : Value) (l3 : Value) (l4 : Value) (l5 : Value) (l6 : Value) (l7 : Value) (w0 w1 w2 w3 w4 : Value) (σ : Hs) : ru d 15 33 [.ref a0, l1, l2, l3, l4, l5, l6, l7] [w0, w1, w2, w3, w4] σ = ru d 15 34 [.ref a0, l1, l2, l3, l4, l5, l6, l7] [.ref a0, w0, w1, w2, w3, w4] σ := q_aload_n t15_33 rfl
theorem t15_34 : decode (mb 15) 34 = .ok (.getfield 24, 3) := by decide +kernel
theorem s15_34_o2 (d : Nat) (l0 : Value) (l1 : Value) (l2 : Value) (l3 : Value) (l4 : Value) (l5 : Value) (l6 : Value) (l7 : Value) (w0 w1 w2 w3 w4 : Value) (σ : Hs) : ru d 15 34 [l0, l1, l2, l3, l4, l5, l6, l7] [.ref 2, w0, w1, w2, w3, w4] σ = ru d 15 37 [l0, l1, l2, l3, l4, l5, l6, l7] [.ref 7, w0, w1, w2, w3, w4] σ := q_getf t15_34 mo15 F0_24 rfl rfl
theorem s15_34_o59 (d : Nat) (l0 : Value) (l1 : Value) (l2 : Value) (l3 : Value) (l4 : Value) (l5 : Value) (l6 : Value) (l7 : Value) (w0 w1 w2 w3 w4 : Value) (σ : Hs) : ru d 15 34 [l0, l1, l2, l3, l4, l5, l6, l7] [.ref 59, w0, w1, w2, w3, w4] σ = ru d 15 37 [l0, l1, l2, l3, l4, l5, l6, l7] [.ref 64, w0, w1, w2, w3, w4] σ := q_getf t15_34 mo15 F0_24 rfl rfl
theorem t15_37 : decode (mb 15) 37 = .ok (.iload_n 1, 1) := by decide +kernel
theorem s15_37 (d : Nat) (l0 : Value) (i1 : Int32) (l2 : Value) (l3 : Value) (l4 : Value) (l5 : Value) (l6 : Value) (l7 : Value) (w0 w1 w2 w3 w4 w5 : Value) (σ : Hs) : ru d 15 37 [l0, .int i1, l2, l3, l4, l5, l6, l7] [w0, w1, w2, w3, w4, w5] σ = ru d 15 38 [l0, .int i1, l2, l3, l4, l5, l6, l7] [.int i1, w0, w1, w2, w3, w4, w5] σ := q_iload_n t15_37 rfl
theorem t15_38 : decode (mb 15) 38 = .ok (.iaload, 1) := by decide +kernel
theorem s15_38_o7 (d : Nat) (l0 : Value) (l1 : Value) (l2 : Value) (l3 : Value) (l4 : Value) (l5 : Value) (l6 : Value) (l7 : Value) (i : Int32) (w0 w1 w2 w3 w4 : Value) (σ : Hs) : ru d 15 38 [l0, l1, l2, l3, l4, l5, l6, l7] [.int i, .ref 7, w0, w1, w2, w3, w4] σ = gd (vp_in i 30) (ru d 15 39 [l0, l1, l2, l3, l4, l5, l6, l7] [.int (σ 7 i.toNatClampNeg), w0, w1, w2, w3, w4] σ) := q_iald t15_38 rfl (by decide +kernel) rfl
theorem s15_38_o64 (d : Nat) (l0 : Value) (l1 : Value) (l2 : Value) (l3 : Value) (l4 : Value) (l5 : Value) (l6 : Value) (l7 : Value) (i : Int32) (w0 w1 w2 w3 w4 : Value) (σ : Hs) : ru d 15 38 [l0, l1, l2, l3, l4, l5, l6, l7] [.int i, .ref 64, w0, w1, w2, w3, w4] σ = gd (vp_in i 30) (ru d 15 39 [l0, l1, l2, l3, l4, l5, l6, l7] [.int (σ 64 i.toNatClampNeg), w0, w1, w2, w3, w4] σ) := q_iald t15_38 rfl (by decide +kernel) rfl
theorem t15_39 : decode (mb 15) 39 = .ok (.invokevirtual 121, 3) := by decide +kernel
theorem s15_39_o13 (d : Nat) (l0 : Value) (l1 : Value) (l2 : Value) (l3 : Value) (l4 : Value) (l5 : Value) (l6 : Value) (l7 : Value) (v1 v2 v3 v4 v5 : Value) (σ : Hs) : ru d 15 39 [l0, l1, l2, l3, l4, l5, l6, l7] [v5, v4, v3, v2, v1, .ref 13] σ = kont (callD d 32 [.ref 13, v1, v2, v3, v4, v5] σ) d 15 42 [l0, l1, l2, l3, l4, l5, l6, l7] [] := q_invv t15_39 mo15 K0_121 mj32 rfl rfl rfl rfl (Nat.le_of_ble_eq_true rfl)
theorem t15_42 : decode (mb 15) 42 = .ok (.goto 9, 3) := by decide +kernel
theorem s15_42 (d : Nat) (l0 : Value) (l1 : Value) (l2 : Value) (l3 : Value) (l4 : Value) (l5 : Value) (l6 : Value) (l7 : Value) (w0 : Value) (σ : Hs) : ru d 15 42 [l0, l1, l2, l3, l4, l5, l6, l7] [w0] σ = ru d 15 51 [l0, l1, l2, l3, l4, l5, l6, l7] [w0] σ := q_goto t15_42 (by decide +kernel)
theorem t15_45 : decode (mb 15) 45 = .ok (.iload 4, 2) := by decide +kernel
theorem s15_45 (d : Nat) (l0 : Value) (l1 : Value) (l2 : Value) (l3 : Value) (i4 : Int32) (l5 : Value) (l6 : Value) (l7 : Value) (σ : Hs) : ru d 15 45 [l0, l1, l2, l3, .int i4, l5, l6, l7] [] σ = ru d 15 47 [l0, l1, l2, l3, .int i4, l5, l6, l7] [.int i4] σ := q_iload t15_45 rfl
theorem t15_47 : decode (mb 15) 47 = .ok (.iconst 4, 1) := by decide +kernel
theorem s15_47 (d : Nat) (l0 : Value) (l1 : Value) (l2 : Value) (l3 : Value) (l4 : Value) (l5 : Value) (l6 : Value) (l7 : Value) (w0 : Value) (σ : Hs) : ru d 15 47 [l0, l1, l2, l3, l4, l5, l6, l7] [w0] σ = ru d 15 48 [l0, l1, l2, l3, l4, l5, l6, l7] [.int 4, w0] σ := q_iconst t15_47 (by decide +kernel)
theorem t15_48 : decode (mb 15) 48 = .ok (.idiv, 1) := by decide +kernel
theorem s15_48 (d : Nat) (l0 : Value) (l1 : Value) (l2 : Value) (l3 : Value) (l4 : Value) (l5 : Value) (l6 : Value) (l7 : Value) (x y : Int32) (σ : Hs) : ru d 15 48 [l0, l1, l2, l3, l4, l5, l6, l7] [.int y, .int x] σ = gd (¬ y = 0) (ru d 15 49 [l0, l1, l2, l3, l4, l5, l6, l7] [.int (x / y)] σ) := q_idiv t15_48
theorem t15_49 : decode (mb 15) 49 = .ok (.iconst 1, 1) := by decide +kernel
theorem s15_49 (d : Nat) (l0 : Value) (l1 : Value) (l2 : Value) (l3 : Value) (l4 : Value) (l5 : Value) (l6 : Value) (l7 : Value) (w0 : Value) (σ : Hs) : ru d 15 49 [l0, l1, l2, l3, l4, l5, l6, l7] [w0] σ = ru d 15 50 [l0, l1, l2, l3, l4, l5, l6, l7] [.int 1, w0] σ := q_iconst t15_49 (by decide +kernel)
theorem t15_50 : decode (mb 15) 50 = .ok (.iadd, 1) := by decide +kernel
theorem s15_50 (d : Nat) (l0 : Value) (l1 : Value) (l2 : Value) (l3 : Value) (l4 : Value) (l5 : Value) (l6 : Value) (l7 : Value) (x y : Int32) (σ : Hs) : ru d 15 50 [l0, l1, l2, l3, l4, l5, l6, l7] [.int y, .int x] σ = ru d 15 51 [l0, l1, l2, l3, l4, l5, l6, l7] [.int (x + y)] σ := q_iadd t15_50
theorem t15_51 : decode (mb 15) 51 = .ok (.istore 5, 2) := by decide +kernel
theorem s15_51 (d : Nat) (l0 : Value) (l1 : Value) (l2 : Value) (l3 : Value) (i4 : Int32) (l5 : Value) (l6 : Value) (l7 : Value) (x : Int32) (σ : Hs) : ru d 15 51 [l0, l1, l2, l3, .int i4, l5, l6, l7] [.int x] σ = ru d 15 53 [l0, l1, l2, l3, .int i4, .int x, l6, l7] [] σ := q_istore t15_51 ⟨Nat.le_of_ble_eq_true rfl, rfl⟩ rfl
theorem t15_53 : decode (mb 15) 53 = .ok (.iconst 1, 1) := by decide +kernel
theorem s15_53 (d : Nat) (l0 : Value) (l1 : Value) (l2 : Value) (l3 : Value) (l4 : Value) (l5 : Value) (l6 : Value) (l7 : Value) (σ : Hs) : ru d 15 53 [l0, l1, l2, l3, l4, l5, l6, l7] [] σ = ru d 15 54 [l0, l1, l2, l3, l4, l5, l6, l7] [.int 1] σ := q_iconst t15_53 (by decide +kernel)
theorem t15_54 : decode (mb 15) 54 = .ok (.iload 5, 2) := by decide +kernel
theorem s15_54 (d : Nat) (l0 : Value) (l1 : Value) (l2 : Value) (l3 : Value) (l4 : Value) (i5 : Int32) (l6 : Value) (l7 : Value) (w0 : Value) (σ : Hs) : ru d 15 54 [l0, l1, l2, l3, l4, .int i5, l6, l7] [w0] σ = ru d 15 56 [l0, l1, l2, l3, l4, .int i5, l6, l7] [.int i5, w0] σ := q_iload t15_54 rfl
theorem t15_56 : decode (mb 15) 56 = .ok (.iload_n 3, 1) := by decide +kernel
theorem s15_56 (d : Nat) (l0 : Value) (l1 : Value) (l2 : Value) (i3 : Int32) (l4 : Value) (l5 : Value) (l6 : Value) (l7 : Value) (w0 w1 : Value) (σ : Hs) : ru d 15 56 [l0, l1, l2, .int i3, l4, l5, l6, l7] [w0, w1] σ = ru d 15 57 [l0, l1, l2, .int i3, l4, l5, l6, l7] [.int i3, w0, w1] σ := q_iload_n t15_56 rfl
theorem t15_57 : decode (mb 15) 57 = .ok (.invokestatic 83, 3) := by decide +kernel
theorem s15_57 (d : Nat) (l0 : Value) (l1 : Value) (l2 : Value) (l3 : Value) (l4 : Value) (l5 : Value) (l6 : Value) (l7 : Value) (x y : Int32) (w0 : Int32) (σ : Hs) : ru d 15 57 [l0, l1, l2, l3, l4, l5, l6, l7] [.int y, .int x, .int w0] σ = ru d 15 60 [l0, l1, l2, l3, l4, l5, l6, l7] [.int (jmin x y), .int w0] σ := q_mi t15_57 mo15 (by decide +kernel) (by decide +kernel) (by decide +kernel) (Nat.le_of_ble_eq_true rfl)
theorem t15_60 : decode (mb 15) 60 = .ok (.invokestatic 77, 3) := by decide +kernel
theorem s15_60 (d : Nat) (l0 : Value) (l1 : Value) (l2 : Value) (l3 : Value) (l4 : Value) (l5 : Value) (l6 : Value) (l7 : Value) (x y : Int32) (σ : Hs) : ru d 15 60 [l0, l1, l2, l3, l4, l5, l6, l7] [.int y, .int x] σ = ru d 15 63 [l0, l1, l2, l3, l4, l5, l6, l7] [.int (jmax x y)] σ := q_mx t15_60 mo15 (by decide +kernel) (by decide +kernel) (Nat.le_of_ble_eq_true rfl)
theorem t15_63 : decode (mb 15) 63 = .ok (.istore 6, 2) := by decide +kernel
theorem s15_63 (d : Nat) (l0 : Value) (l1 : Value) (l2 : Value) (l3 : Value) (l4 : Value) (i5 : Int32) (l6 : Value) (l7 : Value) (x : Int32) (σ : Hs) : ru d 15 63 [l0, l1, l2, l3, l4, .int i5, l6, l7] [.int x] σ = ru d 15 65 [l0, l1, l2, l3, l4, .int i5, .int x, l7] [] σ := q_istore t15_63 ⟨Nat.le_of_ble_eq_true rfl, rfl⟩ rfl
theorem t15_65 : decode (mb 15) 65 = .ok (.aload_n 0, 1) := by decide +kernel
theorem s15_65 (d : Nat) (a0 : Nat) (l1 : Value) (l2 : Value) (l3 : Value) (l4 : Value) (l5 : Value) (l6 : Value) (l7 : Value) (σ : Hs) : ru d 15 65 [.ref a0, l1, l2, l3, l4, l5, l6, l7] [] σ = ru d 15 66 [.ref a0, l1, l2, l3, l4, l5, l6, l7] [.ref a0] σ := q_aload_n t15_65 rfl
theorem t15_66 : decode (mb 15) 66 = .ok (.getfield 9, 3) := by decide +kernel
theorem s15_66_o2 (d : Nat) (l0 : Value) (l1 : Value) (l2 : Value) (l3 : Value) (l4 : Value) (l5 : Value) (l6 : Value) (l7 : Value) (σ : Hs) : ru d 15 66 [l0, l1, l2, l3, l4, l5, l6, l7] [.ref 2] σ = ru d 15 69 [l0, l1, l2, l3, l4, l5, l6, l7] [.ref 3] σ := q_getf t15_66 mo15 F0_9 rfl rfl
theorem s15_66_o59 (d : Nat) (l0 : Value) (l1 : Value) (l2 : Value) (l3 : Value) (l4 : Value) (l5 : Value) (l6 : Value) (l7 : Value) (σ : Hs) : ru d 15 66 [l0, l1, l2, l3, l4, l5, l6, l7] [.ref 59] σ = ru d 15 69 [l0, l1, l2, l3, l4, l5, l6, l7] [.ref 60] σ := q_getf t15_66 mo15 F0_9 rfl rfl
theorem t15_69 : decode (mb 15) 69 = .ok (.iload_n 1, 1) := by decide +kernel
theorem s15_69 (d : Nat) (l0 : Value) (i1 : Int32) (l2 : Value) (l3 : Value) (l4 : Value) (l5 : Value) (l6 : Value) (l7 : Value) (w0 : Value) (σ : Hs) : ru d 15 69 [l0, .int i1, l2, l3, l4, l5, l6, l7] [w0] σ = ru d 15 70 [l0, .int i1, l2, l3, l4, l5, l6, l7] [.int i1, w0] σ := q_iload_n t15_69 rfl
theorem t15_70 : decode (mb 15) 70 = .ok (.iaload, 1) := by decide +kernel
theorem s15_70_o3 (d : Nat) (l0 : Value) (l1 : Value) (l2 : Value) (l3 : Value) (l4 : Value) (l5 : Value) (l6 : Value) (l7 : Value) (i : Int32) (σ : Hs) : ru d 15 70 [l0, l1, l2, l3, l4, l5, l6, l7] [.int i, .ref 3] σ = gd (vp_in i 30) (ru d 15 71 [l0, l1, l2, l3, l4, l5, l6, l7] [.int (σ 3 i.toNatClampNeg)] σ) := q_iald t15_70 rfl (by decide +kernel) rfl
theorem s15_70_o60 (d : Nat) (l0 : Value) (l1 : Value) (l2 : Value) (l3 : Value) (l4 : Value) (l5 : Value) (l6 : Value) (l7 : Value) (i : Int32) (σ : Hs) : ru d 15 70 [l0, l1, l2, l3, l4, l5, l6, l7] [.int i, .ref 60] σ = gd (vp_in i 30) (ru d 15 71 [l0, l1, l2, l3, l4, l5, l6, l7] [.int (σ 60 i.toNatClampNeg)] σ) := q_iald t15_70 rfl (by decide +kernel) rfl
theorem t15_71 : decode (mb 15) 71 = .ok (.iload 6, 2) := by decide +kernel
theorem s15_71 (d : Nat) (l0 : Value) (l1 : Value) (l2 : Value) (l3 : Value) (l4 : Value) (l5 : Value) (i6 : Int32) (l7 : Value) (w0 : Value) (σ : Hs) : ru d 15 71 [l0, l1, l2, l3, l4, l5, .int i6, l7] [w0] σ = ru d 15 73 [l0, l1, l2, l3, l4, l5, .int i6, l7] [.int i6, w0] σ := q_iload t15_71 rfl
theorem t15_73 : decode (mb 15) 73 = .ok (.invokestatic 125, 3) := by decide +kernel
theorem s15_73 (d : Nat) (l0 : Value) (l1 : Value) (l2 : Value) (l3 : Value) (l4 : Value) (l5 : Value) (l6 : Value) (l7 : Value) (v0 v1 : Value) (σ : Hs) : ru d 15 73 [l0, l1, l2, l3, l4, l5, l6, l7] [v1, v0] σ = kont (callD d 16 [v0, v1] σ) d 15 76 [l0, l1, l2, l3, l4, l5, l6, l7] [] := q_invs t15_73 mo15 (by decide +kernel) K0_125 mj16 (Nat.le_of_ble_eq_true rfl) rfl rfl (Nat.le_of_ble_eq_true rfl)
theorem t15_76 : decode (mb 15) 76 = .ok (.iload_n 3, 1) := by decide +kernel
theorem s15_76 (d : Nat) (l0 : Value) (l1 : Value) (l2 : Value) (i3 : Int32) (l4 : Value) (l5 : Value) (l6 : Value) (l7 : Value) (w0 : Value) (σ : Hs) : ru d 15 76 [l0, l1, l2, .int i3, l4, l5, l6, l7] [w0] σ = ru d 15 77 [l0, l1, l2, .int i3, l4, l5, l6, l7] [.int i3, w0] σ := q_iload_n t15_76 rfl
theorem t15_77 : decode (mb 15) 77 = .ok (.invokestatic 83, 3) := by decide +kernel
theorem s15_77 (d : Nat) (l0 : Value) (l1 : Value) (l2 : Value) (l3 : Value) (l4 : Value) (l5 : Value) (l6 : Value) (l7 : Value) (x y : Int32) (σ : Hs) : ru d 15 77 [l0, l1, l2, l3, l4, l5, l6, l7] [.int y, .int x] σ = ru d 15 80 [l0, l1, l2, l3, l4, l5, l6, l7] [.int (jmin x y)] σ := q_mi t15_77 mo15 (by decide +kernel) (by decide +kernel) (by decide +kernel) (Nat.le_of_ble_eq_true rfl)
theorem t15_80 : decode (mb 15) 80 = .ok (.istore 7, 2) := by decide +kernel
theorem s15_80 (d : Nat) (l0 : Value) (l1 : Value) (l2 : Value) (l3 : Value) (l4 : Value) (l5 : Value) (i6 : Int32) (l7 : Value) (x : Int32) (σ : Hs) : ru d 15 80 [l0, l1, l2, l3, l4, l5, .int i6, l7] [.int x] σ = ru d 15 82 [l0, l1, l2, l3, l4, l5, .int i6, .int x] [] σ := q_istore t15_80 ⟨Nat.le_of_ble_eq_true rfl, rfl⟩ rfl
theorem t15_82 : decode (mb 15) 82 = .ok (.aload_n 0, 1) := by decide +kernel
theorem s15_82 (d : Nat) (a0 : Nat) (l1 : Value) (l2 : Value) (l3 : Value) (l4 : Value) (l5 : Value) (l6 : Value) (l7 : Value) (σ : Hs) : ru d 15 82 [.ref a0, l1, l2, l3, l4, l5, l6, l7] [] σ = ru d 15 83 [.ref a0, l1, l2, l3, l4, l5, l6, l7] [.ref a0] σ := q_aload_n t15_82 rfl
theorem t15_83 : decode (mb 15) 83 = .ok (.getfield 15, 3) := by decide +kernel
theorem s15_83_o2 (d : Nat) (l0 : Value) (l1 : Value) (l2 : Value) (l3 : Value) (l4 : Value) (l5 : Value) (l6 : Value) (l7 : Value) (σ : Hs) : ru d 15 83 [l0, l1, l2, l3, l4, l5, l6, l7] [.ref 2] σ = ru d 15 86 [l0, l1, l2, l3, l4, l5, l6, l7] [.ref 4] σ := q_getf t15_83 mo15 F0_15 rfl rfl
theorem s15_83_o59 (d : Nat) (l0 : Value) (l1 : Value) (l2 : Value) (l3 : Value) (l4 : Value) (l5 : Value) (l6 : Value) (l7 : Value) (σ : Hs) : ru d 15 83 [l0, l1, l2, l3, l4, l5, l6, l7] [.ref 59] σ = ru d 15 86 [l0, l1, l2, l3, l4, l5, l6, l7] [.ref 61] σ := q_getf t15_83 mo15 F0_15 rfl rfl
theorem t15_86 : decode (mb 15) 86 = .ok (.iload_n 1, 1) := by decide +kernel
theorem s15_86 (d : Nat) (l0 : Value) (i1 : Int32) (l2 : Value) (l3 : Value) (l4 : Value) (l5 : Value) (l6 : Value) (l7 : Value) (w0 : Value) (σ : Hs) : ru d 15 86 [l0, .int i1, l2, l3, l4, l5, l6, l7] [w0] σ = ru d 15 87 [l0, .int i1, l2, l3, l4, l5, l6, l7] [.int i1, w0] σ := q_iload_n t15_86 rfl
theorem t15_87 : decode (mb 15) 87 = .ok (.iload_n 3, 1) := by decide +kernel
theorem s15_87 (d : Nat) (l0 : Value) (l1 : Value) (l2 : Value) (i3 : Int32) (l4 : Value) (l5 : Value) (l6 : Value) (l7 : Value) (w0 w1 : Value) (σ : Hs) : ru d 15 87 [l0, l1, l2, .int i3, l4, l5, l6, l7] [w0, w1] σ = ru d 15 88 [l0, l1, l2, .int i3, l4, l5, l6, l7] [.int i3, w0, w1] σ := q_iload_n t15_87 rfl
theorem t15_88 : decode (mb 15) 88 = .ok (.iload 7, 2) := by decide +kernel
theorem s15_88 (d : Nat) (l0 : Value) (l1 : Value) (l2 : Value) (l3 : Value) (l4 : Value) (l5 : Value) (l6 : Value) (i7 : Int32) (w0 w1 w2 : Value) (σ : Hs) : ru d 15 88 [l0, l1, l2, l3, l4, l5, l6, .int i7] [w0, w1, w2] σ = ru d 15 90 [l0, l1, l2, l3, l4, l5, l6, .int i7] [.int i7, w0, w1, w2] σ := q_iload t15_88 rfl
theorem t15_90 : decode (mb 15) 90 = .ok (.isub, 1) := by decide +kernel
theorem s15_90 (d : Nat) (l0 : Value) (l1 : Value) (l2 : Value) (l3 : Value) (l4 : Value) (l5 : Value) (l6 : Value) (l7 : Value) (x y : Int32) (w0 w1 : Value) (σ : Hs) : ru d 15 90 [l0, l1, l2, l3, l4, l5, l6, l7] [.int y, .int x, w0, w1] σ = ru d 15 91 [l0, l1, l2, l3, l4, l5, l6, l7] [.int (x - y), w0, w1] σ := q_isub t15_90
theorem t15_91 : decode (mb 15) 91 = .ok (.iastore, 1) := by decide +kernel
theorem s15_91_o4 (d : Nat) (l0 : Value) (l1 : Value) (l2 : Value) (l3 : Value) (l4 : Value) (l5 : Value) (l6 : Value) (l7 : Value) (i x : Int32) (σ : Hs) : ru d 15 91 [l0, l1, l2, l3, l4, l5, l6, l7] [.int x, .int i, .ref 4] σ = gd (vp_in i 30) (ru d 15 92 [l0, l1, l2, l3, l4, l5, l6, l7] [] (up2 σ 4 i.toNatClampNeg x)) := q_iast t15_91 (by decide +kernel) rfl rfl
theorem s15_91_o61 (d : Nat) (l0 : Value) (l1 : Value) (l2 : Value) (l3 : Value) (l4 : Value) (l5 : Value) (l6 : Value) (l7 : Value) (i x : Int32) (σ : Hs) : ru d 15 91 [l0, l1, l2, l3, l4, l5, l6, l7] [.int x, .int i, .ref 61] σ = gd (vp_in i 30) (ru d 15 92 [l0, l1, l2, l3, l4, l5, l6, l7] [] (up2 σ 61 i.toNatClampNeg x)) := q_iast t15_91 (by decide +kernel) rfl rfl
theorem t15_92 : decode (mb 15) 92 = .ok (.aload_n 0, 1) := by decide +kernel
theorem s15_92 (d : Nat) (a0 : Nat) (l1 : Value) (l2 : Value) (l3 : Value) (l4 : Value) (l5 : Value) (l6 : Value) (l7 : Value) (σ : Hs) : ru d 15 92 [.ref a0, l1, l2, l3, l4, l5, l6, l7] [] σ = ru d 15 93 [.ref a0, l1, l2, l3, l4, l5, l6, l7] [.ref a0] σ := q_aload_n t15_92 rfl
theorem t15_93 : decode (mb 15) 93 = .ok (.getfield 24, 3) := by decide +kernel
theorem s15_93_o2 (d : Nat) (l0 : Value) (l1 : Value) (l2 : Value) (l3 : Value) (l4 : Value) (l5 : Value) (l6 : Value) (l7 : Value) (σ : Hs) : ru d 15 93 [l0, l1, l2, l3, l4, l5, l6, l7] [.ref 2] σ = ru d 15 96 [l0, l1, l2, l3, l4, l5, l6, l7] [.ref 7] σ := q_getf t15_93 mo15 F0_24 rfl rfl
theorem s15_93_o59 (d : Nat) (l0 : Value) (l1 : Value) (l2 : Value) (l3 : Value) (l4 : Value) (l5 : Value) (l6 : Value) (l7 : Value) (σ : Hs) : ru d 15 93 [l0, l1, l2, l3, l4, l5, l6, l7] [.ref 59] σ = ru d 15 96 [l0, l1, l2, l3, l4, l5, l6, l7] [.ref 64] σ := q_getf t15_93 mo15 F0_24 rfl rfl
theorem t15_96 : decode (mb 15) 96 = .ok (.iload_n 1, 1) := by decide +kernel
theorem s15_96 (d : Nat) (l0 : Value) (i1 : Int32) (l2 : Value) (l3 : Value) (l4 : Value) (l5 : Value) (l6 : Value) (l7 : Value) (w0 : Value) (σ : Hs) : ru d 15 96 [l0, .int i1, l2, l3, l4, l5, l6, l7] [w0] σ = ru d 15 97 [l0, .int i1, l2, l3, l4, l5, l6, l7] [.int i1, w0] σ := q_iload_n t15_96 rfl
theorem t15_97 : decode (mb 15) 97 = .ok (.aload_n 0, 1) := by decide +kernel
theorem s15_97 (d : Nat) (a0 : Nat) (l1 : Value) (l2 : Value) (l3 : Value) (l4 : Value) (l5 : Value) (l6 : Value) (l7 : Value) (w0 w1 : Value) (σ : Hs) : ru d 15 97 [.ref a0, l1, l2, l3, l4, l5, l6, l7] [w0, w1] σ = ru d 15 98 [.ref a0, l1, l2, l3, l4, l5, l6, l7] [.ref a0, w0, w1] σ := q_aload_n t15_97 rfl
theorem t15_98 : decode (mb 15) 98 = .ok (.getfield 24, 3) := by decide +kernel
theorem s15_98_o2 (d : Nat) (l0 : Value) (l1 : Value) (l2 : Value) (l3 : Value) (l4 : Value) (l5 : Value) (l6 : Value) (l7 : Value) (w0 w1 : Value) (σ : Hs) : ru d 15 98 [l0, l1, l2, l3, l4, l5, l6, l7] [.ref 2, w0, w1] σ = ru d 15 101 [l0, l1, l2, l3, l4, l5, l6, l7] [.ref 7, w0, w1] σ := q_getf t15_98 mo15 F0_24 rfl rfl
theorem s15_98_o59 (d : Nat) (l0 : Value) (l1 : Value) (l2 : Value) (l3 : Value) (l4 : Value) (l5 : Value) (l6 : Value) (l7 : Value) (w0 w1 : Value) (σ : Hs) : ru d 15 98 [l0, l1, l2, l3, l4, l5, l6, l7] [.ref 59, w0, w1] σ = ru d 15 101 [l0, l1, l2, l3, l4, l5, l6, l7] [.ref 64, w0, w1] σ := q_getf t15_98 mo15 F0_24 rfl rfl
theorem t15_101 : decode (mb 15) 101 = .ok (.iload_n 1, 1) := by decide +kernel
theorem s15_101 (d : Nat) (l0 : Value) (i1 : Int32) (l2 : Value) (l3 : Value) (l4 : Value) (l5 : Value) (l6 : Value) (l7 : Value) (w0 w1 w2 : Value) (σ : Hs) : ru d 15 101 [l0, .int i1, l2, l3, l4, l5, l6, l7] [w0, w1, w2] σ = ru d 15 102 [l0, .int i1, l2, l3, l4, l5, l6, l7] [.int i1, w0, w1, w2] σ := q_iload_n t15_101 rfl
theorem t15_102 : decode (mb 15) 102 = .ok (.iaload, 1) := by decide +kernel
theorem s15_102_o7 (d : Nat) (l0 : Value) (l1 : Value) (l2 : Value) (l3 : Value) (l4 : Value) (l5 : Value) (l6 : Value) (l7 : Value) (i : Int32) (w0 w1 : Value) (σ : Hs) : ru d 15 102 [l0, l1, l2, l3, l4, l5, l6, l7] [.int i, .ref 7, w0, w1] σ = gd (vp_in i 30) (ru d 15 103 [l0, l1, l2, l3, l4, l5, l6, l7] [.int (σ 7 i.toNatClampNeg), w0, w1] σ) := q_iald t15_102 rfl (by decide +kernel) rfl
theorem s15_102_o64 (d : Nat) (l0 : Value) (l1 : Value) (l2 : Value) (l3 : Value) (l4 : Value) (l5 : Value) (l6 : Value) (l7 : Value) (i : Int32) (w0 w1 : Value) (σ : Hs) : ru d 15 102 [l0, l1, l2, l3, l4, l5, l6, l7] [.int i, .ref 64, w0, w1] σ = gd (vp_in i 30) (ru d 15 103 [l0, l1, l2, l3, l4, l5, l6, l7] [.int (σ 64 i.toNatClampNeg), w0, w1] σ) := q_iald t15_102 rfl (by decide +kernel) rfl
theorem t15_103 : decode (mb 15) 103 = .ok (.iload 7, 2) := by decide +kernel
theorem s15_103 (d : Nat) (l0 : Value) (l1 : Value) (l2 : Value) (l3 : Value) (l4 : Value) (l5 : Value) (l6 : Value) (i7 : Int32) (w0 w1 w2 : Value) (σ : Hs) : ru d 15 103 [l0, l1, l2, l3, l4, l5, l6, .int i7] [w0, w1, w2] σ = ru d 15 105 [l0, l1, l2, l3, l4, l5, l6, .int i7] [.int i7, w0, w1, w2] σ := q_iload t15_103 rfl
theorem t15_105 : decode (mb 15) 105 = .ok (.getstatic 128, 3) := by decide +kernel
theorem s15_105 (d : Nat) (l0 : Value) (l1 : Value) (l2 : Value) (l3 : Value) (l4 : Value) (l5 : Value) (l6 : Value) (l7 : Value) (w0 w1 w2 w3 : Value) (σ : Hs) : ru d 15 105 [l0, l1, l2, l3, l4, l5, l6, l7] [w0, w1, w2, w3] σ = ru d 15 108 [l0, l1, l2, l3, l4, l5, l6, l7] [.ref 105, w0, w1, w2, w3] σ := q_gets t15_105 mo15 S0_128 rfl
theorem t15_108 : decode (mb 15) 108 = .ok (.aload_n 0, 1) := by decide +kernel
theorem s15_108 (d : Nat) (a0 : Nat) (l1 : Value) (l2 : Value) (l3 : Value) (l4 : Value) (l5 : Value) (l6 : Value) (l7 : Value) (w0 w1 w2 w3 w4 : Value) (σ : Hs) : ru d 15 108 [.ref a0, l1, l2, l3, l4, l5, l6, l7] [w0, w1, w2, w3, w4] σ = ru d 15 109 [.ref a0, l1, l2, l3, l4, l5, l6, l7] [.ref a0, w0, w1, w2, w3, w4] σ := q_aload_n t15_108 rfl
theorem t15_109 : decode (mb 15) 109 = .ok (.getfield 9, 3) := by decide +kernel
theorem s15_109_o2 (d : Nat) (l0 : Value) (l1 : Value) (l2 : Value) (l3 : Value) (l4 : Value) (l5 : Value) (l6 : Value) (l7 : Value) (w0 w1 w2 w3 w4 : Value) (σ : Hs) : ru d 15 109 [l0, l1, l2, l3, l4, l5, l6, l7] [.ref 2, w0, w1, w2, w3, w4] σ = ru d 15 112 [l0, l1, l2, l3, l4, l5, l6, l7] [.ref 3, w0, w1, w2, w3, w4] σ := q_getf t15_109 mo15 F0_9 rfl rfl
theorem s15_109_o59 (d : Nat) (l0 : Value) (l1 : Value) (l2 : Value) (l3 : Value) (l4 : Value) (l5 : Value) (l6 : Value) (l7 : Value) (w0 w1 w2 w3 w4 : Value) (σ : Hs) : ru d 15 109 [l0, l1, l2, l3, l4, l5, l6, l7] [.ref 59, w0, w1, w2, w3, w4] σ = ru d 15 112 [l0, l1, l2, l3, l4, l5, l6, l7] [.ref 60, w0, w1, w2, w3, w4] σ := q_getf t15_109 mo15 F0_9 rfl rfl
theorem t15_112 : decode (mb 15) 112 = .ok (.iload_n 1, 1) := by decide +kernel
theorem s15_112 (d : Nat) (l0 : Value) (i1 : Int32) (l2 : Value) (l3 : Value) (l4 : Value) (l5 : Value) (l6 : Value) (l7 : Value) (w0 w1 w2 w3 w4 w5 : Value) (σ : Hs) : ru d 15 112 [l0, .int i1, l2, l3, l4, l5, l6, l7] [w0, w1, w2, w3, w4, w5] σ = ru d 15 113 [l0, .int i1, l2, l3, l4, l5, l6, l7] [.int i1, w0, w1, w2, w3, w4, w5] σ := q_iload_n t15_112 rfl
theorem t15_113 : decode (mb 15) 113 = .ok (.iaload, 1) := by decide +kernel
theorem s15_113_o3 (d : Nat) (l0 : Value) (l1 : Value) (l2 : Value) (l3 : Value) (l4 : Value) (l5 : Value) (l6 : Value) (l7 : Value) (i : Int32) (w0 w1 w2 w3 w4 : Value) (σ : Hs) : ru d 15 113 [l0, l1, l2, l3, l4, l5, l6, l7] [.int i, .ref 3, w0, w1, w2, w3, w4] σ = gd (vp_in i 30) (ru d 15 114 [l0, l1, l2, l3, l4, l5, l6, l7] [.int (σ 3 i.toNatClampNeg), w0, w1, w2, w3, w4] σ) := q_iald t15_113 rfl (by decide +kernel) rfl
theorem s15_113_o60 (d : Nat) (l0 : Value) (l1 : Value) (l2 : Value) (l3 : Value) (l4 : Value) (l5 : Value) (l6 : Value) (l7 : Value) (i : Int32) (w0 w1 w2 w3 w4 : Value) (σ : Hs) : ru d 15 113 [l0, l1, l2, l3, l4, l5, l6, l7] [.int i, .ref 60, w0, w1, w2, w3, w4] σ = gd (vp_in i 30) (ru d 15 114 [l0, l1, l2, l3, l4, l5, l6, l7] [.int (σ 60 i.toNatClampNeg), w0, w1, w2, w3, w4] σ) := q_iald t15_113 rfl (by decide +kernel) rfl
theorem t15_114 : decode (mb 15) 114 = .ok (.iaload, 1) := by decide +kernel
theorem s15_114_o105 (d : Nat) (l0 : Value) (l1 : Value) (l2 : Value) (l3 : Value) (l4 : Value) (l5 : Value) (l6 : Value) (l7 : Value) (i : Int32) (w0 w1 w2 w3 : Value) (σ : Hs) : ru d 15 114 [l0, l1, l2, l3, l4, l5, l6, l7] [.int i, .ref 105, w0, w1, w2, w3] σ = gd (vp_in i 7) (ru d 15 115 [l0, l1, l2, l3, l4, l5, l6, l7] [.int (([4, 5, 8, 3, 5, 3, 3] : List Int32).getD i.toNatClampNeg 0), w0, w1, w2, w3] σ) := q_ials t15_114 rfl (by decide +kernel) rfl rfl
theorem t15_115 : decode (mb 15) 115 = .ok (.imul, 1) := by decide +kernel
theorem s15_115 (d : Nat) (l0 : Value) (l1 : Value) (l2 : Value) (l3 : Value) (l4 : Value) (l5 : Value) (l6 : Value) (l7 : Value) (x y : Int32) (w0 w1 w2 : Value) (σ : Hs) : ru d 15 115 [l0, l1, l2, l3, l4, l5, l6, l7] [.int y, .int x, w0, w1, w2] σ = ru d 15 116 [l0, l1, l2, l3, l4, l5, l6, l7] [.int (x * y), w0, w1, w2] σ := q_imul t15_115
theorem t15_116 : decode (mb 15) 116 = .ok (.iadd, 1) := by decide +kernel
theorem s15_116 (d : Nat) (l0 : Value) (l1 : Value) (l2 : Value) (l3 : Value) (l4 : Value) (l5 : Value) (l6 : Value) (l7 : Value) (x y : Int32) (w0 w1 : Value) (σ : Hs) : ru d 15 116 [l0, l1, l2, l3, l4, l5, l6, l7] [.int y, .int x, w0, w1] σ = ru d 15 117 [l0, l1, l2, l3, l4, l5, l6, l7] [.int (x + y), w0, w1] σ := q_iadd t15_116
theorem t15_117 : decode (mb 15) 117 = .ok (.sipush 9999, 3) := by decide +kernel
theorem s15_117 (d : Nat) (l0 : Value) (l1 : Value) (l2 : Value) (l3 : Value) (l4 : Value) (l5 : Value) (l6 : Value) (l7 : Value) (w0 w1 w2 : Value) (σ : Hs) : ru d 15 117 [l0, l1, l2, l3, l4, l5, l6, l7] [w0, w1, w2] σ = ru d 15 120 [l0, l1, l2, l3, l4, l5, l6, l7] [.int 9999, w0, w1, w2] σ := q_sipush t15_117 (by decide +kernel)
theorem t15_120 : decode (mb 15) 120 = .ok (.invokestatic 83, 3) := by decide +kernel
theorem s15_120 (d : Nat) (l0 : Value) (l1 : Value) (l2 : Value) (l3 : Value) (l4 : Value) (l5 : Value) (l6 : Value) (l7 : Value) (x y : Int32) (w0 : Int32) (w1 : Nat) (σ : Hs) : ru d 15 120 [l0, l1, l2, l3, l4, l5, l6, l7] [.int y, .int x, .int w0, .ref w1] σ = ru d 15 123 [l0, l1, l2, l3, l4, l5, l6, l7] [.int (jmin x y), .int w0, .ref w1] σ := q_mi t15_120 mo15 (by decide +kernel) (by decide +kernel) (by decide +kernel) (Nat.le_of_ble_eq_true rfl)
theorem t15_123 : decode (mb 15) 123 = .ok (.iastore, 1) := by decide +kernel
theorem s15_123_o7 (d : Nat) (l0 : Value) (l1 : Value) (l2 : Value) (l3 : Value) (l4 : Value) (l5 : Value) (l6 : Value) (l7 : Value) (i x : Int32) (σ : Hs) : ru d 15 123 [l0, l1, l2, l3, l4, l5, l6, l7] [.int x, .int i, .ref 7] σ = gd (vp_in i 30) (ru d 15 124 [l0, l1, l2, l3, l4, l5, l6, l7] [] (up2 σ 7 i.toNatClampNeg x)) := q_iast t15_123 (by decide +kernel) rfl rfl
theorem s15_123_o64 (d : Nat) (l0 : Value) (l1 : Value) (l2 : Value) (l3 : Value) (l4 : Value) (l5 : Value) (l6 : Value) (l7 : Value) (i x : Int32) (σ : Hs) : ru d 15 123 [l0, l1, l2, l3, l4, l5, l6, l7] [.int x, .int i, .ref 64] σ = gd (vp_in i 30) (ru d 15 124 [l0, l1, l2, l3, l4, l5, l6, l7] [] (up2 σ 64 i.toNatClampNeg x)) := q_iast t15_123 (by decide +kernel) rfl rfl
theorem t15_124 : decode (mb 15) 124 = .ok (.aload_n 0, 1) := by decide +kernel
theorem s15_124 (d : Nat) (a0 : Nat) (l1 : Value) (l2 : Value) (l3 : Value) (l4 : Value) (l5 : Value) (l6 : Value) (l7 : Value) (σ : Hs) : ru d 15 124 [.ref a0, l1, l2, l3, l4, l5, l6, l7] [] σ = ru d 15 125 [.ref a0, l1, l2, l3, l4, l5, l6, l7] [.ref a0] σ := q_aload_n t15_124 rfl
theorem t15_125 : decode (mb 15) 125 = .ok (.aload_n 0, 1) := by decide +kernel
theorem s15_125 (d : Nat) (a0 : Nat) (l1 : Value) (l2 : Value) (l3 : Value) (l4 : Value) (l5 : Value) (l6 : Value) (l7 : Value) (w0 : Value) (σ : Hs) : ru d 15 125 [.ref a0, l1, l2, l3, l4, l5, l6, l7] [w0] σ = ru d 15 126 [.ref a0, l1, l2, l3, l4, l5, l6, l7] [.ref a0, w0] σ := q_aload_n t15_125 rfl
theorem t15_126 : decode (mb 15) 126 = .ok (.getfield 47, 3) := by decide +kernel
theorem s15_126_o2 (d : Nat) (l0 : Value) (l1 : Value) (l2 : Value) (l3 : Value) (l4 : Value) (l5 : Value) (l6 : Value) (l7 : Value) (w0 : Value) (σ : Hs) : ru d 15 126 [l0, l1, l2, l3, l4, l5, l6, l7] [.ref 2, w0] σ = ru d 15 129 [l0, l1, l2, l3, l4, l5, l6, l7] [.int (σ 2 11), w0] σ := q_getf t15_126 mo15 F0_47 rfl rfl
theorem s15_126_o59 (d : Nat) (l0 : Value) (l1 : Value) (l2 : Value) (l3 : Value) (l4 : Value) (l5 : Value) (l6 : Value) (l7 : Value) (w0 : Value) (σ : Hs) : ru d 15 126 [l0, l1, l2, l3, l4, l5, l6, l7] [.ref 59, w0] σ = ru d 15 129 [l0, l1, l2, l3, l4, l5, l6, l7] [.int (σ 59 11), w0] σ := q_getf t15_126 mo15 F0_47 rfl rfl
theorem t15_129 : decode (mb 15) 129 = .ok (.iload 7, 2) := by decide +kernel
theorem s15_129 (d : Nat) (l0 : Value) (l1 : Value) (l2 : Value) (l3 : Value) (l4 : Value) (l5 : Value) (l6 : Value) (i7 : Int32) (w0 w1 : Value) (σ : Hs) : ru d 15 129 [l0, l1, l2, l3, l4, l5, l6, .int i7] [w0, w1] σ = ru d 15 131 [l0, l1, l2, l3, l4, l5, l6, .int i7] [.int i7, w0, w1] σ := q_iload t15_129 rfl
theorem t15_131 : decode (mb 15) 131 = .ok (.iadd, 1) := by decide +kernel
theorem s15_131 (d : Nat) (l0 : Value) (l1 : Value) (l2 : Value) (l3 : Value) (l4 : Value) (l5 : Value) (l6 : Value) (l7 : Value) (x y : Int32) (w0 : Value) (σ : Hs) : ru d 15 131 [l0, l1, l2, l3, l4, l5, l6, l7] [.int y, .int x, w0] σ = ru d 15 132 [l0, l1, l2, l3, l4, l5, l6, l7] [.int (x + y), w0] σ := q_iadd t15_131
theorem t15_132 : decode (mb 15) 132 = .ok (.ldc 98, 2) := by decide +kernel
theorem s15_132 (d : Nat) (l0 : Value) (l1 : Value) (l2 : Value) (l3 : Value) (l4 : Value) (l5 : Value) (l6 : Value) (l7 : Value) (w0 w1 : Value) (σ : Hs) : ru d 15 132 [l0, l1, l2, l3, l4, l5, l6, l7] [w0, w1] σ = ru d 15 134 [l0, l1, l2, l3, l4, l5, l6, l7] [.int 1999999999, w0, w1] σ := q_ldc t15_132 mo15 C0_98
theorem t15_134 : decode (mb 15) 134 = .ok (.invokestatic 83, 3) := by decide +kernel
theorem s15_134 (d : Nat) (l0 : Value) (l1 : Value) (l2 : Value) (l3 : Value) (l4 : Value) (l5 : Value) (l6 : Value) (l7 : Value) (x y : Int32) (w0 : Nat) (σ : Hs) : ru d 15 134 [l0, l1, l2, l3, l4, l5, l6, l7] [.int y, .int x, .ref w0] σ = ru d 15 137 [l0, l1, l2, l3, l4, l5, l6, l7] [.int (jmin x y), .ref w0] σ := q_mi t15_134 mo15 (by decide +kernel) (by decide +kernel) (by decide +kernel) (Nat.le_of_ble_eq_true rfl)
theorem t15_137 : decode (mb 15) 137 = .ok (.putfield 47, 3) := by decide +kernel
theorem s15_137_o2 (d : Nat) (l0 : Value) (l1 : Value) (l2 : Value) (l3 : Value) (l4 : Value) (l5 : Value) (l6 : Value) (l7 : Value) (x : Int32) (σ : Hs) : ru d 15 137 [l0, l1, l2, l3, l4, l5, l6, l7] [.int x, .ref 2] σ = ru d 15 140 [l0, l1, l2, l3, l4, l5, l6, l7] [] (up2 σ 2 11 x) := q_puti t15_137 mo15 F0_47 (by decide +kernel) rfl rfl
theorem s15_137_o59 (d : Nat) (l0 : Value) (l1 : Value) (l2 : Value) (l3 : Value) (l4 : Value) (l5 : Value) (l6 : Value) (l7 : Value) (x : Int32) (σ : Hs) : ru d 15 137 [l0, l1, l2, l3, l4, l5, l6, l7] [.int x, .ref 59] σ = ru d 15 140 [l0, l1, l2, l3, l4, l5, l6, l7] [] (up2 σ 59 11 x) := q_puti t15_137 mo15 F0_47 (by decide +kernel) rfl rfl
theorem t15_140 : decode (mb 15) 140 = .ok (.iload 7, 2) := by decide +kernel
theorem s15_140 (d : Nat) (l0 : Value) (l1 : Value) (l2 : Value) (l3 : Value) (l4 : Value) (l5 : Value) (l6 : Value) (i7 : Int32) (σ : Hs) : ru d 15 140 [l0, l1, l2, l3, l4, l5, l6, .int i7] [] σ = ru d 15 142 [l0, l1, l2, l3, l4, l5, l6, .int i7] [.int i7] σ := q_iload t15_140 rfl
theorem t15_142 : decode (mb 15) 142 = .ok (.aload_n 0, 1) := by decide +kernel
theorem s15_142 (d : Nat) (a0 : Nat) (l1 : Value) (l2 : Value) (l3 : Value) (l4 : Value) (l5 : Value) (l6 : Value) (l7 : Value) (w0 : Value) (σ : Hs) : ru d 15 142 [.ref a0, l1, l2, l3, l4, l5, l6, l7] [w0] σ = ru d 15 143 [.ref a0, l1, l2, l3, l4, l5, l6, l7] [.ref a0, w0] σ := q_aload_n t15_142 rfl
theorem t15_143 : decode (mb 15) 143 = .ok (.getfield 18, 3) := by decide +kernel
theorem s15_143_o2 (d : Nat) (l0 : Value) (l1 : Value) (l2 : Value) (l3 : Value) (l4 : Value) (l5 : Value) (l6 : Value) (l7 : Value) (w0 : Value) (σ : Hs) : ru d 15 143 [l0, l1, l2, l3, l4, l5, l6, l7] [.ref 2, w0] σ = ru d 15 146 [l0, l1, l2, l3, l4, l5, l6, l7] [.ref 5, w0] σ := q_getf t15_143 mo15 F0_18 rfl rfl
theorem s15_143_o59 (d : Nat) (l0 : Value) (l1 : Value) (l2 : Value) (l3 : Value) (l4 : Value) (l5 : Value) (l6 : Value) (l7 : Value) (w0 : Value) (σ : Hs) : ru d 15 143 [l0, l1, l2, l3, l4, l5, l6, l7] [.ref 59, w0] σ = ru d 15 146 [l0, l1, l2, l3, l4, l5, l6, l7] [.ref 62, w0] σ := q_getf t15_143 mo15 F0_18 rfl rfl
theorem t15_146 : decode (mb 15) 146 = .ok (.iload_n 1, 1) := by decide +kernel
theorem s15_146 (d : Nat) (l0 : Value) (i1 : Int32) (l2 : Value) (l3 : Value) (l4 : Value) (l5 : Value) (l6 : Value) (l7 : Value) (w0 w1 : Value) (σ : Hs) : ru d 15 146 [l0, .int i1, l2, l3, l4, l5, l6, l7] [w0, w1] σ = ru d 15 147 [l0, .int i1, l2, l3, l4, l5, l6, l7] [.int i1, w0, w1] σ := q_iload_n t15_146 rfl
theorem t15_147 : decode (mb 15) 147 = .ok (.iaload, 1) := by decide +kernel
theorem s15_147_o5 (d : Nat) (l0 : Value) (l1 : Value) (l2 : Value) (l3 : Value) (l4 : Value) (l5 : Value) (l6 : Value) (l7 : Value) (i : Int32) (w0 : Value) (σ : Hs) : ru d 15 147 [l0, l1, l2, l3, l4, l5, l6, l7] [.int i, .ref 5, w0] σ = gd (vp_in i 30) (ru d 15 148 [l0, l1, l2, l3, l4, l5, l6, l7] [.int (σ 5 i.toNatClampNeg), w0] σ) := q_iald t15_147 rfl (by decide +kernel) rfl
theorem s15_147_o62 (d : Nat) (l0 : Value) (l1 : Value) (l2 : Value) (l3 : Value) (l4 : Value) (l5 : Value) (l6 : Value) (l7 : Value) (i : Int32) (w0 : Value) (σ : Hs) : ru d 15 147 [l0, l1, l2, l3, l4, l5, l6, l7] [.int i, .ref 62, w0] σ = gd (vp_in i 30) (ru d 15 148 [l0, l1, l2, l3, l4, l5, l6, l7] [.int (σ 62 i.toNatClampNeg), w0] σ) := q_iald t15_147 rfl (by decide +kernel) rfl
theorem t15_148 : decode (mb 15) 148 = .ok (.bipush 10, 2) := by decide +kernel
theorem s15_148 (d : Nat) (l0 : Value) (l1 : Value) (l2 : Value) (l3 : Value) (l4 : Value) (l5 : Value) (l6 : Value) (l7 : Value) (w0 w1 : Value) (σ : Hs) : ru d 15 148 [l0, l1, l2, l3, l4, l5, l6, l7] [w0, w1] σ = ru d 15 150 [l0, l1, l2, l3, l4, l5, l6, l7] [.int 10, w0, w1] σ := q_bipush t15_148 (by decide +kernel)
theorem t15_150 : decode (mb 15) 150 = .ok (.iadd, 1) := by decide +kernel
theorem s15_150 (d : Nat) (l0 : Value) (l1 : Value) (l2 : Value) (l3 : Value) (l4 : Value) (l5 : Value) (l6 : Value) (l7 : Value) (x y : Int32) (w0 : Value) (σ : Hs) : ru d 15 150 [l0, l1, l2, l3, l4, l5, l6, l7] [.int y, .int x, w0] σ = ru d 15 151 [l0, l1, l2, l3, l4, l5, l6, l7] [.int (x + y), w0] σ := q_iadd t15_150
theorem t15_151 : decode (mb 15) 151 = .ok (.imul, 1) := by decide +kernel
theorem s15_151 (d : Nat) (l0 : Value) (l1 : Value) (l2 : Value) (l3 : Value) (l4 : Value) (l5 : Value) (l6 : Value) (l7 : Value) (x y : Int32) (σ : Hs) : ru d 15 151 [l0, l1, l2, l3, l4, l5, l6, l7] [.int y, .int x] σ = ru d 15 152 [l0, l1, l2, l3, l4, l5, l6, l7] [.int (x * y)] σ := q_imul t15_151
theorem t15_152 : decode (mb 15) 152 = .ok (.bipush 20, 2) := by decide +kernel
theorem s15_152 (d : Nat) (l0 : Value) (l1 : Value) (l2 : Value) (l3 : Value) (l4 : Value) (l5 : Value) (l6 : Value) (l7 : Value) (w0 : Value) (σ : Hs) : ru d 15 152 [l0, l1, l2, l3, l4, l5, l6, l7] [w0] σ = ru d 15 154 [l0, l1, l2, l3, l4, l5, l6, l7] [.int 20, w0] σ := q_bipush t15_152 (by decide +kernel)
theorem t15_154 : decode (mb 15) 154 = .ok (.idiv, 1) := by decide +kernel
theorem s15_154 (d : Nat) (l0 : Value) (l1 : Value) (l2 : Value) (l3 : Value) (l4 : Value) (l5 : Value) (l6 : Value) (l7 : Value) (x y : Int32) (σ : Hs) : ru d 15 154 [l0, l1, l2, l3, l4, l5, l6, l7] [.int y, .int x] σ = gd (¬ y = 0) (ru d 15 155 [l0, l1, l2, l3, l4, l5, l6, l7] [.int (x / y)] σ) := q_idiv t15_154
theorem t15_155 : decode (mb 15) 155 = .ok (.ireturn, 1) := by decide +kernel
theorem s15_155 (d : Nat) (l0 : Value) (l1 : Value) (l2 : Value) (l3 : Value) (l4 : Value) (l5 : Value) (l6 : Value) (l7 : Value) (x : Int32) (σ : Hs) : ru d 15 155 [l0, l1, l2, l3, l4, l5, l6, l7] [.int x] σ = some (some (.int x), σ) := q_ireti t15_155 mr15
theorem c15 (d : Nat) (x0 : Nat) (x1 : Int32) (x2 : Nat) (σ : Hs) : callD (d + 1) 15 [.ref x0, .int x1, .ref x2] σ = ru d 15 0 [.ref x0, .int x1, .ref x2, uu, uu, uu, uu, uu] [] σ := callD_ru ml15 rfl rfl (Nat.le_of_ble_eq_true rfl)
-- 16: Heap.burnsAsKind(II)I
theorem t16_0 : decode (mb 16) 0 = .ok (.iload_n 0, 1) := by decide +kernel
theorem s16_0 (d : Nat) (i0 : Int32) (l1 : Value) (σ : Hs) : ru d 16 0 [.int i0, l1] [] σ = ru d 16 1 [.int i0, l1] [.int i0] σ := q_iload_n t16_0 rfl
theorem t16_1 : decode (mb 16) 1 = .ok (.tableswitch 54 1 6 #[39, 54, 43, 48, 48, 52], 39) := by decide +kernel
theorem f16_1 (x : Int32) : (tsw 1 6 #[39, 54, 43, 48, 48, 52] 54 x.toInt).bind (tgt 1) = some (if x = 1 then 40 else (if x = 2 then 55 else (if x = 3 then 44 else (if x = 4 then 49 else (if x = 5 then 49 else (if x = 6 then 53 else 55)))))) := by
  by_cases h0 : x = 1
  · subst h0; decide +kernel
  by_cases h1 : x = 2
  · subst h1; decide +kernel
  by_cases h2 : x = 3
  · subst h2; decide +kernel
  by_cases h3 : x = 4
  · subst h3; decide +kernel
  by_cases h4 : x = 5
  · subst h4; decide +kernel
  by_cases h5 : x = 6
  · subst h5; decide +kernel
  have e0 : ¬ x.toInt = 1 := fun h => h0 (Int32.toInt_inj.mp (h.trans (by decide +kernel)))
  have e1 : ¬ x.toInt = 2 := fun h => h1 (Int32.toInt_inj.mp (h.trans (by decide +kernel)))
  have e2 : ¬ x.toInt = 3 := fun h => h2 (Int32.toInt_inj.mp (h.trans (by decide +kernel)))
  have e3 : ¬ x.toInt = 4 := fun h => h3 (Int32.toInt_inj.mp (h.trans (by decide +kernel)))
  have e4 : ¬ x.toInt = 5 := fun h => h4 (Int32.toInt_inj.mp (h.trans (by decide +kernel)))
  have e5 : ¬ x.toInt = 6 := fun h => h5 (Int32.toInt_inj.mp (h.trans (by decide +kernel)))
  have e : x.toInt < 1 ∨ 6 < x.toInt := by omega
  unfold tsw
  rw [if_pos e, if_neg h0, if_neg h1, if_neg h2, if_neg h3, if_neg h4, if_neg h5]
  decide +kernel
theorem s16_1 (d : Nat) (l0 : Value) (l1 : Value) (x : Int32) (σ : Hs) : ru d 16 1 [l0, l1] [.int x] σ = if x = 1 then ru d 16 40 [l0, l1] [] σ else if x = 2 then ru d 16 55 [l0, l1] [] σ else if x = 3 then ru d 16 44 [l0, l1] [] σ else if x = 4 then ru d 16 49 [l0, l1] [] σ else if x = 5 then ru d 16 49 [l0, l1] [] σ else if x = 6 then ru d 16 53 [l0, l1] [] σ else ru d 16 55 [l0, l1] [] σ := by
  refine (q_tsw t16_1 (fun x => (if x = 1 then 40 else (if x = 2 then 55 else (if x = 3 then 44 else (if x = 4 then 49 else (if x = 5 then 49 else (if x = 6 then 53 else 55))))))) (f16_1 x)).trans ?_
  by_cases h0 : x = 1
  · rw [if_pos h0, if_pos h0]
  rw [if_neg h0, if_neg h0]
  by_cases h1 : x = 2
  · rw [if_pos h1, if_pos h1]
  rw [if_neg h1, if_neg h1]
  by_cases h2 : x = 3
  · rw [if_pos h2, if_pos h2]
  rw [if_neg h2, if_neg h2]
  by_cases h3 : x = 4
  · rw [if_pos h3, if_pos h3]
  rw [if_neg h3, if_neg h3]
  by_cases h4 : x = 5
  · rw [if_pos h4, if_pos h4]
  rw [if_neg h4, if_neg h4]
  by_cases h5 : x = 6
  · rw [if_pos h5, if_pos h5]
  rw [if_neg h5, if_neg h5]
theorem t16_40 : decode (mb 16) 40 = .ok (.iconst 2, 1) := by decide +kernel
theorem s16_40 (d : Nat) (l0 : Value) (l1 : Value) (σ : Hs) : ru d 16 40 [l0, l1] [] σ = ru d 16 41 [l0, l1] [.int 2] σ := q_iconst t16_40 (by decide +kernel)
theorem t16_41 : decode (mb 16) 41 = .ok (.iload_n 1, 1) := by decide +kernel
theorem s16_41 (d : Nat) (l0 : Value) (i1 : Int32) (w0 : Value) (σ : Hs) : ru d 16 41 [l0, .int i1] [w0] σ = ru d 16 42 [l0, .int i1] [.int i1, w0] σ := q_iload_n t16_41 rfl
theorem t16_42 : decode (mb 16) 42 = .ok (.imul, 1) := by decide +kernel
theorem s16_42 (d : Nat) (l0 : Value) (l1 : Value) (x y : Int32) (σ : Hs) : ru d 16 42 [l0, l1] [.int y, .int x] σ = ru d 16 43 [l0, l1] [.int (x * y)] σ := q_imul t16_42
theorem t16_43 : decode (mb 16) 43 = .ok (.ireturn, 1) := by decide +kernel
theorem s16_43 (d : Nat) (l0 : Value) (l1 : Value) (x : Int32) (σ : Hs) : ru d 16 43 [l0, l1] [.int x] σ = some (some (.int x), σ) := q_ireti t16_43 mr16
theorem t16_44 : decode (mb 16) 44 = .ok (.bipush 6, 2) := by decide +kernel
theorem s16_44 (d : Nat) (l0 : Value) (l1 : Value) (σ : Hs) : ru d 16 44 [l0, l1] [] σ = ru d 16 46 [l0, l1] [.int 6] σ := q_bipush t16_44 (by decide +kernel)
theorem t16_46 : decode (mb 16) 46 = .ok (.iload_n 1, 1) := by decide +kernel
theorem s16_46 (d : Nat) (l0 : Value) (i1 : Int32) (w0 : Value) (σ : Hs) : ru d 16 46 [l0, .int i1] [w0] σ = ru d 16 47 [l0, .int i1] [.int i1, w0] σ := q_iload_n t16_46 rfl
theorem t16_47 : decode (mb 16) 47 = .ok (.imul, 1) := by decide +kernel
theorem s16_47 (d : Nat) (l0 : Value) (l1 : Value) (x y : Int32) (σ : Hs) : ru d 16 47 [l0, l1] [.int y, .int x] σ = ru d 16 48 [l0, l1] [.int (x * y)] σ := q_imul t16_47
theorem t16_48 : decode (mb 16) 48 = .ok (.ireturn, 1) := by decide +kernel
theorem s16_48 (d : Nat) (l0 : Value) (l1 : Value) (x : Int32) (σ : Hs) : ru d 16 48 [l0, l1] [.int x] σ = some (some (.int x), σ) := q_ireti t16_48 mr16
theorem t16_49 : decode (mb 16) 49 = .ok (.iload_n 1, 1) := by decide +kernel
theorem s16_49 (d : Nat) (l0 : Value) (i1 : Int32) (σ : Hs) : ru d 16 49 [l0, .int i1] [] σ = ru d 16 50 [l0, .int i1] [.int i1] σ := q_iload_n t16_49 rfl
theorem t16_50 : decode (mb 16) 50 = .ok (.iconst 2, 1) := by decide +kernel
theorem s16_50 (d : Nat) (l0 : Value) (l1 : Value) (w0 : Value) (σ : Hs) : ru d 16 50 [l0, l1] [w0] σ = ru d 16 51 [l0, l1] [.int 2, w0] σ := q_iconst t16_50 (by decide +kernel)
theorem t16_51 : decode (mb 16) 51 = .ok (.idiv, 1) := by decide +kernel
theorem s16_51 (d : Nat) (l0 : Value) (l1 : Value) (x y : Int32) (σ : Hs) : ru d 16 51 [l0, l1] [.int y, .int x] σ = gd (¬ y = 0) (ru d 16 52 [l0, l1] [.int (x / y)] σ) := q_idiv t16_51
theorem t16_52 : decode (mb 16) 52 = .ok (.ireturn, 1) := by decide +kernel
theorem s16_52 (d : Nat) (l0 : Value) (l1 : Value) (x : Int32) (σ : Hs) : ru d 16 52 [l0, l1] [.int x] σ = some (some (.int x), σ) := q_ireti t16_52 mr16
theorem t16_53 : decode (mb 16) 53 = .ok (.iconst 0, 1) := by decide +kernel
theorem s16_53 (d : Nat) (l0 : Value) (l1 : Value) (σ : Hs) : ru d 16 53 [l0, l1] [] σ = ru d 16 54 [l0, l1] [.int 0] σ := q_iconst t16_53 (by decide +kernel)
theorem t16_54 : decode (mb 16) 54 = .ok (.ireturn, 1) := by decide +kernel
theorem s16_54 (d : Nat) (l0 : Value) (l1 : Value) (x : Int32) (σ : Hs) : ru d 16 54 [l0, l1] [.int x] σ = some (some (.int x), σ) := q_ireti t16_54 mr16
theorem t16_55 : decode (mb 16) 55 = .ok (.iload_n 1, 1) := by decide +kernel
theorem s16_55 (d : Nat) (l0 : Value) (i1 : Int32) (σ : Hs) : ru d 16 55 [l0, .int i1] [] σ = ru d 16 56 [l0, .int i1] [.int i1] σ := q_iload_n t16_55 rfl
theorem t16_56 : decode (mb 16) 56 = .ok (.ireturn, 1) := by decide +kernel
theorem s16_56 (d : Nat) (l0 : Value) (l1 : Value) (x : Int32) (σ : Hs) : ru d 16 56 [l0, l1] [.int x] σ = some (some (.int x), σ) := q_ireti t16_56 mr16
theorem c16 (d : Nat) (x0 : Int32) (x1 : Int32) (σ : Hs) : callD (d + 1) 16 [.int x0, .int x1] σ = ru d 16 0 [.int x0, .int x1] [] σ := callD_ru ml16 rfl rfl (Nat.le_of_ble_eq_true rfl)
-- 17: Heap.warmNeighbours(I)V
theorem t17_0 : decode (mb 17) 0 = .ok (.iload_n 1, 1) := by decide +kernel
theorem s17_0 (d : Nat) (l0 : Value) (i1 : Int32) (l2 : Value) (σ : Hs) : ru d 17 0 [l0, .int i1, l2] [] σ = ru d 17 1 [l0, .int i1, l2] [.int i1] σ := q_iload_n t17_0 rfl
theorem t17_1 : decode (mb 17) 1 = .ok (.bipush 6, 2) := by decide +kernel
theorem s17_1 (d : Nat) (l0 : Value) (l1 : Value) (l2 : Value) (w0 : Value) (σ : Hs) : ru d 17 1 [l0, l1, l2] [w0] σ = ru d 17 3 [l0, l1, l2] [.int 6, w0] σ := q_bipush t17_1 (by decide +kernel)
theorem t17_3 : decode (mb 17) 3 = .ok (.irem, 1) := by decide +kernel
theorem s17_3 (d : Nat) (l0 : Value) (l1 : Value) (l2 : Value) (x y : Int32) (σ : Hs) : ru d 17 3 [l0, l1, l2] [.int y, .int x] σ = gd (¬ y = 0) (ru d 17 4 [l0, l1, l2] [.int (x - x / y * y)] σ) := q_irem t17_3
theorem t17_4 : decode (mb 17) 4 = .ok (.istore_n 2, 1) := by decide +kernel
theorem s17_4 (d : Nat) (l0 : Value) (i1 : Int32) (l2 : Value) (x : Int32) (σ : Hs) : ru d 17 4 [l0, .int i1, l2] [.int x] σ = ru d 17 5 [l0, .int i1, .int x] [] σ := q_istore_n t17_4 ⟨Nat.le_of_ble_eq_true rfl, rfl⟩ rfl
theorem t17_5 : decode (mb 17) 5 = .ok (.iload_n 2, 1) := by decide +kernel
theorem s17_5 (d : Nat) (l0 : Value) (l1 : Value) (i2 : Int32) (σ : Hs) : ru d 17 5 [l0, l1, .int i2] [] σ = ru d 17 6 [l0, l1, .int i2] [.int i2] σ := q_iload_n t17_5 rfl
theorem t17_6 : decode (mb 17) 6 = .ok (.ifCond .le 11, 3) := by decide +kernel
theorem s17_6 (d : Nat) (l0 : Value) (l1 : Value) (l2 : Value) (x : Int32) (σ : Hs) : ru d 17 6 [l0, l1, l2] [.int x] σ = if x ≤ 0 then ru d 17 17 [l0, l1, l2] [] σ else ru d 17 9 [l0, l1, l2] [] σ := q_if_le t17_6 (by decide +kernel)
theorem t17_9 : decode (mb 17) 9 = .ok (.aload_n 0, 1) := by decide +kernel
theorem s17_9 (d : Nat) (a0 : Nat) (l1 : Value) (l2 : Value) (σ : Hs) : ru d 17 9 [.ref a0, l1, l2] [] σ = ru d 17 10 [.ref a0, l1, l2] [.ref a0] σ := q_aload_n t17_9 rfl
theorem t17_10 : decode (mb 17) 10 = .ok (.iload_n 1, 1) := by decide +kernel
theorem s17_10 (d : Nat) (l0 : Value) (i1 : Int32) (l2 : Value) (w0 : Value) (σ : Hs) : ru d 17 10 [l0, .int i1, l2] [w0] σ = ru d 17 11 [l0, .int i1, l2] [.int i1, w0] σ := q_iload_n t17_10 rfl
theorem t17_11 : decode (mb 17) 11 = .ok (.iload_n 1, 1) := by decide +kernel
theorem s17_11 (d : Nat) (l0 : Value) (i1 : Int32) (l2 : Value) (w0 w1 : Value) (σ : Hs) : ru d 17 11 [l0, .int i1, l2] [w0, w1] σ = ru d 17 12 [l0, .int i1, l2] [.int i1, w0, w1] σ := q_iload_n t17_11 rfl
theorem t17_12 : decode (mb 17) 12 = .ok (.iconst 1, 1) := by decide +kernel
theorem s17_12 (d : Nat) (l0 : Value) (l1 : Value) (l2 : Value) (w0 w1 w2 : Value) (σ : Hs) : ru d 17 12 [l0, l1, l2] [w0, w1, w2] σ = ru d 17 13 [l0, l1, l2] [.int 1, w0, w1, w2] σ := q_iconst t17_12 (by decide +kernel)
theorem t17_13 : decode (mb 17) 13 = .ok (.isub, 1) := by decide +kernel
theorem s17_13 (d : Nat) (l0 : Value) (l1 : Value) (l2 : Value) (x y : Int32) (w0 w1 : Value) (σ : Hs) : ru d 17 13 [l0, l1, l2] [.int y, .int x, w0, w1] σ = ru d 17 14 [l0, l1, l2] [.int (x - y), w0, w1] σ := q_isub t17_13
theorem t17_14 : decode (mb 17) 14 = .ok (.invokevirtual 131, 3) := by decide +kernel
theorem s17_14_o2 (d : Nat) (l0 : Value) (l1 : Value) (l2 : Value) (v1 v2 : Value) (σ : Hs) : ru d 17 14 [l0, l1, l2] [v2, v1, .ref 2] σ = kont (callD d 18 [.ref 2, v1, v2] σ) d 17 17 [l0, l1, l2] [] := q_invv t17_14 mo17 K0_131 mj18 rfl rfl rfl rfl (Nat.le_of_ble_eq_true rfl)
theorem s17_14_o59 (d : Nat) (l0 : Value) (l1 : Value) (l2 : Value) (v1 v2 : Value) (σ : Hs) : ru d 17 14 [l0, l1, l2] [v2, v1, .ref 59] σ = kont (callD d 18 [.ref 59, v1, v2] σ) d 17 17 [l0, l1, l2] [] := q_invv t17_14 mo17 K0_131 mj18 rfl rfl rfl rfl (Nat.le_of_ble_eq_true rfl)
theorem t17_17 : decode (mb 17) 17 = .ok (.iload_n 2, 1) := by decide +kernel
theorem s17_17 (d : Nat) (l0 : Value) (l1 : Value) (i2 : Int32) (σ : Hs) : ru d 17 17 [l0, l1, .int i2] [] σ = ru d 17 18 [l0, l1, .int i2] [.int i2] σ := q_iload_n t17_17 rfl
theorem t17_18 : decode (mb 17) 18 = .ok (.iconst 5, 1) := by decide +kernel
theorem s17_18 (d : Nat) (l0 : Value) (l1 : Value) (l2 : Value) (w0 : Value) (σ : Hs) : ru d 17 18 [l0, l1, l2] [w0] σ = ru d 17 19 [l0, l1, l2] [.int 5, w0] σ := q_iconst t17_18 (by decide +kernel)
theorem t17_19 : decode (mb 17) 19 = .ok (.if_icmp .ge 11, 3) := by decide +kernel
theorem s17_19 (d : Nat) (l0 : Value) (l1 : Value) (l2 : Value) (x y : Int32) (σ : Hs) : ru d 17 19 [l0, l1, l2] [.int y, .int x] σ = if y ≤ x then ru d 17 30 [l0, l1, l2] [] σ else ru d 17 22 [l0, l1, l2] [] σ := q_ic_ge t17_19 (by decide +kernel)
theorem t17_22 : decode (mb 17) 22 = .ok (.aload_n 0, 1) := by decide +kernel
theorem s17_22 (d : Nat) (a0 : Nat) (l1 : Value) (l2 : Value) (σ : Hs) : ru d 17 22 [.ref a0, l1, l2] [] σ = ru d 17 23 [.ref a0, l1, l2] [.ref a0] σ := q_aload_n t17_22 rfl
theorem t17_23 : decode (mb 17) 23 = .ok (.iload_n 1, 1) := by decide +kernel
theorem s17_23 (d : Nat) (l0 : Value) (i1 : Int32) (l2 : Value) (w0 : Value) (σ : Hs) : ru d 17 23 [l0, .int i1, l2] [w0] σ = ru d 17 24 [l0, .int i1, l2] [.int i1, w0] σ := q_iload_n t17_23 rfl
theorem t17_24 : decode (mb 17) 24 = .ok (.iload_n 1, 1) := by decide +kernel
theorem s17_24 (d : Nat) (l0 : Value) (i1 : Int32) (l2 : Value) (w0 w1 : Value) (σ : Hs) : ru d 17 24 [l0, .int i1, l2] [w0, w1] σ = ru d 17 25 [l0, .int i1, l2] [.int i1, w0, w1] σ := q_iload_n t17_24 rfl
theorem t17_25 : decode (mb 17) 25 = .ok (.iconst 1, 1) := by decide +kernel
theorem s17_25 (d : Nat) (l0 : Value) (l1 : Value) (l2 : Value) (w0 w1 w2 : Value) (σ : Hs) : ru d 17 25 [l0, l1, l2] [w0, w1, w2] σ = ru d 17 26 [l0, l1, l2] [.int 1, w0, w1, w2] σ := q_iconst t17_25 (by decide +kernel)
theorem t17_26 : decode (mb 17) 26 = .ok (.iadd, 1) := by decide +kernel
theorem s17_26 (d : Nat) (l0 : Value) (l1 : Value) (l2 : Value) (x y : Int32) (w0 w1 : Value) (σ : Hs) : ru d 17 26 [l0, l1, l2] [.int y, .int x, w0, w1] σ = ru d 17 27 [l0, l1, l2] [.int (x + y), w0, w1] σ := q_iadd t17_26
theorem t17_27 : decode (mb 17) 27 = .ok (.invokevirtual 131, 3) := by decide +kernel
theorem s17_27_o2 (d : Nat) (l0 : Value) (l1 : Value) (l2 : Value) (v1 v2 : Value) (σ : Hs) : ru d 17 27 [l0, l1, l2] [v2, v1, .ref 2] σ = kont (callD d 18 [.ref 2, v1, v2] σ) d 17 30 [l0, l1, l2] [] := q_invv t17_27 mo17 K0_131 mj18 rfl rfl rfl rfl (Nat.le_of_ble_eq_true rfl)
theorem s17_27_o59 (d : Nat) (l0 : Value) (l1 : Value) (l2 : Value) (v1 v2 : Value) (σ : Hs) : ru d 17 27 [l0, l1, l2] [v2, v1, .ref 59] σ = kont (callD d 18 [.ref 59, v1, v2] σ) d 17 30 [l0, l1, l2] [] := q_invv t17_27 mo17 K0_131 mj18 rfl rfl rfl rfl (Nat.le_of_ble_eq_true rfl)
theorem t17_30 : decode (mb 17) 30 = .ok (.iload_n 1, 1) := by decide +kernel
theorem s17_30 (d : Nat) (l0 : Value) (i1 : Int32) (l2 : Value) (σ : Hs) : ru d 17 30 [l0, .int i1, l2] [] σ = ru d 17 31 [l0, .int i1, l2] [.int i1] σ := q_iload_n t17_30 rfl
theorem t17_31 : decode (mb 17) 31 = .ok (.bipush 6, 2) := by decide +kernel
theorem s17_31 (d : Nat) (l0 : Value) (l1 : Value) (l2 : Value) (w0 : Value) (σ : Hs) : ru d 17 31 [l0, l1, l2] [w0] σ = ru d 17 33 [l0, l1, l2] [.int 6, w0] σ := q_bipush t17_31 (by decide +kernel)
theorem t17_33 : decode (mb 17) 33 = .ok (.iadd, 1) := by decide +kernel
theorem s17_33 (d : Nat) (l0 : Value) (l1 : Value) (l2 : Value) (x y : Int32) (σ : Hs) : ru d 17 33 [l0, l1, l2] [.int y, .int x] σ = ru d 17 34 [l0, l1, l2] [.int (x + y)] σ := q_iadd t17_33
theorem t17_34 : decode (mb 17) 34 = .ok (.bipush 30, 2) := by decide +kernel
theorem s17_34 (d : Nat) (l0 : Value) (l1 : Value) (l2 : Value) (w0 : Value) (σ : Hs) : ru d 17 34 [l0, l1, l2] [w0] σ = ru d 17 36 [l0, l1, l2] [.int 30, w0] σ := q_bipush t17_34 (by decide +kernel)
theorem t17_36 : decode (mb 17) 36 = .ok (.if_icmp .ge 12, 3) := by decide +kernel
theorem s17_36 (d : Nat) (l0 : Value) (l1 : Value) (l2 : Value) (x y : Int32) (σ : Hs) : ru d 17 36 [l0, l1, l2] [.int y, .int x] σ = if y ≤ x then ru d 17 48 [l0, l1, l2] [] σ else ru d 17 39 [l0, l1, l2] [] σ := q_ic_ge t17_36 (by decide +kernel)
theorem t17_39 : decode (mb 17) 39 = .ok (.aload_n 0, 1) := by decide +kernel
theorem s17_39 (d : Nat) (a0 : Nat) (l1 : Value) (l2 : Value) (σ : Hs) : ru d 17 39 [.ref a0, l1, l2] [] σ = ru d 17 40 [.ref a0, l1, l2] [.ref a0] σ := q_aload_n t17_39 rfl
theorem t17_40 : decode (mb 17) 40 = .ok (.iload_n 1, 1) := by decide +kernel
theorem s17_40 (d : Nat) (l0 : Value) (i1 : Int32) (l2 : Value) (w0 : Value) (σ : Hs) : ru d 17 40 [l0, .int i1, l2] [w0] σ = ru d 17 41 [l0, .int i1, l2] [.int i1, w0] σ := q_iload_n t17_40 rfl
theorem t17_41 : decode (mb 17) 41 = .ok (.iload_n 1, 1) := by decide +kernel
theorem s17_41 (d : Nat) (l0 : Value) (i1 : Int32) (l2 : Value) (w0 w1 : Value) (σ : Hs) : ru d 17 41 [l0, .int i1, l2] [w0, w1] σ = ru d 17 42 [l0, .int i1, l2] [.int i1, w0, w1] σ := q_iload_n t17_41 rfl
theorem t17_42 : decode (mb 17) 42 = .ok (.bipush 6, 2) := by decide +kernel
theorem s17_42 (d : Nat) (l0 : Value) (l1 : Value) (l2 : Value) (w0 w1 w2 : Value) (σ : Hs) : ru d 17 42 [l0, l1, l2] [w0, w1, w2] σ = ru d 17 44 [l0, l1, l2] [.int 6, w0, w1, w2] σ := q_bipush t17_42 (by decide +kernel)
theorem t17_44 : decode (mb 17) 44 = .ok (.iadd, 1) := by decide +kernel
theorem s17_44 (d : Nat) (l0 : Value) (l1 : Value) (l2 : Value) (x y : Int32) (w0 w1 : Value) (σ : Hs) : ru d 17 44 [l0, l1, l2] [.int y, .int x, w0, w1] σ = ru d 17 45 [l0, l1, l2] [.int (x + y), w0, w1] σ := q_iadd t17_44
theorem t17_45 : decode (mb 17) 45 = .ok (.invokevirtual 131, 3) := by decide +kernel
theorem s17_45_o2 (d : Nat) (l0 : Value) (l1 : Value) (l2 : Value) (v1 v2 : Value) (σ : Hs) : ru d 17 45 [l0, l1, l2] [v2, v1, .ref 2] σ = kont (callD d 18 [.ref 2, v1, v2] σ) d 17 48 [l0, l1, l2] [] := q_invv t17_45 mo17 K0_131 mj18 rfl rfl rfl rfl (Nat.le_of_ble_eq_true rfl)
theorem s17_45_o59 (d : Nat) (l0 : Value) (l1 : Value) (l2 : Value) (v1 v2 : Value) (σ : Hs) : ru d 17 45 [l0, l1, l2] [v2, v1, .ref 59] σ = kont (callD d 18 [.ref 59, v1, v2] σ) d 17 48 [l0, l1, l2] [] := q_invv t17_45 mo17 K0_131 mj18 rfl rfl rfl rfl (Nat.le_of_ble_eq_true rfl)
theorem t17_48 : decode (mb 17) 48 = .ok (.iload_n 1, 1) := by decide +kernel
theorem s17_48 (d : Nat) (l0 : Value) (i1 : Int32) (l2 : Value) (σ : Hs) : ru d 17 48 [l0, .int i1, l2] [] σ = ru d 17 49 [l0, .int i1, l2] [.int i1] σ := q_iload_n t17_48 rfl
theorem t17_49 : decode (mb 17) 49 = .ok (.bipush 6, 2) := by decide +kernel
theorem s17_49 (d : Nat) (l0 : Value) (l1 : Value) (l2 : Value) (w0 : Value) (σ : Hs) : ru d 17 49 [l0, l1, l2] [w0] σ = ru d 17 51 [l0, l1, l2] [.int 6, w0] σ := q_bipush t17_49 (by decide +kernel)
theorem t17_51 : decode (mb 17) 51 = .ok (.if_icmp .lt 12, 3) := by decide +kernel
theorem s17_51 (d : Nat) (l0 : Value) (l1 : Value) (l2 : Value) (x y : Int32) (σ : Hs) : ru d 17 51 [l0, l1, l2] [.int y, .int x] σ = if x < y then ru d 17 63 [l0, l1, l2] [] σ else ru d 17 54 [l0, l1, l2] [] σ := q_ic_lt t17_51 (by decide +kernel)
theorem t17_54 : decode (mb 17) 54 = .ok (.aload_n 0, 1) := by decide +kernel
theorem s17_54 (d : Nat) (a0 : Nat) (l1 : Value) (l2 : Value) (σ : Hs) : ru d 17 54 [.ref a0, l1, l2] [] σ = ru d 17 55 [.ref a0, l1, l2] [.ref a0] σ := q_aload_n t17_54 rfl
theorem t17_55 : decode (mb 17) 55 = .ok (.iload_n 1, 1) := by decide +kernel
theorem s17_55 (d : Nat) (l0 : Value) (i1 : Int32) (l2 : Value) (w0 : Value) (σ : Hs) : ru d 17 55 [l0, .int i1, l2] [w0] σ = ru d 17 56 [l0, .int i1, l2] [.int i1, w0] σ := q_iload_n t17_55 rfl
theorem t17_56 : decode (mb 17) 56 = .ok (.iload_n 1, 1) := by decide +kernel
theorem s17_56 (d : Nat) (l0 : Value) (i1 : Int32) (l2 : Value) (w0 w1 : Value) (σ : Hs) : ru d 17 56 [l0, .int i1, l2] [w0, w1] σ = ru d 17 57 [l0, .int i1, l2] [.int i1, w0, w1] σ := q_iload_n t17_56 rfl
theorem t17_57 : decode (mb 17) 57 = .ok (.bipush 6, 2) := by decide +kernel
theorem s17_57 (d : Nat) (l0 : Value) (l1 : Value) (l2 : Value) (w0 w1 w2 : Value) (σ : Hs) : ru d 17 57 [l0, l1, l2] [w0, w1, w2] σ = ru d 17 59 [l0, l1, l2] [.int 6, w0, w1, w2] σ := q_bipush t17_57 (by decide +kernel)
theorem t17_59 : decode (mb 17) 59 = .ok (.isub, 1) := by decide +kernel
theorem s17_59 (d : Nat) (l0 : Value) (l1 : Value) (l2 : Value) (x y : Int32) (w0 w1 : Value) (σ : Hs) : ru d 17 59 [l0, l1, l2] [.int y, .int x, w0, w1] σ = ru d 17 60 [l0, l1, l2] [.int (x - y), w0, w1] σ := q_isub t17_59
theorem t17_60 : decode (mb 17) 60 = .ok (.invokevirtual 131, 3) := by decide +kernel
theorem s17_60_o2 (d : Nat) (l0 : Value) (l1 : Value) (l2 : Value) (v1 v2 : Value) (σ : Hs) : ru d 17 60 [l0, l1, l2] [v2, v1, .ref 2] σ = kont (callD d 18 [.ref 2, v1, v2] σ) d 17 63 [l0, l1, l2] [] := q_invv t17_60 mo17 K0_131 mj18 rfl rfl rfl rfl (Nat.le_of_ble_eq_true rfl)
theorem s17_60_o59 (d : Nat) (l0 : Value) (l1 : Value) (l2 : Value) (v1 v2 : Value) (σ : Hs) : ru d 17 60 [l0, l1, l2] [v2, v1, .ref 59] σ = kont (callD d 18 [.ref 59, v1, v2] σ) d 17 63 [l0, l1, l2] [] := q_invv t17_60 mo17 K0_131 mj18 rfl rfl rfl rfl (Nat.le_of_ble_eq_true rfl)
theorem t17_63 : decode (mb 17) 63 = .ok (.return_, 1) := by decide +kernel
theorem s17_63 (d : Nat) (l0 : Value) (l1 : Value) (l2 : Value) (σ : Hs) : ru d 17 63 [l0, l1, l2] [] σ = some (none, σ) := q_vret t17_63 mr17
theorem c17 (d : Nat) (x0 : Nat) (x1 : Int32) (σ : Hs) : callD (d + 1) 17 [.ref x0, .int x1] σ = ru d 17 0 [.ref x0, .int x1, uu] [] σ := callD_ru ml17 rfl rfl (Nat.le_of_ble_eq_true rfl)
-- 18: Heap.giveWarm(II)V
theorem t18_0 : decode (mb 18) 0 = .ok (.aload_n 0, 1) := by decide +kernel
theorem s18_0 (d : Nat) (a0 : Nat) (l1 : Value) (l2 : Value) (l3 : Value) (σ : Hs) : ru d 18 0 [.ref a0, l1, l2, l3] [] σ = ru d 18 1 [.ref a0, l1, l2, l3] [.ref a0] σ := q_aload_n t18_0 rfl
theorem t18_1 : decode (mb 18) 1 = .ok (.getfield 15, 3) := by decide +kernel
theorem s18_1_o2 (d : Nat) (l0 : Value) (l1 : Value) (l2 : Value) (l3 : Value) (σ : Hs) : ru d 18 1 [l0, l1, l2, l3] [.ref 2] σ = ru d 18 4 [l0, l1, l2, l3] [.ref 4] σ := q_getf t18_1 mo18 F0_15 rfl rfl
theorem s18_1_o59 (d : Nat) (l0 : Value) (l1 : Value) (l2 : Value) (l3 : Value) (σ : Hs) : ru d 18 1 [l0, l1, l2, l3] [.ref 59] σ = ru d 18 4 [l0, l1, l2, l3] [.ref 61] σ := q_getf t18_1 mo18 F0_15 rfl rfl
theorem t18_4 : decode (mb 18) 4 = .ok (.iload_n 2, 1) := by decide +kernel
theorem s18_4 (d : Nat) (l0 : Value) (l1 : Value) (i2 : Int32) (l3 : Value) (w0 : Value) (σ : Hs) : ru d 18 4 [l0, l1, .int i2, l3] [w0] σ = ru d 18 5 [l0, l1, .int i2, l3] [.int i2, w0] σ := q_iload_n t18_4 rfl
theorem t18_5 : decode (mb 18) 5 = .ok (.iaload, 1) := by decide +kernel
theorem s18_5_o4 (d : Nat) (l0 : Value) (l1 : Value) (l2 : Value) (l3 : Value) (i : Int32) (σ : Hs) : ru d 18 5 [l0, l1, l2, l3] [.int i, .ref 4] σ = gd (vp_in i 30) (ru d 18 6 [l0, l1, l2, l3] [.int (σ 4 i.toNatClampNeg)] σ) := q_iald t18_5 rfl (by decide +kernel) rfl
theorem s18_5_o61 (d : Nat) (l0 : Value) (l1 : Value) (l2 : Value) (l3 : Value) (i : Int32) (σ : Hs) : ru d 18 5 [l0, l1, l2, l3] [.int i, .ref 61] σ = gd (vp_in i 30) (ru d 18 6 [l0, l1, l2, l3] [.int (σ 61 i.toNatClampNeg)] σ) := q_iald t18_5 rfl (by decide +kernel) rfl
theorem t18_6 : decode (mb 18) 6 = .ok (.ifCond .le 43, 3) := by decide +kernel
theorem s18_6 (d : Nat) (l0 : Value) (l1 : Value) (l2 : Value) (l3 : Value) (x : Int32) (σ : Hs) : ru d 18 6 [l0, l1, l2, l3] [.int x] σ = if x ≤ 0 then ru d 18 49 [l0, l1, l2, l3] [] σ else ru d 18 9 [l0, l1, l2, l3] [] σ := q_if_le t18_6 (by decide +kernel)
theorem t18_9 : decode (mb 18) 9 = .ok (.aload_n 0, 1) := by decide +kernel
theorem s18_9 (d : Nat) (a0 : Nat) (l1 : Value) (l2 : Value) (l3 : Value) (σ : Hs) : ru d 18 9 [.ref a0, l1, l2, l3] [] σ = ru d 18 10 [.ref a0, l1, l2, l3] [.ref a0] σ := q_aload_n t18_9 rfl
theorem t18_10 : decode (mb 18) 10 = .ok (.getfield 24, 3) := by decide +kernel
theorem s18_10_o2 (d : Nat) (l0 : Value) (l1 : Value) (l2 : Value) (l3 : Value) (σ : Hs) : ru d 18 10 [l0, l1, l2, l3] [.ref 2] σ = ru d 18 13 [l0, l1, l2, l3] [.ref 7] σ := q_getf t18_10 mo18 F0_24 rfl rfl
theorem s18_10_o59 (d : Nat) (l0 : Value) (l1 : Value) (l2 : Value) (l3 : Value) (σ : Hs) : ru d 18 10 [l0, l1, l2, l3] [.ref 59] σ = ru d 18 13 [l0, l1, l2, l3] [.ref 64] σ := q_getf t18_10 mo18 F0_24 rfl rfl
theorem t18_13 : decode (mb 18) 13 = .ok (.iload_n 1, 1) := by decide +kernel
theorem s18_13 (d : Nat) (l0 : Value) (i1 : Int32) (l2 : Value) (l3 : Value) (w0 : Value) (σ : Hs) : ru d 18 13 [l0, .int i1, l2, l3] [w0] σ = ru d 18 14 [l0, .int i1, l2, l3] [.int i1, w0] σ := q_iload_n t18_13 rfl
theorem t18_14 : decode (mb 18) 14 = .ok (.iaload, 1) := by decide +kernel
theorem s18_14_o7 (d : Nat) (l0 : Value) (l1 : Value) (l2 : Value) (l3 : Value) (i : Int32) (σ : Hs) : ru d 18 14 [l0, l1, l2, l3] [.int i, .ref 7] σ = gd (vp_in i 30) (ru d 18 15 [l0, l1, l2, l3] [.int (σ 7 i.toNatClampNeg)] σ) := q_iald t18_14 rfl (by decide +kernel) rfl
theorem s18_14_o64 (d : Nat) (l0 : Value) (l1 : Value) (l2 : Value) (l3 : Value) (i : Int32) (σ : Hs) : ru d 18 14 [l0, l1, l2, l3] [.int i, .ref 64] σ = gd (vp_in i 30) (ru d 18 15 [l0, l1, l2, l3] [.int (σ 64 i.toNatClampNeg)] σ) := q_iald t18_14 rfl (by decide +kernel) rfl
theorem t18_15 : decode (mb 18) 15 = .ok (.bipush 8, 2) := by decide +kernel
theorem s18_15 (d : Nat) (l0 : Value) (l1 : Value) (l2 : Value) (l3 : Value) (w0 : Value) (σ : Hs) : ru d 18 15 [l0, l1, l2, l3] [w0] σ = ru d 18 17 [l0, l1, l2, l3] [.int 8, w0] σ := q_bipush t18_15 (by decide +kernel)
theorem t18_17 : decode (mb 18) 17 = .ok (.idiv, 1) := by decide +kernel
theorem s18_17 (d : Nat) (l0 : Value) (l1 : Value) (l2 : Value) (l3 : Value) (x y : Int32) (σ : Hs) : ru d 18 17 [l0, l1, l2, l3] [.int y, .int x] σ = gd (¬ y = 0) (ru d 18 18 [l0, l1, l2, l3] [.int (x / y)] σ) := q_idiv t18_17
theorem t18_18 : decode (mb 18) 18 = .ok (.istore_n 3, 1) := by decide +kernel
theorem s18_18 (d : Nat) (l0 : Value) (l1 : Value) (i2 : Int32) (l3 : Value) (x : Int32) (σ : Hs) : ru d 18 18 [l0, l1, .int i2, l3] [.int x] σ = ru d 18 19 [l0, l1, .int i2, .int x] [] σ := q_istore_n t18_18 ⟨Nat.le_of_ble_eq_true rfl, rfl⟩ rfl
theorem t18_19 : decode (mb 18) 19 = .ok (.aload_n 0, 1) := by decide +kernel
theorem s18_19 (d : Nat) (a0 : Nat) (l1 : Value) (l2 : Value) (l3 : Value) (σ : Hs) : ru d 18 19 [.ref a0, l1, l2, l3] [] σ = ru d 18 20 [.ref a0, l1, l2, l3] [.ref a0] σ := q_aload_n t18_19 rfl
theorem t18_20 : decode (mb 18) 20 = .ok (.getfield 24, 3) := by decide +kernel
theorem s18_20_o2 (d : Nat) (l0 : Value) (l1 : Value) (l2 : Value) (l3 : Value) (σ : Hs) : ru d 18 20 [l0, l1, l2, l3] [.ref 2] σ = ru d 18 23 [l0, l1, l2, l3] [.ref 7] σ := q_getf t18_20 mo18 F0_24 rfl rfl
theorem s18_20_o59 (d : Nat) (l0 : Value) (l1 : Value) (l2 : Value) (l3 : Value) (σ : Hs) : ru d 18 20 [l0, l1, l2, l3] [.ref 59] σ = ru d 18 23 [l0, l1, l2, l3] [.ref 64] σ := q_getf t18_20 mo18 F0_24 rfl rfl
theorem t18_23 : decode (mb 18) 23 = .ok (.iload_n 2, 1) := by decide +kernel
theorem s18_23 (d : Nat) (l0 : Value) (l1 : Value) (i2 : Int32) (l3 : Value) (w0 : Value) (σ : Hs) : ru d 18 23 [l0, l1, .int i2, l3] [w0] σ = ru d 18 24 [l0, l1, .int i2, l3] [.int i2, w0] σ := q_iload_n t18_23 rfl
theorem t18_24 : decode (mb 18) 24 = .ok (.aload_n 0, 1) := by decide +kernel
theorem s18_24 (d : Nat) (a0 : Nat) (l1 : Value) (l2 : Value) (l3 : Value) (w0 w1 : Value) (σ : Hs) : ru d 18 24 [.ref a0, l1, l2, l3] [w0, w1] σ = ru d 18 25 [.ref a0, l1, l2, l3] [.ref a0, w0, w1] σ := q_aload_n t18_24 rfl
theorem t18_25 : decode (mb 18) 25 = .ok (.getfield 24, 3) := by decide +kernel
theorem s18_25_o2 (d : Nat) (l0 : Value) (l1 : Value) (l2 : Value) (l3 : Value) (w0 w1 : Value) (σ : Hs) : ru d 18 25 [l0, l1, l2, l3] [.ref 2, w0, w1] σ = ru d 18 28 [l0, l1, l2, l3] [.ref 7, w0, w1] σ := q_getf t18_25 mo18 F0_24 rfl rfl
theorem s18_25_o59 (d : Nat) (l0 : Value) (l1 : Value) (l2 : Value) (l3 : Value) (w0 w1 : Value) (σ : Hs) : ru d 18 25 [l0, l1, l2, l3] [.ref 59, w0, w1] σ = ru d 18 28 [l0, l1, l2, l3] [.ref 64, w0, w1] σ := q_getf t18_25 mo18 F0_24 rfl rfl
theorem t18_28 : decode (mb 18) 28 = .ok (.iload_n 2, 1) := by decide +kernel
theorem s18_28 (d : Nat) (l0 : Value) (l1 : Value) (i2 : Int32) (l3 : Value) (w0 w1 w2 : Value) (σ : Hs) : ru d 18 28 [l0, l1, .int i2, l3] [w0, w1, w2] σ = ru d 18 29 [l0, l1, .int i2, l3] [.int i2, w0, w1, w2] σ := q_iload_n t18_28 rfl
theorem t18_29 : decode (mb 18) 29 = .ok (.iaload, 1) := by decide +kernel
theorem s18_29_o7 (d : Nat) (l0 : Value) (l1 : Value) (l2 : Value) (l3 : Value) (i : Int32) (w0 w1 : Value) (σ : Hs) : ru d 18 29 [l0, l1, l2, l3] [.int i, .ref 7, w0, w1] σ = gd (vp_in i 30) (ru d 18 30 [l0, l1, l2, l3] [.int (σ 7 i.toNatClampNeg), w0, w1] σ) := q_iald t18_29 rfl (by decide +kernel) rfl
theorem s18_29_o64 (d : Nat) (l0 : Value) (l1 : Value) (l2 : Value) (l3 : Value) (i : Int32) (w0 w1 : Value) (σ : Hs) : ru d 18 29 [l0, l1, l2, l3] [.int i, .ref 64, w0, w1] σ = gd (vp_in i 30) (ru d 18 30 [l0, l1, l2, l3] [.int (σ 64 i.toNatClampNeg), w0, w1] σ) := q_iald t18_29 rfl (by decide +kernel) rfl
theorem t18_30 : decode (mb 18) 30 = .ok (.iload_n 3, 1) := by decide +kernel
theorem s18_30 (d : Nat) (l0 : Value) (l1 : Value) (l2 : Value) (i3 : Int32) (w0 w1 w2 : Value) (σ : Hs) : ru d 18 30 [l0, l1, l2, .int i3] [w0, w1, w2] σ = ru d 18 31 [l0, l1, l2, .int i3] [.int i3, w0, w1, w2] σ := q_iload_n t18_30 rfl
theorem t18_31 : decode (mb 18) 31 = .ok (.iadd, 1) := by decide +kernel
theorem s18_31 (d : Nat) (l0 : Value) (l1 : Value) (l2 : Value) (l3 : Value) (x y : Int32) (w0 w1 : Value) (σ : Hs) : ru d 18 31 [l0, l1, l2, l3] [.int y, .int x, w0, w1] σ = ru d 18 32 [l0, l1, l2, l3] [.int (x + y), w0, w1] σ := q_iadd t18_31
theorem t18_32 : decode (mb 18) 32 = .ok (.sipush 9999, 3) := by decide +kernel
theorem s18_32 (d : Nat) (l0 : Value) (l1 : Value) (l2 : Value) (l3 : Value) (w0 w1 w2 : Value) (σ : Hs) : ru d 18 32 [l0, l1, l2, l3] [w0, w1, w2] σ = ru d 18 35 [l0, l1, l2, l3] [.int 9999, w0, w1, w2] σ := q_sipush t18_32 (by decide +kernel)
theorem t18_35 : decode (mb 18) 35 = .ok (.invokestatic 83, 3) := by decide +kernel
theorem s18_35 (d : Nat) (l0 : Value) (l1 : Value) (l2 : Value) (l3 : Value) (x y : Int32) (w0 : Int32) (w1 : Nat) (σ : Hs) : ru d 18 35 [l0, l1, l2, l3] [.int y, .int x, .int w0, .ref w1] σ = ru d 18 38 [l0, l1, l2, l3] [.int (jmin x y), .int w0, .ref w1] σ := q_mi t18_35 mo18 (by decide +kernel) (by decide +kernel) (by decide +kernel) (Nat.le_of_ble_eq_true rfl)
theorem t18_38 : decode (mb 18) 38 = .ok (.iastore, 1) := by decide +kernel
theorem s18_38_o7 (d : Nat) (l0 : Value) (l1 : Value) (l2 : Value) (l3 : Value) (i x : Int32) (σ : Hs) : ru d 18 38 [l0, l1, l2, l3] [.int x, .int i, .ref 7] σ = gd (vp_in i 30) (ru d 18 39 [l0, l1, l2, l3] [] (up2 σ 7 i.toNatClampNeg x)) := q_iast t18_38 (by decide +kernel) rfl rfl
theorem s18_38_o64 (d : Nat) (l0 : Value) (l1 : Value) (l2 : Value) (l3 : Value) (i x : Int32) (σ : Hs) : ru d 18 38 [l0, l1, l2, l3] [.int x, .int i, .ref 64] σ = gd (vp_in i 30) (ru d 18 39 [l0, l1, l2, l3] [] (up2 σ 64 i.toNatClampNeg x)) := q_iast t18_38 (by decide +kernel) rfl rfl
theorem t18_39 : decode (mb 18) 39 = .ok (.aload_n 0, 1) := by decide +kernel
theorem s18_39 (d : Nat) (a0 : Nat) (l1 : Value) (l2 : Value) (l3 : Value) (σ : Hs) : ru d 18 39 [.ref a0, l1, l2, l3] [] σ = ru d 18 40 [.ref a0, l1, l2, l3] [.ref a0] σ := q_aload_n t18_39 rfl
theorem t18_40 : decode (mb 18) 40 = .ok (.getfield 24, 3) := by decide +kernel
theorem s18_40_o2 (d : Nat) (l0 : Value) (l1 : Value) (l2 : Value) (l3 : Value) (σ : Hs) : ru d 18 40 [l0, l1, l2, l3] [.ref 2] σ = ru d 18 43 [l0, l1, l2, l3] [.ref 7] σ := q_getf t18_40 mo18 F0_24 rfl rfl
theorem s18_40_o59 (d : Nat) (l0 : Value) (l1 : Value) (l2 : Value) (l3 : Value) (σ : Hs) : ru d 18 40 [l0, l1, l2, l3] [.ref 59] σ = ru d 18 43 [l0, l1, l2, l3] [.ref 64] σ := q_getf t18_40 mo18 F0_24 rfl rfl
theorem t18_43 : decode (mb 18) 43 = .ok (.iload_n 1, 1) := by decide +kernel
theorem s18_43 (d : Nat) (l0 : Value) (i1 : Int32) (l2 : Value) (l3 : Value) (w0 : Value) (σ : Hs) : ru d 18 43 [l0, .int i1, l2, l3] [w0] σ = ru d 18 44 [l0, .int i1, l2, l3] [.int i1, w0] σ := q_iload_n t18_43 rfl
theorem t18_44 : decode (mb 18) 44 = .ok (.dup2, 1) := by decide +kernel
theorem s18_44 (d : Nat) (l0 : Value) (l1 : Value) (l2 : Value) (l3 : Value) (x0 : Int32) (x1 : Nat) (σ : Hs) : ru d 18 44 [l0, l1, l2, l3] [.int x0, .ref x1] σ = ru d 18 45 [l0, l1, l2, l3] [.int x0, .ref x1, .int x0, .ref x1] σ := q_dup2 t18_44 rfl rfl
theorem t18_45 : decode (mb 18) 45 = .ok (.iaload, 1) := by decide +kernel
theorem s18_45_o7 (d : Nat) (l0 : Value) (l1 : Value) (l2 : Value) (l3 : Value) (i : Int32) (w0 w1 : Value) (σ : Hs) : ru d 18 45 [l0, l1, l2, l3] [.int i, .ref 7, w0, w1] σ = gd (vp_in i 30) (ru d 18 46 [l0, l1, l2, l3] [.int (σ 7 i.toNatClampNeg), w0, w1] σ) := q_iald t18_45 rfl (by decide +kernel) rfl
theorem s18_45_o64 (d : Nat) (l0 : Value) (l1 : Value) (l2 : Value) (l3 : Value) (i : Int32) (w0 w1 : Value) (σ : Hs) : ru d 18 45 [l0, l1, l2, l3] [.int i, .ref 64, w0, w1] σ = gd (vp_in i 30) (ru d 18 46 [l0, l1, l2, l3] [.int (σ 64 i.toNatClampNeg), w0, w1] σ) := q_iald t18_45 rfl (by decide +kernel) rfl
theorem t18_46 : decode (mb 18) 46 = .ok (.iload_n 3, 1) := by decide +kernel
theorem s18_46 (d : Nat) (l0 : Value) (l1 : Value) (l2 : Value) (i3 : Int32) (w0 w1 w2 : Value) (σ : Hs) : ru d 18 46 [l0, l1, l2, .int i3] [w0, w1, w2] σ = ru d 18 47 [l0, l1, l2, .int i3] [.int i3, w0, w1, w2] σ := q_iload_n t18_46 rfl
theorem t18_47 : decode (mb 18) 47 = .ok (.isub, 1) := by decide +kernel
theorem s18_47 (d : Nat) (l0 : Value) (l1 : Value) (l2 : Value) (l3 : Value) (x y : Int32) (w0 w1 : Value) (σ : Hs) : ru d 18 47 [l0, l1, l2, l3] [.int y, .int x, w0, w1] σ = ru d 18 48 [l0, l1, l2, l3] [.int (x - y), w0, w1] σ := q_isub t18_47
theorem t18_48 : decode (mb 18) 48 = .ok (.iastore, 1) := by decide +kernel
theorem s18_48_o7 (d : Nat) (l0 : Value) (l1 : Value) (l2 : Value) (l3 : Value) (i x : Int32) (σ : Hs) : ru d 18 48 [l0, l1, l2, l3] [.int x, .int i, .ref 7] σ = gd (vp_in i 30) (ru d 18 49 [l0, l1, l2, l3] [] (up2 σ 7 i.toNatClampNeg x)) := q_iast t18_48 (by decide +kernel) rfl rfl
theorem s18_48_o64 (d : Nat) (l0 : Value) (l1 : Value) (l2 : Value) (l3 : Value) (i x : Int32) (σ : Hs) : ru d 18 48 [l0, l1, l2, l3] [.int x, .int i, .ref 64] σ = gd (vp_in i 30) (ru d 18 49 [l0, l1, l2, l3] [] (up2 σ 64 i.toNatClampNeg x)) := q_iast t18_48 (by decide +kernel) rfl rfl
theorem t18_49 : decode (mb 18) 49 = .ok (.return_, 1) := by decide +kernel
theorem s18_49 (d : Nat) (l0 : Value) (l1 : Value) (l2 : Value) (l3 : Value) (σ : Hs) : ru d 18 49 [l0, l1, l2, l3] [] σ = some (none, σ) := q_vret t18_49 mr18
theorem c18 (d : Nat) (x0 : Nat) (x1 : Int32) (x2 : Int32) (σ : Hs) : callD (d + 1) 18 [.ref x0, .int x1, .int x2] σ = ru d 18 0 [.ref x0, .int x1, .int x2, uu] [] σ := callD_ru ml18 rfl rfl (Nat.le_of_ble_eq_true rfl)
-- 19: Heap.dryAndCool(I)V
theorem t19_0 : decode (mb 19) 0 = .ok (.aload_n 0, 1) := by decide +kernel
theorem s19_0 (d : Nat) (a0 : Nat) (l1 : Value) (l2 : Value) (l3 : Value) (σ : Hs) : ru d 19 0 [.ref a0, l1, l2, l3] [] σ = ru d 19 1 [.ref a0, l1, l2, l3] [.ref a0] σ := q_aload_n t19_0 rfl
theorem t19_1 : decode (mb 19) 1 = .ok (.getfield 24, 3) := by decide +kernel
theorem s19_1_o2 (d : Nat) (l0 : Value) (l1 : Value) (l2 : Value) (l3 : Value) (σ : Hs) : ru d 19 1 [l0, l1, l2, l3] [.ref 2] σ = ru d 19 4 [l0, l1, l2, l3] [.ref 7] σ := q_getf t19_1 mo19 F0_24 rfl rfl
theorem s19_1_o59 (d : Nat) (l0 : Value) (l1 : Value) (l2 : Value) (l3 : Value) (σ : Hs) : ru d 19 1 [l0, l1, l2, l3] [.ref 59] σ = ru d 19 4 [l0, l1, l2, l3] [.ref 64] σ := q_getf t19_1 mo19 F0_24 rfl rfl
theorem t19_4 : decode (mb 19) 4 = .ok (.iload_n 1, 1) := by decide +kernel
theorem s19_4 (d : Nat) (l0 : Value) (i1 : Int32) (l2 : Value) (l3 : Value) (w0 : Value) (σ : Hs) : ru d 19 4 [l0, .int i1, l2, l3] [w0] σ = ru d 19 5 [l0, .int i1, l2, l3] [.int i1, w0] σ := q_iload_n t19_4 rfl
theorem t19_5 : decode (mb 19) 5 = .ok (.iaload, 1) := by decide +kernel
theorem s19_5_o7 (d : Nat) (l0 : Value) (l1 : Value) (l2 : Value) (l3 : Value) (i : Int32) (σ : Hs) : ru d 19 5 [l0, l1, l2, l3] [.int i, .ref 7] σ = gd (vp_in i 30) (ru d 19 6 [l0, l1, l2, l3] [.int (σ 7 i.toNatClampNeg)] σ) := q_iald t19_5 rfl (by decide +kernel) rfl
theorem s19_5_o64 (d : Nat) (l0 : Value) (l1 : Value) (l2 : Value) (l3 : Value) (i : Int32) (σ : Hs) : ru d 19 5 [l0, l1, l2, l3] [.int i, .ref 64] σ = gd (vp_in i 30) (ru d 19 6 [l0, l1, l2, l3] [.int (σ 64 i.toNatClampNeg)] σ) := q_iald t19_5 rfl (by decide +kernel) rfl
theorem t19_6 : decode (mb 19) 6 = .ok (.istore_n 2, 1) := by decide +kernel
theorem s19_6 (d : Nat) (l0 : Value) (i1 : Int32) (l2 : Value) (l3 : Value) (x : Int32) (σ : Hs) : ru d 19 6 [l0, .int i1, l2, l3] [.int x] σ = ru d 19 7 [l0, .int i1, .int x, l3] [] σ := q_istore_n t19_6 ⟨Nat.le_of_ble_eq_true rfl, rfl⟩ rfl
theorem t19_7 : decode (mb 19) 7 = .ok (.aload_n 0, 1) := by decide +kernel
theorem s19_7 (d : Nat) (a0 : Nat) (l1 : Value) (l2 : Value) (l3 : Value) (σ : Hs) : ru d 19 7 [.ref a0, l1, l2, l3] [] σ = ru d 19 8 [.ref a0, l1, l2, l3] [.ref a0] σ := q_aload_n t19_7 rfl
theorem t19_8 : decode (mb 19) 8 = .ok (.getfield 18, 3) := by decide +kernel
theorem s19_8_o2 (d : Nat) (l0 : Value) (l1 : Value) (l2 : Value) (l3 : Value) (σ : Hs) : ru d 19 8 [l0, l1, l2, l3] [.ref 2] σ = ru d 19 11 [l0, l1, l2, l3] [.ref 5] σ := q_getf t19_8 mo19 F0_18 rfl rfl
theorem s19_8_o59 (d : Nat) (l0 : Value) (l1 : Value) (l2 : Value) (l3 : Value) (σ : Hs) : ru d 19 8 [l0, l1, l2, l3] [.ref 59] σ = ru d 19 11 [l0, l1, l2, l3] [.ref 62] σ := q_getf t19_8 mo19 F0_18 rfl rfl
theorem t19_11 : decode (mb 19) 11 = .ok (.iload_n 1, 1) := by decide +kernel
theorem s19_11 (d : Nat) (l0 : Value) (i1 : Int32) (l2 : Value) (l3 : Value) (w0 : Value) (σ : Hs) : ru d 19 11 [l0, .int i1, l2, l3] [w0] σ = ru d 19 12 [l0, .int i1, l2, l3] [.int i1, w0] σ := q_iload_n t19_11 rfl
theorem t19_12 : decode (mb 19) 12 = .ok (.iaload, 1) := by decide +kernel
theorem s19_12_o5 (d : Nat) (l0 : Value) (l1 : Value) (l2 : Value) (l3 : Value) (i : Int32) (σ : Hs) : ru d 19 12 [l0, l1, l2, l3] [.int i, .ref 5] σ = gd (vp_in i 30) (ru d 19 13 [l0, l1, l2, l3] [.int (σ 5 i.toNatClampNeg)] σ) := q_iald t19_12 rfl (by decide +kernel) rfl
theorem s19_12_o62 (d : Nat) (l0 : Value) (l1 : Value) (l2 : Value) (l3 : Value) (i : Int32) (σ : Hs) : ru d 19 12 [l0, l1, l2, l3] [.int i, .ref 62] σ = gd (vp_in i 30) (ru d 19 13 [l0, l1, l2, l3] [.int (σ 62 i.toNatClampNeg)] σ) := q_iald t19_12 rfl (by decide +kernel) rfl
theorem t19_13 : decode (mb 19) 13 = .ok (.iload_n 2, 1) := by decide +kernel
theorem s19_13 (d : Nat) (l0 : Value) (l1 : Value) (i2 : Int32) (l3 : Value) (w0 : Value) (σ : Hs) : ru d 19 13 [l0, l1, .int i2, l3] [w0] σ = ru d 19 14 [l0, l1, .int i2, l3] [.int i2, w0] σ := q_iload_n t19_13 rfl
theorem t19_14 : decode (mb 19) 14 = .ok (.bipush 20, 2) := by decide +kernel
theorem s19_14 (d : Nat) (l0 : Value) (l1 : Value) (l2 : Value) (l3 : Value) (w0 w1 : Value) (σ : Hs) : ru d 19 14 [l0, l1, l2, l3] [w0, w1] σ = ru d 19 16 [l0, l1, l2, l3] [.int 20, w0, w1] σ := q_bipush t19_14 (by decide +kernel)
theorem t19_16 : decode (mb 19) 16 = .ok (.idiv, 1) := by decide +kernel
theorem s19_16 (d : Nat) (l0 : Value) (l1 : Value) (l2 : Value) (l3 : Value) (x y : Int32) (w0 : Value) (σ : Hs) : ru d 19 16 [l0, l1, l2, l3] [.int y, .int x, w0] σ = gd (¬ y = 0) (ru d 19 17 [l0, l1, l2, l3] [.int (x / y), w0] σ) := q_idiv t19_16
theorem t19_17 : decode (mb 19) 17 = .ok (.isub, 1) := by decide +kernel
theorem s19_17 (d : Nat) (l0 : Value) (l1 : Value) (l2 : Value) (l3 : Value) (x y : Int32) (σ : Hs) : ru d 19 17 [l0, l1, l2, l3] [.int y, .int x] σ = ru d 19 18 [l0, l1, l2, l3] [.int (x - y)] σ := q_isub t19_17
theorem t19_18 : decode (mb 19) 18 = .ok (.iconst 0, 1) := by decide +kernel
theorem s19_18 (d : Nat) (l0 : Value) (l1 : Value) (l2 : Value) (l3 : Value) (w0 : Value) (σ : Hs) : ru d 19 18 [l0, l1, l2, l3] [w0] σ = ru d 19 19 [l0, l1, l2, l3] [.int 0, w0] σ := q_iconst t19_18 (by decide +kernel)
theorem t19_19 : decode (mb 19) 19 = .ok (.invokestatic 77, 3) := by decide +kernel
theorem s19_19 (d : Nat) (l0 : Value) (l1 : Value) (l2 : Value) (l3 : Value) (x y : Int32) (σ : Hs) : ru d 19 19 [l0, l1, l2, l3] [.int y, .int x] σ = ru d 19 22 [l0, l1, l2, l3] [.int (jmax x y)] σ := q_mx t19_19 mo19 (by decide +kernel) (by decide +kernel) (Nat.le_of_ble_eq_true rfl)
theorem t19_22 : decode (mb 19) 22 = .ok (.istore_n 3, 1) := by decide +kernel
theorem s19_22 (d : Nat) (l0 : Value) (l1 : Value) (i2 : Int32) (l3 : Value) (x : Int32) (σ : Hs) : ru d 19 22 [l0, l1, .int i2, l3] [.int x] σ = ru d 19 23 [l0, l1, .int i2, .int x] [] σ := q_istore_n t19_22 ⟨Nat.le_of_ble_eq_true rfl, rfl⟩ rfl
theorem t19_23 : decode (mb 19) 23 = .ok (.aload_n 0, 1) := by decide +kernel
theorem s19_23 (d : Nat) (a0 : Nat) (l1 : Value) (l2 : Value) (l3 : Value) (σ : Hs) : ru d 19 23 [.ref a0, l1, l2, l3] [] σ = ru d 19 24 [.ref a0, l1, l2, l3] [.ref a0] σ := q_aload_n t19_23 rfl
theorem t19_24 : decode (mb 19) 24 = .ok (.getfield 18, 3) := by decide +kernel
theorem s19_24_o2 (d : Nat) (l0 : Value) (l1 : Value) (l2 : Value) (l3 : Value) (σ : Hs) : ru d 19 24 [l0, l1, l2, l3] [.ref 2] σ = ru d 19 27 [l0, l1, l2, l3] [.ref 5] σ := q_getf t19_24 mo19 F0_18 rfl rfl
theorem s19_24_o59 (d : Nat) (l0 : Value) (l1 : Value) (l2 : Value) (l3 : Value) (σ : Hs) : ru d 19 24 [l0, l1, l2, l3] [.ref 59] σ = ru d 19 27 [l0, l1, l2, l3] [.ref 62] σ := q_getf t19_24 mo19 F0_18 rfl rfl
theorem t19_27 : decode (mb 19) 27 = .ok (.iload_n 1, 1) := by decide +kernel
theorem s19_27 (d : Nat) (l0 : Value) (i1 : Int32) (l2 : Value) (l3 : Value) (w0 : Value) (σ : Hs) : ru d 19 27 [l0, .int i1, l2, l3] [w0] σ = ru d 19 28 [l0, .int i1, l2, l3] [.int i1, w0] σ := q_iload_n t19_27 rfl
theorem t19_28 : decode (mb 19) 28 = .ok (.iload_n 3, 1) := by decide +kernel
theorem s19_28 (d : Nat) (l0 : Value) (l1 : Value) (l2 : Value) (i3 : Int32) (w0 w1 : Value) (σ : Hs) : ru d 19 28 [l0, l1, l2, .int i3] [w0, w1] σ = ru d 19 29 [l0, l1, l2, .int i3] [.int i3, w0, w1] σ := q_iload_n t19_28 rfl
theorem t19_29 : decode (mb 19) 29 = .ok (.iastore, 1) := by decide +kernel
theorem s19_29_o5 (d : Nat) (l0 : Value) (l1 : Value) (l2 : Value) (l3 : Value) (i x : Int32) (σ : Hs) : ru d 19 29 [l0, l1, l2, l3] [.int x, .int i, .ref 5] σ = gd (vp_in i 30) (ru d 19 30 [l0, l1, l2, l3] [] (up2 σ 5 i.toNatClampNeg x)) := q_iast t19_29 (by decide +kernel) rfl rfl
theorem s19_29_o62 (d : Nat) (l0 : Value) (l1 : Value) (l2 : Value) (l3 : Value) (i x : Int32) (σ : Hs) : ru d 19 29 [l0, l1, l2, l3] [.int x, .int i, .ref 62] σ = gd (vp_in i 30) (ru d 19 30 [l0, l1, l2, l3] [] (up2 σ 62 i.toNatClampNeg x)) := q_iast t19_29 (by decide +kernel) rfl rfl
theorem t19_30 : decode (mb 19) 30 = .ok (.iload_n 3, 1) := by decide +kernel
theorem s19_30 (d : Nat) (l0 : Value) (l1 : Value) (l2 : Value) (i3 : Int32) (σ : Hs) : ru d 19 30 [l0, l1, l2, .int i3] [] σ = ru d 19 31 [l0, l1, l2, .int i3] [.int i3] σ := q_iload_n t19_30 rfl
theorem t19_31 : decode (mb 19) 31 = .ok (.aload_n 0, 1) := by decide +kernel
theorem s19_31 (d : Nat) (a0 : Nat) (l1 : Value) (l2 : Value) (l3 : Value) (w0 : Value) (σ : Hs) : ru d 19 31 [.ref a0, l1, l2, l3] [w0] σ = ru d 19 32 [.ref a0, l1, l2, l3] [.ref a0, w0] σ := q_aload_n t19_31 rfl
theorem t19_32 : decode (mb 19) 32 = .ok (.getfield 31, 3) := by decide +kernel
theorem s19_32_o2 (d : Nat) (l0 : Value) (l1 : Value) (l2 : Value) (l3 : Value) (w0 : Value) (σ : Hs) : ru d 19 32 [l0, l1, l2, l3] [.ref 2, w0] σ = ru d 19 35 [l0, l1, l2, l3] [.ref 9, w0] σ := q_getf t19_32 mo19 F0_31 rfl rfl
theorem s19_32_o59 (d : Nat) (l0 : Value) (l1 : Value) (l2 : Value) (l3 : Value) (w0 : Value) (σ : Hs) : ru d 19 32 [l0, l1, l2, l3] [.ref 59, w0] σ = ru d 19 35 [l0, l1, l2, l3] [.ref 66, w0] σ := q_getf t19_32 mo19 F0_31 rfl rfl
theorem t19_35 : decode (mb 19) 35 = .ok (.iconst 3, 1) := by decide +kernel
theorem s19_35 (d : Nat) (l0 : Value) (l1 : Value) (l2 : Value) (l3 : Value) (w0 w1 : Value) (σ : Hs) : ru d 19 35 [l0, l1, l2, l3] [w0, w1] σ = ru d 19 36 [l0, l1, l2, l3] [.int 3, w0, w1] σ := q_iconst t19_35 (by decide +kernel)
theorem t19_36 : decode (mb 19) 36 = .ok (.iaload, 1) := by decide +kernel
theorem s19_36_o9 (d : Nat) (l0 : Value) (l1 : Value) (l2 : Value) (l3 : Value) (i : Int32) (w0 : Value) (σ : Hs) : ru d 19 36 [l0, l1, l2, l3] [.int i, .ref 9, w0] σ = gd (vp_in i 5) (ru d 19 37 [l0, l1, l2, l3] [.int (σ 9 i.toNatClampNeg), w0] σ) := q_iald t19_36 rfl (by decide +kernel) rfl
theorem s19_36_o66 (d : Nat) (l0 : Value) (l1 : Value) (l2 : Value) (l3 : Value) (i : Int32) (w0 : Value) (σ : Hs) : ru d 19 36 [l0, l1, l2, l3] [.int i, .ref 66, w0] σ = gd (vp_in i 5) (ru d 19 37 [l0, l1, l2, l3] [.int (σ 66 i.toNatClampNeg), w0] σ) := q_iald t19_36 rfl (by decide +kernel) rfl
theorem t19_37 : decode (mb 19) 37 = .ok (.if_icmp .gt 24, 3) := by decide +kernel
theorem s19_37 (d : Nat) (l0 : Value) (l1 : Value) (l2 : Value) (l3 : Value) (x y : Int32) (σ : Hs) : ru d 19 37 [l0, l1, l2, l3] [.int y, .int x] σ = if y < x then ru d 19 61 [l0, l1, l2, l3] [] σ else ru d 19 40 [l0, l1, l2, l3] [] σ := q_ic_gt t19_37 (by decide +kernel)
theorem t19_40 : decode (mb 19) 40 = .ok (.iload_n 2, 1) := by decide +kernel
theorem s19_40 (d : Nat) (l0 : Value) (l1 : Value) (i2 : Int32) (l3 : Value) (σ : Hs) : ru d 19 40 [l0, l1, .int i2, l3] [] σ = ru d 19 41 [l0, l1, .int i2, l3] [.int i2] σ := q_iload_n t19_40 rfl
theorem t19_41 : decode (mb 19) 41 = .ok (.getstatic 134, 3) := by decide +kernel
theorem s19_41 (d : Nat) (l0 : Value) (l1 : Value) (l2 : Value) (l3 : Value) (w0 : Value) (σ : Hs) : ru d 19 41 [l0, l1, l2, l3] [w0] σ = ru d 19 44 [l0, l1, l2, l3] [.ref 106, w0] σ := q_gets t19_41 mo19 S0_134 rfl
theorem t19_44 : decode (mb 19) 44 = .ok (.aload_n 0, 1) := by decide +kernel
theorem s19_44 (d : Nat) (a0 : Nat) (l1 : Value) (l2 : Value) (l3 : Value) (w0 w1 : Value) (σ : Hs) : ru d 19 44 [.ref a0, l1, l2, l3] [w0, w1] σ = ru d 19 45 [.ref a0, l1, l2, l3] [.ref a0, w0, w1] σ := q_aload_n t19_44 rfl
theorem t19_45 : decode (mb 19) 45 = .ok (.getfield 9, 3) := by decide +kernel
theorem s19_45_o2 (d : Nat) (l0 : Value) (l1 : Value) (l2 : Value) (l3 : Value) (w0 w1 : Value) (σ : Hs) : ru d 19 45 [l0, l1, l2, l3] [.ref 2, w0, w1] σ = ru d 19 48 [l0, l1, l2, l3] [.ref 3, w0, w1] σ := q_getf t19_45 mo19 F0_9 rfl rfl
theorem s19_45_o59 (d : Nat) (l0 : Value) (l1 : Value) (l2 : Value) (l3 : Value) (w0 w1 : Value) (σ : Hs) : ru d 19 45 [l0, l1, l2, l3] [.ref 59, w0, w1] σ = ru d 19 48 [l0, l1, l2, l3] [.ref 60, w0, w1] σ := q_getf t19_45 mo19 F0_9 rfl rfl
theorem t19_48 : decode (mb 19) 48 = .ok (.iload_n 1, 1) := by decide +kernel
theorem s19_48 (d : Nat) (l0 : Value) (i1 : Int32) (l2 : Value) (l3 : Value) (w0 w1 w2 : Value) (σ : Hs) : ru d 19 48 [l0, .int i1, l2, l3] [w0, w1, w2] σ = ru d 19 49 [l0, .int i1, l2, l3] [.int i1, w0, w1, w2] σ := q_iload_n t19_48 rfl
theorem t19_49 : decode (mb 19) 49 = .ok (.iaload, 1) := by decide +kernel
theorem s19_49_o3 (d : Nat) (l0 : Value) (l1 : Value) (l2 : Value) (l3 : Value) (i : Int32) (w0 w1 : Value) (σ : Hs) : ru d 19 49 [l0, l1, l2, l3] [.int i, .ref 3, w0, w1] σ = gd (vp_in i 30) (ru d 19 50 [l0, l1, l2, l3] [.int (σ 3 i.toNatClampNeg), w0, w1] σ) := q_iald t19_49 rfl (by decide +kernel) rfl
theorem s19_49_o60 (d : Nat) (l0 : Value) (l1 : Value) (l2 : Value) (l3 : Value) (i : Int32) (w0 w1 : Value) (σ : Hs) : ru d 19 49 [l0, l1, l2, l3] [.int i, .ref 60, w0, w1] σ = gd (vp_in i 30) (ru d 19 50 [l0, l1, l2, l3] [.int (σ 60 i.toNatClampNeg), w0, w1] σ) := q_iald t19_49 rfl (by decide +kernel) rfl
theorem t19_50 : decode (mb 19) 50 = .ok (.iaload, 1) := by decide +kernel
theorem s19_50_o106 (d : Nat) (l0 : Value) (l1 : Value) (l2 : Value) (l3 : Value) (i : Int32) (w0 : Value) (σ : Hs) : ru d 19 50 [l0, l1, l2, l3] [.int i, .ref 106, w0] σ = gd (vp_in i 7) (ru d 19 51 [l0, l1, l2, l3] [.int (([60, 30, 120, 6, 120, 90, 10000] : List Int32).getD i.toNatClampNeg 0), w0] σ) := q_ials t19_50 rfl (by decide +kernel) rfl rfl
theorem t19_51 : decode (mb 19) 51 = .ok (.if_icmp .lt 10, 3) := by decide +kernel
theorem s19_51 (d : Nat) (l0 : Value) (l1 : Value) (l2 : Value) (l3 : Value) (x y : Int32) (σ : Hs) : ru d 19 51 [l0, l1, l2, l3] [.int y, .int x] σ = if x < y then ru d 19 61 [l0, l1, l2, l3] [] σ else ru d 19 54 [l0, l1, l2, l3] [] σ := q_ic_lt t19_51 (by decide +kernel)
theorem t19_54 : decode (mb 19) 54 = .ok (.aload_n 0, 1) := by decide +kernel
theorem s19_54 (d : Nat) (a0 : Nat) (l1 : Value) (l2 : Value) (l3 : Value) (σ : Hs) : ru d 19 54 [.ref a0, l1, l2, l3] [] σ = ru d 19 55 [.ref a0, l1, l2, l3] [.ref a0] σ := q_aload_n t19_54 rfl
theorem t19_55 : decode (mb 19) 55 = .ok (.getfield 27, 3) := by decide +kernel
theorem s19_55_o2 (d : Nat) (l0 : Value) (l1 : Value) (l2 : Value) (l3 : Value) (σ : Hs) : ru d 19 55 [l0, l1, l2, l3] [.ref 2] σ = ru d 19 58 [l0, l1, l2, l3] [.ref 8] σ := q_getf t19_55 mo19 F0_27 rfl rfl
theorem s19_55_o59 (d : Nat) (l0 : Value) (l1 : Value) (l2 : Value) (l3 : Value) (σ : Hs) : ru d 19 55 [l0, l1, l2, l3] [.ref 59] σ = ru d 19 58 [l0, l1, l2, l3] [.ref 65] σ := q_getf t19_55 mo19 F0_27 rfl rfl
theorem t19_58 : decode (mb 19) 58 = .ok (.iload_n 1, 1) := by decide +kernel
theorem s19_58 (d : Nat) (l0 : Value) (i1 : Int32) (l2 : Value) (l3 : Value) (w0 : Value) (σ : Hs) : ru d 19 58 [l0, .int i1, l2, l3] [w0] σ = ru d 19 59 [l0, .int i1, l2, l3] [.int i1, w0] σ := q_iload_n t19_58 rfl
theorem t19_59 : decode (mb 19) 59 = .ok (.iconst 1, 1) := by decide +kernel
theorem s19_59 (d : Nat) (l0 : Value) (l1 : Value) (l2 : Value) (l3 : Value) (w0 w1 : Value) (σ : Hs) : ru d 19 59 [l0, l1, l2, l3] [w0, w1] σ = ru d 19 60 [l0, l1, l2, l3] [.int 1, w0, w1] σ := q_iconst t19_59 (by decide +kernel)
theorem t19_60 : decode (mb 19) 60 = .ok (.bastore, 1) := by decide +kernel
theorem s19_60_o8 (d : Nat) (l0 : Value) (l1 : Value) (l2 : Value) (l3 : Value) (i x : Int32) (σ : Hs) : ru d 19 60 [l0, l1, l2, l3] [.int x, .int i, .ref 8] σ = gd (vp_in i 30) (ru d 19 61 [l0, l1, l2, l3] [] (up2 σ 8 i.toNatClampNeg (vp_nar .boolean x))) := q_bast t19_60 (by decide +kernel) rfl rfl
theorem s19_60_o65 (d : Nat) (l0 : Value) (l1 : Value) (l2 : Value) (l3 : Value) (i x : Int32) (σ : Hs) : ru d 19 60 [l0, l1, l2, l3] [.int x, .int i, .ref 65] σ = gd (vp_in i 30) (ru d 19 61 [l0, l1, l2, l3] [] (up2 σ 65 i.toNatClampNeg (vp_nar .boolean x))) := q_bast t19_60 (by decide +kernel) rfl rfl
theorem t19_61 : decode (mb 19) 61 = .ok (.iload_n 2, 1) := by decide +kernel
theorem s19_61 (d : Nat) (l0 : Value) (l1 : Value) (i2 : Int32) (l3 : Value) (σ : Hs) : ru d 19 61 [l0, l1, .int i2, l3] [] σ = ru d 19 62 [l0, l1, .int i2, l3] [.int i2] σ := q_iload_n t19_61 rfl
theorem t19_62 : decode (mb 19) 62 = .ok (.iload_n 2, 1) := by decide +kernel
theorem s19_62 (d : Nat) (l0 : Value) (l1 : Value) (i2 : Int32) (l3 : Value) (w0 : Value) (σ : Hs) : ru d 19 62 [l0, l1, .int i2, l3] [w0] σ = ru d 19 63 [l0, l1, .int i2, l3] [.int i2, w0] σ := q_iload_n t19_62 rfl
theorem t19_63 : decode (mb 19) 63 = .ok (.bipush 10, 2) := by decide +kernel
theorem s19_63 (d : Nat) (l0 : Value) (l1 : Value) (l2 : Value) (l3 : Value) (w0 w1 : Value) (σ : Hs) : ru d 19 63 [l0, l1, l2, l3] [w0, w1] σ = ru d 19 65 [l0, l1, l2, l3] [.int 10, w0, w1] σ := q_bipush t19_63 (by decide +kernel)
theorem t19_65 : decode (mb 19) 65 = .ok (.idiv, 1) := by decide +kernel
theorem s19_65 (d : Nat) (l0 : Value) (l1 : Value) (l2 : Value) (l3 : Value) (x y : Int32) (w0 : Value) (σ : Hs) : ru d 19 65 [l0, l1, l2, l3] [.int y, .int x, w0] σ = gd (¬ y = 0) (ru d 19 66 [l0, l1, l2, l3] [.int (x / y), w0] σ) := q_idiv t19_65
theorem t19_66 : decode (mb 19) 66 = .ok (.isub, 1) := by decide +kernel
theorem s19_66 (d : Nat) (l0 : Value) (l1 : Value) (l2 : Value) (l3 : Value) (x y : Int32) (σ : Hs) : ru d 19 66 [l0, l1, l2, l3] [.int y, .int x] σ = ru d 19 67 [l0, l1, l2, l3] [.int (x - y)] σ := q_isub t19_66
theorem t19_67 : decode (mb 19) 67 = .ok (.iconst 1, 1) := by decide +kernel
theorem s19_67 (d : Nat) (l0 : Value) (l1 : Value) (l2 : Value) (l3 : Value) (w0 : Value) (σ : Hs) : ru d 19 67 [l0, l1, l2, l3] [w0] σ = ru d 19 68 [l0, l1, l2, l3] [.int 1, w0] σ := q_iconst t19_67 (by decide +kernel)
theorem t19_68 : decode (mb 19) 68 = .ok (.isub, 1) := by decide +kernel
theorem s19_68 (d : Nat) (l0 : Value) (l1 : Value) (l2 : Value) (l3 : Value) (x y : Int32) (σ : Hs) : ru d 19 68 [l0, l1, l2, l3] [.int y, .int x] σ = ru d 19 69 [l0, l1, l2, l3] [.int (x - y)] σ := q_isub t19_68
theorem t19_69 : decode (mb 19) 69 = .ok (.iconst 0, 1) := by decide +kernel
theorem s19_69 (d : Nat) (l0 : Value) (l1 : Value) (l2 : Value) (l3 : Value) (w0 : Value) (σ : Hs) : ru d 19 69 [l0, l1, l2, l3] [w0] σ = ru d 19 70 [l0, l1, l2, l3] [.int 0, w0] σ := q_iconst t19_69 (by decide +kernel)
theorem t19_70 : decode (mb 19) 70 = .ok (.invokestatic 77, 3) := by decide +kernel
theorem s19_70 (d : Nat) (l0 : Value) (l1 : Value) (l2 : Value) (l3 : Value) (x y : Int32) (σ : Hs) : ru d 19 70 [l0, l1, l2, l3] [.int y, .int x] σ = ru d 19 73 [l0, l1, l2, l3] [.int (jmax x y)] σ := q_mx t19_70 mo19 (by decide +kernel) (by decide +kernel) (Nat.le_of_ble_eq_true rfl)
theorem t19_73 : decode (mb 19) 73 = .ok (.istore_n 2, 1) := by decide +kernel
theorem s19_73 (d : Nat) (l0 : Value) (i1 : Int32) (l2 : Value) (l3 : Value) (x : Int32) (σ : Hs) : ru d 19 73 [l0, .int i1, l2, l3] [.int x] σ = ru d 19 74 [l0, .int i1, .int x, l3] [] σ := q_istore_n t19_73 ⟨Nat.le_of_ble_eq_true rfl, rfl⟩ rfl
theorem t19_74 : decode (mb 19) 74 = .ok (.aload_n 0, 1) := by decide +kernel
theorem s19_74 (d : Nat) (a0 : Nat) (l1 : Value) (l2 : Value) (l3 : Value) (σ : Hs) : ru d 19 74 [.ref a0, l1, l2, l3] [] σ = ru d 19 75 [.ref a0, l1, l2, l3] [.ref a0] σ := q_aload_n t19_74 rfl
theorem t19_75 : decode (mb 19) 75 = .ok (.getfield 24, 3) := by decide +kernel
theorem s19_75_o2 (d : Nat) (l0 : Value) (l1 : Value) (l2 : Value) (l3 : Value) (σ : Hs) : ru d 19 75 [l0, l1, l2, l3] [.ref 2] σ = ru d 19 78 [l0, l1, l2, l3] [.ref 7] σ := q_getf t19_75 mo19 F0_24 rfl rfl
theorem s19_75_o59 (d : Nat) (l0 : Value) (l1 : Value) (l2 : Value) (l3 : Value) (σ : Hs) : ru d 19 75 [l0, l1, l2, l3] [.ref 59] σ = ru d 19 78 [l0, l1, l2, l3] [.ref 64] σ := q_getf t19_75 mo19 F0_24 rfl rfl
theorem t19_78 : decode (mb 19) 78 = .ok (.iload_n 1, 1) := by decide +kernel
theorem s19_78 (d : Nat) (l0 : Value) (i1 : Int32) (l2 : Value) (l3 : Value) (w0 : Value) (σ : Hs) : ru d 19 78 [l0, .int i1, l2, l3] [w0] σ = ru d 19 79 [l0, .int i1, l2, l3] [.int i1, w0] σ := q_iload_n t19_78 rfl
theorem t19_79 : decode (mb 19) 79 = .ok (.iload_n 2, 1) := by decide +kernel
theorem s19_79 (d : Nat) (l0 : Value) (l1 : Value) (i2 : Int32) (l3 : Value) (w0 w1 : Value) (σ : Hs) : ru d 19 79 [l0, l1, .int i2, l3] [w0, w1] σ = ru d 19 80 [l0, l1, .int i2, l3] [.int i2, w0, w1] σ := q_iload_n t19_79 rfl
theorem t19_80 : decode (mb 19) 80 = .ok (.iastore, 1) := by decide +kernel
theorem s19_80_o7 (d : Nat) (l0 : Value) (l1 : Value) (l2 : Value) (l3 : Value) (i x : Int32) (σ : Hs) : ru d 19 80 [l0, l1, l2, l3] [.int x, .int i, .ref 7] σ = gd (vp_in i 30) (ru d 19 81 [l0, l1, l2, l3] [] (up2 σ 7 i.toNatClampNeg x)) := q_iast t19_80 (by decide +kernel) rfl rfl
theorem s19_80_o64 (d : Nat) (l0 : Value) (l1 : Value) (l2 : Value) (l3 : Value) (i x : Int32) (σ : Hs) : ru d 19 80 [l0, l1, l2, l3] [.int x, .int i, .ref 64] σ = gd (vp_in i 30) (ru d 19 81 [l0, l1, l2, l3] [] (up2 σ 64 i.toNatClampNeg x)) := q_iast t19_80 (by decide +kernel) rfl rfl
theorem t19_81 : decode (mb 19) 81 = .ok (.iload_n 2, 1) := by decide +kernel
theorem s19_81 (d : Nat) (l0 : Value) (l1 : Value) (i2 : Int32) (l3 : Value) (σ : Hs) : ru d 19 81 [l0, l1, .int i2, l3] [] σ = ru d 19 82 [l0, l1, .int i2, l3] [.int i2] σ := q_iload_n t19_81 rfl
theorem t19_82 : decode (mb 19) 82 = .ok (.iconst 5, 1) := by decide +kernel
theorem s19_82 (d : Nat) (l0 : Value) (l1 : Value) (l2 : Value) (l3 : Value) (w0 : Value) (σ : Hs) : ru d 19 82 [l0, l1, l2, l3] [w0] σ = ru d 19 83 [l0, l1, l2, l3] [.int 5, w0] σ := q_iconst t19_82 (by decide +kernel)
theorem t19_83 : decode (mb 19) 83 = .ok (.if_icmp .lt 10, 3) := by decide +kernel
theorem s19_83 (d : Nat) (l0 : Value) (l1 : Value) (l2 : Value) (l3 : Value) (x y : Int32) (σ : Hs) : ru d 19 83 [l0, l1, l2, l3] [.int y, .int x] σ = if x < y then ru d 19 93 [l0, l1, l2, l3] [] σ else ru d 19 86 [l0, l1, l2, l3] [] σ := q_ic_lt t19_83 (by decide +kernel)
theorem t19_86 : decode (mb 19) 86 = .ok (.iload_n 3, 1) := by decide +kernel
theorem s19_86 (d : Nat) (l0 : Value) (l1 : Value) (l2 : Value) (i3 : Int32) (σ : Hs) : ru d 19 86 [l0, l1, l2, .int i3] [] σ = ru d 19 87 [l0, l1, l2, .int i3] [.int i3] σ := q_iload_n t19_86 rfl
theorem t19_87 : decode (mb 19) 87 = .ok (.sipush 700, 3) := by decide +kernel
theorem s19_87 (d : Nat) (l0 : Value) (l1 : Value) (l2 : Value) (l3 : Value) (w0 : Value) (σ : Hs) : ru d 19 87 [l0, l1, l2, l3] [w0] σ = ru d 19 90 [l0, l1, l2, l3] [.int 700, w0] σ := q_sipush t19_87 (by decide +kernel)
theorem t19_90 : decode (mb 19) 90 = .ok (.if_icmp .le 10, 3) := by decide +kernel
theorem s19_90 (d : Nat) (l0 : Value) (l1 : Value) (l2 : Value) (l3 : Value) (x y : Int32) (σ : Hs) : ru d 19 90 [l0, l1, l2, l3] [.int y, .int x] σ = if x ≤ y then ru d 19 100 [l0, l1, l2, l3] [] σ else ru d 19 93 [l0, l1, l2, l3] [] σ := q_ic_le t19_90 (by decide +kernel)
theorem t19_93 : decode (mb 19) 93 = .ok (.aload_n 0, 1) := by decide +kernel
theorem s19_93 (d : Nat) (a0 : Nat) (l1 : Value) (l2 : Value) (l3 : Value) (σ : Hs) : ru d 19 93 [.ref a0, l1, l2, l3] [] σ = ru d 19 94 [.ref a0, l1, l2, l3] [.ref a0] σ := q_aload_n t19_93 rfl
theorem t19_94 : decode (mb 19) 94 = .ok (.getfield 27, 3) := by decide +kernel
theorem s19_94_o2 (d : Nat) (l0 : Value) (l1 : Value) (l2 : Value) (l3 : Value) (σ : Hs) : ru d 19 94 [l0, l1, l2, l3] [.ref 2] σ = ru d 19 97 [l0, l1, l2, l3] [.ref 8] σ := q_getf t19_94 mo19 F0_27 rfl rfl
theorem s19_94_o59 (d : Nat) (l0 : Value) (l1 : Value) (l2 : Value) (l3 : Value) (σ : Hs) : ru d 19 94 [l0, l1, l2, l3] [.ref 59] σ = ru d 19 97 [l0, l1, l2, l3] [.ref 65] σ := q_getf t19_94 mo19 F0_27 rfl rfl
theorem t19_97 : decode (mb 19) 97 = .ok (.iload_n 1, 1) := by decide +kernel
theorem s19_97 (d : Nat) (l0 : Value) (i1 : Int32) (l2 : Value) (l3 : Value) (w0 : Value) (σ : Hs) : ru d 19 97 [l0, .int i1, l2, l3] [w0] σ = ru d 19 98 [l0, .int i1, l2, l3] [.int i1, w0] σ := q_iload_n t19_97 rfl
theorem t19_98 : decode (mb 19) 98 = .ok (.iconst 0, 1) := by decide +kernel
theorem s19_98 (d : Nat) (l0 : Value) (l1 : Value) (l2 : Value) (l3 : Value) (w0 w1 : Value) (σ : Hs) : ru d 19 98 [l0, l1, l2, l3] [w0, w1] σ = ru d 19 99 [l0, l1, l2, l3] [.int 0, w0, w1] σ := q_iconst t19_98 (by decide +kernel)
theorem t19_99 : decode (mb 19) 99 = .ok (.bastore, 1) := by decide +kernel
theorem s19_99_o8 (d : Nat) (l0 : Value) (l1 : Value) (l2 : Value) (l3 : Value) (i x : Int32) (σ : Hs) : ru d 19 99 [l0, l1, l2, l3] [.int x, .int i, .ref 8] σ = gd (vp_in i 30) (ru d 19 100 [l0, l1, l2, l3] [] (up2 σ 8 i.toNatClampNeg (vp_nar .boolean x))) := q_bast t19_99 (by decide +kernel) rfl rfl
theorem s19_99_o65 (d : Nat) (l0 : Value) (l1 : Value) (l2 : Value) (l3 : Value) (i x : Int32) (σ : Hs) : ru d 19 99 [l0, l1, l2, l3] [.int x, .int i, .ref 65] σ = gd (vp_in i 30) (ru d 19 100 [l0, l1, l2, l3] [] (up2 σ 65 i.toNatClampNeg (vp_nar .boolean x))) := q_bast t19_99 (by decide +kernel) rfl rfl
theorem t19_100 : decode (mb 19) 100 = .ok (.return_, 1) := by decide +kernel
theorem s19_100 (d : Nat) (l0 : Value) (l1 : Value) (l2 : Value) (l3 : Value) (σ : Hs) : ru d 19 100 [l0, l1, l2, l3] [] σ = some (none, σ) := q_vret t19_100 mr19
theorem c19 (d : Nat) (x0 : Nat) (x1 : Int32) (σ : Hs) : callD (d + 1) 19 [.ref x0, .int x1] σ = ru d 19 0 [.ref x0, .int x1, uu, uu] [] σ := callD_ru ml19 rfl rfl (Nat.le_of_ble_eq_true rfl)
-- 20: Heap.drift(ILSmokyHeap$Laws;)V
theorem t20_0 : decode (mb 20) 0 = .ok (.iload_n 1, 1) := by decide +kernel
theorem s20_0 (d : Nat) (l0 : Value) (i1 : Int32) (l2 : Value) (l3 : Value) (l4 : Value) (l5 : Value) (l6 : Value) (l7 : Value) (σ : Hs) : ru d 20 0 [l0, .int i1, l2, l3, l4, l5, l6, l7] [] σ = ru d 20 1 [l0, .int i1, l2, l3, l4, l5, l6, l7] [.int i1] σ := q_iload_n t20_0 rfl
theorem t20_1 : decode (mb 20) 1 = .ok (.ifCond .ne 4, 3) := by decide +kernel
theorem s20_1 (d : Nat) (l0 : Value) (l1 : Value) (l2 : Value) (l3 : Value) (l4 : Value) (l5 : Value) (l6 : Value) (l7 : Value) (x : Int32) (σ : Hs) : ru d 20 1 [l0, l1, l2, l3, l4, l5, l6, l7] [.int x] σ = if x = 0 then ru d 20 4 [l0, l1, l2, l3, l4, l5, l6, l7] [] σ else ru d 20 5 [l0, l1, l2, l3, l4, l5, l6, l7] [] σ := q_if_ne t20_1 (by decide +kernel)
theorem t20_4 : decode (mb 20) 4 = .ok (.return_, 1) := by decide +kernel
theorem s20_4 (d : Nat) (l0 : Value) (l1 : Value) (l2 : Value) (l3 : Value) (l4 : Value) (l5 : Value) (l6 : Value) (l7 : Value) (σ : Hs) : ru d 20 4 [l0, l1, l2, l3, l4, l5, l6, l7] [] σ = some (none, σ) := q_vret t20_4 mr20
theorem t20_5 : decode (mb 20) 5 = .ok (.aload_n 0, 1) := by decide +kernel
theorem s20_5 (d : Nat) (a0 : Nat) (l1 : Value) (l2 : Value) (l3 : Value) (l4 : Value) (l5 : Value) (l6 : Value) (l7 : Value) (σ : Hs) : ru d 20 5 [.ref a0, l1, l2, l3, l4, l5, l6, l7] [] σ = ru d 20 6 [.ref a0, l1, l2, l3, l4, l5, l6, l7] [.ref a0] σ := q_aload_n t20_5 rfl
theorem t20_6 : decode (mb 20) 6 = .ok (.invokevirtual 137, 3) := by decide +kernel
theorem s20_6_o2 (d : Nat) (l0 : Value) (l1 : Value) (l2 : Value) (l3 : Value) (l4 : Value) (l5 : Value) (l6 : Value) (l7 : Value) (σ : Hs) : ru d 20 6 [l0, l1, l2, l3, l4, l5, l6, l7] [.ref 2] σ = kont (callD d 5 [.ref 2] σ) d 20 9 [l0, l1, l2, l3, l4, l5, l6, l7] [] := q_invv t20_6 mo20 K0_137 mj5 rfl rfl rfl rfl (Nat.le_of_ble_eq_true rfl)
theorem s20_6_o59 (d : Nat) (l0 : Value) (l1 : Value) (l2 : Value) (l3 : Value) (l4 : Value) (l5 : Value) (l6 : Value) (l7 : Value) (σ : Hs) : ru d 20 6 [l0, l1, l2, l3, l4, l5, l6, l7] [.ref 59] σ = kont (callD d 5 [.ref 59] σ) d 20 9 [l0, l1, l2, l3, l4, l5, l6, l7] [] := q_invv t20_6 mo20 K0_137 mj5 rfl rfl rfl rfl (Nat.le_of_ble_eq_true rfl)
theorem t20_9 : decode (mb 20) 9 = .ok (.istore_n 3, 1) := by decide +kernel
theorem s20_9 (d : Nat) (l0 : Value) (l1 : Value) (a2 : Nat) (l3 : Value) (l4 : Value) (l5 : Value) (l6 : Value) (l7 : Value) (x : Int32) (σ : Hs) : ru d 20 9 [l0, l1, .ref a2, l3, l4, l5, l6, l7] [.int x] σ = ru d 20 10 [l0, l1, .ref a2, .int x, l4, l5, l6, l7] [] σ := q_istore_n t20_9 ⟨Nat.le_of_ble_eq_true rfl, rfl⟩ rfl
theorem t20_10 : decode (mb 20) 10 = .ok (.iload_n 1, 1) := by decide +kernel
theorem s20_10 (d : Nat) (l0 : Value) (i1 : Int32) (l2 : Value) (l3 : Value) (l4 : Value) (l5 : Value) (l6 : Value) (l7 : Value) (σ : Hs) : ru d 20 10 [l0, .int i1, l2, l3, l4, l5, l6, l7] [] σ = ru d 20 11 [l0, .int i1, l2, l3, l4, l5, l6, l7] [.int i1] σ := q_iload_n t20_10 rfl
theorem t20_11 : decode (mb 20) 11 = .ok (.aload_n 0, 1) := by decide +kernel
theorem s20_11 (d : Nat) (a0 : Nat) (l1 : Value) (l2 : Value) (l3 : Value) (l4 : Value) (l5 : Value) (l6 : Value) (l7 : Value) (w0 : Value) (σ : Hs) : ru d 20 11 [.ref a0, l1, l2, l3, l4, l5, l6, l7] [w0] σ = ru d 20 12 [.ref a0, l1, l2, l3, l4, l5, l6, l7] [.ref a0, w0] σ := q_aload_n t20_11 rfl
theorem t20_12 : decode (mb 20) 12 = .ok (.iload_n 1, 1) := by decide +kernel
theorem s20_12 (d : Nat) (l0 : Value) (i1 : Int32) (l2 : Value) (l3 : Value) (l4 : Value) (l5 : Value) (l6 : Value) (l7 : Value) (w0 w1 : Value) (σ : Hs) : ru d 20 12 [l0, .int i1, l2, l3, l4, l5, l6, l7] [w0, w1] σ = ru d 20 13 [l0, .int i1, l2, l3, l4, l5, l6, l7] [.int i1, w0, w1] σ := q_iload_n t20_12 rfl
theorem t20_13 : decode (mb 20) 13 = .ok (.iload_n 3, 1) := by decide +kernel
theorem s20_13 (d : Nat) (l0 : Value) (l1 : Value) (l2 : Value) (i3 : Int32) (l4 : Value) (l5 : Value) (l6 : Value) (l7 : Value) (w0 w1 w2 : Value) (σ : Hs) : ru d 20 13 [l0, l1, l2, .int i3, l4, l5, l6, l7] [w0, w1, w2] σ = ru d 20 14 [l0, l1, l2, .int i3, l4, l5, l6, l7] [.int i3, w0, w1, w2] σ := q_iload_n t20_13 rfl
theorem t20_14 : decode (mb 20) 14 = .ok (.aload_n 2, 1) := by decide +kernel
theorem s20_14 (d : Nat) (l0 : Value) (l1 : Value) (a2 : Nat) (l3 : Value) (l4 : Value) (l5 : Value) (l6 : Value) (l7 : Value) (w0 w1 w2 w3 : Value) (σ : Hs) : ru d 20 14 [l0, l1, .ref a2, l3, l4, l5, l6, l7] [w0, w1, w2, w3] σ = ru d 20 15 [l0, l1, .ref a2, l3, l4, l5, l6, l7] [.ref a2, w0, w1, w2, w3] σ := q_aload_n t20_14 rfl
theorem t20_15 : decode (mb 20) 15 = .ok (.invokevirtual 141, 3) := by decide +kernel
theorem s20_15_o2 (d : Nat) (l0 : Value) (l1 : Value) (l2 : Value) (l3 : Value) (l4 : Value) (l5 : Value) (l6 : Value) (l7 : Value) (v1 v2 v3 : Value) (w0 : Int32) (σ : Hs) : ru d 20 15 [l0, l1, l2, l3, l4, l5, l6, l7] [v3, v2, v1, .ref 2, .int w0] σ = kont (callD d 21 [.ref 2, v1, v2, v3] σ) d 20 18 [l0, l1, l2, l3, l4, l5, l6, l7] [.int w0] := q_invv t20_15 mo20 K0_141 mj21 rfl rfl rfl rfl (Nat.le_of_ble_eq_true rfl)
theorem s20_15_o59 (d : Nat) (l0 : Value) (l1 : Value) (l2 : Value) (l3 : Value) (l4 : Value) (l5 : Value) (l6 : Value) (l7 : Value) (v1 v2 v3 : Value) (w0 : Int32) (σ : Hs) : ru d 20 15 [l0, l1, l2, l3, l4, l5, l6, l7] [v3, v2, v1, .ref 59, .int w0] σ = kont (callD d 21 [.ref 59, v1, v2, v3] σ) d 20 18 [l0, l1, l2, l3, l4, l5, l6, l7] [.int w0] := q_invv t20_15 mo20 K0_141 mj21 rfl rfl rfl rfl (Nat.le_of_ble_eq_true rfl)
theorem t20_18 : decode (mb 20) 18 = .ok (.imul, 1) := by decide +kernel
theorem s20_18 (d : Nat) (l0 : Value) (l1 : Value) (l2 : Value) (l3 : Value) (l4 : Value) (l5 : Value) (l6 : Value) (l7 : Value) (x y : Int32) (σ : Hs) : ru d 20 18 [l0, l1, l2, l3, l4, l5, l6, l7] [.int y, .int x] σ = ru d 20 19 [l0, l1, l2, l3, l4, l5, l6, l7] [.int (x * y)] σ := q_imul t20_18
theorem t20_19 : decode (mb 20) 19 = .ok (.bipush 100, 2) := by decide +kernel
theorem s20_19 (d : Nat) (l0 : Value) (l1 : Value) (l2 : Value) (l3 : Value) (l4 : Value) (l5 : Value) (l6 : Value) (l7 : Value) (w0 : Value) (σ : Hs) : ru d 20 19 [l0, l1, l2, l3, l4, l5, l6, l7] [w0] σ = ru d 20 21 [l0, l1, l2, l3, l4, l5, l6, l7] [.int 100, w0] σ := q_bipush t20_19 (by decide +kernel)
theorem t20_21 : decode (mb 20) 21 = .ok (.idiv, 1) := by decide +kernel
theorem s20_21 (d : Nat) (l0 : Value) (l1 : Value) (l2 : Value) (l3 : Value) (l4 : Value) (l5 : Value) (l6 : Value) (l7 : Value) (x y : Int32) (σ : Hs) : ru d 20 21 [l0, l1, l2, l3, l4, l5, l6, l7] [.int y, .int x] σ = gd (¬ y = 0) (ru d 20 22 [l0, l1, l2, l3, l4, l5, l6, l7] [.int (x / y)] σ) := q_idiv t20_21
theorem t20_22 : decode (mb 20) 22 = .ok (.istore 4, 2) := by decide +kernel
theorem s20_22 (d : Nat) (l0 : Value) (l1 : Value) (l2 : Value) (i3 : Int32) (l4 : Value) (l5 : Value) (l6 : Value) (l7 : Value) (x : Int32) (σ : Hs) : ru d 20 22 [l0, l1, l2, .int i3, l4, l5, l6, l7] [.int x] σ = ru d 20 24 [l0, l1, l2, .int i3, .int x, l5, l6, l7] [] σ := q_istore t20_22 ⟨Nat.le_of_ble_eq_true rfl, rfl⟩ rfl
theorem t20_24 : decode (mb 20) 24 = .ok (.aload_n 0, 1) := by decide +kernel
theorem s20_24 (d : Nat) (a0 : Nat) (l1 : Value) (l2 : Value) (l3 : Value) (l4 : Value) (l5 : Value) (l6 : Value) (l7 : Value) (σ : Hs) : ru d 20 24 [.ref a0, l1, l2, l3, l4, l5, l6, l7] [] σ = ru d 20 25 [.ref a0, l1, l2, l3, l4, l5, l6, l7] [.ref a0] σ := q_aload_n t20_24 rfl
theorem t20_25 : decode (mb 20) 25 = .ok (.getfield 31, 3) := by decide +kernel
theorem s20_25_o2 (d : Nat) (l0 : Value) (l1 : Value) (l2 : Value) (l3 : Value) (l4 : Value) (l5 : Value) (l6 : Value) (l7 : Value) (σ : Hs) : ru d 20 25 [l0, l1, l2, l3, l4, l5, l6, l7] [.ref 2] σ = ru d 20 28 [l0, l1, l2, l3, l4, l5, l6, l7] [.ref 9] σ := q_getf t20_25 mo20 F0_31 rfl rfl
theorem s20_25_o59 (d : Nat) (l0 : Value) (l1 : Value) (l2 : Value) (l3 : Value) (l4 : Value) (l5 : Value) (l6 : Value) (l7 : Value) (σ : Hs) : ru d 20 25 [l0, l1, l2, l3, l4, l5, l6, l7] [.ref 59] σ = ru d 20 28 [l0, l1, l2, l3, l4, l5, l6, l7] [.ref 66] σ := q_getf t20_25 mo20 F0_31 rfl rfl
theorem t20_28 : decode (mb 20) 28 = .ok (.iconst 4, 1) := by decide +kernel
theorem s20_28 (d : Nat) (l0 : Value) (l1 : Value) (l2 : Value) (l3 : Value) (l4 : Value) (l5 : Value) (l6 : Value) (l7 : Value) (w0 : Value) (σ : Hs) : ru d 20 28 [l0, l1, l2, l3, l4, l5, l6, l7] [w0] σ = ru d 20 29 [l0, l1, l2, l3, l4, l5, l6, l7] [.int 4, w0] σ := q_iconst t20_28 (by decide +kernel)
theorem t20_29 : decode (mb 20) 29 = .ok (.iaload, 1) := by decide +kernel
theorem s20_29_o9 (d : Nat) (l0 : Value) (l1 : Value) (l2 : Value) (l3 : Value) (l4 : Value) (l5 : Value) (l6 : Value) (l7 : Value) (i : Int32) (σ : Hs) : ru d 20 29 [l0, l1, l2, l3, l4, l5, l6, l7] [.int i, .ref 9] σ = gd (vp_in i 5) (ru d 20 30 [l0, l1, l2, l3, l4, l5, l6, l7] [.int (σ 9 i.toNatClampNeg)] σ) := q_iald t20_29 rfl (by decide +kernel) rfl
theorem s20_29_o66 (d : Nat) (l0 : Value) (l1 : Value) (l2 : Value) (l3 : Value) (l4 : Value) (l5 : Value) (l6 : Value) (l7 : Value) (i : Int32) (σ : Hs) : ru d 20 29 [l0, l1, l2, l3, l4, l5, l6, l7] [.int i, .ref 66] σ = gd (vp_in i 5) (ru d 20 30 [l0, l1, l2, l3, l4, l5, l6, l7] [.int (σ 66 i.toNatClampNeg)] σ) := q_iald t20_29 rfl (by decide +kernel) rfl
theorem t20_30 : decode (mb 20) 30 = .ok (.istore 5, 2) := by decide +kernel
theorem s20_30 (d : Nat) (l0 : Value) (l1 : Value) (l2 : Value) (l3 : Value) (i4 : Int32) (l5 : Value) (l6 : Value) (l7 : Value) (x : Int32) (σ : Hs) : ru d 20 30 [l0, l1, l2, l3, .int i4, l5, l6, l7] [.int x] σ = ru d 20 32 [l0, l1, l2, l3, .int i4, .int x, l6, l7] [] σ := q_istore t20_30 ⟨Nat.le_of_ble_eq_true rfl, rfl⟩ rfl
theorem t20_32 : decode (mb 20) 32 = .ok (.iconst 0, 1) := by decide +kernel
theorem s20_32 (d : Nat) (l0 : Value) (l1 : Value) (l2 : Value) (l3 : Value) (l4 : Value) (l5 : Value) (l6 : Value) (l7 : Value) (σ : Hs) : ru d 20 32 [l0, l1, l2, l3, l4, l5, l6, l7] [] σ = ru d 20 33 [l0, l1, l2, l3, l4, l5, l6, l7] [.int 0] σ := q_iconst t20_32 (by decide +kernel)
theorem t20_33 : decode (mb 20) 33 = .ok (.istore 6, 2) := by decide +kernel
theorem s20_33 (d : Nat) (l0 : Value) (l1 : Value) (l2 : Value) (l3 : Value) (l4 : Value) (i5 : Int32) (l6 : Value) (l7 : Value) (x : Int32) (σ : Hs) : ru d 20 33 [l0, l1, l2, l3, l4, .int i5, l6, l7] [.int x] σ = ru d 20 35 [l0, l1, l2, l3, l4, .int i5, .int x, l7] [] σ := q_istore t20_33 ⟨Nat.le_of_ble_eq_true rfl, rfl⟩ rfl
theorem t20_35 : decode (mb 20) 35 = .ok (.iload 6, 2) := by decide +kernel
theorem s20_35 (d : Nat) (l0 : Value) (l1 : Value) (l2 : Value) (l3 : Value) (l4 : Value) (l5 : Value) (i6 : Int32) (l7 : Value) (σ : Hs) : ru d 20 35 [l0, l1, l2, l3, l4, l5, .int i6, l7] [] σ = ru d 20 37 [l0, l1, l2, l3, l4, l5, .int i6, l7] [.int i6] σ := q_iload t20_35 rfl
theorem t20_37 : decode (mb 20) 37 = .ok (.iconst 3, 1) := by decide +kernel
theorem s20_37 (d : Nat) (l0 : Value) (l1 : Value) (l2 : Value) (l3 : Value) (l4 : Value) (l5 : Value) (l6 : Value) (l7 : Value) (w0 : Value) (σ : Hs) : ru d 20 37 [l0, l1, l2, l3, l4, l5, l6, l7] [w0] σ = ru d 20 38 [l0, l1, l2, l3, l4, l5, l6, l7] [.int 3, w0] σ := q_iconst t20_37 (by decide +kernel)
theorem t20_38 : decode (mb 20) 38 = .ok (.if_icmp .ge 101, 3) := by decide +kernel
theorem s20_38 (d : Nat) (l0 : Value) (l1 : Value) (l2 : Value) (l3 : Value) (l4 : Value) (l5 : Value) (l6 : Value) (l7 : Value) (x y : Int32) (σ : Hs) : ru d 20 38 [l0, l1, l2, l3, l4, l5, l6, l7] [.int y, .int x] σ = if y ≤ x then ru d 20 139 [l0, l1, l2, l3, l4, l5, l6, l7] [] σ else ru d 20 41 [l0, l1, l2, l3, l4, l5, l6, l7] [] σ := q_ic_ge t20_38 (by decide +kernel)
theorem t20_41 : decode (mb 20) 41 = .ok (.iload 5, 2) := by decide +kernel
theorem s20_41 (d : Nat) (l0 : Value) (l1 : Value) (l2 : Value) (l3 : Value) (l4 : Value) (i5 : Int32) (l6 : Value) (l7 : Value) (σ : Hs) : ru d 20 41 [l0, l1, l2, l3, l4, .int i5, l6, l7] [] σ = ru d 20 43 [l0, l1, l2, l3, l4, .int i5, l6, l7] [.int i5] σ := q_iload t20_41 rfl
theorem t20_43 : decode (mb 20) 43 = .ok (.invokestatic 145, 3) := by decide +kernel
theorem s20_43 (d : Nat) (l0 : Value) (l1 : Value) (l2 : Value) (l3 : Value) (l4 : Value) (l5 : Value) (l6 : Value) (l7 : Value) (v0 : Value) (σ : Hs) : ru d 20 43 [l0, l1, l2, l3, l4, l5, l6, l7] [v0] σ = kont (callD d 106 [v0] σ) d 20 46 [l0, l1, l2, l3, l4, l5, l6, l7] [] := q_invs t20_43 mo20 (by decide +kernel) K0_145 mj106 (Nat.le_of_ble_eq_true rfl) rfl rfl (Nat.le_of_ble_eq_true rfl)
theorem t20_46 : decode (mb 20) 46 = .ok (.ifCond .eq 93, 3) := by decide +kernel
theorem s20_46 (d : Nat) (l0 : Value) (l1 : Value) (l2 : Value) (l3 : Value) (l4 : Value) (l5 : Value) (l6 : Value) (l7 : Value) (x : Int32) (σ : Hs) : ru d 20 46 [l0, l1, l2, l3, l4, l5, l6, l7] [.int x] σ = if x = 0 then ru d 20 139 [l0, l1, l2, l3, l4, l5, l6, l7] [] σ else ru d 20 49 [l0, l1, l2, l3, l4, l5, l6, l7] [] σ := q_if_eq t20_46 (by decide +kernel)
theorem t20_49 : decode (mb 20) 49 = .ok (.iload 4, 2) := by decide +kernel
theorem s20_49 (d : Nat) (l0 : Value) (l1 : Value) (l2 : Value) (l3 : Value) (i4 : Int32) (l5 : Value) (l6 : Value) (l7 : Value) (σ : Hs) : ru d 20 49 [l0, l1, l2, l3, .int i4, l5, l6, l7] [] σ = ru d 20 51 [l0, l1, l2, l3, .int i4, l5, l6, l7] [.int i4] σ := q_iload t20_49 rfl
theorem t20_51 : decode (mb 20) 51 = .ok (.iconst 2, 1) := by decide +kernel
theorem s20_51 (d : Nat) (l0 : Value) (l1 : Value) (l2 : Value) (l3 : Value) (l4 : Value) (l5 : Value) (l6 : Value) (l7 : Value) (w0 : Value) (σ : Hs) : ru d 20 51 [l0, l1, l2, l3, l4, l5, l6, l7] [w0] σ = ru d 20 52 [l0, l1, l2, l3, l4, l5, l6, l7] [.int 2, w0] σ := q_iconst t20_51 (by decide +kernel)
theorem t20_52 : decode (mb 20) 52 = .ok (.idiv, 1) := by decide +kernel
theorem s20_52 (d : Nat) (l0 : Value) (l1 : Value) (l2 : Value) (l3 : Value) (l4 : Value) (l5 : Value) (l6 : Value) (l7 : Value) (x y : Int32) (σ : Hs) : ru d 20 52 [l0, l1, l2, l3, l4, l5, l6, l7] [.int y, .int x] σ = gd (¬ y = 0) (ru d 20 53 [l0, l1, l2, l3, l4, l5, l6, l7] [.int (x / y)] σ) := q_idiv t20_52
theorem t20_53 : decode (mb 20) 53 = .ok (.istore 7, 2) := by decide +kernel
theorem s20_53 (d : Nat) (l0 : Value) (l1 : Value) (l2 : Value) (l3 : Value) (l4 : Value) (l5 : Value) (i6 : Int32) (l7 : Value) (x : Int32) (σ : Hs) : ru d 20 53 [l0, l1, l2, l3, l4, l5, .int i6, l7] [.int x] σ = ru d 20 55 [l0, l1, l2, l3, l4, l5, .int i6, .int x] [] σ := q_istore t20_53 ⟨Nat.le_of_ble_eq_true rfl, rfl⟩ rfl
theorem t20_55 : decode (mb 20) 55 = .ok (.aload_n 0, 1) := by decide +kernel
theorem s20_55 (d : Nat) (a0 : Nat) (l1 : Value) (l2 : Value) (l3 : Value) (l4 : Value) (l5 : Value) (l6 : Value) (l7 : Value) (σ : Hs) : ru d 20 55 [.ref a0, l1, l2, l3, l4, l5, l6, l7] [] σ = ru d 20 56 [.ref a0, l1, l2, l3, l4, l5, l6, l7] [.ref a0] σ := q_aload_n t20_55 rfl
theorem t20_56 : decode (mb 20) 56 = .ok (.getfield 37, 3) := by decide +kernel
theorem s20_56_o2 (d : Nat) (l0 : Value) (l1 : Value) (l2 : Value) (l3 : Value) (l4 : Value) (l5 : Value) (l6 : Value) (l7 : Value) (σ : Hs) : ru d 20 56 [l0, l1, l2, l3, l4, l5, l6, l7] [.ref 2] σ = ru d 20 59 [l0, l1, l2, l3, l4, l5, l6, l7] [.ref 11] σ := q_getf t20_56 mo20 F0_37 rfl rfl
theorem s20_56_o59 (d : Nat) (l0 : Value) (l1 : Value) (l2 : Value) (l3 : Value) (l4 : Value) (l5 : Value) (l6 : Value) (l7 : Value) (σ : Hs) : ru d 20 56 [l0, l1, l2, l3, l4, l5, l6, l7] [.ref 59] σ = ru d 20 59 [l0, l1, l2, l3, l4, l5, l6, l7] [.ref 68] σ := q_getf t20_56 mo20 F0_37 rfl rfl
theorem t20_59 : decode (mb 20) 59 = .ok (.iload 5, 2) := by decide +kernel
theorem s20_59 (d : Nat) (l0 : Value) (l1 : Value) (l2 : Value) (l3 : Value) (l4 : Value) (i5 : Int32) (l6 : Value) (l7 : Value) (w0 : Value) (σ : Hs) : ru d 20 59 [l0, l1, l2, l3, l4, .int i5, l6, l7] [w0] σ = ru d 20 61 [l0, l1, l2, l3, l4, .int i5, l6, l7] [.int i5, w0] σ := q_iload t20_59 rfl
theorem t20_61 : decode (mb 20) 61 = .ok (.aload_n 0, 1) := by decide +kernel
theorem s20_61 (d : Nat) (a0 : Nat) (l1 : Value) (l2 : Value) (l3 : Value) (l4 : Value) (l5 : Value) (l6 : Value) (l7 : Value) (w0 w1 : Value) (σ : Hs) : ru d 20 61 [.ref a0, l1, l2, l3, l4, l5, l6, l7] [w0, w1] σ = ru d 20 62 [.ref a0, l1, l2, l3, l4, l5, l6, l7] [.ref a0, w0, w1] σ := q_aload_n t20_61 rfl
theorem t20_62 : decode (mb 20) 62 = .ok (.getfield 37, 3) := by decide +kernel
theorem s20_62_o2 (d : Nat) (l0 : Value) (l1 : Value) (l2 : Value) (l3 : Value) (l4 : Value) (l5 : Value) (l6 : Value) (l7 : Value) (w0 w1 : Value) (σ : Hs) : ru d 20 62 [l0, l1, l2, l3, l4, l5, l6, l7] [.ref 2, w0, w1] σ = ru d 20 65 [l0, l1, l2, l3, l4, l5, l6, l7] [.ref 11, w0, w1] σ := q_getf t20_62 mo20 F0_37 rfl rfl
theorem s20_62_o59 (d : Nat) (l0 : Value) (l1 : Value) (l2 : Value) (l3 : Value) (l4 : Value) (l5 : Value) (l6 : Value) (l7 : Value) (w0 w1 : Value) (σ : Hs) : ru d 20 62 [l0, l1, l2, l3, l4, l5, l6, l7] [.ref 59, w0, w1] σ = ru d 20 65 [l0, l1, l2, l3, l4, l5, l6, l7] [.ref 68, w0, w1] σ := q_getf t20_62 mo20 F0_37 rfl rfl
theorem t20_65 : decode (mb 20) 65 = .ok (.iload 5, 2) := by decide +kernel
theorem s20_65 (d : Nat) (l0 : Value) (l1 : Value) (l2 : Value) (l3 : Value) (l4 : Value) (i5 : Int32) (l6 : Value) (l7 : Value) (w0 w1 w2 : Value) (σ : Hs) : ru d 20 65 [l0, l1, l2, l3, l4, .int i5, l6, l7] [w0, w1, w2] σ = ru d 20 67 [l0, l1, l2, l3, l4, .int i5, l6, l7] [.int i5, w0, w1, w2] σ := q_iload t20_65 rfl
theorem t20_67 : decode (mb 20) 67 = .ok (.iaload, 1) := by decide +kernel
theorem s20_67_o11 (d : Nat) (l0 : Value) (l1 : Value) (l2 : Value) (l3 : Value) (l4 : Value) (l5 : Value) (l6 : Value) (l7 : Value) (i : Int32) (w0 w1 : Value) (σ : Hs) : ru d 20 67 [l0, l1, l2, l3, l4, l5, l6, l7] [.int i, .ref 11, w0, w1] σ = gd (vp_in i 9) (ru d 20 68 [l0, l1, l2, l3, l4, l5, l6, l7] [.int (σ 11 i.toNatClampNeg), w0, w1] σ) := q_iald t20_67 rfl (by decide +kernel) rfl
theorem s20_67_o68 (d : Nat) (l0 : Value) (l1 : Value) (l2 : Value) (l3 : Value) (l4 : Value) (l5 : Value) (l6 : Value) (l7 : Value) (i : Int32) (w0 w1 : Value) (σ : Hs) : ru d 20 67 [l0, l1, l2, l3, l4, l5, l6, l7] [.int i, .ref 68, w0, w1] σ = gd (vp_in i 9) (ru d 20 68 [l0, l1, l2, l3, l4, l5, l6, l7] [.int (σ 68 i.toNatClampNeg), w0, w1] σ) := q_iald t20_67 rfl (by decide +kernel) rfl
theorem t20_68 : decode (mb 20) 68 = .ok (.iload 7, 2) := by decide +kernel
theorem s20_68 (d : Nat) (l0 : Value) (l1 : Value) (l2 : Value) (l3 : Value) (l4 : Value) (l5 : Value) (l6 : Value) (i7 : Int32) (w0 w1 w2 : Value) (σ : Hs) : ru d 20 68 [l0, l1, l2, l3, l4, l5, l6, .int i7] [w0, w1, w2] σ = ru d 20 70 [l0, l1, l2, l3, l4, l5, l6, .int i7] [.int i7, w0, w1, w2] σ := q_iload t20_68 rfl
theorem t20_70 : decode (mb 20) 70 = .ok (.iadd, 1) := by decide +kernel
theorem s20_70 (d : Nat) (l0 : Value) (l1 : Value) (l2 : Value) (l3 : Value) (l4 : Value) (l5 : Value) (l6 : Value) (l7 : Value) (x y : Int32) (w0 w1 : Value) (σ : Hs) : ru d 20 70 [l0, l1, l2, l3, l4, l5, l6, l7] [.int y, .int x, w0, w1] σ = ru d 20 71 [l0, l1, l2, l3, l4, l5, l6, l7] [.int (x + y), w0, w1] σ := q_iadd t20_70
theorem t20_71 : decode (mb 20) 71 = .ok (.ldc 98, 2) := by decide +kernel
theorem s20_71 (d : Nat) (l0 : Value) (l1 : Value) (l2 : Value) (l3 : Value) (l4 : Value) (l5 : Value) (l6 : Value) (l7 : Value) (w0 w1 w2 : Value) (σ : Hs) : ru d 20 71 [l0, l1, l2, l3, l4, l5, l6, l7] [w0, w1, w2] σ = ru d 20 73 [l0, l1, l2, l3, l4, l5, l6, l7] [.int 1999999999, w0, w1, w2] σ := q_ldc t20_71 mo20 C0_98
theorem t20_73 : decode (mb 20) 73 = .ok (.invokestatic 83, 3) := by decide +kernel
theorem s20_73 (d : Nat) (l0 : Value) (l1 : Value) (l2 : Value) (l3 : Value) (l4 : Value) (l5 : Value) (l6 : Value) (l7 : Value) (x y : Int32) (w0 : Int32) (w1 : Nat) (σ : Hs) : ru d 20 73 [l0, l1, l2, l3, l4, l5, l6, l7] [.int y, .int x, .int w0, .ref w1] σ = ru d 20 76 [l0, l1, l2, l3, l4, l5, l6, l7] [.int (jmin x y), .int w0, .ref w1] σ := q_mi t20_73 mo20 (by decide +kernel) (by decide +kernel) (by decide +kernel) (Nat.le_of_ble_eq_true rfl)
theorem t20_76 : decode (mb 20) 76 = .ok (.iastore, 1) := by decide +kernel
theorem s20_76_o11 (d : Nat) (l0 : Value) (l1 : Value) (l2 : Value) (l3 : Value) (l4 : Value) (l5 : Value) (l6 : Value) (l7 : Value) (i x : Int32) (σ : Hs) : ru d 20 76 [l0, l1, l2, l3, l4, l5, l6, l7] [.int x, .int i, .ref 11] σ = gd (vp_in i 9) (ru d 20 77 [l0, l1, l2, l3, l4, l5, l6, l7] [] (up2 σ 11 i.toNatClampNeg x)) := q_iast t20_76 (by decide +kernel) rfl rfl
theorem s20_76_o68 (d : Nat) (l0 : Value) (l1 : Value) (l2 : Value) (l3 : Value) (l4 : Value) (l5 : Value) (l6 : Value) (l7 : Value) (i x : Int32) (σ : Hs) : ru d 20 76 [l0, l1, l2, l3, l4, l5, l6, l7] [.int x, .int i, .ref 68] σ = gd (vp_in i 9) (ru d 20 77 [l0, l1, l2, l3, l4, l5, l6, l7] [] (up2 σ 68 i.toNatClampNeg x)) := q_iast t20_76 (by decide +kernel) rfl rfl
theorem t20_77 : decode (mb 20) 77 = .ok (.aload_n 0, 1) := by decide +kernel
theorem s20_77 (d : Nat) (a0 : Nat) (l1 : Value) (l2 : Value) (l3 : Value) (l4 : Value) (l5 : Value) (l6 : Value) (l7 : Value) (σ : Hs) : ru d 20 77 [.ref a0, l1, l2, l3, l4, l5, l6, l7] [] σ = ru d 20 78 [.ref a0, l1, l2, l3, l4, l5, l6, l7] [.ref a0] σ := q_aload_n t20_77 rfl
theorem t20_78 : decode (mb 20) 78 = .ok (.getfield 34, 3) := by decide +kernel
theorem s20_78_o2 (d : Nat) (l0 : Value) (l1 : Value) (l2 : Value) (l3 : Value) (l4 : Value) (l5 : Value) (l6 : Value) (l7 : Value) (σ : Hs) : ru d 20 78 [l0, l1, l2, l3, l4, l5, l6, l7] [.ref 2] σ = ru d 20 81 [l0, l1, l2, l3, l4, l5, l6, l7] [.ref 10] σ := q_getf t20_78 mo20 F0_34 rfl rfl
theorem s20_78_o59 (d : Nat) (l0 : Value) (l1 : Value) (l2 : Value) (l3 : Value) (l4 : Value) (l5 : Value) (l6 : Value) (l7 : Value) (σ : Hs) : ru d 20 78 [l0, l1, l2, l3, l4, l5, l6, l7] [.ref 59] σ = ru d 20 81 [l0, l1, l2, l3, l4, l5, l6, l7] [.ref 67] σ := q_getf t20_78 mo20 F0_34 rfl rfl
theorem t20_81 : decode (mb 20) 81 = .ok (.iload 5, 2) := by decide +kernel
theorem s20_81 (d : Nat) (l0 : Value) (l1 : Value) (l2 : Value) (l3 : Value) (l4 : Value) (i5 : Int32) (l6 : Value) (l7 : Value) (w0 : Value) (σ : Hs) : ru d 20 81 [l0, l1, l2, l3, l4, .int i5, l6, l7] [w0] σ = ru d 20 83 [l0, l1, l2, l3, l4, .int i5, l6, l7] [.int i5, w0] σ := q_iload t20_81 rfl
theorem t20_83 : decode (mb 20) 83 = .ok (.iaload, 1) := by decide +kernel
theorem s20_83_o10 (d : Nat) (l0 : Value) (l1 : Value) (l2 : Value) (l3 : Value) (l4 : Value) (l5 : Value) (l6 : Value) (l7 : Value) (i : Int32) (σ : Hs) : ru d 20 83 [l0, l1, l2, l3, l4, l5, l6, l7] [.int i, .ref 10] σ = gd (vp_in i 9) (ru d 20 84 [l0, l1, l2, l3, l4, l5, l6, l7] [.int (σ 10 i.toNatClampNeg)] σ) := q_iald t20_83 rfl (by decide +kernel) rfl
theorem s20_83_o67 (d : Nat) (l0 : Value) (l1 : Value) (l2 : Value) (l3 : Value) (l4 : Value) (l5 : Value) (l6 : Value) (l7 : Value) (i : Int32) (σ : Hs) : ru d 20 83 [l0, l1, l2, l3, l4, l5, l6, l7] [.int i, .ref 67] σ = gd (vp_in i 9) (ru d 20 84 [l0, l1, l2, l3, l4, l5, l6, l7] [.int (σ 67 i.toNatClampNeg)] σ) := q_iald t20_83 rfl (by decide +kernel) rfl
theorem t20_84 : decode (mb 20) 84 = .ok (.iload_n 3, 1) := by decide +kernel
theorem s20_84 (d : Nat) (l0 : Value) (l1 : Value) (l2 : Value) (i3 : Int32) (l4 : Value) (l5 : Value) (l6 : Value) (l7 : Value) (w0 : Value) (σ : Hs) : ru d 20 84 [l0, l1, l2, .int i3, l4, l5, l6, l7] [w0] σ = ru d 20 85 [l0, l1, l2, .int i3, l4, l5, l6, l7] [.int i3, w0] σ := q_iload_n t20_84 rfl
theorem t20_85 : decode (mb 20) 85 = .ok (.ishr, 1) := by decide +kernel
theorem s20_85 (d : Nat) (l0 : Value) (l1 : Value) (l2 : Value) (l3 : Value) (l4 : Value) (l5 : Value) (l6 : Value) (l7 : Value) (x y : Int32) (σ : Hs) : ru d 20 85 [l0, l1, l2, l3, l4, l5, l6, l7] [.int y, .int x] σ = ru d 20 86 [l0, l1, l2, l3, l4, l5, l6, l7] [.int (x >>> (y &&& 31))] σ := q_ishr t20_85
theorem t20_86 : decode (mb 20) 86 = .ok (.iconst 1, 1) := by decide +kernel
theorem s20_86 (d : Nat) (l0 : Value) (l1 : Value) (l2 : Value) (l3 : Value) (l4 : Value) (l5 : Value) (l6 : Value) (l7 : Value) (w0 : Value) (σ : Hs) : ru d 20 86 [l0, l1, l2, l3, l4, l5, l6, l7] [w0] σ = ru d 20 87 [l0, l1, l2, l3, l4, l5, l6, l7] [.int 1, w0] σ := q_iconst t20_86 (by decide +kernel)
theorem t20_87 : decode (mb 20) 87 = .ok (.iand, 1) := by decide +kernel
theorem s20_87 (d : Nat) (l0 : Value) (l1 : Value) (l2 : Value) (l3 : Value) (l4 : Value) (l5 : Value) (l6 : Value) (l7 : Value) (x y : Int32) (σ : Hs) : ru d 20 87 [l0, l1, l2, l3, l4, l5, l6, l7] [.int y, .int x] σ = ru d 20 88 [l0, l1, l2, l3, l4, l5, l6, l7] [.int (x &&& y)] σ := q_iand t20_87
theorem t20_88 : decode (mb 20) 88 = .ok (.ifCond .eq 25, 3) := by decide +kernel
theorem s20_88 (d : Nat) (l0 : Value) (l1 : Value) (l2 : Value) (l3 : Value) (l4 : Value) (l5 : Value) (l6 : Value) (l7 : Value) (x : Int32) (σ : Hs) : ru d 20 88 [l0, l1, l2, l3, l4, l5, l6, l7] [.int x] σ = if x = 0 then ru d 20 113 [l0, l1, l2, l3, l4, l5, l6, l7] [] σ else ru d 20 91 [l0, l1, l2, l3, l4, l5, l6, l7] [] σ := q_if_eq t20_88 (by decide +kernel)
theorem t20_91 : decode (mb 20) 91 = .ok (.aload_n 0, 1) := by decide +kernel
theorem s20_91 (d : Nat) (a0 : Nat) (l1 : Value) (l2 : Value) (l3 : Value) (l4 : Value) (l5 : Value) (l6 : Value) (l7 : Value) (σ : Hs) : ru d 20 91 [.ref a0, l1, l2, l3, l4, l5, l6, l7] [] σ = ru d 20 92 [.ref a0, l1, l2, l3, l4, l5, l6, l7] [.ref a0] σ := q_aload_n t20_91 rfl
theorem t20_92 : decode (mb 20) 92 = .ok (.getfield 40, 3) := by decide +kernel
theorem s20_92_o2 (d : Nat) (l0 : Value) (l1 : Value) (l2 : Value) (l3 : Value) (l4 : Value) (l5 : Value) (l6 : Value) (l7 : Value) (σ : Hs) : ru d 20 92 [l0, l1, l2, l3, l4, l5, l6, l7] [.ref 2] σ = ru d 20 95 [l0, l1, l2, l3, l4, l5, l6, l7] [.ref 12] σ := q_getf t20_92 mo20 F0_40 rfl rfl
theorem s20_92_o59 (d : Nat) (l0 : Value) (l1 : Value) (l2 : Value) (l3 : Value) (l4 : Value) (l5 : Value) (l6 : Value) (l7 : Value) (σ : Hs) : ru d 20 92 [l0, l1, l2, l3, l4, l5, l6, l7] [.ref 59] σ = ru d 20 95 [l0, l1, l2, l3, l4, l5, l6, l7] [.ref 69] σ := q_getf t20_92 mo20 F0_40 rfl rfl
theorem t20_95 : decode (mb 20) 95 = .ok (.iload 5, 2) := by decide +kernel
theorem s20_95 (d : Nat) (l0 : Value) (l1 : Value) (l2 : Value) (l3 : Value) (l4 : Value) (i5 : Int32) (l6 : Value) (l7 : Value) (w0 : Value) (σ : Hs) : ru d 20 95 [l0, l1, l2, l3, l4, .int i5, l6, l7] [w0] σ = ru d 20 97 [l0, l1, l2, l3, l4, .int i5, l6, l7] [.int i5, w0] σ := q_iload t20_95 rfl
theorem t20_97 : decode (mb 20) 97 = .ok (.aload_n 0, 1) := by decide +kernel
theorem s20_97 (d : Nat) (a0 : Nat) (l1 : Value) (l2 : Value) (l3 : Value) (l4 : Value) (l5 : Value) (l6 : Value) (l7 : Value) (w0 w1 : Value) (σ : Hs) : ru d 20 97 [.ref a0, l1, l2, l3, l4, l5, l6, l7] [w0, w1] σ = ru d 20 98 [.ref a0, l1, l2, l3, l4, l5, l6, l7] [.ref a0, w0, w1] σ := q_aload_n t20_97 rfl
theorem t20_98 : decode (mb 20) 98 = .ok (.getfield 40, 3) := by decide +kernel
theorem s20_98_o2 (d : Nat) (l0 : Value) (l1 : Value) (l2 : Value) (l3 : Value) (l4 : Value) (l5 : Value) (l6 : Value) (l7 : Value) (w0 w1 : Value) (σ : Hs) : ru d 20 98 [l0, l1, l2, l3, l4, l5, l6, l7] [.ref 2, w0, w1] σ = ru d 20 101 [l0, l1, l2, l3, l4, l5, l6, l7] [.ref 12, w0, w1] σ := q_getf t20_98 mo20 F0_40 rfl rfl
theorem s20_98_o59 (d : Nat) (l0 : Value) (l1 : Value) (l2 : Value) (l3 : Value) (l4 : Value) (l5 : Value) (l6 : Value) (l7 : Value) (w0 w1 : Value) (σ : Hs) : ru d 20 98 [l0, l1, l2, l3, l4, l5, l6, l7] [.ref 59, w0, w1] σ = ru d 20 101 [l0, l1, l2, l3, l4, l5, l6, l7] [.ref 69, w0, w1] σ := q_getf t20_98 mo20 F0_40 rfl rfl
theorem t20_101 : decode (mb 20) 101 = .ok (.iload 5, 2) := by decide +kernel
theorem s20_101 (d : Nat) (l0 : Value) (l1 : Value) (l2 : Value) (l3 : Value) (l4 : Value) (i5 : Int32) (l6 : Value) (l7 : Value) (w0 w1 w2 : Value) (σ : Hs) : ru d 20 101 [l0, l1, l2, l3, l4, .int i5, l6, l7] [w0, w1, w2] σ = ru d 20 103 [l0, l1, l2, l3, l4, .int i5, l6, l7] [.int i5, w0, w1, w2] σ := q_iload t20_101 rfl
theorem t20_103 : decode (mb 20) 103 = .ok (.iaload, 1) := by decide +kernel
theorem s20_103_o12 (d : Nat) (l0 : Value) (l1 : Value) (l2 : Value) (l3 : Value) (l4 : Value) (l5 : Value) (l6 : Value) (l7 : Value) (i : Int32) (w0 w1 : Value) (σ : Hs) : ru d 20 103 [l0, l1, l2, l3, l4, l5, l6, l7] [.int i, .ref 12, w0, w1] σ = gd (vp_in i 9) (ru d 20 104 [l0, l1, l2, l3, l4, l5, l6, l7] [.int (σ 12 i.toNatClampNeg), w0, w1] σ) := q_iald t20_103 rfl (by decide +kernel) rfl
theorem s20_103_o69 (d : Nat) (l0 : Value) (l1 : Value) (l2 : Value) (l3 : Value) (l4 : Value) (l5 : Value) (l6 : Value) (l7 : Value) (i : Int32) (w0 w1 : Value) (σ : Hs) : ru d 20 103 [l0, l1, l2, l3, l4, l5, l6, l7] [.int i, .ref 69, w0, w1] σ = gd (vp_in i 9) (ru d 20 104 [l0, l1, l2, l3, l4, l5, l6, l7] [.int (σ 69 i.toNatClampNeg), w0, w1] σ) := q_iald t20_103 rfl (by decide +kernel) rfl
theorem t20_104 : decode (mb 20) 104 = .ok (.iload 7, 2) := by decide +kernel
theorem s20_104 (d : Nat) (l0 : Value) (l1 : Value) (l2 : Value) (l3 : Value) (l4 : Value) (l5 : Value) (l6 : Value) (i7 : Int32) (w0 w1 w2 : Value) (σ : Hs) : ru d 20 104 [l0, l1, l2, l3, l4, l5, l6, .int i7] [w0, w1, w2] σ = ru d 20 106 [l0, l1, l2, l3, l4, l5, l6, .int i7] [.int i7, w0, w1, w2] σ := q_iload t20_104 rfl
theorem t20_106 : decode (mb 20) 106 = .ok (.iadd, 1) := by decide +kernel
theorem s20_106 (d : Nat) (l0 : Value) (l1 : Value) (l2 : Value) (l3 : Value) (l4 : Value) (l5 : Value) (l6 : Value) (l7 : Value) (x y : Int32) (w0 w1 : Value) (σ : Hs) : ru d 20 106 [l0, l1, l2, l3, l4, l5, l6, l7] [.int y, .int x, w0, w1] σ = ru d 20 107 [l0, l1, l2, l3, l4, l5, l6, l7] [.int (x + y), w0, w1] σ := q_iadd t20_106
theorem t20_107 : decode (mb 20) 107 = .ok (.ldc 98, 2) := by decide +kernel
theorem s20_107 (d : Nat) (l0 : Value) (l1 : Value) (l2 : Value) (l3 : Value) (l4 : Value) (l5 : Value) (l6 : Value) (l7 : Value) (w0 w1 w2 : Value) (σ : Hs) : ru d 20 107 [l0, l1, l2, l3, l4, l5, l6, l7] [w0, w1, w2] σ = ru d 20 109 [l0, l1, l2, l3, l4, l5, l6, l7] [.int 1999999999, w0, w1, w2] σ := q_ldc t20_107 mo20 C0_98
theorem t20_109 : decode (mb 20) 109 = .ok (.invokestatic 83, 3) := by decide +kernel
theorem s20_109 (d : Nat) (l0 : Value) (l1 : Value) (l2 : Value) (l3 : Value) (l4 : Value) (l5 : Value) (l6 : Value) (l7 : Value) (x y : Int32) (w0 : Int32) (w1 : Nat) (σ : Hs) : ru d 20 109 [l0, l1, l2, l3, l4, l5, l6, l7] [.int y, .int x, .int w0, .ref w1] σ = ru d 20 112 [l0, l1, l2, l3, l4, l5, l6, l7] [.int (jmin x y), .int w0, .ref w1] σ := q_mi t20_109 mo20 (by decide +kernel) (by decide +kernel) (by decide +kernel) (Nat.le_of_ble_eq_true rfl)
theorem t20_112 : decode (mb 20) 112 = .ok (.iastore, 1) := by decide +kernel
theorem s20_112_o12 (d : Nat) (l0 : Value) (l1 : Value) (l2 : Value) (l3 : Value) (l4 : Value) (l5 : Value) (l6 : Value) (l7 : Value) (i x : Int32) (σ : Hs) : ru d 20 112 [l0, l1, l2, l3, l4, l5, l6, l7] [.int x, .int i, .ref 12] σ = gd (vp_in i 9) (ru d 20 113 [l0, l1, l2, l3, l4, l5, l6, l7] [] (up2 σ 12 i.toNatClampNeg x)) := q_iast t20_112 (by decide +kernel) rfl rfl
theorem s20_112_o69 (d : Nat) (l0 : Value) (l1 : Value) (l2 : Value) (l3 : Value) (l4 : Value) (l5 : Value) (l6 : Value) (l7 : Value) (i x : Int32) (σ : Hs) : ru d 20 112 [l0, l1, l2, l3, l4, l5, l6, l7] [.int x, .int i, .ref 69] σ = gd (vp_in i 9) (ru d 20 113 [l0, l1, l2, l3, l4, l5, l6, l7] [] (up2 σ 69 i.toNatClampNeg x)) := q_iast t20_112 (by decide +kernel) rfl rfl
theorem t20_113 : decode (mb 20) 113 = .ok (.iload 4, 2) := by decide +kernel
theorem s20_113 (d : Nat) (l0 : Value) (l1 : Value) (l2 : Value) (l3 : Value) (i4 : Int32) (l5 : Value) (l6 : Value) (l7 : Value) (σ : Hs) : ru d 20 113 [l0, l1, l2, l3, .int i4, l5, l6, l7] [] σ = ru d 20 115 [l0, l1, l2, l3, .int i4, l5, l6, l7] [.int i4] σ := q_iload t20_113 rfl
theorem t20_115 : decode (mb 20) 115 = .ok (.iload 7, 2) := by decide +kernel
theorem s20_115 (d : Nat) (l0 : Value) (l1 : Value) (l2 : Value) (l3 : Value) (l4 : Value) (l5 : Value) (l6 : Value) (i7 : Int32) (w0 : Value) (σ : Hs) : ru d 20 115 [l0, l1, l2, l3, l4, l5, l6, .int i7] [w0] σ = ru d 20 117 [l0, l1, l2, l3, l4, l5, l6, .int i7] [.int i7, w0] σ := q_iload t20_115 rfl
theorem t20_117 : decode (mb 20) 117 = .ok (.isub, 1) := by decide +kernel
theorem s20_117 (d : Nat) (l0 : Value) (l1 : Value) (l2 : Value) (l3 : Value) (l4 : Value) (l5 : Value) (l6 : Value) (l7 : Value) (x y : Int32) (σ : Hs) : ru d 20 117 [l0, l1, l2, l3, l4, l5, l6, l7] [.int y, .int x] σ = ru d 20 118 [l0, l1, l2, l3, l4, l5, l6, l7] [.int (x - y)] σ := q_isub t20_117
theorem t20_118 : decode (mb 20) 118 = .ok (.istore 4, 2) := by decide +kernel
theorem s20_118 (d : Nat) (l0 : Value) (l1 : Value) (l2 : Value) (i3 : Int32) (l4 : Value) (l5 : Value) (l6 : Value) (l7 : Value) (x : Int32) (σ : Hs) : ru d 20 118 [l0, l1, l2, .int i3, l4, l5, l6, l7] [.int x] σ = ru d 20 120 [l0, l1, l2, .int i3, .int x, l5, l6, l7] [] σ := q_istore t20_118 ⟨Nat.le_of_ble_eq_true rfl, rfl⟩ rfl
theorem t20_120 : decode (mb 20) 120 = .ok (.iload 5, 2) := by decide +kernel
theorem s20_120 (d : Nat) (l0 : Value) (l1 : Value) (l2 : Value) (l3 : Value) (l4 : Value) (i5 : Int32) (l6 : Value) (l7 : Value) (σ : Hs) : ru d 20 120 [l0, l1, l2, l3, l4, .int i5, l6, l7] [] σ = ru d 20 122 [l0, l1, l2, l3, l4, .int i5, l6, l7] [.int i5] σ := q_iload t20_120 rfl
theorem t20_122 : decode (mb 20) 122 = .ok (.aload_n 0, 1) := by decide +kernel
theorem s20_122 (d : Nat) (a0 : Nat) (l1 : Value) (l2 : Value) (l3 : Value) (l4 : Value) (l5 : Value) (l6 : Value) (l7 : Value) (w0 : Value) (σ : Hs) : ru d 20 122 [.ref a0, l1, l2, l3, l4, l5, l6, l7] [w0] σ = ru d 20 123 [.ref a0, l1, l2, l3, l4, l5, l6, l7] [.ref a0, w0] σ := q_aload_n t20_122 rfl
theorem t20_123 : decode (mb 20) 123 = .ok (.getfield 31, 3) := by decide +kernel
theorem s20_123_o2 (d : Nat) (l0 : Value) (l1 : Value) (l2 : Value) (l3 : Value) (l4 : Value) (l5 : Value) (l6 : Value) (l7 : Value) (w0 : Value) (σ : Hs) : ru d 20 123 [l0, l1, l2, l3, l4, l5, l6, l7] [.ref 2, w0] σ = ru d 20 126 [l0, l1, l2, l3, l4, l5, l6, l7] [.ref 9, w0] σ := q_getf t20_123 mo20 F0_31 rfl rfl
theorem s20_123_o59 (d : Nat) (l0 : Value) (l1 : Value) (l2 : Value) (l3 : Value) (l4 : Value) (l5 : Value) (l6 : Value) (l7 : Value) (w0 : Value) (σ : Hs) : ru d 20 123 [l0, l1, l2, l3, l4, l5, l6, l7] [.ref 59, w0] σ = ru d 20 126 [l0, l1, l2, l3, l4, l5, l6, l7] [.ref 66, w0] σ := q_getf t20_123 mo20 F0_31 rfl rfl
theorem t20_126 : decode (mb 20) 126 = .ok (.iconst 2, 1) := by decide +kernel
theorem s20_126 (d : Nat) (l0 : Value) (l1 : Value) (l2 : Value) (l3 : Value) (l4 : Value) (l5 : Value) (l6 : Value) (l7 : Value) (w0 w1 : Value) (σ : Hs) : ru d 20 126 [l0, l1, l2, l3, l4, l5, l6, l7] [w0, w1] σ = ru d 20 127 [l0, l1, l2, l3, l4, l5, l6, l7] [.int 2, w0, w1] σ := q_iconst t20_126 (by decide +kernel)
theorem t20_127 : decode (mb 20) 127 = .ok (.iaload, 1) := by decide +kernel
theorem s20_127_o9 (d : Nat) (l0 : Value) (l1 : Value) (l2 : Value) (l3 : Value) (l4 : Value) (l5 : Value) (l6 : Value) (l7 : Value) (i : Int32) (w0 : Value) (σ : Hs) : ru d 20 127 [l0, l1, l2, l3, l4, l5, l6, l7] [.int i, .ref 9, w0] σ = gd (vp_in i 5) (ru d 20 128 [l0, l1, l2, l3, l4, l5, l6, l7] [.int (σ 9 i.toNatClampNeg), w0] σ) := q_iald t20_127 rfl (by decide +kernel) rfl
theorem s20_127_o66 (d : Nat) (l0 : Value) (l1 : Value) (l2 : Value) (l3 : Value) (l4 : Value) (l5 : Value) (l6 : Value) (l7 : Value) (i : Int32) (w0 : Value) (σ : Hs) : ru d 20 127 [l0, l1, l2, l3, l4, l5, l6, l7] [.int i, .ref 66, w0] σ = gd (vp_in i 5) (ru d 20 128 [l0, l1, l2, l3, l4, l5, l6, l7] [.int (σ 66 i.toNatClampNeg), w0] σ) := q_iald t20_127 rfl (by decide +kernel) rfl
theorem t20_128 : decode (mb 20) 128 = .ok (.invokestatic 148, 3) := by decide +kernel
theorem s20_128 (d : Nat) (l0 : Value) (l1 : Value) (l2 : Value) (l3 : Value) (l4 : Value) (l5 : Value) (l6 : Value) (l7 : Value) (v0 v1 : Value) (σ : Hs) : ru d 20 128 [l0, l1, l2, l3, l4, l5, l6, l7] [v1, v0] σ = kont (callD d 110 [v0, v1] σ) d 20 131 [l0, l1, l2, l3, l4, l5, l6, l7] [] := q_invs t20_128 mo20 (by decide +kernel) K0_148 mj110 (Nat.le_of_ble_eq_true rfl) rfl rfl (Nat.le_of_ble_eq_true rfl)
theorem t20_131 : decode (mb 20) 131 = .ok (.istore 5, 2) := by decide +kernel
theorem s20_131 (d : Nat) (l0 : Value) (l1 : Value) (l2 : Value) (l3 : Value) (i4 : Int32) (l5 : Value) (l6 : Value) (l7 : Value) (x : Int32) (σ : Hs) : ru d 20 131 [l0, l1, l2, l3, .int i4, l5, l6, l7] [.int x] σ = ru d 20 133 [l0, l1, l2, l3, .int i4, .int x, l6, l7] [] σ := q_istore t20_131 ⟨Nat.le_of_ble_eq_true rfl, rfl⟩ rfl
theorem t20_133 : decode (mb 20) 133 = .ok (.iinc 6 1, 3) := by decide +kernel
theorem s20_133 (d : Nat) (l0 : Value) (l1 : Value) (l2 : Value) (l3 : Value) (l4 : Value) (i5 : Int32) (i6 : Int32) (l7 : Value) (σ : Hs) : ru d 20 133 [l0, l1, l2, l3, l4, .int i5, .int i6, l7] [] σ = ru d 20 136 [l0, l1, l2, l3, l4, .int i5, .int (i6 + 1), l7] [] σ := q_iinc t20_133 ⟨Nat.le_of_ble_eq_true rfl, rfl⟩ rfl (by decide +kernel) rfl
theorem t20_136 : decode (mb 20) 136 = .ok (.goto (-101), 3) := by decide +kernel
theorem s20_136 (d : Nat) (l0 : Value) (l1 : Value) (l2 : Value) (l3 : Value) (l4 : Value) (l5 : Value) (l6 : Value) (l7 : Value) (σ : Hs) : ru d 20 136 [l0, l1, l2, l3, l4, l5, l6, l7] [] σ = ru d 20 35 [l0, l1, l2, l3, l4, l5, l6, l7] [] σ := q_goto t20_136 (by decide +kernel)
theorem t20_139 : decode (mb 20) 139 = .ok (.return_, 1) := by decide +kernel
theorem s20_139 (d : Nat) (l0 : Value) (l1 : Value) (l2 : Value) (l3 : Value) (l4 : Value) (l5 : Value) (l6 : Value) (l7 : Value) (σ : Hs) : ru d 20 139 [l0, l1, l2, l3, l4, l5, l6, l7] [] σ = some (none, σ) := q_vret t20_139 mr20
theorem c20 (d : Nat) (x0 : Nat) (x1 : Int32) (x2 : Nat) (σ : Hs) : callD (d + 1) 20 [.ref x0, .int x1, .ref x2] σ = ru d 20 0 [.ref x0, .int x1, .ref x2, uu, uu, uu, uu, uu] [] σ := callD_ru ml20 rfl rfl (Nat.le_of_ble_eq_true rfl)
-- 21: Heap.lyingOf(IILSmokyHeap$Laws;)I
theorem t21_0 : decode (mb 21) 0 = .ok (.aload_n 3, 1) := by decide +kernel
theorem s21_0 (d : Nat) (l0 : Value) (l1 : Value) (l2 : Value) (a3 : Nat) (σ : Hs) : ru d 21 0 [l0, l1, l2, .ref a3] [] σ = ru d 21 1 [l0, l1, l2, .ref a3] [.ref a3] σ := q_aload_n t21_0 rfl
theorem t21_1 : decode (mb 21) 1 = .ok (.iconst 2, 1) := by decide +kernel
theorem s21_1 (d : Nat) (l0 : Value) (l1 : Value) (l2 : Value) (l3 : Value) (w0 : Value) (σ : Hs) : ru d 21 1 [l0, l1, l2, l3] [w0] σ = ru d 21 2 [l0, l1, l2, l3] [.int 2, w0] σ := q_iconst t21_1 (by decide +kernel)
theorem t21_2 : decode (mb 21) 2 = .ok (.invokevirtual 116, 3) := by decide +kernel
theorem s21_2_o13 (d : Nat) (l0 : Value) (l1 : Value) (l2 : Value) (l3 : Value) (v1 : Value) (σ : Hs) : ru d 21 2 [l0, l1, l2, l3] [v1, .ref 13] σ = kont (callD d 30 [.ref 13, v1] σ) d 21 5 [l0, l1, l2, l3] [] := q_invv t21_2 mo21 K0_116 mj30 rfl rfl rfl rfl (Nat.le_of_ble_eq_true rfl)
theorem t21_5 : decode (mb 21) 5 = .ok (.ifCond .ne 23, 3) := by decide +kernel
theorem s21_5 (d : Nat) (l0 : Value) (l1 : Value) (l2 : Value) (l3 : Value) (x : Int32) (σ : Hs) : ru d 21 5 [l0, l1, l2, l3] [.int x] σ = if x = 0 then ru d 21 8 [l0, l1, l2, l3] [] σ else ru d 21 28 [l0, l1, l2, l3] [] σ := q_if_ne t21_5 (by decide +kernel)
theorem t21_8 : decode (mb 21) 8 = .ok (.iload_n 2, 1) := by decide +kernel
theorem s21_8 (d : Nat) (l0 : Value) (l1 : Value) (i2 : Int32) (l3 : Value) (σ : Hs) : ru d 21 8 [l0, l1, .int i2, l3] [] σ = ru d 21 9 [l0, l1, .int i2, l3] [.int i2] σ := q_iload_n t21_8 rfl
theorem t21_9 : decode (mb 21) 9 = .ok (.bipush 18, 2) := by decide +kernel
theorem s21_9 (d : Nat) (l0 : Value) (l1 : Value) (l2 : Value) (l3 : Value) (w0 : Value) (σ : Hs) : ru d 21 9 [l0, l1, l2, l3] [w0] σ = ru d 21 11 [l0, l1, l2, l3] [.int 18, w0] σ := q_bipush t21_9 (by decide +kernel)
theorem t21_11 : decode (mb 21) 11 = .ok (.if_icmp .ge 9, 3) := by decide +kernel
theorem s21_11 (d : Nat) (l0 : Value) (l1 : Value) (l2 : Value) (l3 : Value) (x y : Int32) (σ : Hs) : ru d 21 11 [l0, l1, l2, l3] [.int y, .int x] σ = if y ≤ x then ru d 21 20 [l0, l1, l2, l3] [] σ else ru d 21 14 [l0, l1, l2, l3] [] σ := q_ic_ge t21_11 (by decide +kernel)
theorem t21_14 : decode (mb 21) 14 = .ok (.iload_n 2, 1) := by decide +kernel
theorem s21_14 (d : Nat) (l0 : Value) (l1 : Value) (i2 : Int32) (l3 : Value) (σ : Hs) : ru d 21 14 [l0, l1, .int i2, l3] [] σ = ru d 21 15 [l0, l1, .int i2, l3] [.int i2] σ := q_iload_n t21_14 rfl
theorem t21_15 : decode (mb 21) 15 = .ok (.bipush 6, 2) := by decide +kernel
theorem s21_15 (d : Nat) (l0 : Value) (l1 : Value) (l2 : Value) (l3 : Value) (w0 : Value) (σ : Hs) : ru d 21 15 [l0, l1, l2, l3] [w0] σ = ru d 21 17 [l0, l1, l2, l3] [.int 6, w0] σ := q_bipush t21_15 (by decide +kernel)
theorem t21_17 : decode (mb 21) 17 = .ok (.if_icmp .ge 8, 3) := by decide +kernel
theorem s21_17 (d : Nat) (l0 : Value) (l1 : Value) (l2 : Value) (l3 : Value) (x y : Int32) (σ : Hs) : ru d 21 17 [l0, l1, l2, l3] [.int y, .int x] σ = if y ≤ x then ru d 21 25 [l0, l1, l2, l3] [] σ else ru d 21 20 [l0, l1, l2, l3] [] σ := q_ic_ge t21_17 (by decide +kernel)
theorem t21_20 : decode (mb 21) 20 = .ok (.bipush 90, 2) := by decide +kernel
theorem s21_20 (d : Nat) (l0 : Value) (l1 : Value) (l2 : Value) (l3 : Value) (σ : Hs) : ru d 21 20 [l0, l1, l2, l3] [] σ = ru d 21 22 [l0, l1, l2, l3] [.int 90] σ := q_bipush t21_20 (by decide +kernel)
theorem t21_22 : decode (mb 21) 22 = .ok (.goto 5, 3) := by decide +kernel
theorem s21_22 (d : Nat) (l0 : Value) (l1 : Value) (l2 : Value) (l3 : Value) (w0 : Value) (σ : Hs) : ru d 21 22 [l0, l1, l2, l3] [w0] σ = ru d 21 27 [l0, l1, l2, l3] [w0] σ := q_goto t21_22 (by decide +kernel)
theorem t21_25 : decode (mb 21) 25 = .ok (.bipush 40, 2) := by decide +kernel
theorem s21_25 (d : Nat) (l0 : Value) (l1 : Value) (l2 : Value) (l3 : Value) (σ : Hs) : ru d 21 25 [l0, l1, l2, l3] [] σ = ru d 21 27 [l0, l1, l2, l3] [.int 40] σ := q_bipush t21_25 (by decide +kernel)
theorem t21_27 : decode (mb 21) 27 = .ok (.ireturn, 1) := by decide +kernel
theorem s21_27 (d : Nat) (l0 : Value) (l1 : Value) (l2 : Value) (l3 : Value) (x : Int32) (σ : Hs) : ru d 21 27 [l0, l1, l2, l3] [.int x] σ = some (some (.int x), σ) := q_ireti t21_27 mr21
theorem t21_28 : decode (mb 21) 28 = .ok (.iconst 0, 1) := by decide +kernel
theorem s21_28 (d : Nat) (l0 : Value) (l1 : Value) (l2 : Value) (l3 : Value) (σ : Hs) : ru d 21 28 [l0, l1, l2, l3] [] σ = ru d 21 29 [l0, l1, l2, l3] [.int 0] σ := q_iconst t21_28 (by decide +kernel)
theorem t21_29 : decode (mb 21) 29 = .ok (.aload_n 3, 1) := by decide +kernel
theorem s21_29 (d : Nat) (l0 : Value) (l1 : Value) (l2 : Value) (a3 : Nat) (w0 : Value) (σ : Hs) : ru d 21 29 [l0, l1, l2, .ref a3] [w0] σ = ru d 21 30 [l0, l1, l2, .ref a3] [.ref a3, w0] σ := q_aload_n t21_29 rfl
theorem t21_30 : decode (mb 21) 30 = .ok (.iconst 2, 1) := by decide +kernel
theorem s21_30 (d : Nat) (l0 : Value) (l1 : Value) (l2 : Value) (l3 : Value) (w0 w1 : Value) (σ : Hs) : ru d 21 30 [l0, l1, l2, l3] [w0, w1] σ = ru d 21 31 [l0, l1, l2, l3] [.int 2, w0, w1] σ := q_iconst t21_30 (by decide +kernel)
theorem t21_31 : decode (mb 21) 31 = .ok (.iload_n 2, 1) := by decide +kernel
theorem s21_31 (d : Nat) (l0 : Value) (l1 : Value) (i2 : Int32) (l3 : Value) (w0 w1 w2 : Value) (σ : Hs) : ru d 21 31 [l0, l1, .int i2, l3] [w0, w1, w2] σ = ru d 21 32 [l0, l1, .int i2, l3] [.int i2, w0, w1, w2] σ := q_iload_n t21_31 rfl
theorem t21_32 : decode (mb 21) 32 = .ok (.aload_n 0, 1) := by decide +kernel
theorem s21_32 (d : Nat) (a0 : Nat) (l1 : Value) (l2 : Value) (l3 : Value) (w0 w1 w2 w3 : Value) (σ : Hs) : ru d 21 32 [.ref a0, l1, l2, l3] [w0, w1, w2, w3] σ = ru d 21 33 [.ref a0, l1, l2, l3] [.ref a0, w0, w1, w2, w3] σ := q_aload_n t21_32 rfl
theorem t21_33 : decode (mb 21) 33 = .ok (.getfield 31, 3) := by decide +kernel
theorem s21_33_o2 (d : Nat) (l0 : Value) (l1 : Value) (l2 : Value) (l3 : Value) (w0 w1 w2 w3 : Value) (σ : Hs) : ru d 21 33 [l0, l1, l2, l3] [.ref 2, w0, w1, w2, w3] σ = ru d 21 36 [l0, l1, l2, l3] [.ref 9, w0, w1, w2, w3] σ := q_getf t21_33 mo21 F0_31 rfl rfl
theorem s21_33_o59 (d : Nat) (l0 : Value) (l1 : Value) (l2 : Value) (l3 : Value) (w0 w1 w2 w3 : Value) (σ : Hs) : ru d 21 33 [l0, l1, l2, l3] [.ref 59, w0, w1, w2, w3] σ = ru d 21 36 [l0, l1, l2, l3] [.ref 66, w0, w1, w2, w3] σ := q_getf t21_33 mo21 F0_31 rfl rfl
theorem t21_36 : decode (mb 21) 36 = .ok (.iconst 1, 1) := by decide +kernel
theorem s21_36 (d : Nat) (l0 : Value) (l1 : Value) (l2 : Value) (l3 : Value) (w0 w1 w2 w3 w4 : Value) (σ : Hs) : ru d 21 36 [l0, l1, l2, l3] [w0, w1, w2, w3, w4] σ = ru d 21 37 [l0, l1, l2, l3] [.int 1, w0, w1, w2, w3, w4] σ := q_iconst t21_36 (by decide +kernel)
theorem t21_37 : decode (mb 21) 37 = .ok (.iaload, 1) := by decide +kernel
theorem s21_37_o9 (d : Nat) (l0 : Value) (l1 : Value) (l2 : Value) (l3 : Value) (i : Int32) (w0 w1 w2 w3 : Value) (σ : Hs) : ru d 21 37 [l0, l1, l2, l3] [.int i, .ref 9, w0, w1, w2, w3] σ = gd (vp_in i 5) (ru d 21 38 [l0, l1, l2, l3] [.int (σ 9 i.toNatClampNeg), w0, w1, w2, w3] σ) := q_iald t21_37 rfl (by decide +kernel) rfl
theorem s21_37_o66 (d : Nat) (l0 : Value) (l1 : Value) (l2 : Value) (l3 : Value) (i : Int32) (w0 w1 w2 w3 : Value) (σ : Hs) : ru d 21 37 [l0, l1, l2, l3] [.int i, .ref 66, w0, w1, w2, w3] σ = gd (vp_in i 5) (ru d 21 38 [l0, l1, l2, l3] [.int (σ 66 i.toNatClampNeg), w0, w1, w2, w3] σ) := q_iald t21_37 rfl (by decide +kernel) rfl
theorem t21_38 : decode (mb 21) 38 = .ok (.iload_n 1, 1) := by decide +kernel
theorem s21_38 (d : Nat) (l0 : Value) (i1 : Int32) (l2 : Value) (l3 : Value) (w0 w1 w2 w3 w4 : Value) (σ : Hs) : ru d 21 38 [l0, .int i1, l2, l3] [w0, w1, w2, w3, w4] σ = ru d 21 39 [l0, .int i1, l2, l3] [.int i1, w0, w1, w2, w3, w4] σ := q_iload_n t21_38 rfl
theorem t21_39 : decode (mb 21) 39 = .ok (.iconst 0, 1) := by decide +kernel
theorem s21_39 (d : Nat) (l0 : Value) (l1 : Value) (l2 : Value) (l3 : Value) (w0 w1 w2 w3 w4 w5 : Value) (σ : Hs) : ru d 21 39 [l0, l1, l2, l3] [w0, w1, w2, w3, w4, w5] σ = ru d 21 40 [l0, l1, l2, l3] [.int 0, w0, w1, w2, w3, w4, w5] σ := q_iconst t21_39 (by decide +kernel)
theorem t21_40 : decode (mb 21) 40 = .ok (.invokevirtual 121, 3) := by decide +kernel
theorem s21_40_o13 (d : Nat) (l0 : Value) (l1 : Value) (l2 : Value) (l3 : Value) (v1 v2 v3 v4 v5 : Value) (w0 : Int32) (σ : Hs) : ru d 21 40 [l0, l1, l2, l3] [v5, v4, v3, v2, v1, .ref 13, .int w0] σ = kont (callD d 32 [.ref 13, v1, v2, v3, v4, v5] σ) d 21 43 [l0, l1, l2, l3] [.int w0] := q_invv t21_40 mo21 K0_121 mj32 rfl rfl rfl rfl (Nat.le_of_ble_eq_true rfl)
theorem t21_43 : decode (mb 21) 43 = .ok (.bipush 100, 2) := by decide +kernel
theorem s21_43 (d : Nat) (l0 : Value) (l1 : Value) (l2 : Value) (l3 : Value) (w0 w1 : Value) (σ : Hs) : ru d 21 43 [l0, l1, l2, l3] [w0, w1] σ = ru d 21 45 [l0, l1, l2, l3] [.int 100, w0, w1] σ := q_bipush t21_43 (by decide +kernel)
theorem t21_45 : decode (mb 21) 45 = .ok (.invokestatic 83, 3) := by decide +kernel
theorem s21_45 (d : Nat) (l0 : Value) (l1 : Value) (l2 : Value) (l3 : Value) (x y : Int32) (w0 : Int32) (σ : Hs) : ru d 21 45 [l0, l1, l2, l3] [.int y, .int x, .int w0] σ = ru d 21 48 [l0, l1, l2, l3] [.int (jmin x y), .int w0] σ := q_mi t21_45 mo21 (by decide +kernel) (by decide +kernel) (by decide +kernel) (Nat.le_of_ble_eq_true rfl)
theorem t21_48 : decode (mb 21) 48 = .ok (.invokestatic 77, 3) := by decide +kernel
theorem s21_48 (d : Nat) (l0 : Value) (l1 : Value) (l2 : Value) (l3 : Value) (x y : Int32) (σ : Hs) : ru d 21 48 [l0, l1, l2, l3] [.int y, .int x] σ = ru d 21 51 [l0, l1, l2, l3] [.int (jmax x y)] σ := q_mx t21_48 mo21 (by decide +kernel) (by decide +kernel) (Nat.le_of_ble_eq_true rfl)
theorem t21_51 : decode (mb 21) 51 = .ok (.ireturn, 1) := by decide +kernel
theorem s21_51 (d : Nat) (l0 : Value) (l1 : Value) (l2 : Value) (l3 : Value) (x : Int32) (σ : Hs) : ru d 21 51 [l0, l1, l2, l3] [.int x] σ = some (some (.int x), σ) := q_ireti t21_51 mr21
theorem c21 (d : Nat) (x0 : Nat) (x1 : Int32) (x2 : Int32) (x3 : Nat) (σ : Hs) : callD (d + 1) 21 [.ref x0, .int x1, .int x2, .ref x3] σ = ru d 21 0 [.ref x0, .int x1, .int x2, .ref x3] [] σ := callD_ru ml21 rfl rfl (Nat.le_of_ble_eq_true rfl)
-- 22: Heap.botheredInAll()I
theorem t22_0 : decode (mb 22) 0 = .ok (.iconst 0, 1) := by decide +kernel
theorem s22_0 (d : Nat) (l0 : Value) (l1 : Value) (l2 : Value) (σ : Hs) : ru d 22 0 [l0, l1, l2] [] σ = ru d 22 1 [l0, l1, l2] [.int 0] σ := q_iconst t22_0 (by decide +kernel)
theorem t22_1 : decode (mb 22) 1 = .ok (.istore_n 1, 1) := by decide +kernel
theorem s22_1 (d : Nat) (a0 : Nat) (l1 : Value) (l2 : Value) (x : Int32) (σ : Hs) : ru d 22 1 [.ref a0, l1, l2] [.int x] σ = ru d 22 2 [.ref a0, .int x, l2] [] σ := q_istore_n t22_1 ⟨Nat.le_of_ble_eq_true rfl, rfl⟩ rfl
theorem t22_2 : decode (mb 22) 2 = .ok (.iconst 0, 1) := by decide +kernel
theorem s22_2 (d : Nat) (l0 : Value) (l1 : Value) (l2 : Value) (σ : Hs) : ru d 22 2 [l0, l1, l2] [] σ = ru d 22 3 [l0, l1, l2] [.int 0] σ := q_iconst t22_2 (by decide +kernel)
theorem t22_3 : decode (mb 22) 3 = .ok (.istore_n 2, 1) := by decide +kernel
theorem s22_3 (d : Nat) (l0 : Value) (i1 : Int32) (l2 : Value) (x : Int32) (σ : Hs) : ru d 22 3 [l0, .int i1, l2] [.int x] σ = ru d 22 4 [l0, .int i1, .int x] [] σ := q_istore_n t22_3 ⟨Nat.le_of_ble_eq_true rfl, rfl⟩ rfl
theorem t22_4 : decode (mb 22) 4 = .ok (.iload_n 2, 1) := by decide +kernel
theorem s22_4 (d : Nat) (l0 : Value) (l1 : Value) (i2 : Int32) (σ : Hs) : ru d 22 4 [l0, l1, .int i2] [] σ = ru d 22 5 [l0, l1, .int i2] [.int i2] σ := q_iload_n t22_4 rfl
theorem t22_5 : decode (mb 22) 5 = .ok (.bipush 9, 2) := by decide +kernel
theorem s22_5 (d : Nat) (l0 : Value) (l1 : Value) (l2 : Value) (w0 : Value) (σ : Hs) : ru d 22 5 [l0, l1, l2] [w0] σ = ru d 22 7 [l0, l1, l2] [.int 9, w0] σ := q_bipush t22_5 (by decide +kernel)
theorem t22_7 : decode (mb 22) 7 = .ok (.if_icmp .ge 18, 3) := by decide +kernel
theorem s22_7 (d : Nat) (l0 : Value) (l1 : Value) (l2 : Value) (x y : Int32) (σ : Hs) : ru d 22 7 [l0, l1, l2] [.int y, .int x] σ = if y ≤ x then ru d 22 25 [l0, l1, l2] [] σ else ru d 22 10 [l0, l1, l2] [] σ := q_ic_ge t22_7 (by decide +kernel)
theorem t22_10 : decode (mb 22) 10 = .ok (.iload_n 1, 1) := by decide +kernel
theorem s22_10 (d : Nat) (l0 : Value) (i1 : Int32) (l2 : Value) (σ : Hs) : ru d 22 10 [l0, .int i1, l2] [] σ = ru d 22 11 [l0, .int i1, l2] [.int i1] σ := q_iload_n t22_10 rfl
theorem t22_11 : decode (mb 22) 11 = .ok (.aload_n 0, 1) := by decide +kernel
theorem s22_11 (d : Nat) (a0 : Nat) (l1 : Value) (l2 : Value) (w0 : Value) (σ : Hs) : ru d 22 11 [.ref a0, l1, l2] [w0] σ = ru d 22 12 [.ref a0, l1, l2] [.ref a0, w0] σ := q_aload_n t22_11 rfl
theorem t22_12 : decode (mb 22) 12 = .ok (.getfield 40, 3) := by decide +kernel
theorem s22_12_o2 (d : Nat) (l0 : Value) (l1 : Value) (l2 : Value) (w0 : Value) (σ : Hs) : ru d 22 12 [l0, l1, l2] [.ref 2, w0] σ = ru d 22 15 [l0, l1, l2] [.ref 12, w0] σ := q_getf t22_12 mo22 F0_40 rfl rfl
theorem s22_12_o59 (d : Nat) (l0 : Value) (l1 : Value) (l2 : Value) (w0 : Value) (σ : Hs) : ru d 22 12 [l0, l1, l2] [.ref 59, w0] σ = ru d 22 15 [l0, l1, l2] [.ref 69, w0] σ := q_getf t22_12 mo22 F0_40 rfl rfl
theorem t22_15 : decode (mb 22) 15 = .ok (.iload_n 2, 1) := by decide +kernel
theorem s22_15 (d : Nat) (l0 : Value) (l1 : Value) (i2 : Int32) (w0 w1 : Value) (σ : Hs) : ru d 22 15 [l0, l1, .int i2] [w0, w1] σ = ru d 22 16 [l0, l1, .int i2] [.int i2, w0, w1] σ := q_iload_n t22_15 rfl
theorem t22_16 : decode (mb 22) 16 = .ok (.iaload, 1) := by decide +kernel
theorem s22_16_o12 (d : Nat) (l0 : Value) (l1 : Value) (l2 : Value) (i : Int32) (w0 : Value) (σ : Hs) : ru d 22 16 [l0, l1, l2] [.int i, .ref 12, w0] σ = gd (vp_in i 9) (ru d 22 17 [l0, l1, l2] [.int (σ 12 i.toNatClampNeg), w0] σ) := q_iald t22_16 rfl (by decide +kernel) rfl
theorem s22_16_o69 (d : Nat) (l0 : Value) (l1 : Value) (l2 : Value) (i : Int32) (w0 : Value) (σ : Hs) : ru d 22 16 [l0, l1, l2] [.int i, .ref 69, w0] σ = gd (vp_in i 9) (ru d 22 17 [l0, l1, l2] [.int (σ 69 i.toNatClampNeg), w0] σ) := q_iald t22_16 rfl (by decide +kernel) rfl
theorem t22_17 : decode (mb 22) 17 = .ok (.iadd, 1) := by decide +kernel
theorem s22_17 (d : Nat) (l0 : Value) (l1 : Value) (l2 : Value) (x y : Int32) (σ : Hs) : ru d 22 17 [l0, l1, l2] [.int y, .int x] σ = ru d 22 18 [l0, l1, l2] [.int (x + y)] σ := q_iadd t22_17
theorem t22_18 : decode (mb 22) 18 = .ok (.istore_n 1, 1) := by decide +kernel
theorem s22_18 (d : Nat) (a0 : Nat) (l1 : Value) (l2 : Value) (x : Int32) (σ : Hs) : ru d 22 18 [.ref a0, l1, l2] [.int x] σ = ru d 22 19 [.ref a0, .int x, l2] [] σ := q_istore_n t22_18 ⟨Nat.le_of_ble_eq_true rfl, rfl⟩ rfl
theorem t22_19 : decode (mb 22) 19 = .ok (.iinc 2 1, 3) := by decide +kernel
theorem s22_19 (d : Nat) (l0 : Value) (i1 : Int32) (i2 : Int32) (σ : Hs) : ru d 22 19 [l0, .int i1, .int i2] [] σ = ru d 22 22 [l0, .int i1, .int (i2 + 1)] [] σ := q_iinc t22_19 ⟨Nat.le_of_ble_eq_true rfl, rfl⟩ rfl (by decide +kernel) rfl
theorem t22_22 : decode (mb 22) 22 = .ok (.goto (-18), 3) := by decide +kernel
theorem s22_22 (d : Nat) (l0 : Value) (l1 : Value) (l2 : Value) (σ : Hs) : ru d 22 22 [l0, l1, l2] [] σ = ru d 22 4 [l0, l1, l2] [] σ := q_goto t22_22 (by decide +kernel)
theorem t22_25 : decode (mb 22) 25 = .ok (.iload_n 1, 1) := by decide +kernel
theorem s22_25 (d : Nat) (l0 : Value) (i1 : Int32) (l2 : Value) (σ : Hs) : ru d 22 25 [l0, .int i1, l2] [] σ = ru d 22 26 [l0, .int i1, l2] [.int i1] σ := q_iload_n t22_25 rfl
theorem t22_26 : decode (mb 22) 26 = .ok (.ireturn, 1) := by decide +kernel
theorem s22_26 (d : Nat) (l0 : Value) (l1 : Value) (l2 : Value) (x : Int32) (σ : Hs) : ru d 22 26 [l0, l1, l2] [.int x] σ = some (some (.int x), σ) := q_ireti t22_26 mr22
theorem c22 (d : Nat) (x0 : Nat) (σ : Hs) : callD (d + 1) 22 [.ref x0] σ = ru d 22 0 [.ref x0, uu, uu] [] σ := callD_ru ml22 rfl rfl (Nat.le_of_ble_eq_true rfl)
-- 23: Heap.hangingWith(I)I
theorem t23_0 : decode (mb 23) 0 = .ok (.iconst 0, 1) := by decide +kernel
theorem s23_0 (d : Nat) (l0 : Value) (l1 : Value) (l2 : Value) (l3 : Value) (l4 : Value) (σ : Hs) : ru d 23 0 [l0, l1, l2, l3, l4] [] σ = ru d 23 1 [l0, l1, l2, l3, l4] [.int 0] σ := q_iconst t23_0 (by decide +kernel)
theorem t23_1 : decode (mb 23) 1 = .ok (.istore_n 2, 1) := by decide +kernel
theorem s23_1 (d : Nat) (l0 : Value) (i1 : Int32) (l2 : Value) (l3 : Value) (l4 : Value) (x : Int32) (σ : Hs) : ru d 23 1 [l0, .int i1, l2, l3, l4] [.int x] σ = ru d 23 2 [l0, .int i1, .int x, l3, l4] [] σ := q_istore_n t23_1 ⟨Nat.le_of_ble_eq_true rfl, rfl⟩ rfl
theorem t23_2 : decode (mb 23) 2 = .ok (.iconst 0, 1) := by decide +kernel
theorem s23_2 (d : Nat) (l0 : Value) (l1 : Value) (l2 : Value) (l3 : Value) (l4 : Value) (σ : Hs) : ru d 23 2 [l0, l1, l2, l3, l4] [] σ = ru d 23 3 [l0, l1, l2, l3, l4] [.int 0] σ := q_iconst t23_2 (by decide +kernel)
theorem t23_3 : decode (mb 23) 3 = .ok (.istore_n 3, 1) := by decide +kernel
theorem s23_3 (d : Nat) (l0 : Value) (l1 : Value) (i2 : Int32) (l3 : Value) (l4 : Value) (x : Int32) (σ : Hs) : ru d 23 3 [l0, l1, .int i2, l3, l4] [.int x] σ = ru d 23 4 [l0, l1, .int i2, .int x, l4] [] σ := q_istore_n t23_3 ⟨Nat.le_of_ble_eq_true rfl, rfl⟩ rfl
theorem t23_4 : decode (mb 23) 4 = .ok (.iload_n 3, 1) := by decide +kernel
theorem s23_4 (d : Nat) (l0 : Value) (l1 : Value) (l2 : Value) (i3 : Int32) (l4 : Value) (σ : Hs) : ru d 23 4 [l0, l1, l2, .int i3, l4] [] σ = ru d 23 5 [l0, l1, l2, .int i3, l4] [.int i3] σ := q_iload_n t23_4 rfl
theorem t23_5 : decode (mb 23) 5 = .ok (.bipush 30, 2) := by decide +kernel
theorem s23_5 (d : Nat) (l0 : Value) (l1 : Value) (l2 : Value) (l3 : Value) (l4 : Value) (w0 : Value) (σ : Hs) : ru d 23 5 [l0, l1, l2, l3, l4] [w0] σ = ru d 23 7 [l0, l1, l2, l3, l4] [.int 30, w0] σ := q_bipush t23_5 (by decide +kernel)
theorem t23_7 : decode (mb 23) 7 = .ok (.if_icmp .ge 28, 3) := by decide +kernel
theorem s23_7 (d : Nat) (l0 : Value) (l1 : Value) (l2 : Value) (l3 : Value) (l4 : Value) (x y : Int32) (σ : Hs) : ru d 23 7 [l0, l1, l2, l3, l4] [.int y, .int x] σ = if y ≤ x then ru d 23 35 [l0, l1, l2, l3, l4] [] σ else ru d 23 10 [l0, l1, l2, l3, l4] [] σ := q_ic_ge t23_7 (by decide +kernel)
theorem t23_10 : decode (mb 23) 10 = .ok (.iload_n 2, 1) := by decide +kernel
theorem s23_10 (d : Nat) (l0 : Value) (l1 : Value) (i2 : Int32) (l3 : Value) (l4 : Value) (σ : Hs) : ru d 23 10 [l0, l1, .int i2, l3, l4] [] σ = ru d 23 11 [l0, l1, .int i2, l3, l4] [.int i2] σ := q_iload_n t23_10 rfl
theorem t23_11 : decode (mb 23) 11 = .ok (.aload_n 0, 1) := by decide +kernel
theorem s23_11 (d : Nat) (a0 : Nat) (l1 : Value) (l2 : Value) (l3 : Value) (l4 : Value) (w0 : Value) (σ : Hs) : ru d 23 11 [.ref a0, l1, l2, l3, l4] [w0] σ = ru d 23 12 [.ref a0, l1, l2, l3, l4] [.ref a0, w0] σ := q_aload_n t23_11 rfl
theorem t23_12 : decode (mb 23) 12 = .ok (.getfield 15, 3) := by decide +kernel
theorem s23_12_o2 (d : Nat) (l0 : Value) (l1 : Value) (l2 : Value) (l3 : Value) (l4 : Value) (w0 : Value) (σ : Hs) : ru d 23 12 [l0, l1, l2, l3, l4] [.ref 2, w0] σ = ru d 23 15 [l0, l1, l2, l3, l4] [.ref 4, w0] σ := q_getf t23_12 mo23 F0_15 rfl rfl
theorem t23_15 : decode (mb 23) 15 = .ok (.iload_n 3, 1) := by decide +kernel
theorem s23_15 (d : Nat) (l0 : Value) (l1 : Value) (l2 : Value) (i3 : Int32) (l4 : Value) (w0 w1 : Value) (σ : Hs) : ru d 23 15 [l0, l1, l2, .int i3, l4] [w0, w1] σ = ru d 23 16 [l0, l1, l2, .int i3, l4] [.int i3, w0, w1] σ := q_iload_n t23_15 rfl
theorem t23_16 : decode (mb 23) 16 = .ok (.iaload, 1) := by decide +kernel
theorem s23_16_o4 (d : Nat) (l0 : Value) (l1 : Value) (l2 : Value) (l3 : Value) (l4 : Value) (i : Int32) (w0 : Value) (σ : Hs) : ru d 23 16 [l0, l1, l2, l3, l4] [.int i, .ref 4, w0] σ = gd (vp_in i 30) (ru d 23 17 [l0, l1, l2, l3, l4] [.int (σ 4 i.toNatClampNeg), w0] σ) := q_iald t23_16 rfl (by decide +kernel) rfl
theorem t23_17 : decode (mb 23) 17 = .ok (.ifCond .le 9, 3) := by decide +kernel
theorem s23_17 (d : Nat) (l0 : Value) (l1 : Value) (l2 : Value) (l3 : Value) (l4 : Value) (x : Int32) (w0 : Value) (σ : Hs) : ru d 23 17 [l0, l1, l2, l3, l4] [.int x, w0] σ = if x ≤ 0 then ru d 23 26 [l0, l1, l2, l3, l4] [w0] σ else ru d 23 20 [l0, l1, l2, l3, l4] [w0] σ := q_if_le t23_17 (by decide +kernel)
theorem t23_20 : decode (mb 23) 20 = .ok (.iconst 1, 1) := by decide +kernel
theorem s23_20 (d : Nat) (l0 : Value) (l1 : Value) (l2 : Value) (l3 : Value) (l4 : Value) (w0 : Value) (σ : Hs) : ru d 23 20 [l0, l1, l2, l3, l4] [w0] σ = ru d 23 21 [l0, l1, l2, l3, l4] [.int 1, w0] σ := q_iconst t23_20 (by decide +kernel)
theorem t23_21 : decode (mb 23) 21 = .ok (.iload_n 3, 1) := by decide +kernel
theorem s23_21 (d : Nat) (l0 : Value) (l1 : Value) (l2 : Value) (i3 : Int32) (l4 : Value) (w0 w1 : Value) (σ : Hs) : ru d 23 21 [l0, l1, l2, .int i3, l4] [w0, w1] σ = ru d 23 22 [l0, l1, l2, .int i3, l4] [.int i3, w0, w1] σ := q_iload_n t23_21 rfl
theorem t23_22 : decode (mb 23) 22 = .ok (.ishl, 1) := by decide +kernel
theorem s23_22 (d : Nat) (l0 : Value) (l1 : Value) (l2 : Value) (l3 : Value) (l4 : Value) (x y : Int32) (w0 : Value) (σ : Hs) : ru d 23 22 [l0, l1, l2, l3, l4] [.int y, .int x, w0] σ = ru d 23 23 [l0, l1, l2, l3, l4] [.int (x <<< (y &&& 31)), w0] σ := q_ishl t23_22
theorem t23_23 : decode (mb 23) 23 = .ok (.goto 4, 3) := by decide +kernel
theorem s23_23 (d : Nat) (l0 : Value) (l1 : Value) (l2 : Value) (l3 : Value) (l4 : Value) (w0 w1 : Value) (σ : Hs) : ru d 23 23 [l0, l1, l2, l3, l4] [w0, w1] σ = ru d 23 27 [l0, l1, l2, l3, l4] [w0, w1] σ := q_goto t23_23 (by decide +kernel)
theorem t23_26 : decode (mb 23) 26 = .ok (.iconst 0, 1) := by decide +kernel
theorem s23_26 (d : Nat) (l0 : Value) (l1 : Value) (l2 : Value) (l3 : Value) (l4 : Value) (w0 : Value) (σ : Hs) : ru d 23 26 [l0, l1, l2, l3, l4] [w0] σ = ru d 23 27 [l0, l1, l2, l3, l4] [.int 0, w0] σ := q_iconst t23_26 (by decide +kernel)
theorem t23_27 : decode (mb 23) 27 = .ok (.ior, 1) := by decide +kernel
theorem s23_27 (d : Nat) (l0 : Value) (l1 : Value) (l2 : Value) (l3 : Value) (l4 : Value) (x y : Int32) (σ : Hs) : ru d 23 27 [l0, l1, l2, l3, l4] [.int y, .int x] σ = ru d 23 28 [l0, l1, l2, l3, l4] [.int (x ||| y)] σ := q_ior t23_27
theorem t23_28 : decode (mb 23) 28 = .ok (.istore_n 2, 1) := by decide +kernel
theorem s23_28 (d : Nat) (l0 : Value) (i1 : Int32) (l2 : Value) (l3 : Value) (l4 : Value) (x : Int32) (σ : Hs) : ru d 23 28 [l0, .int i1, l2, l3, l4] [.int x] σ = ru d 23 29 [l0, .int i1, .int x, l3, l4] [] σ := q_istore_n t23_28 ⟨Nat.le_of_ble_eq_true rfl, rfl⟩ rfl
theorem t23_29 : decode (mb 23) 29 = .ok (.iinc 3 1, 3) := by decide +kernel
theorem s23_29 (d : Nat) (l0 : Value) (l1 : Value) (i2 : Int32) (i3 : Int32) (l4 : Value) (σ : Hs) : ru d 23 29 [l0, l1, .int i2, .int i3, l4] [] σ = ru d 23 32 [l0, l1, .int i2, .int (i3 + 1), l4] [] σ := q_iinc t23_29 ⟨Nat.le_of_ble_eq_true rfl, rfl⟩ rfl (by decide +kernel) rfl
theorem t23_32 : decode (mb 23) 32 = .ok (.goto (-28), 3) := by decide +kernel
theorem s23_32 (d : Nat) (l0 : Value) (l1 : Value) (l2 : Value) (l3 : Value) (l4 : Value) (σ : Hs) : ru d 23 32 [l0, l1, l2, l3, l4] [] σ = ru d 23 4 [l0, l1, l2, l3, l4] [] σ := q_goto t23_32 (by decide +kernel)
theorem t23_35 : decode (mb 23) 35 = .ok (.iconst 1, 1) := by decide +kernel
theorem s23_35 (d : Nat) (l0 : Value) (l1 : Value) (l2 : Value) (l3 : Value) (l4 : Value) (σ : Hs) : ru d 23 35 [l0, l1, l2, l3, l4] [] σ = ru d 23 36 [l0, l1, l2, l3, l4] [.int 1] σ := q_iconst t23_35 (by decide +kernel)
theorem t23_36 : decode (mb 23) 36 = .ok (.iload_n 1, 1) := by decide +kernel
theorem s23_36 (d : Nat) (l0 : Value) (i1 : Int32) (l2 : Value) (l3 : Value) (l4 : Value) (w0 : Value) (σ : Hs) : ru d 23 36 [l0, .int i1, l2, l3, l4] [w0] σ = ru d 23 37 [l0, .int i1, l2, l3, l4] [.int i1, w0] σ := q_iload_n t23_36 rfl
theorem t23_37 : decode (mb 23) 37 = .ok (.ishl, 1) := by decide +kernel
theorem s23_37 (d : Nat) (l0 : Value) (l1 : Value) (l2 : Value) (l3 : Value) (l4 : Value) (x y : Int32) (σ : Hs) : ru d 23 37 [l0, l1, l2, l3, l4] [.int y, .int x] σ = ru d 23 38 [l0, l1, l2, l3, l4] [.int (x <<< (y &&& 31))] σ := q_ishl t23_37
theorem t23_38 : decode (mb 23) 38 = .ok (.istore_n 3, 1) := by decide +kernel
theorem s23_38 (d : Nat) (l0 : Value) (l1 : Value) (i2 : Int32) (l3 : Value) (l4 : Value) (x : Int32) (σ : Hs) : ru d 23 38 [l0, l1, .int i2, l3, l4] [.int x] σ = ru d 23 39 [l0, l1, .int i2, .int x, l4] [] σ := q_istore_n t23_38 ⟨Nat.le_of_ble_eq_true rfl, rfl⟩ rfl
theorem t23_39 : decode (mb 23) 39 = .ok (.iconst 0, 1) := by decide +kernel
theorem s23_39 (d : Nat) (l0 : Value) (l1 : Value) (l2 : Value) (l3 : Value) (l4 : Value) (σ : Hs) : ru d 23 39 [l0, l1, l2, l3, l4] [] σ = ru d 23 40 [l0, l1, l2, l3, l4] [.int 0] σ := q_iconst t23_39 (by decide +kernel)
theorem t23_40 : decode (mb 23) 40 = .ok (.istore 4, 2) := by decide +kernel
theorem s23_40 (d : Nat) (l0 : Value) (l1 : Value) (l2 : Value) (i3 : Int32) (l4 : Value) (x : Int32) (σ : Hs) : ru d 23 40 [l0, l1, l2, .int i3, l4] [.int x] σ = ru d 23 42 [l0, l1, l2, .int i3, .int x] [] σ := q_istore t23_40 ⟨Nat.le_of_ble_eq_true rfl, rfl⟩ rfl
theorem t23_42 : decode (mb 23) 42 = .ok (.iload 4, 2) := by decide +kernel
theorem s23_42 (d : Nat) (l0 : Value) (l1 : Value) (l2 : Value) (l3 : Value) (i4 : Int32) (σ : Hs) : ru d 23 42 [l0, l1, l2, l3, .int i4] [] σ = ru d 23 44 [l0, l1, l2, l3, .int i4] [.int i4] σ := q_iload t23_42 rfl
theorem t23_44 : decode (mb 23) 44 = .ok (.bipush 30, 2) := by decide +kernel
theorem s23_44 (d : Nat) (l0 : Value) (l1 : Value) (l2 : Value) (l3 : Value) (l4 : Value) (w0 : Value) (σ : Hs) : ru d 23 44 [l0, l1, l2, l3, l4] [w0] σ = ru d 23 46 [l0, l1, l2, l3, l4] [.int 30, w0] σ := q_bipush t23_44 (by decide +kernel)
theorem t23_46 : decode (mb 23) 46 = .ok (.if_icmp .ge 16, 3) := by decide +kernel
theorem s23_46 (d : Nat) (l0 : Value) (l1 : Value) (l2 : Value) (l3 : Value) (l4 : Value) (x y : Int32) (σ : Hs) : ru d 23 46 [l0, l1, l2, l3, l4] [.int y, .int x] σ = if y ≤ x then ru d 23 62 [l0, l1, l2, l3, l4] [] σ else ru d 23 49 [l0, l1, l2, l3, l4] [] σ := q_ic_ge t23_46 (by decide +kernel)
theorem t23_49 : decode (mb 23) 49 = .ok (.iload_n 3, 1) := by decide +kernel
theorem s23_49 (d : Nat) (l0 : Value) (l1 : Value) (l2 : Value) (i3 : Int32) (l4 : Value) (σ : Hs) : ru d 23 49 [l0, l1, l2, .int i3, l4] [] σ = ru d 23 50 [l0, l1, l2, .int i3, l4] [.int i3] σ := q_iload_n t23_49 rfl
theorem t23_50 : decode (mb 23) 50 = .ok (.invokestatic 151, 3) := by decide +kernel
theorem s23_50 (d : Nat) (l0 : Value) (l1 : Value) (l2 : Value) (l3 : Value) (l4 : Value) (v0 : Value) (σ : Hs) : ru d 23 50 [l0, l1, l2, l3, l4] [v0] σ = kont (callD d 24 [v0] σ) d 23 53 [l0, l1, l2, l3, l4] [] := q_invs t23_50 mo23 (by decide +kernel) K0_151 mj24 (Nat.le_of_ble_eq_true rfl) rfl rfl (Nat.le_of_ble_eq_true rfl)
theorem t23_53 : decode (mb 23) 53 = .ok (.iload_n 2, 1) := by decide +kernel
theorem s23_53 (d : Nat) (l0 : Value) (l1 : Value) (i2 : Int32) (l3 : Value) (l4 : Value) (w0 : Value) (σ : Hs) : ru d 23 53 [l0, l1, .int i2, l3, l4] [w0] σ = ru d 23 54 [l0, l1, .int i2, l3, l4] [.int i2, w0] σ := q_iload_n t23_53 rfl
theorem t23_54 : decode (mb 23) 54 = .ok (.iand, 1) := by decide +kernel
theorem s23_54 (d : Nat) (l0 : Value) (l1 : Value) (l2 : Value) (l3 : Value) (l4 : Value) (x y : Int32) (σ : Hs) : ru d 23 54 [l0, l1, l2, l3, l4] [.int y, .int x] σ = ru d 23 55 [l0, l1, l2, l3, l4] [.int (x &&& y)] σ := q_iand t23_54
theorem t23_55 : decode (mb 23) 55 = .ok (.istore_n 3, 1) := by decide +kernel
theorem s23_55 (d : Nat) (l0 : Value) (l1 : Value) (i2 : Int32) (l3 : Value) (l4 : Value) (x : Int32) (σ : Hs) : ru d 23 55 [l0, l1, .int i2, l3, l4] [.int x] σ = ru d 23 56 [l0, l1, .int i2, .int x, l4] [] σ := q_istore_n t23_55 ⟨Nat.le_of_ble_eq_true rfl, rfl⟩ rfl
theorem t23_56 : decode (mb 23) 56 = .ok (.iinc 4 1, 3) := by decide +kernel
theorem s23_56 (d : Nat) (l0 : Value) (l1 : Value) (l2 : Value) (i3 : Int32) (i4 : Int32) (σ : Hs) : ru d 23 56 [l0, l1, l2, .int i3, .int i4] [] σ = ru d 23 59 [l0, l1, l2, .int i3, .int (i4 + 1)] [] σ := q_iinc t23_56 ⟨Nat.le_of_ble_eq_true rfl, rfl⟩ rfl (by decide +kernel) rfl
theorem t23_59 : decode (mb 23) 59 = .ok (.goto (-17), 3) := by decide +kernel
theorem s23_59 (d : Nat) (l0 : Value) (l1 : Value) (l2 : Value) (l3 : Value) (l4 : Value) (σ : Hs) : ru d 23 59 [l0, l1, l2, l3, l4] [] σ = ru d 23 42 [l0, l1, l2, l3, l4] [] σ := q_goto t23_59 (by decide +kernel)
theorem t23_62 : decode (mb 23) 62 = .ok (.iload_n 3, 1) := by decide +kernel
theorem s23_62 (d : Nat) (l0 : Value) (l1 : Value) (l2 : Value) (i3 : Int32) (l4 : Value) (σ : Hs) : ru d 23 62 [l0, l1, l2, .int i3, l4] [] σ = ru d 23 63 [l0, l1, l2, .int i3, l4] [.int i3] σ := q_iload_n t23_62 rfl
theorem t23_63 : decode (mb 23) 63 = .ok (.ireturn, 1) := by decide +kernel
theorem s23_63 (d : Nat) (l0 : Value) (l1 : Value) (l2 : Value) (l3 : Value) (l4 : Value) (x : Int32) (σ : Hs) : ru d 23 63 [l0, l1, l2, l3, l4] [.int x] σ = some (some (.int x), σ) := q_ireti t23_63 mr23
theorem c23 (d : Nat) (x0 : Nat) (x1 : Int32) (σ : Hs) : callD (d + 1) 23 [.ref x0, .int x1] σ = ru d 23 0 [.ref x0, .int x1, uu, uu, uu] [] σ := callD_ru ml23 rfl rfl (Nat.le_of_ble_eq_true rfl)
-- 24: Heap.besideToo(I)I
theorem t24_0 : decode (mb 24) 0 = .ok (.iload_n 0, 1) := by decide +kernel
theorem s24_0 (d : Nat) (i0 : Int32) (l1 : Value) (l2 : Value) (l3 : Value) (σ : Hs) : ru d 24 0 [.int i0, l1, l2, l3] [] σ = ru d 24 1 [.int i0, l1, l2, l3] [.int i0] σ := q_iload_n t24_0 rfl
theorem t24_1 : decode (mb 24) 1 = .ok (.istore_n 1, 1) := by decide +kernel
theorem s24_1 (d : Nat) (i0 : Int32) (l1 : Value) (l2 : Value) (l3 : Value) (x : Int32) (σ : Hs) : ru d 24 1 [.int i0, l1, l2, l3] [.int x] σ = ru d 24 2 [.int i0, .int x, l2, l3] [] σ := q_istore_n t24_1 ⟨Nat.le_of_ble_eq_true rfl, rfl⟩ rfl
theorem t24_2 : decode (mb 24) 2 = .ok (.iconst 0, 1) := by decide +kernel
theorem s24_2 (d : Nat) (l0 : Value) (l1 : Value) (l2 : Value) (l3 : Value) (σ : Hs) : ru d 24 2 [l0, l1, l2, l3] [] σ = ru d 24 3 [l0, l1, l2, l3] [.int 0] σ := q_iconst t24_2 (by decide +kernel)
theorem t24_3 : decode (mb 24) 3 = .ok (.istore_n 2, 1) := by decide +kernel
theorem s24_3 (d : Nat) (l0 : Value) (i1 : Int32) (l2 : Value) (l3 : Value) (x : Int32) (σ : Hs) : ru d 24 3 [l0, .int i1, l2, l3] [.int x] σ = ru d 24 4 [l0, .int i1, .int x, l3] [] σ := q_istore_n t24_3 ⟨Nat.le_of_ble_eq_true rfl, rfl⟩ rfl
theorem t24_4 : decode (mb 24) 4 = .ok (.iload_n 2, 1) := by decide +kernel
theorem s24_4 (d : Nat) (l0 : Value) (l1 : Value) (i2 : Int32) (l3 : Value) (σ : Hs) : ru d 24 4 [l0, l1, .int i2, l3] [] σ = ru d 24 5 [l0, l1, .int i2, l3] [.int i2] σ := q_iload_n t24_4 rfl
theorem t24_5 : decode (mb 24) 5 = .ok (.bipush 30, 2) := by decide +kernel
theorem s24_5 (d : Nat) (l0 : Value) (l1 : Value) (l2 : Value) (l3 : Value) (w0 : Value) (σ : Hs) : ru d 24 5 [l0, l1, l2, l3] [w0] σ = ru d 24 7 [l0, l1, l2, l3] [.int 30, w0] σ := q_bipush t24_5 (by decide +kernel)
theorem t24_7 : decode (mb 24) 7 = .ok (.if_icmp .ge 96, 3) := by decide +kernel
theorem s24_7 (d : Nat) (l0 : Value) (l1 : Value) (l2 : Value) (l3 : Value) (x y : Int32) (σ : Hs) : ru d 24 7 [l0, l1, l2, l3] [.int y, .int x] σ = if y ≤ x then ru d 24 103 [l0, l1, l2, l3] [] σ else ru d 24 10 [l0, l1, l2, l3] [] σ := q_ic_ge t24_7 (by decide +kernel)
theorem t24_10 : decode (mb 24) 10 = .ok (.iload_n 0, 1) := by decide +kernel
theorem s24_10 (d : Nat) (i0 : Int32) (l1 : Value) (l2 : Value) (l3 : Value) (σ : Hs) : ru d 24 10 [.int i0, l1, l2, l3] [] σ = ru d 24 11 [.int i0, l1, l2, l3] [.int i0] σ := q_iload_n t24_10 rfl
theorem t24_11 : decode (mb 24) 11 = .ok (.iload_n 2, 1) := by decide +kernel
theorem s24_11 (d : Nat) (l0 : Value) (l1 : Value) (i2 : Int32) (l3 : Value) (w0 : Value) (σ : Hs) : ru d 24 11 [l0, l1, .int i2, l3] [w0] σ = ru d 24 12 [l0, l1, .int i2, l3] [.int i2, w0] σ := q_iload_n t24_11 rfl
theorem t24_12 : decode (mb 24) 12 = .ok (.ishr, 1) := by decide +kernel
theorem s24_12 (d : Nat) (l0 : Value) (l1 : Value) (l2 : Value) (l3 : Value) (x y : Int32) (σ : Hs) : ru d 24 12 [l0, l1, l2, l3] [.int y, .int x] σ = ru d 24 13 [l0, l1, l2, l3] [.int (x >>> (y &&& 31))] σ := q_ishr t24_12
theorem t24_13 : decode (mb 24) 13 = .ok (.iconst 1, 1) := by decide +kernel
theorem s24_13 (d : Nat) (l0 : Value) (l1 : Value) (l2 : Value) (l3 : Value) (w0 : Value) (σ : Hs) : ru d 24 13 [l0, l1, l2, l3] [w0] σ = ru d 24 14 [l0, l1, l2, l3] [.int 1, w0] σ := q_iconst t24_13 (by decide +kernel)
theorem t24_14 : decode (mb 24) 14 = .ok (.iand, 1) := by decide +kernel
theorem s24_14 (d : Nat) (l0 : Value) (l1 : Value) (l2 : Value) (l3 : Value) (x y : Int32) (σ : Hs) : ru d 24 14 [l0, l1, l2, l3] [.int y, .int x] σ = ru d 24 15 [l0, l1, l2, l3] [.int (x &&& y)] σ := q_iand t24_14
theorem t24_15 : decode (mb 24) 15 = .ok (.ifCond .eq 82, 3) := by decide +kernel
theorem s24_15 (d : Nat) (l0 : Value) (l1 : Value) (l2 : Value) (l3 : Value) (x : Int32) (σ : Hs) : ru d 24 15 [l0, l1, l2, l3] [.int x] σ = if x = 0 then ru d 24 97 [l0, l1, l2, l3] [] σ else ru d 24 18 [l0, l1, l2, l3] [] σ := q_if_eq t24_15 (by decide +kernel)
theorem t24_18 : decode (mb 24) 18 = .ok (.iload_n 2, 1) := by decide +kernel
theorem s24_18 (d : Nat) (l0 : Value) (l1 : Value) (i2 : Int32) (l3 : Value) (σ : Hs) : ru d 24 18 [l0, l1, .int i2, l3] [] σ = ru d 24 19 [l0, l1, .int i2, l3] [.int i2] σ := q_iload_n t24_18 rfl
theorem t24_19 : decode (mb 24) 19 = .ok (.bipush 6, 2) := by decide +kernel
theorem s24_19 (d : Nat) (l0 : Value) (l1 : Value) (l2 : Value) (l3 : Value) (w0 : Value) (σ : Hs) : ru d 24 19 [l0, l1, l2, l3] [w0] σ = ru d 24 21 [l0, l1, l2, l3] [.int 6, w0] σ := q_bipush t24_19 (by decide +kernel)
theorem t24_21 : decode (mb 24) 21 = .ok (.irem, 1) := by decide +kernel
theorem s24_21 (d : Nat) (l0 : Value) (l1 : Value) (l2 : Value) (l3 : Value) (x y : Int32) (σ : Hs) : ru d 24 21 [l0, l1, l2, l3] [.int y, .int x] σ = gd (¬ y = 0) (ru d 24 22 [l0, l1, l2, l3] [.int (x - x / y * y)] σ) := q_irem t24_21
theorem t24_22 : decode (mb 24) 22 = .ok (.istore_n 3, 1) := by decide +kernel
theorem s24_22 (d : Nat) (l0 : Value) (l1 : Value) (i2 : Int32) (l3 : Value) (x : Int32) (σ : Hs) : ru d 24 22 [l0, l1, .int i2, l3] [.int x] σ = ru d 24 23 [l0, l1, .int i2, .int x] [] σ := q_istore_n t24_22 ⟨Nat.le_of_ble_eq_true rfl, rfl⟩ rfl
theorem t24_23 : decode (mb 24) 23 = .ok (.iload_n 1, 1) := by decide +kernel
theorem s24_23 (d : Nat) (l0 : Value) (i1 : Int32) (l2 : Value) (l3 : Value) (σ : Hs) : ru d 24 23 [l0, .int i1, l2, l3] [] σ = ru d 24 24 [l0, .int i1, l2, l3] [.int i1] σ := q_iload_n t24_23 rfl
theorem t24_24 : decode (mb 24) 24 = .ok (.iload_n 3, 1) := by decide +kernel
theorem s24_24 (d : Nat) (l0 : Value) (l1 : Value) (l2 : Value) (i3 : Int32) (w0 : Value) (σ : Hs) : ru d 24 24 [l0, l1, l2, .int i3] [w0] σ = ru d 24 25 [l0, l1, l2, .int i3] [.int i3, w0] σ := q_iload_n t24_24 rfl
theorem t24_25 : decode (mb 24) 25 = .ok (.ifCond .le 11, 3) := by decide +kernel
theorem s24_25 (d : Nat) (l0 : Value) (l1 : Value) (l2 : Value) (l3 : Value) (x : Int32) (w0 : Value) (σ : Hs) : ru d 24 25 [l0, l1, l2, l3] [.int x, w0] σ = if x ≤ 0 then ru d 24 36 [l0, l1, l2, l3] [w0] σ else ru d 24 28 [l0, l1, l2, l3] [w0] σ := q_if_le t24_25 (by decide +kernel)
theorem t24_28 : decode (mb 24) 28 = .ok (.iconst 1, 1) := by decide +kernel
theorem s24_28 (d : Nat) (l0 : Value) (l1 : Value) (l2 : Value) (l3 : Value) (w0 : Value) (σ : Hs) : ru d 24 28 [l0, l1, l2, l3] [w0] σ = ru d 24 29 [l0, l1, l2, l3] [.int 1, w0] σ := q_iconst t24_28 (by decide +kernel)
theorem t24_29 : decode (mb 24) 29 = .ok (.iload_n 2, 1) := by decide +kernel
theorem s24_29 (d : Nat) (l0 : Value) (l1 : Value) (i2 : Int32) (l3 : Value) (w0 w1 : Value) (σ : Hs) : ru d 24 29 [l0, l1, .int i2, l3] [w0, w1] σ = ru d 24 30 [l0, l1, .int i2, l3] [.int i2, w0, w1] σ := q_iload_n t24_29 rfl
theorem t24_30 : decode (mb 24) 30 = .ok (.iconst 1, 1) := by decide +kernel
theorem s24_30 (d : Nat) (l0 : Value) (l1 : Value) (l2 : Value) (l3 : Value) (w0 w1 w2 : Value) (σ : Hs) : ru d 24 30 [l0, l1, l2, l3] [w0, w1, w2] σ = ru d 24 31 [l0, l1, l2, l3] [.int 1, w0, w1, w2] σ := q_iconst t24_30 (by decide +kernel)
theorem t24_31 : decode (mb 24) 31 = .ok (.isub, 1) := by decide +kernel
theorem s24_31 (d : Nat) (l0 : Value) (l1 : Value) (l2 : Value) (l3 : Value) (x y : Int32) (w0 w1 : Value) (σ : Hs) : ru d 24 31 [l0, l1, l2, l3] [.int y, .int x, w0, w1] σ = ru d 24 32 [l0, l1, l2, l3] [.int (x - y), w0, w1] σ := q_isub t24_31
theorem t24_32 : decode (mb 24) 32 = .ok (.ishl, 1) := by decide +kernel
theorem s24_32 (d : Nat) (l0 : Value) (l1 : Value) (l2 : Value) (l3 : Value) (x y : Int32) (w0 : Value) (σ : Hs) : ru d 24 32 [l0, l1, l2, l3] [.int y, .int x, w0] σ = ru d 24 33 [l0, l1, l2, l3] [.int (x <<< (y &&& 31)), w0] σ := q_ishl t24_32
theorem t24_33 : decode (mb 24) 33 = .ok (.goto 4, 3) := by decide +kernel
theorem s24_33 (d : Nat) (l0 : Value) (l1 : Value) (l2 : Value) (l3 : Value) (w0 w1 : Value) (σ : Hs) : ru d 24 33 [l0, l1, l2, l3] [w0, w1] σ = ru d 24 37 [l0, l1, l2, l3] [w0, w1] σ := q_goto t24_33 (by decide +kernel)
theorem t24_36 : decode (mb 24) 36 = .ok (.iconst 0, 1) := by decide +kernel
theorem s24_36 (d : Nat) (l0 : Value) (l1 : Value) (l2 : Value) (l3 : Value) (w0 : Value) (σ : Hs) : ru d 24 36 [l0, l1, l2, l3] [w0] σ = ru d 24 37 [l0, l1, l2, l3] [.int 0, w0] σ := q_iconst t24_36 (by decide +kernel)
theorem t24_37 : decode (mb 24) 37 = .ok (.ior, 1) := by decide +kernel
theorem s24_37 (d : Nat) (l0 : Value) (l1 : Value) (l2 : Value) (l3 : Value) (x y : Int32) (σ : Hs) : ru d 24 37 [l0, l1, l2, l3] [.int y, .int x] σ = ru d 24 38 [l0, l1, l2, l3] [.int (x ||| y)] σ := q_ior t24_37
theorem t24_38 : decode (mb 24) 38 = .ok (.istore_n 1, 1) := by decide +kernel
theorem s24_38 (d : Nat) (i0 : Int32) (l1 : Value) (l2 : Value) (l3 : Value) (x : Int32) (σ : Hs) : ru d 24 38 [.int i0, l1, l2, l3] [.int x] σ = ru d 24 39 [.int i0, .int x, l2, l3] [] σ := q_istore_n t24_38 ⟨Nat.le_of_ble_eq_true rfl, rfl⟩ rfl
theorem t24_39 : decode (mb 24) 39 = .ok (.iload_n 1, 1) := by decide +kernel
theorem s24_39 (d : Nat) (l0 : Value) (i1 : Int32) (l2 : Value) (l3 : Value) (σ : Hs) : ru d 24 39 [l0, .int i1, l2, l3] [] σ = ru d 24 40 [l0, .int i1, l2, l3] [.int i1] σ := q_iload_n t24_39 rfl
theorem t24_40 : decode (mb 24) 40 = .ok (.iload_n 3, 1) := by decide +kernel
theorem s24_40 (d : Nat) (l0 : Value) (l1 : Value) (l2 : Value) (i3 : Int32) (w0 : Value) (σ : Hs) : ru d 24 40 [l0, l1, l2, .int i3] [w0] σ = ru d 24 41 [l0, l1, l2, .int i3] [.int i3, w0] σ := q_iload_n t24_40 rfl
theorem t24_41 : decode (mb 24) 41 = .ok (.iconst 5, 1) := by decide +kernel
theorem s24_41 (d : Nat) (l0 : Value) (l1 : Value) (l2 : Value) (l3 : Value) (w0 w1 : Value) (σ : Hs) : ru d 24 41 [l0, l1, l2, l3] [w0, w1] σ = ru d 24 42 [l0, l1, l2, l3] [.int 5, w0, w1] σ := q_iconst t24_41 (by decide +kernel)
theorem t24_42 : decode (mb 24) 42 = .ok (.if_icmp .ge 11, 3) := by decide +kernel
theorem s24_42 (d : Nat) (l0 : Value) (l1 : Value) (l2 : Value) (l3 : Value) (x y : Int32) (w0 : Value) (σ : Hs) : ru d 24 42 [l0, l1, l2, l3] [.int y, .int x, w0] σ = if y ≤ x then ru d 24 53 [l0, l1, l2, l3] [w0] σ else ru d 24 45 [l0, l1, l2, l3] [w0] σ := q_ic_ge t24_42 (by decide +kernel)
theorem t24_45 : decode (mb 24) 45 = .ok (.iconst 1, 1) := by decide +kernel
theorem s24_45 (d : Nat) (l0 : Value) (l1 : Value) (l2 : Value) (l3 : Value) (w0 : Value) (σ : Hs) : ru d 24 45 [l0, l1, l2, l3] [w0] σ = ru d 24 46 [l0, l1, l2, l3] [.int 1, w0] σ := q_iconst t24_45 (by decide +kernel)
theorem t24_46 : decode (mb 24) 46 = .ok (.iload_n 2, 1) := by decide +kernel
theorem s24_46 (d : Nat) (l0 : Value) (l1 : Value) (i2 : Int32) (l3 : Value) (w0 w1 : Value) (σ : Hs) : ru d 24 46 [l0, l1, .int i2, l3] [w0, w1] σ = ru d 24 47 [l0, l1, .int i2, l3] [.int i2, w0, w1] σ := q_iload_n t24_46 rfl
theorem t24_47 : decode (mb 24) 47 = .ok (.iconst 1, 1) := by decide +kernel
theorem s24_47 (d : Nat) (l0 : Value) (l1 : Value) (l2 : Value) (l3 : Value) (w0 w1 w2 : Value) (σ : Hs) : ru d 24 47 [l0, l1, l2, l3] [w0, w1, w2] σ = ru d 24 48 [l0, l1, l2, l3] [.int 1, w0, w1, w2] σ := q_iconst t24_47 (by decide +kernel)
theorem t24_48 : decode (mb 24) 48 = .ok (.iadd, 1) := by decide +kernel
theorem s24_48 (d : Nat) (l0 : Value) (l1 : Value) (l2 : Value) (l3 : Value) (x y : Int32) (w0 w1 : Value) (σ : Hs) : ru d 24 48 [l0, l1, l2, l3] [.int y, .int x, w0, w1] σ = ru d 24 49 [l0, l1, l2, l3] [.int (x + y), w0, w1] σ := q_iadd t24_48
theorem t24_49 : decode (mb 24) 49 = .ok (.ishl, 1) := by decide +kernel
theorem s24_49 (d : Nat) (l0 : Value) (l1 : Value) (l2 : Value) (l3 : Value) (x y : Int32) (w0 : Value) (σ : Hs) : ru d 24 49 [l0, l1, l2, l3] [.int y, .int x, w0] σ = ru d 24 50 [l0, l1, l2, l3] [.int (x <<< (y &&& 31)), w0] σ := q_ishl t24_49
theorem t24_50 : decode (mb 24) 50 = .ok (.goto 4, 3) := by decide +kernel
theorem s24_50 (d : Nat) (l0 : Value) (l1 : Value) (l2 : Value) (l3 : Value) (w0 w1 : Value) (σ : Hs) : ru d 24 50 [l0, l1, l2, l3] [w0, w1] σ = ru d 24 54 [l0, l1, l2, l3] [w0, w1] σ := q_goto t24_50 (by decide +kernel)
theorem t24_53 : decode (mb 24) 53 = .ok (.iconst 0, 1) := by decide +kernel
theorem s24_53 (d : Nat) (l0 : Value) (l1 : Value) (l2 : Value) (l3 : Value) (w0 : Value) (σ : Hs) : ru d 24 53 [l0, l1, l2, l3] [w0] σ = ru d 24 54 [l0, l1, l2, l3] [.int 0, w0] σ := q_iconst t24_53 (by decide +kernel)
theorem t24_54 : decode (mb 24) 54 = .ok (.ior, 1) := by decide +kernel
theorem s24_54 (d : Nat) (l0 : Value) (l1 : Value) (l2 : Value) (l3 : Value) (x y : Int32) (σ : Hs) : ru d 24 54 [l0, l1, l2, l3] [.int y, .int x] σ = ru d 24 55 [l0, l1, l2, l3] [.int (x ||| y)] σ := q_ior t24_54
theorem t24_55 : decode (mb 24) 55 = .ok (.istore_n 1, 1) := by decide +kernel
theorem s24_55 (d : Nat) (i0 : Int32) (l1 : Value) (l2 : Value) (l3 : Value) (x : Int32) (σ : Hs) : ru d 24 55 [.int i0, l1, l2, l3] [.int x] σ = ru d 24 56 [.int i0, .int x, l2, l3] [] σ := q_istore_n t24_55 ⟨Nat.le_of_ble_eq_true rfl, rfl⟩ rfl
theorem t24_56 : decode (mb 24) 56 = .ok (.iload_n 1, 1) := by decide +kernel
theorem s24_56 (d : Nat) (l0 : Value) (i1 : Int32) (l2 : Value) (l3 : Value) (σ : Hs) : ru d 24 56 [l0, .int i1, l2, l3] [] σ = ru d 24 57 [l0, .int i1, l2, l3] [.int i1] σ := q_iload_n t24_56 rfl
theorem t24_57 : decode (mb 24) 57 = .ok (.iload_n 2, 1) := by decide +kernel
theorem s24_57 (d : Nat) (l0 : Value) (l1 : Value) (i2 : Int32) (l3 : Value) (w0 : Value) (σ : Hs) : ru d 24 57 [l0, l1, .int i2, l3] [w0] σ = ru d 24 58 [l0, l1, .int i2, l3] [.int i2, w0] σ := q_iload_n t24_57 rfl
theorem t24_58 : decode (mb 24) 58 = .ok (.bipush 6, 2) := by decide +kernel
theorem s24_58 (d : Nat) (l0 : Value) (l1 : Value) (l2 : Value) (l3 : Value) (w0 w1 : Value) (σ : Hs) : ru d 24 58 [l0, l1, l2, l3] [w0, w1] σ = ru d 24 60 [l0, l1, l2, l3] [.int 6, w0, w1] σ := q_bipush t24_58 (by decide +kernel)
theorem t24_60 : decode (mb 24) 60 = .ok (.iadd, 1) := by decide +kernel
theorem s24_60 (d : Nat) (l0 : Value) (l1 : Value) (l2 : Value) (l3 : Value) (x y : Int32) (w0 : Value) (σ : Hs) : ru d 24 60 [l0, l1, l2, l3] [.int y, .int x, w0] σ = ru d 24 61 [l0, l1, l2, l3] [.int (x + y), w0] σ := q_iadd t24_60
theorem t24_61 : decode (mb 24) 61 = .ok (.bipush 30, 2) := by decide +kernel
theorem s24_61 (d : Nat) (l0 : Value) (l1 : Value) (l2 : Value) (l3 : Value) (w0 w1 : Value) (σ : Hs) : ru d 24 61 [l0, l1, l2, l3] [w0, w1] σ = ru d 24 63 [l0, l1, l2, l3] [.int 30, w0, w1] σ := q_bipush t24_61 (by decide +kernel)
theorem t24_63 : decode (mb 24) 63 = .ok (.if_icmp .ge 12, 3) := by decide +kernel
theorem s24_63 (d : Nat) (l0 : Value) (l1 : Value) (l2 : Value) (l3 : Value) (x y : Int32) (w0 : Value) (σ : Hs) : ru d 24 63 [l0, l1, l2, l3] [.int y, .int x, w0] σ = if y ≤ x then ru d 24 75 [l0, l1, l2, l3] [w0] σ else ru d 24 66 [l0, l1, l2, l3] [w0] σ := q_ic_ge t24_63 (by decide +kernel)
theorem t24_66 : decode (mb 24) 66 = .ok (.iconst 1, 1) := by decide +kernel
theorem s24_66 (d : Nat) (l0 : Value) (l1 : Value) (l2 : Value) (l3 : Value) (w0 : Value) (σ : Hs) : ru d 24 66 [l0, l1, l2, l3] [w0] σ = ru d 24 67 [l0, l1, l2, l3] [.int 1, w0] σ := q_iconst t24_66 (by decide +kernel)
theorem t24_67 : decode (mb 24) 67 = .ok (.iload_n 2, 1) := by decide +kernel
theorem s24_67 (d : Nat) (l0 : Value) (l1 : Value) (i2 : Int32) (l3 : Value) (w0 w1 : Value) (σ : Hs) : ru d 24 67 [l0, l1, .int i2, l3] [w0, w1] σ = ru d 24 68 [l0, l1, .int i2, l3] [.int i2, w0, w1] σ := q_iload_n t24_67 rfl
theorem t24_68 : decode (mb 24) 68 = .ok (.bipush 6, 2) := by decide +kernel
theorem s24_68 (d : Nat) (l0 : Value) (l1 : Value) (l2 : Value) (l3 : Value) (w0 w1 w2 : Value) (σ : Hs) : ru d 24 68 [l0, l1, l2, l3] [w0, w1, w2] σ = ru d 24 70 [l0, l1, l2, l3] [.int 6, w0, w1, w2] σ := q_bipush t24_68 (by decide +kernel)
theorem t24_70 : decode (mb 24) 70 = .ok (.iadd, 1) := by decide +kernel
theorem s24_70 (d : Nat) (l0 : Value) (l1 : Value) (l2 : Value) (l3 : Value) (x y : Int32) (w0 w1 : Value) (σ : Hs) : ru d 24 70 [l0, l1, l2, l3] [.int y, .int x, w0, w1] σ = ru d 24 71 [l0, l1, l2, l3] [.int (x + y), w0, w1] σ := q_iadd t24_70
theorem t24_71 : decode (mb 24) 71 = .ok (.ishl, 1) := by decide +kernel
theorem s24_71 (d : Nat) (l0 : Value) (l1 : Value) (l2 : Value) (l3 : Value) (x y : Int32) (w0 : Value) (σ : Hs) : ru d 24 71 [l0, l1, l2, l3] [.int y, .int x, w0] σ = ru d 24 72 [l0, l1, l2, l3] [.int (x <<< (y &&& 31)), w0] σ := q_ishl t24_71
theorem t24_72 : decode (mb 24) 72 = .ok (.goto 4, 3) := by decide +kernel
theorem s24_72 (d : Nat) (l0 : Value) (l1 : Value) (l2 : Value) (l3 : Value) (w0 w1 : Value) (σ : Hs) : ru d 24 72 [l0, l1, l2, l3] [w0, w1] σ = ru d 24 76 [l0, l1, l2, l3] [w0, w1] σ := q_goto t24_72 (by decide +kernel)
theorem t24_75 : decode (mb 24) 75 = .ok (.iconst 0, 1) := by decide +kernel
theorem s24_75 (d : Nat) (l0 : Value) (l1 : Value) (l2 : Value) (l3 : Value) (w0 : Value) (σ : Hs) : ru d 24 75 [l0, l1, l2, l3] [w0] σ = ru d 24 76 [l0, l1, l2, l3] [.int 0, w0] σ := q_iconst t24_75 (by decide +kernel)
theorem t24_76 : decode (mb 24) 76 = .ok (.ior, 1) := by decide +kernel
theorem s24_76 (d : Nat) (l0 : Value) (l1 : Value) (l2 : Value) (l3 : Value) (x y : Int32) (σ : Hs) : ru d 24 76 [l0, l1, l2, l3] [.int y, .int x] σ = ru d 24 77 [l0, l1, l2, l3] [.int (x ||| y)] σ := q_ior t24_76
theorem t24_77 : decode (mb 24) 77 = .ok (.istore_n 1, 1) := by decide +kernel
theorem s24_77 (d : Nat) (i0 : Int32) (l1 : Value) (l2 : Value) (l3 : Value) (x : Int32) (σ : Hs) : ru d 24 77 [.int i0, l1, l2, l3] [.int x] σ = ru d 24 78 [.int i0, .int x, l2, l3] [] σ := q_istore_n t24_77 ⟨Nat.le_of_ble_eq_true rfl, rfl⟩ rfl
theorem t24_78 : decode (mb 24) 78 = .ok (.iload_n 1, 1) := by decide +kernel
theorem s24_78 (d : Nat) (l0 : Value) (i1 : Int32) (l2 : Value) (l3 : Value) (σ : Hs) : ru d 24 78 [l0, .int i1, l2, l3] [] σ = ru d 24 79 [l0, .int i1, l2, l3] [.int i1] σ := q_iload_n t24_78 rfl
theorem t24_79 : decode (mb 24) 79 = .ok (.iload_n 2, 1) := by decide +kernel
theorem s24_79 (d : Nat) (l0 : Value) (l1 : Value) (i2 : Int32) (l3 : Value) (w0 : Value) (σ : Hs) : ru d 24 79 [l0, l1, .int i2, l3] [w0] σ = ru d 24 80 [l0, l1, .int i2, l3] [.int i2, w0] σ := q_iload_n t24_79 rfl
theorem t24_80 : decode (mb 24) 80 = .ok (.bipush 6, 2) := by decide +kernel
theorem s24_80 (d : Nat) (l0 : Value) (l1 : Value) (l2 : Value) (l3 : Value) (w0 w1 : Value) (σ : Hs) : ru d 24 80 [l0, l1, l2, l3] [w0, w1] σ = ru d 24 82 [l0, l1, l2, l3] [.int 6, w0, w1] σ := q_bipush t24_80 (by decide +kernel)
theorem t24_82 : decode (mb 24) 82 = .ok (.if_icmp .lt 12, 3) := by decide +kernel
theorem s24_82 (d : Nat) (l0 : Value) (l1 : Value) (l2 : Value) (l3 : Value) (x y : Int32) (w0 : Value) (σ : Hs) : ru d 24 82 [l0, l1, l2, l3] [.int y, .int x, w0] σ = if x < y then ru d 24 94 [l0, l1, l2, l3] [w0] σ else ru d 24 85 [l0, l1, l2, l3] [w0] σ := q_ic_lt t24_82 (by decide +kernel)
theorem t24_85 : decode (mb 24) 85 = .ok (.iconst 1, 1) := by decide +kernel
theorem s24_85 (d : Nat) (l0 : Value) (l1 : Value) (l2 : Value) (l3 : Value) (w0 : Value) (σ : Hs) : ru d 24 85 [l0, l1, l2, l3] [w0] σ = ru d 24 86 [l0, l1, l2, l3] [.int 1, w0] σ := q_iconst t24_85 (by decide +kernel)
theorem t24_86 : decode (mb 24) 86 = .ok (.iload_n 2, 1) := by decide +kernel
theorem s24_86 (d : Nat) (l0 : Value) (l1 : Value) (i2 : Int32) (l3 : Value) (w0 w1 : Value) (σ : Hs) : ru d 24 86 [l0, l1, .int i2, l3] [w0, w1] σ = ru d 24 87 [l0, l1, .int i2, l3] [.int i2, w0, w1] σ := q_iload_n t24_86 rfl
theorem t24_87 : decode (mb 24) 87 = .ok (.bipush 6, 2) := by decide +kernel
theorem s24_87 (d : Nat) (l0 : Value) (l1 : Value) (l2 : Value) (l3 : Value) (w0 w1 w2 : Value) (σ : Hs) : ru d 24 87 [l0, l1, l2, l3] [w0, w1, w2] σ = ru d 24 89 [l0, l1, l2, l3] [.int 6, w0, w1, w2] σ := q_bipush t24_87 (by decide +kernel)
theorem t24_89 : decode (mb 24) 89 = .ok (.isub, 1) := by decide +kernel
theorem s24_89 (d : Nat) (l0 : Value) (l1 : Value) (l2 : Value) (l3 : Value) (x y : Int32) (w0 w1 : Value) (σ : Hs) : ru d 24 89 [l0, l1, l2, l3] [.int y, .int x, w0, w1] σ = ru d 24 90 [l0, l1, l2, l3] [.int (x - y), w0, w1] σ := q_isub t24_89
theorem t24_90 : decode (mb 24) 90 = .ok (.ishl, 1) := by decide +kernel
theorem s24_90 (d : Nat) (l0 : Value) (l1 : Value) (l2 : Value) (l3 : Value) (x y : Int32) (w0 : Value) (σ : Hs) : ru d 24 90 [l0, l1, l2, l3] [.int y, .int x, w0] σ = ru d 24 91 [l0, l1, l2, l3] [.int (x <<< (y &&& 31)), w0] σ := q_ishl t24_90
theorem t24_91 : decode (mb 24) 91 = .ok (.goto 4, 3) := by decide +kernel
theorem s24_91 (d : Nat) (l0 : Value) (l1 : Value) (l2 : Value) (l3 : Value) (w0 w1 : Value) (σ : Hs) : ru d 24 91 [l0, l1, l2, l3] [w0, w1] σ = ru d 24 95 [l0, l1, l2, l3] [w0, w1] σ := q_goto t24_91 (by decide +kernel)
theorem t24_94 : decode (mb 24) 94 = .ok (.iconst 0, 1) := by decide +kernel
theorem s24_94 (d : Nat) (l0 : Value) (l1 : Value) (l2 : Value) (l3 : Value) (w0 : Value) (σ : Hs) : ru d 24 94 [l0, l1, l2, l3] [w0] σ = ru d 24 95 [l0, l1, l2, l3] [.int 0, w0] σ := q_iconst t24_94 (by decide +kernel)
theorem t24_95 : decode (mb 24) 95 = .ok (.ior, 1) := by decide +kernel
theorem s24_95 (d : Nat) (l0 : Value) (l1 : Value) (l2 : Value) (l3 : Value) (x y : Int32) (σ : Hs) : ru d 24 95 [l0, l1, l2, l3] [.int y, .int x] σ = ru d 24 96 [l0, l1, l2, l3] [.int (x ||| y)] σ := q_ior t24_95
theorem t24_96 : decode (mb 24) 96 = .ok (.istore_n 1, 1) := by decide +kernel
theorem s24_96 (d : Nat) (i0 : Int32) (l1 : Value) (l2 : Value) (l3 : Value) (x : Int32) (σ : Hs) : ru d 24 96 [.int i0, l1, l2, l3] [.int x] σ = ru d 24 97 [.int i0, .int x, l2, l3] [] σ := q_istore_n t24_96 ⟨Nat.le_of_ble_eq_true rfl, rfl⟩ rfl
theorem t24_97 : decode (mb 24) 97 = .ok (.iinc 2 1, 3) := by decide +kernel
theorem s24_97 (d : Nat) (l0 : Value) (i1 : Int32) (i2 : Int32) (l3 : Value) (σ : Hs) : ru d 24 97 [l0, .int i1, .int i2, l3] [] σ = ru d 24 100 [l0, .int i1, .int (i2 + 1), l3] [] σ := q_iinc t24_97 ⟨Nat.le_of_ble_eq_true rfl, rfl⟩ rfl (by decide +kernel) rfl
theorem t24_100 : decode (mb 24) 100 = .ok (.goto (-96), 3) := by decide +kernel
theorem s24_100 (d : Nat) (l0 : Value) (l1 : Value) (l2 : Value) (l3 : Value) (σ : Hs) : ru d 24 100 [l0, l1, l2, l3] [] σ = ru d 24 4 [l0, l1, l2, l3] [] σ := q_goto t24_100 (by decide +kernel)
theorem t24_103 : decode (mb 24) 103 = .ok (.iload_n 1, 1) := by decide +kernel
theorem s24_103 (d : Nat) (l0 : Value) (i1 : Int32) (l2 : Value) (l3 : Value) (σ : Hs) : ru d 24 103 [l0, .int i1, l2, l3] [] σ = ru d 24 104 [l0, .int i1, l2, l3] [.int i1] σ := q_iload_n t24_103 rfl
theorem t24_104 : decode (mb 24) 104 = .ok (.ireturn, 1) := by decide +kernel
theorem s24_104 (d : Nat) (l0 : Value) (l1 : Value) (l2 : Value) (l3 : Value) (x : Int32) (σ : Hs) : ru d 24 104 [l0, l1, l2, l3] [.int x] σ = some (some (.int x), σ) := q_ireti t24_104 mr24
theorem c24 (d : Nat) (x0 : Int32) (σ : Hs) : callD (d + 1) 24 [.int x0] σ = ru d 24 0 [.int x0, uu, uu, uu] [] σ := callD_ru ml24 rfl rfl (Nat.le_of_ble_eq_true rfl)
-- 25: Heap.armfulTells(II)I
theorem t25_0 : decode (mb 25) 0 = .ok (.iload_n 2, 1) := by decide +kernel
theorem s25_0 (d : Nat) (l0 : Value) (l1 : Value) (i2 : Int32) (σ : Hs) : ru d 25 0 [l0, l1, .int i2] [] σ = ru d 25 1 [l0, l1, .int i2] [.int i2] σ := q_iload_n t25_0 rfl
theorem t25_1 : decode (mb 25) 1 = .ok (.tableswitch 114 0 7 #[47, 54, 61, 68, 75, 82, 97, 103], 47) := by decide +kernel
theorem f25_1 (x : Int32) : (tsw 0 7 #[47, 54, 61, 68, 75, 82, 97, 103] 114 x.toInt).bind (tgt 1) = some (if x = 0 then 48 else (if x = 1 then 55 else (if x = 2 then 62 else (if x = 3 then 69 else (if x = 4 then 76 else (if x = 5 then 83 else (if x = 6 then 98 else (if x = 7 then 104 else 115)))))))) := by
  by_cases h0 : x = 0
  · subst h0; decide +kernel
  by_cases h1 : x = 1
  · subst h1; decide +kernel
  by_cases h2 : x = 2
  · subst h2; decide +kernel
  by_cases h3 : x = 3
  · subst h3; decide +kernel
  by_cases h4 : x = 4
  · subst h4; decide +kernel
  by_cases h5 : x = 5
  · subst h5; decide +kernel
  by_cases h6 : x = 6
  · subst h6; decide +kernel
  by_cases h7 : x = 7
  · subst h7; decide +kernel
  have e0 : ¬ x.toInt = 0 := fun h => h0 (Int32.toInt_inj.mp (h.trans (by decide +kernel)))
  have e1 : ¬ x.toInt = 1 := fun h => h1 (Int32.toInt_inj.mp (h.trans (by decide +kernel)))
  have e2 : ¬ x.toInt = 2 := fun h => h2 (Int32.toInt_inj.mp (h.trans (by decide +kernel)))
  have e3 : ¬ x.toInt = 3 := fun h => h3 (Int32.toInt_inj.mp (h.trans (by decide +kernel)))
  have e4 : ¬ x.toInt = 4 := fun h => h4 (Int32.toInt_inj.mp (h.trans (by decide +kernel)))
  have e5 : ¬ x.toInt = 5 := fun h => h5 (Int32.toInt_inj.mp (h.trans (by decide +kernel)))
  have e6 : ¬ x.toInt = 6 := fun h => h6 (Int32.toInt_inj.mp (h.trans (by decide +kernel)))
  have e7 : ¬ x.toInt = 7 := fun h => h7 (Int32.toInt_inj.mp (h.trans (by decide +kernel)))
  have e : x.toInt < 0 ∨ 7 < x.toInt := by omega
  unfold tsw
  rw [if_pos e, if_neg h0, if_neg h1, if_neg h2, if_neg h3, if_neg h4, if_neg h5, if_neg h6, if_neg h7]
  decide +kernel
theorem s25_1 (d : Nat) (l0 : Value) (l1 : Value) (l2 : Value) (x : Int32) (σ : Hs) : ru d 25 1 [l0, l1, l2] [.int x] σ = if x = 0 then ru d 25 48 [l0, l1, l2] [] σ else if x = 1 then ru d 25 55 [l0, l1, l2] [] σ else if x = 2 then ru d 25 62 [l0, l1, l2] [] σ else if x = 3 then ru d 25 69 [l0, l1, l2] [] σ else if x = 4 then ru d 25 76 [l0, l1, l2] [] σ else if x = 5 then ru d 25 83 [l0, l1, l2] [] σ else if x = 6 then ru d 25 98 [l0, l1, l2] [] σ else if x = 7 then ru d 25 104 [l0, l1, l2] [] σ else ru d 25 115 [l0, l1, l2] [] σ := by
  refine (q_tsw t25_1 (fun x => (if x = 0 then 48 else (if x = 1 then 55 else (if x = 2 then 62 else (if x = 3 then 69 else (if x = 4 then 76 else (if x = 5 then 83 else (if x = 6 then 98 else (if x = 7 then 104 else 115))))))))) (f25_1 x)).trans ?_
  by_cases h0 : x = 0
  · rw [if_pos h0, if_pos h0]
  rw [if_neg h0, if_neg h0]
  by_cases h1 : x = 1
  · rw [if_pos h1, if_pos h1]
  rw [if_neg h1, if_neg h1]
  by_cases h2 : x = 2
  · rw [if_pos h2, if_pos h2]
  rw [if_neg h2, if_neg h2]
  by_cases h3 : x = 3
  · rw [if_pos h3, if_pos h3]
  rw [if_neg h3, if_neg h3]
  by_cases h4 : x = 4
  · rw [if_pos h4, if_pos h4]
  rw [if_neg h4, if_neg h4]
  by_cases h5 : x = 5
  · rw [if_pos h5, if_pos h5]
  rw [if_neg h5, if_neg h5]
  by_cases h6 : x = 6
  · rw [if_pos h6, if_pos h6]
  rw [if_neg h6, if_neg h6]
  by_cases h7 : x = 7
  · rw [if_pos h7, if_pos h7]
  rw [if_neg h7, if_neg h7]
theorem t25_48 : decode (mb 25) 48 = .ok (.aload_n 0, 1) := by decide +kernel
theorem s25_48 (d : Nat) (a0 : Nat) (l1 : Value) (l2 : Value) (σ : Hs) : ru d 25 48 [.ref a0, l1, l2] [] σ = ru d 25 49 [.ref a0, l1, l2] [.ref a0] σ := q_aload_n t25_48 rfl
theorem t25_49 : decode (mb 25) 49 = .ok (.getfield 9, 3) := by decide +kernel
theorem s25_49_o2 (d : Nat) (l0 : Value) (l1 : Value) (l2 : Value) (σ : Hs) : ru d 25 49 [l0, l1, l2] [.ref 2] σ = ru d 25 52 [l0, l1, l2] [.ref 3] σ := q_getf t25_49 mo25 F0_9 rfl rfl
theorem t25_52 : decode (mb 25) 52 = .ok (.iload_n 1, 1) := by decide +kernel
theorem s25_52 (d : Nat) (l0 : Value) (i1 : Int32) (l2 : Value) (w0 : Value) (σ : Hs) : ru d 25 52 [l0, .int i1, l2] [w0] σ = ru d 25 53 [l0, .int i1, l2] [.int i1, w0] σ := q_iload_n t25_52 rfl
theorem t25_53 : decode (mb 25) 53 = .ok (.iaload, 1) := by decide +kernel
theorem s25_53_o3 (d : Nat) (l0 : Value) (l1 : Value) (l2 : Value) (i : Int32) (σ : Hs) : ru d 25 53 [l0, l1, l2] [.int i, .ref 3] σ = gd (vp_in i 30) (ru d 25 54 [l0, l1, l2] [.int (σ 3 i.toNatClampNeg)] σ) := q_iald t25_53 rfl (by decide +kernel) rfl
theorem t25_54 : decode (mb 25) 54 = .ok (.ireturn, 1) := by decide +kernel
theorem s25_54 (d : Nat) (l0 : Value) (l1 : Value) (l2 : Value) (x : Int32) (σ : Hs) : ru d 25 54 [l0, l1, l2] [.int x] σ = some (some (.int x), σ) := q_ireti t25_54 mr25
theorem t25_55 : decode (mb 25) 55 = .ok (.aload_n 0, 1) := by decide +kernel
theorem s25_55 (d : Nat) (a0 : Nat) (l1 : Value) (l2 : Value) (σ : Hs) : ru d 25 55 [.ref a0, l1, l2] [] σ = ru d 25 56 [.ref a0, l1, l2] [.ref a0] σ := q_aload_n t25_55 rfl
theorem t25_56 : decode (mb 25) 56 = .ok (.getfield 15, 3) := by decide +kernel
theorem s25_56_o2 (d : Nat) (l0 : Value) (l1 : Value) (l2 : Value) (σ : Hs) : ru d 25 56 [l0, l1, l2] [.ref 2] σ = ru d 25 59 [l0, l1, l2] [.ref 4] σ := q_getf t25_56 mo25 F0_15 rfl rfl
theorem t25_59 : decode (mb 25) 59 = .ok (.iload_n 1, 1) := by decide +kernel
theorem s25_59 (d : Nat) (l0 : Value) (i1 : Int32) (l2 : Value) (w0 : Value) (σ : Hs) : ru d 25 59 [l0, .int i1, l2] [w0] σ = ru d 25 60 [l0, .int i1, l2] [.int i1, w0] σ := q_iload_n t25_59 rfl
theorem t25_60 : decode (mb 25) 60 = .ok (.iaload, 1) := by decide +kernel
theorem s25_60_o4 (d : Nat) (l0 : Value) (l1 : Value) (l2 : Value) (i : Int32) (σ : Hs) : ru d 25 60 [l0, l1, l2] [.int i, .ref 4] σ = gd (vp_in i 30) (ru d 25 61 [l0, l1, l2] [.int (σ 4 i.toNatClampNeg)] σ) := q_iald t25_60 rfl (by decide +kernel) rfl
theorem t25_61 : decode (mb 25) 61 = .ok (.ireturn, 1) := by decide +kernel
theorem s25_61 (d : Nat) (l0 : Value) (l1 : Value) (l2 : Value) (x : Int32) (σ : Hs) : ru d 25 61 [l0, l1, l2] [.int x] σ = some (some (.int x), σ) := q_ireti t25_61 mr25
theorem t25_62 : decode (mb 25) 62 = .ok (.aload_n 0, 1) := by decide +kernel
theorem s25_62 (d : Nat) (a0 : Nat) (l1 : Value) (l2 : Value) (σ : Hs) : ru d 25 62 [.ref a0, l1, l2] [] σ = ru d 25 63 [.ref a0, l1, l2] [.ref a0] σ := q_aload_n t25_62 rfl
theorem t25_63 : decode (mb 25) 63 = .ok (.getfield 18, 3) := by decide +kernel
theorem s25_63_o2 (d : Nat) (l0 : Value) (l1 : Value) (l2 : Value) (σ : Hs) : ru d 25 63 [l0, l1, l2] [.ref 2] σ = ru d 25 66 [l0, l1, l2] [.ref 5] σ := q_getf t25_63 mo25 F0_18 rfl rfl
theorem t25_66 : decode (mb 25) 66 = .ok (.iload_n 1, 1) := by decide +kernel
theorem s25_66 (d : Nat) (l0 : Value) (i1 : Int32) (l2 : Value) (w0 : Value) (σ : Hs) : ru d 25 66 [l0, .int i1, l2] [w0] σ = ru d 25 67 [l0, .int i1, l2] [.int i1, w0] σ := q_iload_n t25_66 rfl
theorem t25_67 : decode (mb 25) 67 = .ok (.iaload, 1) := by decide +kernel
theorem s25_67_o5 (d : Nat) (l0 : Value) (l1 : Value) (l2 : Value) (i : Int32) (σ : Hs) : ru d 25 67 [l0, l1, l2] [.int i, .ref 5] σ = gd (vp_in i 30) (ru d 25 68 [l0, l1, l2] [.int (σ 5 i.toNatClampNeg)] σ) := q_iald t25_67 rfl (by decide +kernel) rfl
theorem t25_68 : decode (mb 25) 68 = .ok (.ireturn, 1) := by decide +kernel
theorem s25_68 (d : Nat) (l0 : Value) (l1 : Value) (l2 : Value) (x : Int32) (σ : Hs) : ru d 25 68 [l0, l1, l2] [.int x] σ = some (some (.int x), σ) := q_ireti t25_68 mr25
theorem t25_69 : decode (mb 25) 69 = .ok (.aload_n 0, 1) := by decide +kernel
theorem s25_69 (d : Nat) (a0 : Nat) (l1 : Value) (l2 : Value) (σ : Hs) : ru d 25 69 [.ref a0, l1, l2] [] σ = ru d 25 70 [.ref a0, l1, l2] [.ref a0] σ := q_aload_n t25_69 rfl
theorem t25_70 : decode (mb 25) 70 = .ok (.getfield 21, 3) := by decide +kernel
theorem s25_70_o2 (d : Nat) (l0 : Value) (l1 : Value) (l2 : Value) (σ : Hs) : ru d 25 70 [l0, l1, l2] [.ref 2] σ = ru d 25 73 [l0, l1, l2] [.ref 6] σ := q_getf t25_70 mo25 F0_21 rfl rfl
theorem t25_73 : decode (mb 25) 73 = .ok (.iload_n 1, 1) := by decide +kernel
theorem s25_73 (d : Nat) (l0 : Value) (i1 : Int32) (l2 : Value) (w0 : Value) (σ : Hs) : ru d 25 73 [l0, .int i1, l2] [w0] σ = ru d 25 74 [l0, .int i1, l2] [.int i1, w0] σ := q_iload_n t25_73 rfl
theorem t25_74 : decode (mb 25) 74 = .ok (.iaload, 1) := by decide +kernel
theorem s25_74_o6 (d : Nat) (l0 : Value) (l1 : Value) (l2 : Value) (i : Int32) (σ : Hs) : ru d 25 74 [l0, l1, l2] [.int i, .ref 6] σ = gd (vp_in i 30) (ru d 25 75 [l0, l1, l2] [.int (σ 6 i.toNatClampNeg)] σ) := q_iald t25_74 rfl (by decide +kernel) rfl
theorem t25_75 : decode (mb 25) 75 = .ok (.ireturn, 1) := by decide +kernel
theorem s25_75 (d : Nat) (l0 : Value) (l1 : Value) (l2 : Value) (x : Int32) (σ : Hs) : ru d 25 75 [l0, l1, l2] [.int x] σ = some (some (.int x), σ) := q_ireti t25_75 mr25
theorem t25_76 : decode (mb 25) 76 = .ok (.aload_n 0, 1) := by decide +kernel
theorem s25_76 (d : Nat) (a0 : Nat) (l1 : Value) (l2 : Value) (σ : Hs) : ru d 25 76 [.ref a0, l1, l2] [] σ = ru d 25 77 [.ref a0, l1, l2] [.ref a0] σ := q_aload_n t25_76 rfl
theorem t25_77 : decode (mb 25) 77 = .ok (.getfield 24, 3) := by decide +kernel
theorem s25_77_o2 (d : Nat) (l0 : Value) (l1 : Value) (l2 : Value) (σ : Hs) : ru d 25 77 [l0, l1, l2] [.ref 2] σ = ru d 25 80 [l0, l1, l2] [.ref 7] σ := q_getf t25_77 mo25 F0_24 rfl rfl
theorem t25_80 : decode (mb 25) 80 = .ok (.iload_n 1, 1) := by decide +kernel
theorem s25_80 (d : Nat) (l0 : Value) (i1 : Int32) (l2 : Value) (w0 : Value) (σ : Hs) : ru d 25 80 [l0, .int i1, l2] [w0] σ = ru d 25 81 [l0, .int i1, l2] [.int i1, w0] σ := q_iload_n t25_80 rfl
theorem t25_81 : decode (mb 25) 81 = .ok (.iaload, 1) := by decide +kernel
theorem s25_81_o7 (d : Nat) (l0 : Value) (l1 : Value) (l2 : Value) (i : Int32) (σ : Hs) : ru d 25 81 [l0, l1, l2] [.int i, .ref 7] σ = gd (vp_in i 30) (ru d 25 82 [l0, l1, l2] [.int (σ 7 i.toNatClampNeg)] σ) := q_iald t25_81 rfl (by decide +kernel) rfl
theorem t25_82 : decode (mb 25) 82 = .ok (.ireturn, 1) := by decide +kernel
theorem s25_82 (d : Nat) (l0 : Value) (l1 : Value) (l2 : Value) (x : Int32) (σ : Hs) : ru d 25 82 [l0, l1, l2] [.int x] σ = some (some (.int x), σ) := q_ireti t25_82 mr25
theorem t25_83 : decode (mb 25) 83 = .ok (.aload_n 0, 1) := by decide +kernel
theorem s25_83 (d : Nat) (a0 : Nat) (l1 : Value) (l2 : Value) (σ : Hs) : ru d 25 83 [.ref a0, l1, l2] [] σ = ru d 25 84 [.ref a0, l1, l2] [.ref a0] σ := q_aload_n t25_83 rfl
theorem t25_84 : decode (mb 25) 84 = .ok (.getfield 27, 3) := by decide +kernel
theorem s25_84_o2 (d : Nat) (l0 : Value) (l1 : Value) (l2 : Value) (σ : Hs) : ru d 25 84 [l0, l1, l2] [.ref 2] σ = ru d 25 87 [l0, l1, l2] [.ref 8] σ := q_getf t25_84 mo25 F0_27 rfl rfl
theorem t25_87 : decode (mb 25) 87 = .ok (.iload_n 1, 1) := by decide +kernel
theorem s25_87 (d : Nat) (l0 : Value) (i1 : Int32) (l2 : Value) (w0 : Value) (σ : Hs) : ru d 25 87 [l0, .int i1, l2] [w0] σ = ru d 25 88 [l0, .int i1, l2] [.int i1, w0] σ := q_iload_n t25_87 rfl
theorem t25_88 : decode (mb 25) 88 = .ok (.baload, 1) := by decide +kernel
theorem s25_88_o8 (d : Nat) (l0 : Value) (l1 : Value) (l2 : Value) (i : Int32) (σ : Hs) : ru d 25 88 [l0, l1, l2] [.int i, .ref 8] σ = gd (vp_in i 30) (ru d 25 89 [l0, l1, l2] [.int (σ 8 i.toNatClampNeg)] σ) := q_bald t25_88 (by decide +kernel) rfl rfl
theorem t25_89 : decode (mb 25) 89 = .ok (.ifCond .eq 7, 3) := by decide +kernel
theorem s25_89 (d : Nat) (l0 : Value) (l1 : Value) (l2 : Value) (x : Int32) (σ : Hs) : ru d 25 89 [l0, l1, l2] [.int x] σ = if x = 0 then ru d 25 96 [l0, l1, l2] [] σ else ru d 25 92 [l0, l1, l2] [] σ := q_if_eq t25_89 (by decide +kernel)
theorem t25_92 : decode (mb 25) 92 = .ok (.iconst 1, 1) := by decide +kernel
theorem s25_92 (d : Nat) (l0 : Value) (l1 : Value) (l2 : Value) (σ : Hs) : ru d 25 92 [l0, l1, l2] [] σ = ru d 25 93 [l0, l1, l2] [.int 1] σ := q_iconst t25_92 (by decide +kernel)
theorem t25_93 : decode (mb 25) 93 = .ok (.goto 4, 3) := by decide +kernel
theorem s25_93 (d : Nat) (l0 : Value) (l1 : Value) (l2 : Value) (w0 : Value) (σ : Hs) : ru d 25 93 [l0, l1, l2] [w0] σ = ru d 25 97 [l0, l1, l2] [w0] σ := q_goto t25_93 (by decide +kernel)
theorem t25_96 : decode (mb 25) 96 = .ok (.iconst 0, 1) := by decide +kernel
theorem s25_96 (d : Nat) (l0 : Value) (l1 : Value) (l2 : Value) (σ : Hs) : ru d 25 96 [l0, l1, l2] [] σ = ru d 25 97 [l0, l1, l2] [.int 0] σ := q_iconst t25_96 (by decide +kernel)
theorem t25_97 : decode (mb 25) 97 = .ok (.ireturn, 1) := by decide +kernel
theorem s25_97 (d : Nat) (l0 : Value) (l1 : Value) (l2 : Value) (x : Int32) (σ : Hs) : ru d 25 97 [l0, l1, l2] [.int x] σ = some (some (.int x), σ) := q_ireti t25_97 mr25
theorem t25_98 : decode (mb 25) 98 = .ok (.aload_n 0, 1) := by decide +kernel
theorem s25_98 (d : Nat) (a0 : Nat) (l1 : Value) (l2 : Value) (σ : Hs) : ru d 25 98 [.ref a0, l1, l2] [] σ = ru d 25 99 [.ref a0, l1, l2] [.ref a0] σ := q_aload_n t25_98 rfl
theorem t25_99 : decode (mb 25) 99 = .ok (.iload_n 1, 1) := by decide +kernel
theorem s25_99 (d : Nat) (l0 : Value) (i1 : Int32) (l2 : Value) (w0 : Value) (σ : Hs) : ru d 25 99 [l0, .int i1, l2] [w0] σ = ru d 25 100 [l0, .int i1, l2] [.int i1, w0] σ := q_iload_n t25_99 rfl
theorem t25_100 : decode (mb 25) 100 = .ok (.invokevirtual 113, 3) := by decide +kernel
theorem s25_100_o2 (d : Nat) (l0 : Value) (l1 : Value) (l2 : Value) (v1 : Value) (σ : Hs) : ru d 25 100 [l0, l1, l2] [v1, .ref 2] σ = kont (callD d 12 [.ref 2, v1] σ) d 25 103 [l0, l1, l2] [] := q_invv t25_100 mo25 K0_113 mj12 rfl rfl rfl rfl (Nat.le_of_ble_eq_true rfl)
theorem t25_103 : decode (mb 25) 103 = .ok (.ireturn, 1) := by decide +kernel
theorem s25_103 (d : Nat) (l0 : Value) (l1 : Value) (l2 : Value) (x : Int32) (σ : Hs) : ru d 25 103 [l0, l1, l2] [.int x] σ = some (some (.int x), σ) := q_ireti t25_103 mr25
theorem t25_104 : decode (mb 25) 104 = .ok (.getstatic 128, 3) := by decide +kernel
theorem s25_104 (d : Nat) (l0 : Value) (l1 : Value) (l2 : Value) (σ : Hs) : ru d 25 104 [l0, l1, l2] [] σ = ru d 25 107 [l0, l1, l2] [.ref 105] σ := q_gets t25_104 mo25 S0_128 rfl
theorem t25_107 : decode (mb 25) 107 = .ok (.aload_n 0, 1) := by decide +kernel
theorem s25_107 (d : Nat) (a0 : Nat) (l1 : Value) (l2 : Value) (w0 : Value) (σ : Hs) : ru d 25 107 [.ref a0, l1, l2] [w0] σ = ru d 25 108 [.ref a0, l1, l2] [.ref a0, w0] σ := q_aload_n t25_107 rfl
theorem t25_108 : decode (mb 25) 108 = .ok (.getfield 9, 3) := by decide +kernel
theorem s25_108_o2 (d : Nat) (l0 : Value) (l1 : Value) (l2 : Value) (w0 : Value) (σ : Hs) : ru d 25 108 [l0, l1, l2] [.ref 2, w0] σ = ru d 25 111 [l0, l1, l2] [.ref 3, w0] σ := q_getf t25_108 mo25 F0_9 rfl rfl
theorem t25_111 : decode (mb 25) 111 = .ok (.iload_n 1, 1) := by decide +kernel
theorem s25_111 (d : Nat) (l0 : Value) (i1 : Int32) (l2 : Value) (w0 w1 : Value) (σ : Hs) : ru d 25 111 [l0, .int i1, l2] [w0, w1] σ = ru d 25 112 [l0, .int i1, l2] [.int i1, w0, w1] σ := q_iload_n t25_111 rfl
theorem t25_112 : decode (mb 25) 112 = .ok (.iaload, 1) := by decide +kernel
theorem s25_112_o3 (d : Nat) (l0 : Value) (l1 : Value) (l2 : Value) (i : Int32) (w0 : Value) (σ : Hs) : ru d 25 112 [l0, l1, l2] [.int i, .ref 3, w0] σ = gd (vp_in i 30) (ru d 25 113 [l0, l1, l2] [.int (σ 3 i.toNatClampNeg), w0] σ) := q_iald t25_112 rfl (by decide +kernel) rfl
theorem t25_113 : decode (mb 25) 113 = .ok (.iaload, 1) := by decide +kernel
theorem s25_113_o105 (d : Nat) (l0 : Value) (l1 : Value) (l2 : Value) (i : Int32) (σ : Hs) : ru d 25 113 [l0, l1, l2] [.int i, .ref 105] σ = gd (vp_in i 7) (ru d 25 114 [l0, l1, l2] [.int (([4, 5, 8, 3, 5, 3, 3] : List Int32).getD i.toNatClampNeg 0)] σ) := q_ials t25_113 rfl (by decide +kernel) rfl rfl
theorem t25_114 : decode (mb 25) 114 = .ok (.ireturn, 1) := by decide +kernel
theorem s25_114 (d : Nat) (l0 : Value) (l1 : Value) (l2 : Value) (x : Int32) (σ : Hs) : ru d 25 114 [l0, l1, l2] [.int x] σ = some (some (.int x), σ) := q_ireti t25_114 mr25
theorem t25_115 : decode (mb 25) 115 = .ok (.getstatic 134, 3) := by decide +kernel
theorem s25_115 (d : Nat) (l0 : Value) (l1 : Value) (l2 : Value) (σ : Hs) : ru d 25 115 [l0, l1, l2] [] σ = ru d 25 118 [l0, l1, l2] [.ref 106] σ := q_gets t25_115 mo25 S0_134 rfl
theorem t25_118 : decode (mb 25) 118 = .ok (.aload_n 0, 1) := by decide +kernel
theorem s25_118 (d : Nat) (a0 : Nat) (l1 : Value) (l2 : Value) (w0 : Value) (σ : Hs) : ru d 25 118 [.ref a0, l1, l2] [w0] σ = ru d 25 119 [.ref a0, l1, l2] [.ref a0, w0] σ := q_aload_n t25_118 rfl
theorem t25_119 : decode (mb 25) 119 = .ok (.getfield 9, 3) := by decide +kernel
theorem s25_119_o2 (d : Nat) (l0 : Value) (l1 : Value) (l2 : Value) (w0 : Value) (σ : Hs) : ru d 25 119 [l0, l1, l2] [.ref 2, w0] σ = ru d 25 122 [l0, l1, l2] [.ref 3, w0] σ := q_getf t25_119 mo25 F0_9 rfl rfl
theorem t25_122 : decode (mb 25) 122 = .ok (.iload_n 1, 1) := by decide +kernel
theorem s25_122 (d : Nat) (l0 : Value) (i1 : Int32) (l2 : Value) (w0 w1 : Value) (σ : Hs) : ru d 25 122 [l0, .int i1, l2] [w0, w1] σ = ru d 25 123 [l0, .int i1, l2] [.int i1, w0, w1] σ := q_iload_n t25_122 rfl
theorem t25_123 : decode (mb 25) 123 = .ok (.iaload, 1) := by decide +kernel
theorem s25_123_o3 (d : Nat) (l0 : Value) (l1 : Value) (l2 : Value) (i : Int32) (w0 : Value) (σ : Hs) : ru d 25 123 [l0, l1, l2] [.int i, .ref 3, w0] σ = gd (vp_in i 30) (ru d 25 124 [l0, l1, l2] [.int (σ 3 i.toNatClampNeg), w0] σ) := q_iald t25_123 rfl (by decide +kernel) rfl
theorem t25_124 : decode (mb 25) 124 = .ok (.iaload, 1) := by decide +kernel
theorem s25_124_o106 (d : Nat) (l0 : Value) (l1 : Value) (l2 : Value) (i : Int32) (σ : Hs) : ru d 25 124 [l0, l1, l2] [.int i, .ref 106] σ = gd (vp_in i 7) (ru d 25 125 [l0, l1, l2] [.int (([60, 30, 120, 6, 120, 90, 10000] : List Int32).getD i.toNatClampNeg 0)] σ) := q_ials t25_124 rfl (by decide +kernel) rfl rfl
theorem t25_125 : decode (mb 25) 125 = .ok (.ireturn, 1) := by decide +kernel
theorem s25_125 (d : Nat) (l0 : Value) (l1 : Value) (l2 : Value) (x : Int32) (σ : Hs) : ru d 25 125 [l0, l1, l2] [.int x] σ = some (some (.int x), σ) := q_ireti t25_125 mr25
theorem c25 (d : Nat) (x0 : Nat) (x1 : Int32) (x2 : Int32) (σ : Hs) : callD (d + 1) 25 [.ref x0, .int x1, .int x2] σ = ru d 25 0 [.ref x0, .int x1, .int x2] [] σ := callD_ru ml25 rfl rfl (Nat.le_of_ble_eq_true rfl)
-- 26: Heap.gardenTells(II)I
theorem t26_0 : decode (mb 26) 0 = .ok (.iload_n 2, 1) := by decide +kernel
theorem s26_0 (d : Nat) (l0 : Value) (l1 : Value) (i2 : Int32) (σ : Hs) : ru d 26 0 [l0, l1, .int i2] [] σ = ru d 26 1 [l0, l1, .int i2] [.int i2] σ := q_iload_n t26_0 rfl
theorem t26_1 : decode (mb 26) 1 = .ok (.lookupswitch 41 #[(0, 27), (1, 34)], 27) := by decide +kernel
theorem f26_1 (x : Int32) : tgt 1 (Op.lookupswitch.offset (#[(0, 27), (1, 34)] : Array (Int × Int)).toList 41 x.toInt) = some (if x = 0 then 28 else (if x = 1 then 35 else 42)) := by
  by_cases h0 : x = 0
  · subst h0; decide +kernel
  by_cases h1 : x = 1
  · subst h1; decide +kernel
  have e0 : ¬ x.toInt = 0 := fun h => h0 (Int32.toInt_inj.mp (h.trans (by decide +kernel)))
  have e1 : ¬ x.toInt = 1 := fun h => h1 (Int32.toInt_inj.mp (h.trans (by decide +kernel)))
  have g0 : ¬ (0 : Int) = x.toInt := fun h => e0 h.symm
  have g1 : ¬ (1 : Int) = x.toInt := fun h => e1 h.symm
  simp only [Op.lookupswitch.offset_cons, Op.lookupswitch.offset_nil, if_neg g0, if_neg h0, if_neg g1, if_neg h1]
  decide +kernel
theorem s26_1 (d : Nat) (l0 : Value) (l1 : Value) (l2 : Value) (x : Int32) (σ : Hs) : ru d 26 1 [l0, l1, l2] [.int x] σ = if x = 0 then ru d 26 28 [l0, l1, l2] [] σ else if x = 1 then ru d 26 35 [l0, l1, l2] [] σ else ru d 26 42 [l0, l1, l2] [] σ := by
  refine (q_lsw t26_1 (by decide +kernel) (fun x => (if x = 0 then 28 else (if x = 1 then 35 else 42))) (f26_1 x)).trans ?_
  by_cases h0 : x = 0
  · rw [if_pos h0, if_pos h0]
  rw [if_neg h0, if_neg h0]
  by_cases h1 : x = 1
  · rw [if_pos h1, if_pos h1]
  rw [if_neg h1, if_neg h1]
theorem t26_28 : decode (mb 26) 28 = .ok (.aload_n 0, 1) := by decide +kernel
theorem s26_28 (d : Nat) (a0 : Nat) (l1 : Value) (l2 : Value) (σ : Hs) : ru d 26 28 [.ref a0, l1, l2] [] σ = ru d 26 29 [.ref a0, l1, l2] [.ref a0] σ := q_aload_n t26_28 rfl
theorem t26_29 : decode (mb 26) 29 = .ok (.getfield 37, 3) := by decide +kernel
theorem s26_29_o2 (d : Nat) (l0 : Value) (l1 : Value) (l2 : Value) (σ : Hs) : ru d 26 29 [l0, l1, l2] [.ref 2] σ = ru d 26 32 [l0, l1, l2] [.ref 11] σ := q_getf t26_29 mo26 F0_37 rfl rfl
theorem s26_29_o59 (d : Nat) (l0 : Value) (l1 : Value) (l2 : Value) (σ : Hs) : ru d 26 29 [l0, l1, l2] [.ref 59] σ = ru d 26 32 [l0, l1, l2] [.ref 68] σ := q_getf t26_29 mo26 F0_37 rfl rfl
theorem t26_32 : decode (mb 26) 32 = .ok (.iload_n 1, 1) := by decide +kernel
theorem s26_32 (d : Nat) (l0 : Value) (i1 : Int32) (l2 : Value) (w0 : Value) (σ : Hs) : ru d 26 32 [l0, .int i1, l2] [w0] σ = ru d 26 33 [l0, .int i1, l2] [.int i1, w0] σ := q_iload_n t26_32 rfl
theorem t26_33 : decode (mb 26) 33 = .ok (.iaload, 1) := by decide +kernel
theorem s26_33_o11 (d : Nat) (l0 : Value) (l1 : Value) (l2 : Value) (i : Int32) (σ : Hs) : ru d 26 33 [l0, l1, l2] [.int i, .ref 11] σ = gd (vp_in i 9) (ru d 26 34 [l0, l1, l2] [.int (σ 11 i.toNatClampNeg)] σ) := q_iald t26_33 rfl (by decide +kernel) rfl
theorem s26_33_o68 (d : Nat) (l0 : Value) (l1 : Value) (l2 : Value) (i : Int32) (σ : Hs) : ru d 26 33 [l0, l1, l2] [.int i, .ref 68] σ = gd (vp_in i 9) (ru d 26 34 [l0, l1, l2] [.int (σ 68 i.toNatClampNeg)] σ) := q_iald t26_33 rfl (by decide +kernel) rfl
theorem t26_34 : decode (mb 26) 34 = .ok (.ireturn, 1) := by decide +kernel
theorem s26_34 (d : Nat) (l0 : Value) (l1 : Value) (l2 : Value) (x : Int32) (σ : Hs) : ru d 26 34 [l0, l1, l2] [.int x] σ = some (some (.int x), σ) := q_ireti t26_34 mr26
theorem t26_35 : decode (mb 26) 35 = .ok (.aload_n 0, 1) := by decide +kernel
theorem s26_35 (d : Nat) (a0 : Nat) (l1 : Value) (l2 : Value) (σ : Hs) : ru d 26 35 [.ref a0, l1, l2] [] σ = ru d 26 36 [.ref a0, l1, l2] [.ref a0] σ := q_aload_n t26_35 rfl
theorem t26_36 : decode (mb 26) 36 = .ok (.getfield 40, 3) := by decide +kernel
theorem s26_36_o2 (d : Nat) (l0 : Value) (l1 : Value) (l2 : Value) (σ : Hs) : ru d 26 36 [l0, l1, l2] [.ref 2] σ = ru d 26 39 [l0, l1, l2] [.ref 12] σ := q_getf t26_36 mo26 F0_40 rfl rfl
theorem s26_36_o59 (d : Nat) (l0 : Value) (l1 : Value) (l2 : Value) (σ : Hs) : ru d 26 36 [l0, l1, l2] [.ref 59] σ = ru d 26 39 [l0, l1, l2] [.ref 69] σ := q_getf t26_36 mo26 F0_40 rfl rfl
theorem t26_39 : decode (mb 26) 39 = .ok (.iload_n 1, 1) := by decide +kernel
theorem s26_39 (d : Nat) (l0 : Value) (i1 : Int32) (l2 : Value) (w0 : Value) (σ : Hs) : ru d 26 39 [l0, .int i1, l2] [w0] σ = ru d 26 40 [l0, .int i1, l2] [.int i1, w0] σ := q_iload_n t26_39 rfl
theorem t26_40 : decode (mb 26) 40 = .ok (.iaload, 1) := by decide +kernel
theorem s26_40_o12 (d : Nat) (l0 : Value) (l1 : Value) (l2 : Value) (i : Int32) (σ : Hs) : ru d 26 40 [l0, l1, l2] [.int i, .ref 12] σ = gd (vp_in i 9) (ru d 26 41 [l0, l1, l2] [.int (σ 12 i.toNatClampNeg)] σ) := q_iald t26_40 rfl (by decide +kernel) rfl
theorem s26_40_o69 (d : Nat) (l0 : Value) (l1 : Value) (l2 : Value) (i : Int32) (σ : Hs) : ru d 26 40 [l0, l1, l2] [.int i, .ref 69] σ = gd (vp_in i 9) (ru d 26 41 [l0, l1, l2] [.int (σ 69 i.toNatClampNeg)] σ) := q_iald t26_40 rfl (by decide +kernel) rfl
theorem t26_41 : decode (mb 26) 41 = .ok (.ireturn, 1) := by decide +kernel
theorem s26_41 (d : Nat) (l0 : Value) (l1 : Value) (l2 : Value) (x : Int32) (σ : Hs) : ru d 26 41 [l0, l1, l2] [.int x] σ = some (some (.int x), σ) := q_ireti t26_41 mr26
theorem t26_42 : decode (mb 26) 42 = .ok (.aload_n 0, 1) := by decide +kernel
theorem s26_42 (d : Nat) (a0 : Nat) (l1 : Value) (l2 : Value) (σ : Hs) : ru d 26 42 [.ref a0, l1, l2] [] σ = ru d 26 43 [.ref a0, l1, l2] [.ref a0] σ := q_aload_n t26_42 rfl
theorem t26_43 : decode (mb 26) 43 = .ok (.getfield 34, 3) := by decide +kernel
theorem s26_43_o2 (d : Nat) (l0 : Value) (l1 : Value) (l2 : Value) (σ : Hs) : ru d 26 43 [l0, l1, l2] [.ref 2] σ = ru d 26 46 [l0, l1, l2] [.ref 10] σ := q_getf t26_43 mo26 F0_34 rfl rfl
theorem s26_43_o59 (d : Nat) (l0 : Value) (l1 : Value) (l2 : Value) (σ : Hs) : ru d 26 43 [l0, l1, l2] [.ref 59] σ = ru d 26 46 [l0, l1, l2] [.ref 67] σ := q_getf t26_43 mo26 F0_34 rfl rfl
theorem t26_46 : decode (mb 26) 46 = .ok (.iload_n 1, 1) := by decide +kernel
theorem s26_46 (d : Nat) (l0 : Value) (i1 : Int32) (l2 : Value) (w0 : Value) (σ : Hs) : ru d 26 46 [l0, .int i1, l2] [w0] σ = ru d 26 47 [l0, .int i1, l2] [.int i1, w0] σ := q_iload_n t26_46 rfl
theorem t26_47 : decode (mb 26) 47 = .ok (.iaload, 1) := by decide +kernel
theorem s26_47_o10 (d : Nat) (l0 : Value) (l1 : Value) (l2 : Value) (i : Int32) (σ : Hs) : ru d 26 47 [l0, l1, l2] [.int i, .ref 10] σ = gd (vp_in i 9) (ru d 26 48 [l0, l1, l2] [.int (σ 10 i.toNatClampNeg)] σ) := q_iald t26_47 rfl (by decide +kernel) rfl
theorem s26_47_o67 (d : Nat) (l0 : Value) (l1 : Value) (l2 : Value) (i : Int32) (σ : Hs) : ru d 26 47 [l0, l1, l2] [.int i, .ref 67] σ = gd (vp_in i 9) (ru d 26 48 [l0, l1, l2] [.int (σ 67 i.toNatClampNeg)] σ) := q_iald t26_47 rfl (by decide +kernel) rfl
theorem t26_48 : decode (mb 26) 48 = .ok (.ireturn, 1) := by decide +kernel
theorem s26_48 (d : Nat) (l0 : Value) (l1 : Value) (l2 : Value) (x : Int32) (σ : Hs) : ru d 26 48 [l0, l1, l2] [.int x] σ = some (some (.int x), σ) := q_ireti t26_48 mr26
theorem c26 (d : Nat) (x0 : Nat) (x1 : Int32) (x2 : Int32) (σ : Hs) : callD (d + 1) 26 [.ref x0, .int x1, .int x2] σ = ru d 26 0 [.ref x0, .int x1, .int x2] [] σ := callD_ru ml26 rfl rfl (Nat.le_of_ble_eq_true rfl)
-- 27: Heap.heapTells(I)I
theorem t27_0 : decode (mb 27) 0 = .ok (.iload_n 1, 1) := by decide +kernel
theorem s27_0 (d : Nat) (l0 : Value) (i1 : Int32) (σ : Hs) : ru d 27 0 [l0, .int i1] [] σ = ru d 27 1 [l0, .int i1] [.int i1] σ := q_iload_n t27_0 rfl
theorem t27_1 : decode (mb 27) 1 = .ok (.tableswitch 86 0 6 #[43, 52, 57, 66, 71, 76, 81], 43) := by decide +kernel
theorem f27_1 (x : Int32) : (tsw 0 6 #[43, 52, 57, 66, 71, 76, 81] 86 x.toInt).bind (tgt 1) = some (if x = 0 then 44 else (if x = 1 then 53 else (if x = 2 then 58 else (if x = 3 then 67 else (if x = 4 then 72 else (if x = 5 then 77 else (if x = 6 then 82 else 87))))))) := by
  by_cases h0 : x = 0
  · subst h0; decide +kernel
  by_cases h1 : x = 1
  · subst h1; decide +kernel
  by_cases h2 : x = 2
  · subst h2; decide +kernel
  by_cases h3 : x = 3
  · subst h3; decide +kernel
  by_cases h4 : x = 4
  · subst h4; decide +kernel
  by_cases h5 : x = 5
  · subst h5; decide +kernel
  by_cases h6 : x = 6
  · subst h6; decide +kernel
  have e0 : ¬ x.toInt = 0 := fun h => h0 (Int32.toInt_inj.mp (h.trans (by decide +kernel)))
  have e1 : ¬ x.toInt = 1 := fun h => h1 (Int32.toInt_inj.mp (h.trans (by decide +kernel)))
  have e2 : ¬ x.toInt = 2 := fun h => h2 (Int32.toInt_inj.mp (h.trans (by decide +kernel)))
  have e3 : ¬ x.toInt = 3 := fun h => h3 (Int32.toInt_inj.mp (h.trans (by decide +kernel)))
  have e4 : ¬ x.toInt = 4 := fun h => h4 (Int32.toInt_inj.mp (h.trans (by decide +kernel)))
  have e5 : ¬ x.toInt = 5 := fun h => h5 (Int32.toInt_inj.mp (h.trans (by decide +kernel)))
  have e6 : ¬ x.toInt = 6 := fun h => h6 (Int32.toInt_inj.mp (h.trans (by decide +kernel)))
  have e : x.toInt < 0 ∨ 6 < x.toInt := by omega
  unfold tsw
  rw [if_pos e, if_neg h0, if_neg h1, if_neg h2, if_neg h3, if_neg h4, if_neg h5, if_neg h6]
  decide +kernel
theorem s27_1 (d : Nat) (l0 : Value) (l1 : Value) (x : Int32) (σ : Hs) : ru d 27 1 [l0, l1] [.int x] σ = if x = 0 then ru d 27 44 [l0, l1] [] σ else if x = 1 then ru d 27 53 [l0, l1] [] σ else if x = 2 then ru d 27 58 [l0, l1] [] σ else if x = 3 then ru d 27 67 [l0, l1] [] σ else if x = 4 then ru d 27 72 [l0, l1] [] σ else if x = 5 then ru d 27 77 [l0, l1] [] σ else if x = 6 then ru d 27 82 [l0, l1] [] σ else ru d 27 87 [l0, l1] [] σ := by
  refine (q_tsw t27_1 (fun x => (if x = 0 then 44 else (if x = 1 then 53 else (if x = 2 then 58 else (if x = 3 then 67 else (if x = 4 then 72 else (if x = 5 then 77 else (if x = 6 then 82 else 87)))))))) (f27_1 x)).trans ?_
  by_cases h0 : x = 0
  · rw [if_pos h0, if_pos h0]
  rw [if_neg h0, if_neg h0]
  by_cases h1 : x = 1
  · rw [if_pos h1, if_pos h1]
  rw [if_neg h1, if_neg h1]
  by_cases h2 : x = 2
  · rw [if_pos h2, if_pos h2]
  rw [if_neg h2, if_neg h2]
  by_cases h3 : x = 3
  · rw [if_pos h3, if_pos h3]
  rw [if_neg h3, if_neg h3]
  by_cases h4 : x = 4
  · rw [if_pos h4, if_pos h4]
  rw [if_neg h4, if_neg h4]
  by_cases h5 : x = 5
  · rw [if_pos h5, if_pos h5]
  rw [if_neg h5, if_neg h5]
  by_cases h6 : x = 6
  · rw [if_pos h6, if_pos h6]
  rw [if_neg h6, if_neg h6]
theorem t27_44 : decode (mb 27) 44 = .ok (.aload_n 0, 1) := by decide +kernel
theorem s27_44 (d : Nat) (a0 : Nat) (l1 : Value) (σ : Hs) : ru d 27 44 [.ref a0, l1] [] σ = ru d 27 45 [.ref a0, l1] [.ref a0] σ := q_aload_n t27_44 rfl
theorem t27_45 : decode (mb 27) 45 = .ok (.aload_n 0, 1) := by decide +kernel
theorem s27_45 (d : Nat) (a0 : Nat) (l1 : Value) (w0 : Value) (σ : Hs) : ru d 27 45 [.ref a0, l1] [w0] σ = ru d 27 46 [.ref a0, l1] [.ref a0, w0] σ := q_aload_n t27_45 rfl
theorem t27_46 : decode (mb 27) 46 = .ok (.getfield 15, 3) := by decide +kernel
theorem s27_46_o2 (d : Nat) (l0 : Value) (l1 : Value) (w0 : Value) (σ : Hs) : ru d 27 46 [l0, l1] [.ref 2, w0] σ = ru d 27 49 [l0, l1] [.ref 4, w0] σ := q_getf t27_46 mo27 F0_15 rfl rfl
theorem s27_46_o59 (d : Nat) (l0 : Value) (l1 : Value) (w0 : Value) (σ : Hs) : ru d 27 46 [l0, l1] [.ref 59, w0] σ = ru d 27 49 [l0, l1] [.ref 61, w0] σ := q_getf t27_46 mo27 F0_15 rfl rfl
theorem t27_49 : decode (mb 27) 49 = .ok (.invokevirtual 154, 3) := by decide +kernel
theorem s27_49_o2 (d : Nat) (l0 : Value) (l1 : Value) (v1 : Value) (σ : Hs) : ru d 27 49 [l0, l1] [v1, .ref 2] σ = kont (callD d 28 [.ref 2, v1] σ) d 27 52 [l0, l1] [] := q_invv t27_49 mo27 K0_154 mj28 rfl rfl rfl rfl (Nat.le_of_ble_eq_true rfl)
theorem s27_49_o59 (d : Nat) (l0 : Value) (l1 : Value) (v1 : Value) (σ : Hs) : ru d 27 49 [l0, l1] [v1, .ref 59] σ = kont (callD d 28 [.ref 59, v1] σ) d 27 52 [l0, l1] [] := q_invv t27_49 mo27 K0_154 mj28 rfl rfl rfl rfl (Nat.le_of_ble_eq_true rfl)
theorem t27_52 : decode (mb 27) 52 = .ok (.ireturn, 1) := by decide +kernel
theorem s27_52 (d : Nat) (l0 : Value) (l1 : Value) (x : Int32) (σ : Hs) : ru d 27 52 [l0, l1] [.int x] σ = some (some (.int x), σ) := q_ireti t27_52 mr27
theorem t27_53 : decode (mb 27) 53 = .ok (.aload_n 0, 1) := by decide +kernel
theorem s27_53 (d : Nat) (a0 : Nat) (l1 : Value) (σ : Hs) : ru d 27 53 [.ref a0, l1] [] σ = ru d 27 54 [.ref a0, l1] [.ref a0] σ := q_aload_n t27_53 rfl
theorem t27_54 : decode (mb 27) 54 = .ok (.invokevirtual 158, 3) := by decide +kernel
theorem s27_54_o2 (d : Nat) (l0 : Value) (l1 : Value) (σ : Hs) : ru d 27 54 [l0, l1] [.ref 2] σ = kont (callD d 7 [.ref 2] σ) d 27 57 [l0, l1] [] := q_invv t27_54 mo27 K0_158 mj7 rfl rfl rfl rfl (Nat.le_of_ble_eq_true rfl)
theorem s27_54_o59 (d : Nat) (l0 : Value) (l1 : Value) (σ : Hs) : ru d 27 54 [l0, l1] [.ref 59] σ = kont (callD d 7 [.ref 59] σ) d 27 57 [l0, l1] [] := q_invv t27_54 mo27 K0_158 mj7 rfl rfl rfl rfl (Nat.le_of_ble_eq_true rfl)
theorem t27_57 : decode (mb 27) 57 = .ok (.ireturn, 1) := by decide +kernel
theorem s27_57 (d : Nat) (l0 : Value) (l1 : Value) (x : Int32) (σ : Hs) : ru d 27 57 [l0, l1] [.int x] σ = some (some (.int x), σ) := q_ireti t27_57 mr27
theorem t27_58 : decode (mb 27) 58 = .ok (.aload_n 0, 1) := by decide +kernel
theorem s27_58 (d : Nat) (a0 : Nat) (l1 : Value) (σ : Hs) : ru d 27 58 [.ref a0, l1] [] σ = ru d 27 59 [.ref a0, l1] [.ref a0] σ := q_aload_n t27_58 rfl
theorem t27_59 : decode (mb 27) 59 = .ok (.aload_n 0, 1) := by decide +kernel
theorem s27_59 (d : Nat) (a0 : Nat) (l1 : Value) (w0 : Value) (σ : Hs) : ru d 27 59 [.ref a0, l1] [w0] σ = ru d 27 60 [.ref a0, l1] [.ref a0, w0] σ := q_aload_n t27_59 rfl
theorem t27_60 : decode (mb 27) 60 = .ok (.getfield 24, 3) := by decide +kernel
theorem s27_60_o2 (d : Nat) (l0 : Value) (l1 : Value) (w0 : Value) (σ : Hs) : ru d 27 60 [l0, l1] [.ref 2, w0] σ = ru d 27 63 [l0, l1] [.ref 7, w0] σ := q_getf t27_60 mo27 F0_24 rfl rfl
theorem s27_60_o59 (d : Nat) (l0 : Value) (l1 : Value) (w0 : Value) (σ : Hs) : ru d 27 60 [l0, l1] [.ref 59, w0] σ = ru d 27 63 [l0, l1] [.ref 64, w0] σ := q_getf t27_60 mo27 F0_24 rfl rfl
theorem t27_63 : decode (mb 27) 63 = .ok (.invokevirtual 154, 3) := by decide +kernel
theorem s27_63_o2 (d : Nat) (l0 : Value) (l1 : Value) (v1 : Value) (σ : Hs) : ru d 27 63 [l0, l1] [v1, .ref 2] σ = kont (callD d 28 [.ref 2, v1] σ) d 27 66 [l0, l1] [] := q_invv t27_63 mo27 K0_154 mj28 rfl rfl rfl rfl (Nat.le_of_ble_eq_true rfl)
theorem s27_63_o59 (d : Nat) (l0 : Value) (l1 : Value) (v1 : Value) (σ : Hs) : ru d 27 63 [l0, l1] [v1, .ref 59] σ = kont (callD d 28 [.ref 59, v1] σ) d 27 66 [l0, l1] [] := q_invv t27_63 mo27 K0_154 mj28 rfl rfl rfl rfl (Nat.le_of_ble_eq_true rfl)
theorem t27_66 : decode (mb 27) 66 = .ok (.ireturn, 1) := by decide +kernel
theorem s27_66 (d : Nat) (l0 : Value) (l1 : Value) (x : Int32) (σ : Hs) : ru d 27 66 [l0, l1] [.int x] σ = some (some (.int x), σ) := q_ireti t27_66 mr27
theorem t27_67 : decode (mb 27) 67 = .ok (.aload_n 0, 1) := by decide +kernel
theorem s27_67 (d : Nat) (a0 : Nat) (l1 : Value) (σ : Hs) : ru d 27 67 [.ref a0, l1] [] σ = ru d 27 68 [.ref a0, l1] [.ref a0] σ := q_aload_n t27_67 rfl
theorem t27_68 : decode (mb 27) 68 = .ok (.getfield 43, 3) := by decide +kernel
theorem s27_68_o2 (d : Nat) (l0 : Value) (l1 : Value) (σ : Hs) : ru d 27 68 [l0, l1] [.ref 2] σ = ru d 27 71 [l0, l1] [.int (σ 2 10)] σ := q_getf t27_68 mo27 F0_43 rfl rfl
theorem s27_68_o59 (d : Nat) (l0 : Value) (l1 : Value) (σ : Hs) : ru d 27 68 [l0, l1] [.ref 59] σ = ru d 27 71 [l0, l1] [.int (σ 59 10)] σ := q_getf t27_68 mo27 F0_43 rfl rfl
theorem t27_71 : decode (mb 27) 71 = .ok (.ireturn, 1) := by decide +kernel
theorem s27_71 (d : Nat) (l0 : Value) (l1 : Value) (x : Int32) (σ : Hs) : ru d 27 71 [l0, l1] [.int x] σ = some (some (.int x), σ) := q_ireti t27_71 mr27
theorem t27_72 : decode (mb 27) 72 = .ok (.aload_n 0, 1) := by decide +kernel
theorem s27_72 (d : Nat) (a0 : Nat) (l1 : Value) (σ : Hs) : ru d 27 72 [.ref a0, l1] [] σ = ru d 27 73 [.ref a0, l1] [.ref a0] σ := q_aload_n t27_72 rfl
theorem t27_73 : decode (mb 27) 73 = .ok (.getfield 47, 3) := by decide +kernel
theorem s27_73_o2 (d : Nat) (l0 : Value) (l1 : Value) (σ : Hs) : ru d 27 73 [l0, l1] [.ref 2] σ = ru d 27 76 [l0, l1] [.int (σ 2 11)] σ := q_getf t27_73 mo27 F0_47 rfl rfl
theorem s27_73_o59 (d : Nat) (l0 : Value) (l1 : Value) (σ : Hs) : ru d 27 73 [l0, l1] [.ref 59] σ = ru d 27 76 [l0, l1] [.int (σ 59 11)] σ := q_getf t27_73 mo27 F0_47 rfl rfl
theorem t27_76 : decode (mb 27) 76 = .ok (.ireturn, 1) := by decide +kernel
theorem s27_76 (d : Nat) (l0 : Value) (l1 : Value) (x : Int32) (σ : Hs) : ru d 27 76 [l0, l1] [.int x] σ = some (some (.int x), σ) := q_ireti t27_76 mr27
theorem t27_77 : decode (mb 27) 77 = .ok (.aload_n 0, 1) := by decide +kernel
theorem s27_77 (d : Nat) (a0 : Nat) (l1 : Value) (σ : Hs) : ru d 27 77 [.ref a0, l1] [] σ = ru d 27 78 [.ref a0, l1] [.ref a0] σ := q_aload_n t27_77 rfl
theorem t27_78 : decode (mb 27) 78 = .ok (.getfield 50, 3) := by decide +kernel
theorem s27_78_o2 (d : Nat) (l0 : Value) (l1 : Value) (σ : Hs) : ru d 27 78 [l0, l1] [.ref 2] σ = ru d 27 81 [l0, l1] [.int (σ 2 12)] σ := q_getf t27_78 mo27 F0_50 rfl rfl
theorem s27_78_o59 (d : Nat) (l0 : Value) (l1 : Value) (σ : Hs) : ru d 27 78 [l0, l1] [.ref 59] σ = ru d 27 81 [l0, l1] [.int (σ 59 12)] σ := q_getf t27_78 mo27 F0_50 rfl rfl
theorem t27_81 : decode (mb 27) 81 = .ok (.ireturn, 1) := by decide +kernel
theorem s27_81 (d : Nat) (l0 : Value) (l1 : Value) (x : Int32) (σ : Hs) : ru d 27 81 [l0, l1] [.int x] σ = some (some (.int x), σ) := q_ireti t27_81 mr27
theorem t27_82 : decode (mb 27) 82 = .ok (.aload_n 0, 1) := by decide +kernel
theorem s27_82 (d : Nat) (a0 : Nat) (l1 : Value) (σ : Hs) : ru d 27 82 [.ref a0, l1] [] σ = ru d 27 83 [.ref a0, l1] [.ref a0] σ := q_aload_n t27_82 rfl
theorem t27_83 : decode (mb 27) 83 = .ok (.invokevirtual 161, 3) := by decide +kernel
theorem s27_83_o2 (d : Nat) (l0 : Value) (l1 : Value) (σ : Hs) : ru d 27 83 [l0, l1] [.ref 2] σ = kont (callD d 29 [.ref 2] σ) d 27 86 [l0, l1] [] := q_invv t27_83 mo27 K0_161 mj29 rfl rfl rfl rfl (Nat.le_of_ble_eq_true rfl)
theorem s27_83_o59 (d : Nat) (l0 : Value) (l1 : Value) (σ : Hs) : ru d 27 83 [l0, l1] [.ref 59] σ = kont (callD d 29 [.ref 59] σ) d 27 86 [l0, l1] [] := q_invv t27_83 mo27 K0_161 mj29 rfl rfl rfl rfl (Nat.le_of_ble_eq_true rfl)
theorem t27_86 : decode (mb 27) 86 = .ok (.ireturn, 1) := by decide +kernel
theorem s27_86 (d : Nat) (l0 : Value) (l1 : Value) (x : Int32) (σ : Hs) : ru d 27 86 [l0, l1] [.int x] σ = some (some (.int x), σ) := q_ireti t27_86 mr27
theorem t27_87 : decode (mb 27) 87 = .ok (.aload_n 0, 1) := by decide +kernel
theorem s27_87 (d : Nat) (a0 : Nat) (l1 : Value) (σ : Hs) : ru d 27 87 [.ref a0, l1] [] σ = ru d 27 88 [.ref a0, l1] [.ref a0] σ := q_aload_n t27_87 rfl
theorem t27_88 : decode (mb 27) 88 = .ok (.aload_n 0, 1) := by decide +kernel
theorem s27_88 (d : Nat) (a0 : Nat) (l1 : Value) (w0 : Value) (σ : Hs) : ru d 27 88 [.ref a0, l1] [w0] σ = ru d 27 89 [.ref a0, l1] [.ref a0, w0] σ := q_aload_n t27_88 rfl
theorem t27_89 : decode (mb 27) 89 = .ok (.getfield 18, 3) := by decide +kernel
theorem s27_89_o2 (d : Nat) (l0 : Value) (l1 : Value) (w0 : Value) (σ : Hs) : ru d 27 89 [l0, l1] [.ref 2, w0] σ = ru d 27 92 [l0, l1] [.ref 5, w0] σ := q_getf t27_89 mo27 F0_18 rfl rfl
theorem s27_89_o59 (d : Nat) (l0 : Value) (l1 : Value) (w0 : Value) (σ : Hs) : ru d 27 89 [l0, l1] [.ref 59, w0] σ = ru d 27 92 [l0, l1] [.ref 62, w0] σ := q_getf t27_89 mo27 F0_18 rfl rfl
theorem t27_92 : decode (mb 27) 92 = .ok (.invokevirtual 154, 3) := by decide +kernel
theorem s27_92_o2 (d : Nat) (l0 : Value) (l1 : Value) (v1 : Value) (σ : Hs) : ru d 27 92 [l0, l1] [v1, .ref 2] σ = kont (callD d 28 [.ref 2, v1] σ) d 27 95 [l0, l1] [] := q_invv t27_92 mo27 K0_154 mj28 rfl rfl rfl rfl (Nat.le_of_ble_eq_true rfl)
theorem s27_92_o59 (d : Nat) (l0 : Value) (l1 : Value) (v1 : Value) (σ : Hs) : ru d 27 92 [l0, l1] [v1, .ref 59] σ = kont (callD d 28 [.ref 59, v1] σ) d 27 95 [l0, l1] [] := q_invv t27_92 mo27 K0_154 mj28 rfl rfl rfl rfl (Nat.le_of_ble_eq_true rfl)
theorem t27_95 : decode (mb 27) 95 = .ok (.ireturn, 1) := by decide +kernel
theorem s27_95 (d : Nat) (l0 : Value) (l1 : Value) (x : Int32) (σ : Hs) : ru d 27 95 [l0, l1] [.int x] σ = some (some (.int x), σ) := q_ireti t27_95 mr27
theorem c27 (d : Nat) (x0 : Nat) (x1 : Int32) (σ : Hs) : callD (d + 1) 27 [.ref x0, .int x1] σ = ru d 27 0 [.ref x0, .int x1] [] σ := callD_ru ml27 rfl rfl (Nat.le_of_ble_eq_true rfl)
-- 28: Heap.sumOf([I)I
theorem t28_0 : decode (mb 28) 0 = .ok (.iconst 0, 1) := by decide +kernel
theorem s28_0 (d : Nat) (l0 : Value) (l1 : Value) (l2 : Value) (l3 : Value) (σ : Hs) : ru d 28 0 [l0, l1, l2, l3] [] σ = ru d 28 1 [l0, l1, l2, l3] [.int 0] σ := q_iconst t28_0 (by decide +kernel)
theorem t28_1 : decode (mb 28) 1 = .ok (.istore_n 2, 1) := by decide +kernel
theorem s28_1 (d : Nat) (l0 : Value) (a1 : Nat) (l2 : Value) (l3 : Value) (x : Int32) (σ : Hs) : ru d 28 1 [l0, .ref a1, l2, l3] [.int x] σ = ru d 28 2 [l0, .ref a1, .int x, l3] [] σ := q_istore_n t28_1 ⟨Nat.le_of_ble_eq_true rfl, rfl⟩ rfl
theorem t28_2 : decode (mb 28) 2 = .ok (.iconst 0, 1) := by decide +kernel
theorem s28_2 (d : Nat) (l0 : Value) (l1 : Value) (l2 : Value) (l3 : Value) (σ : Hs) : ru d 28 2 [l0, l1, l2, l3] [] σ = ru d 28 3 [l0, l1, l2, l3] [.int 0] σ := q_iconst t28_2 (by decide +kernel)
theorem t28_3 : decode (mb 28) 3 = .ok (.istore_n 3, 1) := by decide +kernel
theorem s28_3 (d : Nat) (l0 : Value) (l1 : Value) (i2 : Int32) (l3 : Value) (x : Int32) (σ : Hs) : ru d 28 3 [l0, l1, .int i2, l3] [.int x] σ = ru d 28 4 [l0, l1, .int i2, .int x] [] σ := q_istore_n t28_3 ⟨Nat.le_of_ble_eq_true rfl, rfl⟩ rfl
theorem t28_4 : decode (mb 28) 4 = .ok (.iload_n 3, 1) := by decide +kernel
theorem s28_4 (d : Nat) (l0 : Value) (l1 : Value) (l2 : Value) (i3 : Int32) (σ : Hs) : ru d 28 4 [l0, l1, l2, .int i3] [] σ = ru d 28 5 [l0, l1, l2, .int i3] [.int i3] σ := q_iload_n t28_4 rfl
theorem t28_5 : decode (mb 28) 5 = .ok (.bipush 30, 2) := by decide +kernel
theorem s28_5 (d : Nat) (l0 : Value) (l1 : Value) (l2 : Value) (l3 : Value) (w0 : Value) (σ : Hs) : ru d 28 5 [l0, l1, l2, l3] [w0] σ = ru d 28 7 [l0, l1, l2, l3] [.int 30, w0] σ := q_bipush t28_5 (by decide +kernel)
theorem t28_7 : decode (mb 28) 7 = .ok (.if_icmp .ge 24, 3) := by decide +kernel
theorem s28_7 (d : Nat) (l0 : Value) (l1 : Value) (l2 : Value) (l3 : Value) (x y : Int32) (σ : Hs) : ru d 28 7 [l0, l1, l2, l3] [.int y, .int x] σ = if y ≤ x then ru d 28 31 [l0, l1, l2, l3] [] σ else ru d 28 10 [l0, l1, l2, l3] [] σ := q_ic_ge t28_7 (by decide +kernel)
theorem t28_10 : decode (mb 28) 10 = .ok (.aload_n 0, 1) := by decide +kernel
theorem s28_10 (d : Nat) (a0 : Nat) (l1 : Value) (l2 : Value) (l3 : Value) (σ : Hs) : ru d 28 10 [.ref a0, l1, l2, l3] [] σ = ru d 28 11 [.ref a0, l1, l2, l3] [.ref a0] σ := q_aload_n t28_10 rfl
theorem t28_11 : decode (mb 28) 11 = .ok (.getfield 15, 3) := by decide +kernel
theorem s28_11_o2 (d : Nat) (l0 : Value) (l1 : Value) (l2 : Value) (l3 : Value) (σ : Hs) : ru d 28 11 [l0, l1, l2, l3] [.ref 2] σ = ru d 28 14 [l0, l1, l2, l3] [.ref 4] σ := q_getf t28_11 mo28 F0_15 rfl rfl
theorem s28_11_o59 (d : Nat) (l0 : Value) (l1 : Value) (l2 : Value) (l3 : Value) (σ : Hs) : ru d 28 11 [l0, l1, l2, l3] [.ref 59] σ = ru d 28 14 [l0, l1, l2, l3] [.ref 61] σ := q_getf t28_11 mo28 F0_15 rfl rfl
theorem t28_14 : decode (mb 28) 14 = .ok (.iload_n 3, 1) := by decide +kernel
theorem s28_14 (d : Nat) (l0 : Value) (l1 : Value) (l2 : Value) (i3 : Int32) (w0 : Value) (σ : Hs) : ru d 28 14 [l0, l1, l2, .int i3] [w0] σ = ru d 28 15 [l0, l1, l2, .int i3] [.int i3, w0] σ := q_iload_n t28_14 rfl
theorem t28_15 : decode (mb 28) 15 = .ok (.iaload, 1) := by decide +kernel
theorem s28_15_o4 (d : Nat) (l0 : Value) (l1 : Value) (l2 : Value) (l3 : Value) (i : Int32) (σ : Hs) : ru d 28 15 [l0, l1, l2, l3] [.int i, .ref 4] σ = gd (vp_in i 30) (ru d 28 16 [l0, l1, l2, l3] [.int (σ 4 i.toNatClampNeg)] σ) := q_iald t28_15 rfl (by decide +kernel) rfl
theorem s28_15_o61 (d : Nat) (l0 : Value) (l1 : Value) (l2 : Value) (l3 : Value) (i : Int32) (σ : Hs) : ru d 28 15 [l0, l1, l2, l3] [.int i, .ref 61] σ = gd (vp_in i 30) (ru d 28 16 [l0, l1, l2, l3] [.int (σ 61 i.toNatClampNeg)] σ) := q_iald t28_15 rfl (by decide +kernel) rfl
theorem t28_16 : decode (mb 28) 16 = .ok (.ifCond .le 9, 3) := by decide +kernel
theorem s28_16 (d : Nat) (l0 : Value) (l1 : Value) (l2 : Value) (l3 : Value) (x : Int32) (σ : Hs) : ru d 28 16 [l0, l1, l2, l3] [.int x] σ = if x ≤ 0 then ru d 28 25 [l0, l1, l2, l3] [] σ else ru d 28 19 [l0, l1, l2, l3] [] σ := q_if_le t28_16 (by decide +kernel)
theorem t28_19 : decode (mb 28) 19 = .ok (.iload_n 2, 1) := by decide +kernel
theorem s28_19 (d : Nat) (l0 : Value) (l1 : Value) (i2 : Int32) (l3 : Value) (σ : Hs) : ru d 28 19 [l0, l1, .int i2, l3] [] σ = ru d 28 20 [l0, l1, .int i2, l3] [.int i2] σ := q_iload_n t28_19 rfl
theorem t28_20 : decode (mb 28) 20 = .ok (.aload_n 1, 1) := by decide +kernel
theorem s28_20 (d : Nat) (l0 : Value) (a1 : Nat) (l2 : Value) (l3 : Value) (w0 : Value) (σ : Hs) : ru d 28 20 [l0, .ref a1, l2, l3] [w0] σ = ru d 28 21 [l0, .ref a1, l2, l3] [.ref a1, w0] σ := q_aload_n t28_20 rfl
theorem t28_21 : decode (mb 28) 21 = .ok (.iload_n 3, 1) := by decide +kernel
theorem s28_21 (d : Nat) (l0 : Value) (l1 : Value) (l2 : Value) (i3 : Int32) (w0 w1 : Value) (σ : Hs) : ru d 28 21 [l0, l1, l2, .int i3] [w0, w1] σ = ru d 28 22 [l0, l1, l2, .int i3] [.int i3, w0, w1] σ := q_iload_n t28_21 rfl
theorem t28_22 : decode (mb 28) 22 = .ok (.iaload, 1) := by decide +kernel
theorem s28_22_o4 (d : Nat) (l0 : Value) (l1 : Value) (l2 : Value) (l3 : Value) (i : Int32) (w0 : Value) (σ : Hs) : ru d 28 22 [l0, l1, l2, l3] [.int i, .ref 4, w0] σ = gd (vp_in i 30) (ru d 28 23 [l0, l1, l2, l3] [.int (σ 4 i.toNatClampNeg), w0] σ) := q_iald t28_22 rfl (by decide +kernel) rfl
theorem s28_22_o5 (d : Nat) (l0 : Value) (l1 : Value) (l2 : Value) (l3 : Value) (i : Int32) (w0 : Value) (σ : Hs) : ru d 28 22 [l0, l1, l2, l3] [.int i, .ref 5, w0] σ = gd (vp_in i 30) (ru d 28 23 [l0, l1, l2, l3] [.int (σ 5 i.toNatClampNeg), w0] σ) := q_iald t28_22 rfl (by decide +kernel) rfl
theorem s28_22_o7 (d : Nat) (l0 : Value) (l1 : Value) (l2 : Value) (l3 : Value) (i : Int32) (w0 : Value) (σ : Hs) : ru d 28 22 [l0, l1, l2, l3] [.int i, .ref 7, w0] σ = gd (vp_in i 30) (ru d 28 23 [l0, l1, l2, l3] [.int (σ 7 i.toNatClampNeg), w0] σ) := q_iald t28_22 rfl (by decide +kernel) rfl
theorem s28_22_o61 (d : Nat) (l0 : Value) (l1 : Value) (l2 : Value) (l3 : Value) (i : Int32) (w0 : Value) (σ : Hs) : ru d 28 22 [l0, l1, l2, l3] [.int i, .ref 61, w0] σ = gd (vp_in i 30) (ru d 28 23 [l0, l1, l2, l3] [.int (σ 61 i.toNatClampNeg), w0] σ) := q_iald t28_22 rfl (by decide +kernel) rfl
theorem s28_22_o62 (d : Nat) (l0 : Value) (l1 : Value) (l2 : Value) (l3 : Value) (i : Int32) (w0 : Value) (σ : Hs) : ru d 28 22 [l0, l1, l2, l3] [.int i, .ref 62, w0] σ = gd (vp_in i 30) (ru d 28 23 [l0, l1, l2, l3] [.int (σ 62 i.toNatClampNeg), w0] σ) := q_iald t28_22 rfl (by decide +kernel) rfl
theorem s28_22_o64 (d : Nat) (l0 : Value) (l1 : Value) (l2 : Value) (l3 : Value) (i : Int32) (w0 : Value) (σ : Hs) : ru d 28 22 [l0, l1, l2, l3] [.int i, .ref 64, w0] σ = gd (vp_in i 30) (ru d 28 23 [l0, l1, l2, l3] [.int (σ 64 i.toNatClampNeg), w0] σ) := q_iald t28_22 rfl (by decide +kernel) rfl
theorem t28_23 : decode (mb 28) 23 = .ok (.iadd, 1) := by decide +kernel
theorem s28_23 (d : Nat) (l0 : Value) (l1 : Value) (l2 : Value) (l3 : Value) (x y : Int32) (σ : Hs) : ru d 28 23 [l0, l1, l2, l3] [.int y, .int x] σ = ru d 28 24 [l0, l1, l2, l3] [.int (x + y)] σ := q_iadd t28_23
theorem t28_24 : decode (mb 28) 24 = .ok (.istore_n 2, 1) := by decide +kernel
theorem s28_24 (d : Nat) (l0 : Value) (a1 : Nat) (l2 : Value) (l3 : Value) (x : Int32) (σ : Hs) : ru d 28 24 [l0, .ref a1, l2, l3] [.int x] σ = ru d 28 25 [l0, .ref a1, .int x, l3] [] σ := q_istore_n t28_24 ⟨Nat.le_of_ble_eq_true rfl, rfl⟩ rfl
theorem t28_25 : decode (mb 28) 25 = .ok (.iinc 3 1, 3) := by decide +kernel
theorem s28_25 (d : Nat) (l0 : Value) (l1 : Value) (i2 : Int32) (i3 : Int32) (σ : Hs) : ru d 28 25 [l0, l1, .int i2, .int i3] [] σ = ru d 28 28 [l0, l1, .int i2, .int (i3 + 1)] [] σ := q_iinc t28_25 ⟨Nat.le_of_ble_eq_true rfl, rfl⟩ rfl (by decide +kernel) rfl
theorem t28_28 : decode (mb 28) 28 = .ok (.goto (-24), 3) := by decide +kernel
theorem s28_28 (d : Nat) (l0 : Value) (l1 : Value) (l2 : Value) (l3 : Value) (σ : Hs) : ru d 28 28 [l0, l1, l2, l3] [] σ = ru d 28 4 [l0, l1, l2, l3] [] σ := q_goto t28_28 (by decide +kernel)
theorem t28_31 : decode (mb 28) 31 = .ok (.iload_n 2, 1) := by decide +kernel
theorem s28_31 (d : Nat) (l0 : Value) (l1 : Value) (i2 : Int32) (l3 : Value) (σ : Hs) : ru d 28 31 [l0, l1, .int i2, l3] [] σ = ru d 28 32 [l0, l1, .int i2, l3] [.int i2] σ := q_iload_n t28_31 rfl
theorem t28_32 : decode (mb 28) 32 = .ok (.ireturn, 1) := by decide +kernel
theorem s28_32 (d : Nat) (l0 : Value) (l1 : Value) (l2 : Value) (l3 : Value) (x : Int32) (σ : Hs) : ru d 28 32 [l0, l1, l2, l3] [.int x] σ = some (some (.int x), σ) := q_ireti t28_32 mr28
theorem c28 (d : Nat) (x0 : Nat) (x1 : Nat) (σ : Hs) : callD (d + 1) 28 [.ref x0, .ref x1] σ = ru d 28 0 [.ref x0, .ref x1, uu, uu] [] σ := callD_ru ml28 rfl rfl (Nat.le_of_ble_eq_true rfl)
-- 29: Heap.highest()I
theorem t29_0 : decode (mb 29) 0 = .ok (.iconst 0, 1) := by decide +kernel
theorem s29_0 (d : Nat) (l0 : Value) (l1 : Value) (l2 : Value) (σ : Hs) : ru d 29 0 [l0, l1, l2] [] σ = ru d 29 1 [l0, l1, l2] [.int 0] σ := q_iconst t29_0 (by decide +kernel)
theorem t29_1 : decode (mb 29) 1 = .ok (.istore_n 1, 1) := by decide +kernel
theorem s29_1 (d : Nat) (a0 : Nat) (l1 : Value) (l2 : Value) (x : Int32) (σ : Hs) : ru d 29 1 [.ref a0, l1, l2] [.int x] σ = ru d 29 2 [.ref a0, .int x, l2] [] σ := q_istore_n t29_1 ⟨Nat.le_of_ble_eq_true rfl, rfl⟩ rfl
theorem t29_2 : decode (mb 29) 2 = .ok (.iconst 0, 1) := by decide +kernel
theorem s29_2 (d : Nat) (l0 : Value) (l1 : Value) (l2 : Value) (σ : Hs) : ru d 29 2 [l0, l1, l2] [] σ = ru d 29 3 [l0, l1, l2] [.int 0] σ := q_iconst t29_2 (by decide +kernel)
theorem t29_3 : decode (mb 29) 3 = .ok (.istore_n 2, 1) := by decide +kernel
theorem s29_3 (d : Nat) (l0 : Value) (i1 : Int32) (l2 : Value) (x : Int32) (σ : Hs) : ru d 29 3 [l0, .int i1, l2] [.int x] σ = ru d 29 4 [l0, .int i1, .int x] [] σ := q_istore_n t29_3 ⟨Nat.le_of_ble_eq_true rfl, rfl⟩ rfl
theorem t29_4 : decode (mb 29) 4 = .ok (.iload_n 2, 1) := by decide +kernel
theorem s29_4 (d : Nat) (l0 : Value) (l1 : Value) (i2 : Int32) (σ : Hs) : ru d 29 4 [l0, l1, .int i2] [] σ = ru d 29 5 [l0, l1, .int i2] [.int i2] σ := q_iload_n t29_4 rfl
theorem t29_5 : decode (mb 29) 5 = .ok (.bipush 6, 2) := by decide +kernel
theorem s29_5 (d : Nat) (l0 : Value) (l1 : Value) (l2 : Value) (w0 : Value) (σ : Hs) : ru d 29 5 [l0, l1, l2] [w0] σ = ru d 29 7 [l0, l1, l2] [.int 6, w0] σ := q_bipush t29_5 (by decide +kernel)
theorem t29_7 : decode (mb 29) 7 = .ok (.if_icmp .ge 19, 3) := by decide +kernel
theorem s29_7 (d : Nat) (l0 : Value) (l1 : Value) (l2 : Value) (x y : Int32) (σ : Hs) : ru d 29 7 [l0, l1, l2] [.int y, .int x] σ = if y ≤ x then ru d 29 26 [l0, l1, l2] [] σ else ru d 29 10 [l0, l1, l2] [] σ := q_ic_ge t29_7 (by decide +kernel)
theorem t29_10 : decode (mb 29) 10 = .ok (.iload_n 1, 1) := by decide +kernel
theorem s29_10 (d : Nat) (l0 : Value) (i1 : Int32) (l2 : Value) (σ : Hs) : ru d 29 10 [l0, .int i1, l2] [] σ = ru d 29 11 [l0, .int i1, l2] [.int i1] σ := q_iload_n t29_10 rfl
theorem t29_11 : decode (mb 29) 11 = .ok (.aload_n 0, 1) := by decide +kernel
theorem s29_11 (d : Nat) (a0 : Nat) (l1 : Value) (l2 : Value) (w0 : Value) (σ : Hs) : ru d 29 11 [.ref a0, l1, l2] [w0] σ = ru d 29 12 [.ref a0, l1, l2] [.ref a0, w0] σ := q_aload_n t29_11 rfl
theorem t29_12 : decode (mb 29) 12 = .ok (.iload_n 2, 1) := by decide +kernel
theorem s29_12 (d : Nat) (l0 : Value) (l1 : Value) (i2 : Int32) (w0 w1 : Value) (σ : Hs) : ru d 29 12 [l0, l1, .int i2] [w0, w1] σ = ru d 29 13 [l0, l1, .int i2] [.int i2, w0, w1] σ := q_iload_n t29_12 rfl
theorem t29_13 : decode (mb 29) 13 = .ok (.invokevirtual 73, 3) := by decide +kernel
theorem s29_13_o2 (d : Nat) (l0 : Value) (l1 : Value) (l2 : Value) (v1 : Value) (w0 : Int32) (σ : Hs) : ru d 29 13 [l0, l1, l2] [v1, .ref 2, .int w0] σ = kont (callD d 4 [.ref 2, v1] σ) d 29 16 [l0, l1, l2] [.int w0] := q_invv t29_13 mo29 K0_73 mj4 rfl rfl rfl rfl (Nat.le_of_ble_eq_true rfl)
theorem s29_13_o59 (d : Nat) (l0 : Value) (l1 : Value) (l2 : Value) (v1 : Value) (w0 : Int32) (σ : Hs) : ru d 29 13 [l0, l1, l2] [v1, .ref 59, .int w0] σ = kont (callD d 4 [.ref 59, v1] σ) d 29 16 [l0, l1, l2] [.int w0] := q_invv t29_13 mo29 K0_73 mj4 rfl rfl rfl rfl (Nat.le_of_ble_eq_true rfl)
theorem t29_16 : decode (mb 29) 16 = .ok (.invokestatic 77, 3) := by decide +kernel
theorem s29_16 (d : Nat) (l0 : Value) (l1 : Value) (l2 : Value) (x y : Int32) (σ : Hs) : ru d 29 16 [l0, l1, l2] [.int y, .int x] σ = ru d 29 19 [l0, l1, l2] [.int (jmax x y)] σ := q_mx t29_16 mo29 (by decide +kernel) (by decide +kernel) (Nat.le_of_ble_eq_true rfl)
theorem t29_19 : decode (mb 29) 19 = .ok (.istore_n 1, 1) := by decide +kernel
theorem s29_19 (d : Nat) (a0 : Nat) (l1 : Value) (l2 : Value) (x : Int32) (σ : Hs) : ru d 29 19 [.ref a0, l1, l2] [.int x] σ = ru d 29 20 [.ref a0, .int x, l2] [] σ := q_istore_n t29_19 ⟨Nat.le_of_ble_eq_true rfl, rfl⟩ rfl
theorem t29_20 : decode (mb 29) 20 = .ok (.iinc 2 1, 3) := by decide +kernel
theorem s29_20 (d : Nat) (l0 : Value) (i1 : Int32) (i2 : Int32) (σ : Hs) : ru d 29 20 [l0, .int i1, .int i2] [] σ = ru d 29 23 [l0, .int i1, .int (i2 + 1)] [] σ := q_iinc t29_20 ⟨Nat.le_of_ble_eq_true rfl, rfl⟩ rfl (by decide +kernel) rfl
theorem t29_23 : decode (mb 29) 23 = .ok (.goto (-19), 3) := by decide +kernel
theorem s29_23 (d : Nat) (l0 : Value) (l1 : Value) (l2 : Value) (σ : Hs) : ru d 29 23 [l0, l1, l2] [] σ = ru d 29 4 [l0, l1, l2] [] σ := q_goto t29_23 (by decide +kernel)
theorem t29_26 : decode (mb 29) 26 = .ok (.iload_n 1, 1) := by decide +kernel
theorem s29_26 (d : Nat) (l0 : Value) (i1 : Int32) (l2 : Value) (σ : Hs) : ru d 29 26 [l0, .int i1, l2] [] σ = ru d 29 27 [l0, .int i1, l2] [.int i1] σ := q_iload_n t29_26 rfl
theorem t29_27 : decode (mb 29) 27 = .ok (.ireturn, 1) := by decide +kernel
theorem s29_27 (d : Nat) (l0 : Value) (l1 : Value) (l2 : Value) (x : Int32) (σ : Hs) : ru d 29 27 [l0, l1, l2] [.int x] σ = some (some (.int x), σ) := q_ireti t29_27 mr29
theorem c29 (d : Nat) (x0 : Nat) (σ : Hs) : callD (d + 1) 29 [.ref x0] σ = ru d 29 0 [.ref x0, uu, uu] [] σ := callD_ru ml29 rfl rfl (Nat.le_of_ble_eq_true rfl)
-- 30: Laws.has(I)Z
theorem t30_0 : decode (mb 30) 0 = .ok (.aload_n 0, 1) := by decide +kernel
theorem s30_0 (d : Nat) (a0 : Nat) (l1 : Value) (σ : Hs) : ru d 30 0 [.ref a0, l1] [] σ = ru d 30 1 [.ref a0, l1] [.ref a0] σ := q_aload_n t30_0 rfl
theorem t30_1 : decode (mb 30) 1 = .ok (.getfield 11, 3) := by decide +kernel
theorem s30_1_o13 (d : Nat) (l0 : Value) (l1 : Value) (σ : Hs) : ru d 30 1 [l0, l1] [.ref 13] σ = ru d 30 4 [l0, l1] [.ref 14] σ := q_getf t30_1 mo30 F1_11 rfl rfl
theorem t30_4 : decode (mb 30) 4 = .ok (.iload_n 1, 1) := by decide +kernel
theorem s30_4 (d : Nat) (l0 : Value) (i1 : Int32) (w0 : Value) (σ : Hs) : ru d 30 4 [l0, .int i1] [w0] σ = ru d 30 5 [l0, .int i1] [.int i1, w0] σ := q_iload_n t30_4 rfl
theorem t30_5 : decode (mb 30) 5 = .ok (.aaload, 1) := by decide +kernel
theorem s30_5_o14 (d : Nat) (l0 : Value) (l1 : Value) (i : Int32) (σ : Hs) : ru d 30 5 [l0, l1] [.int i, .ref 14] σ = gd (vp_in i 3) (ru d 30 6 [l0, l1] [.ref (cr 14 i.toNatClampNeg)] σ) := q_aald t30_5 (by decide +kernel) (by decide +kernel) rfl
theorem t30_6 : decode (mb 30) 6 = .ok (.getfield 24, 3) := by decide +kernel
theorem s30_6_o16 (d : Nat) (l0 : Value) (l1 : Value) (σ : Hs) : ru d 30 6 [l0, l1] [.ref 16] σ = ru d 30 9 [l0, l1] [.int (σ 16 1)] σ := q_getf t30_6 mo30 F1_24 rfl rfl
theorem s30_6_o18 (d : Nat) (l0 : Value) (l1 : Value) (σ : Hs) : ru d 30 6 [l0, l1] [.ref 18] σ = ru d 30 9 [l0, l1] [.int (σ 18 1)] σ := q_getf t30_6 mo30 F1_24 rfl rfl
theorem s30_6_o20 (d : Nat) (l0 : Value) (l1 : Value) (σ : Hs) : ru d 30 6 [l0, l1] [.ref 20] σ = ru d 30 9 [l0, l1] [.int (σ 20 1)] σ := q_getf t30_6 mo30 F1_24 rfl rfl
theorem t30_9 : decode (mb 30) 9 = .ok (.ifCond .le 7, 3) := by decide +kernel
theorem s30_9 (d : Nat) (l0 : Value) (l1 : Value) (x : Int32) (σ : Hs) : ru d 30 9 [l0, l1] [.int x] σ = if x ≤ 0 then ru d 30 16 [l0, l1] [] σ else ru d 30 12 [l0, l1] [] σ := q_if_le t30_9 (by decide +kernel)
theorem t30_12 : decode (mb 30) 12 = .ok (.iconst 1, 1) := by decide +kernel
theorem s30_12 (d : Nat) (l0 : Value) (l1 : Value) (σ : Hs) : ru d 30 12 [l0, l1] [] σ = ru d 30 13 [l0, l1] [.int 1] σ := q_iconst t30_12 (by decide +kernel)
theorem t30_13 : decode (mb 30) 13 = .ok (.goto 4, 3) := by decide +kernel
theorem s30_13 (d : Nat) (l0 : Value) (l1 : Value) (w0 : Value) (σ : Hs) : ru d 30 13 [l0, l1] [w0] σ = ru d 30 17 [l0, l1] [w0] σ := q_goto t30_13 (by decide +kernel)
theorem t30_16 : decode (mb 30) 16 = .ok (.iconst 0, 1) := by decide +kernel
theorem s30_16 (d : Nat) (l0 : Value) (l1 : Value) (σ : Hs) : ru d 30 16 [l0, l1] [] σ = ru d 30 17 [l0, l1] [.int 0] σ := q_iconst t30_16 (by decide +kernel)
theorem t30_17 : decode (mb 30) 17 = .ok (.ireturn, 1) := by decide +kernel
theorem s30_17 (d : Nat) (l0 : Value) (l1 : Value) (x : Int32) (hx : isB x) (σ : Hs) : ru d 30 17 [l0, l1] [.int x] σ = some (some (.int x), σ) := q_iretz t30_17 mr30 hx
theorem c30 (d : Nat) (x0 : Nat) (x1 : Int32) (σ : Hs) : callD (d + 1) 30 [.ref x0, .int x1] σ = ru d 30 0 [.ref x0, .int x1] [] σ := callD_ru ml30 rfl rfl (Nat.le_of_ble_eq_true rfl)
-- 31: Laws.copyFrom(LSmokyHeap$Laws;)V
theorem t31_0 : decode (mb 31) 0 = .ok (.iconst 0, 1) := by decide +kernel
theorem s31_0 (d : Nat) (l0 : Value) (l1 : Value) (l2 : Value) (σ : Hs) : ru d 31 0 [l0, l1, l2] [] σ = ru d 31 1 [l0, l1, l2] [.int 0] σ := q_iconst t31_0 (by decide +kernel)
theorem t31_1 : decode (mb 31) 1 = .ok (.istore_n 2, 1) := by decide +kernel
theorem s31_1 (d : Nat) (l0 : Value) (a1 : Nat) (l2 : Value) (x : Int32) (σ : Hs) : ru d 31 1 [l0, .ref a1, l2] [.int x] σ = ru d 31 2 [l0, .ref a1, .int x] [] σ := q_istore_n t31_1 ⟨Nat.le_of_ble_eq_true rfl, rfl⟩ rfl
theorem t31_2 : decode (mb 31) 2 = .ok (.iload_n 2, 1) := by decide +kernel
theorem s31_2 (d : Nat) (l0 : Value) (l1 : Value) (i2 : Int32) (σ : Hs) : ru d 31 2 [l0, l1, .int i2] [] σ = ru d 31 3 [l0, l1, .int i2] [.int i2] σ := q_iload_n t31_2 rfl
theorem t31_3 : decode (mb 31) 3 = .ok (.iconst 3, 1) := by decide +kernel
theorem s31_3 (d : Nat) (l0 : Value) (l1 : Value) (l2 : Value) (w0 : Value) (σ : Hs) : ru d 31 3 [l0, l1, l2] [w0] σ = ru d 31 4 [l0, l1, l2] [.int 3, w0] σ := q_iconst t31_3 (by decide +kernel)
theorem t31_4 : decode (mb 31) 4 = .ok (.if_icmp .ge 24, 3) := by decide +kernel
theorem s31_4 (d : Nat) (l0 : Value) (l1 : Value) (l2 : Value) (x y : Int32) (σ : Hs) : ru d 31 4 [l0, l1, l2] [.int y, .int x] σ = if y ≤ x then ru d 31 28 [l0, l1, l2] [] σ else ru d 31 7 [l0, l1, l2] [] σ := q_ic_ge t31_4 (by decide +kernel)
theorem t31_7 : decode (mb 31) 7 = .ok (.aload_n 0, 1) := by decide +kernel
theorem s31_7 (d : Nat) (a0 : Nat) (l1 : Value) (l2 : Value) (σ : Hs) : ru d 31 7 [.ref a0, l1, l2] [] σ = ru d 31 8 [.ref a0, l1, l2] [.ref a0] σ := q_aload_n t31_7 rfl
theorem t31_8 : decode (mb 31) 8 = .ok (.getfield 11, 3) := by decide +kernel
theorem s31_8_o13 (d : Nat) (l0 : Value) (l1 : Value) (l2 : Value) (σ : Hs) : ru d 31 8 [l0, l1, l2] [.ref 13] σ = ru d 31 11 [l0, l1, l2] [.ref 14] σ := q_getf t31_8 mo31 F1_11 rfl rfl
theorem s31_8_o42 (d : Nat) (l0 : Value) (l1 : Value) (l2 : Value) (σ : Hs) : ru d 31 8 [l0, l1, l2] [.ref 42] σ = ru d 31 11 [l0, l1, l2] [.ref 43] σ := q_getf t31_8 mo31 F1_11 rfl rfl
theorem t31_11 : decode (mb 31) 11 = .ok (.iload_n 2, 1) := by decide +kernel
theorem s31_11 (d : Nat) (l0 : Value) (l1 : Value) (i2 : Int32) (w0 : Value) (σ : Hs) : ru d 31 11 [l0, l1, .int i2] [w0] σ = ru d 31 12 [l0, l1, .int i2] [.int i2, w0] σ := q_iload_n t31_11 rfl
theorem t31_12 : decode (mb 31) 12 = .ok (.aaload, 1) := by decide +kernel
theorem s31_12_o14 (d : Nat) (l0 : Value) (l1 : Value) (l2 : Value) (i : Int32) (σ : Hs) : ru d 31 12 [l0, l1, l2] [.int i, .ref 14] σ = gd (vp_in i 3) (ru d 31 13 [l0, l1, l2] [.ref (cr 14 i.toNatClampNeg)] σ) := q_aald t31_12 (by decide +kernel) (by decide +kernel) rfl
theorem s31_12_o43 (d : Nat) (l0 : Value) (l1 : Value) (l2 : Value) (i : Int32) (σ : Hs) : ru d 31 12 [l0, l1, l2] [.int i, .ref 43] σ = gd (vp_in i 3) (ru d 31 13 [l0, l1, l2] [.ref (cr 43 i.toNatClampNeg)] σ) := q_aald t31_12 (by decide +kernel) (by decide +kernel) rfl
theorem t31_13 : decode (mb 31) 13 = .ok (.aload_n 1, 1) := by decide +kernel
theorem s31_13 (d : Nat) (l0 : Value) (a1 : Nat) (l2 : Value) (w0 : Value) (σ : Hs) : ru d 31 13 [l0, .ref a1, l2] [w0] σ = ru d 31 14 [l0, .ref a1, l2] [.ref a1, w0] σ := q_aload_n t31_13 rfl
theorem t31_14 : decode (mb 31) 14 = .ok (.getfield 11, 3) := by decide +kernel
theorem s31_14_o13 (d : Nat) (l0 : Value) (l1 : Value) (l2 : Value) (w0 : Value) (σ : Hs) : ru d 31 14 [l0, l1, l2] [.ref 13, w0] σ = ru d 31 17 [l0, l1, l2] [.ref 14, w0] σ := q_getf t31_14 mo31 F1_11 rfl rfl
theorem s31_14_o42 (d : Nat) (l0 : Value) (l1 : Value) (l2 : Value) (w0 : Value) (σ : Hs) : ru d 31 14 [l0, l1, l2] [.ref 42, w0] σ = ru d 31 17 [l0, l1, l2] [.ref 43, w0] σ := q_getf t31_14 mo31 F1_11 rfl rfl
theorem t31_17 : decode (mb 31) 17 = .ok (.iload_n 2, 1) := by decide +kernel
theorem s31_17 (d : Nat) (l0 : Value) (l1 : Value) (i2 : Int32) (w0 w1 : Value) (σ : Hs) : ru d 31 17 [l0, l1, .int i2] [w0, w1] σ = ru d 31 18 [l0, l1, .int i2] [.int i2, w0, w1] σ := q_iload_n t31_17 rfl
theorem t31_18 : decode (mb 31) 18 = .ok (.aaload, 1) := by decide +kernel
theorem s31_18_o14 (d : Nat) (l0 : Value) (l1 : Value) (l2 : Value) (i : Int32) (w0 : Value) (σ : Hs) : ru d 31 18 [l0, l1, l2] [.int i, .ref 14, w0] σ = gd (vp_in i 3) (ru d 31 19 [l0, l1, l2] [.ref (cr 14 i.toNatClampNeg), w0] σ) := q_aald t31_18 (by decide +kernel) (by decide +kernel) rfl
theorem s31_18_o43 (d : Nat) (l0 : Value) (l1 : Value) (l2 : Value) (i : Int32) (w0 : Value) (σ : Hs) : ru d 31 18 [l0, l1, l2] [.int i, .ref 43, w0] σ = gd (vp_in i 3) (ru d 31 19 [l0, l1, l2] [.ref (cr 43 i.toNatClampNeg), w0] σ) := q_aald t31_18 (by decide +kernel) (by decide +kernel) rfl
theorem t31_19 : decode (mb 31) 19 = .ok (.invokevirtual 28, 3) := by decide +kernel
theorem s31_19_o16 (d : Nat) (l0 : Value) (l1 : Value) (l2 : Value) (v1 : Value) (σ : Hs) : ru d 31 19 [l0, l1, l2] [v1, .ref 16] σ = kont (callD d 45 [.ref 16, v1] σ) d 31 22 [l0, l1, l2] [] := q_invv t31_19 mo31 K1_28 mj45 rfl rfl rfl rfl (Nat.le_of_ble_eq_true rfl)
theorem s31_19_o18 (d : Nat) (l0 : Value) (l1 : Value) (l2 : Value) (v1 : Value) (σ : Hs) : ru d 31 19 [l0, l1, l2] [v1, .ref 18] σ = kont (callD d 45 [.ref 18, v1] σ) d 31 22 [l0, l1, l2] [] := q_invv t31_19 mo31 K1_28 mj45 rfl rfl rfl rfl (Nat.le_of_ble_eq_true rfl)
theorem s31_19_o20 (d : Nat) (l0 : Value) (l1 : Value) (l2 : Value) (v1 : Value) (σ : Hs) : ru d 31 19 [l0, l1, l2] [v1, .ref 20] σ = kont (callD d 45 [.ref 20, v1] σ) d 31 22 [l0, l1, l2] [] := q_invv t31_19 mo31 K1_28 mj45 rfl rfl rfl rfl (Nat.le_of_ble_eq_true rfl)
theorem s31_19_o45 (d : Nat) (l0 : Value) (l1 : Value) (l2 : Value) (v1 : Value) (σ : Hs) : ru d 31 19 [l0, l1, l2] [v1, .ref 45] σ = kont (callD d 45 [.ref 45, v1] σ) d 31 22 [l0, l1, l2] [] := q_invv t31_19 mo31 K1_28 mj45 rfl rfl rfl rfl (Nat.le_of_ble_eq_true rfl)
theorem s31_19_o47 (d : Nat) (l0 : Value) (l1 : Value) (l2 : Value) (v1 : Value) (σ : Hs) : ru d 31 19 [l0, l1, l2] [v1, .ref 47] σ = kont (callD d 45 [.ref 47, v1] σ) d 31 22 [l0, l1, l2] [] := q_invv t31_19 mo31 K1_28 mj45 rfl rfl rfl rfl (Nat.le_of_ble_eq_true rfl)
theorem s31_19_o49 (d : Nat) (l0 : Value) (l1 : Value) (l2 : Value) (v1 : Value) (σ : Hs) : ru d 31 19 [l0, l1, l2] [v1, .ref 49] σ = kont (callD d 45 [.ref 49, v1] σ) d 31 22 [l0, l1, l2] [] := q_invv t31_19 mo31 K1_28 mj45 rfl rfl rfl rfl (Nat.le_of_ble_eq_true rfl)
theorem t31_22 : decode (mb 31) 22 = .ok (.iinc 2 1, 3) := by decide +kernel
theorem s31_22 (d : Nat) (l0 : Value) (a1 : Nat) (i2 : Int32) (σ : Hs) : ru d 31 22 [l0, .ref a1, .int i2] [] σ = ru d 31 25 [l0, .ref a1, .int (i2 + 1)] [] σ := q_iinc t31_22 ⟨Nat.le_of_ble_eq_true rfl, rfl⟩ rfl (by decide +kernel) rfl
theorem t31_25 : decode (mb 31) 25 = .ok (.goto (-23), 3) := by decide +kernel
theorem s31_25 (d : Nat) (l0 : Value) (l1 : Value) (l2 : Value) (σ : Hs) : ru d 31 25 [l0, l1, l2] [] σ = ru d 31 2 [l0, l1, l2] [] σ := q_goto t31_25 (by decide +kernel)
theorem t31_28 : decode (mb 31) 28 = .ok (.return_, 1) := by decide +kernel
theorem s31_28 (d : Nat) (l0 : Value) (l1 : Value) (l2 : Value) (σ : Hs) : ru d 31 28 [l0, l1, l2] [] σ = some (none, σ) := q_vret t31_28 mr31
theorem c31 (d : Nat) (x0 : Nat) (x1 : Nat) (σ : Hs) : callD (d + 1) 31 [.ref x0, .ref x1] σ = ru d 31 0 [.ref x0, .ref x1, uu] [] σ := callD_ru ml31 rfl rfl (Nat.le_of_ble_eq_true rfl)
