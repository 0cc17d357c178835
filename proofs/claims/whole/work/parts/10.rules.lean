-- 0: Heap.copyFrom(LSmokyHeap$Heap;)V
theorem t0_0 : decode (mb 0) 0 = .ok (.aload_n 1, 1) := by decide +kernel
theorem s0_0 (d : Nat) (l0 : Value) (a1 : Nat) (σ : Hs) : ru d 0 0 [l0, .ref a1] [] σ = ru d 0 1 [l0, .ref a1] [.ref a1] σ := q_aload_n t0_0 rfl
theorem t0_1 : decode (mb 0) 1 = .ok (.getfield 9, 3) := by decide +kernel
theorem s0_1_o2 (d : Nat) (l0 : Value) (l1 : Value) (σ : Hs) : ru d 0 1 [l0, l1] [.ref 2] σ = ru d 0 4 [l0, l1] [.ref 3] σ := q_getf t0_1 mo0 F0_9 rfl rfl
theorem s0_1_o31 (d : Nat) (l0 : Value) (l1 : Value) (σ : Hs) : ru d 0 1 [l0, l1] [.ref 31] σ = ru d 0 4 [l0, l1] [.ref 32] σ := q_getf t0_1 mo0 F0_9 rfl rfl
theorem t0_4 : decode (mb 0) 4 = .ok (.iconst 0, 1) := by decide +kernel
theorem s0_4 (d : Nat) (l0 : Value) (l1 : Value) (w0 : Value) (σ : Hs) : ru d 0 4 [l0, l1] [w0] σ = ru d 0 5 [l0, l1] [.int 0, w0] σ := q_iconst t0_4 (by decide +kernel)
theorem t0_5 : decode (mb 0) 5 = .ok (.aload_n 0, 1) := by decide +kernel
theorem s0_5 (d : Nat) (a0 : Nat) (l1 : Value) (w0 w1 : Value) (σ : Hs) : ru d 0 5 [.ref a0, l1] [w0, w1] σ = ru d 0 6 [.ref a0, l1] [.ref a0, w0, w1] σ := q_aload_n t0_5 rfl
theorem t0_6 : decode (mb 0) 6 = .ok (.getfield 9, 3) := by decide +kernel
theorem s0_6_o2 (d : Nat) (l0 : Value) (l1 : Value) (w0 w1 : Value) (σ : Hs) : ru d 0 6 [l0, l1] [.ref 2, w0, w1] σ = ru d 0 9 [l0, l1] [.ref 3, w0, w1] σ := q_getf t0_6 mo0 F0_9 rfl rfl
theorem s0_6_o31 (d : Nat) (l0 : Value) (l1 : Value) (w0 w1 : Value) (σ : Hs) : ru d 0 6 [l0, l1] [.ref 31, w0, w1] σ = ru d 0 9 [l0, l1] [.ref 32, w0, w1] σ := q_getf t0_6 mo0 F0_9 rfl rfl
theorem s0_6_o59 (d : Nat) (l0 : Value) (l1 : Value) (w0 w1 : Value) (σ : Hs) : ru d 0 6 [l0, l1] [.ref 59, w0, w1] σ = ru d 0 9 [l0, l1] [.ref 60, w0, w1] σ := q_getf t0_6 mo0 F0_9 rfl rfl
theorem t0_9 : decode (mb 0) 9 = .ok (.iconst 0, 1) := by decide +kernel
theorem s0_9 (d : Nat) (l0 : Value) (l1 : Value) (w0 w1 w2 : Value) (σ : Hs) : ru d 0 9 [l0, l1] [w0, w1, w2] σ = ru d 0 10 [l0, l1] [.int 0, w0, w1, w2] σ := q_iconst t0_9 (by decide +kernel)
theorem t0_10 : decode (mb 0) 10 = .ok (.bipush 30, 2) := by decide +kernel
theorem s0_10 (d : Nat) (l0 : Value) (l1 : Value) (w0 w1 w2 w3 : Value) (σ : Hs) : ru d 0 10 [l0, l1] [w0, w1, w2, w3] σ = ru d 0 12 [l0, l1] [.int 30, w0, w1, w2, w3] σ := q_bipush t0_10 (by decide +kernel)
theorem t0_12 : decode (mb 0) 12 = .ok (.invokestatic 59, 3) := by decide +kernel
theorem s0_12 (d : Nat) (l0 : Value) (l1 : Value) (n dp sp : Int32) (a b : Nat) (σ : Hs) : ru d 0 12 [l0, l1] [.int n, .int dp, .ref a, .int sp, .ref b] σ = gd (bndC σ a b sp dp n) (ru d 0 15 [l0, l1] [] (cp2 σ b a sp.toNatClampNeg dp.toNatClampNeg n.toNatClampNeg)) := q_acp t0_12 mo0 (by decide +kernel)
theorem t0_15 : decode (mb 0) 15 = .ok (.aload_n 1, 1) := by decide +kernel
theorem s0_15 (d : Nat) (l0 : Value) (a1 : Nat) (σ : Hs) : ru d 0 15 [l0, .ref a1] [] σ = ru d 0 16 [l0, .ref a1] [.ref a1] σ := q_aload_n t0_15 rfl
theorem t0_16 : decode (mb 0) 16 = .ok (.getfield 15, 3) := by decide +kernel
theorem s0_16_o2 (d : Nat) (l0 : Value) (l1 : Value) (σ : Hs) : ru d 0 16 [l0, l1] [.ref 2] σ = ru d 0 19 [l0, l1] [.ref 4] σ := q_getf t0_16 mo0 F0_15 rfl rfl
theorem s0_16_o31 (d : Nat) (l0 : Value) (l1 : Value) (σ : Hs) : ru d 0 16 [l0, l1] [.ref 31] σ = ru d 0 19 [l0, l1] [.ref 33] σ := q_getf t0_16 mo0 F0_15 rfl rfl
theorem t0_19 : decode (mb 0) 19 = .ok (.iconst 0, 1) := by decide +kernel
theorem s0_19 (d : Nat) (l0 : Value) (l1 : Value) (w0 : Value) (σ : Hs) : ru d 0 19 [l0, l1] [w0] σ = ru d 0 20 [l0, l1] [.int 0, w0] σ := q_iconst t0_19 (by decide +kernel)
theorem t0_20 : decode (mb 0) 20 = .ok (.aload_n 0, 1) := by decide +kernel
theorem s0_20 (d : Nat) (a0 : Nat) (l1 : Value) (w0 w1 : Value) (σ : Hs) : ru d 0 20 [.ref a0, l1] [w0, w1] σ = ru d 0 21 [.ref a0, l1] [.ref a0, w0, w1] σ := q_aload_n t0_20 rfl
theorem t0_21 : decode (mb 0) 21 = .ok (.getfield 15, 3) := by decide +kernel
theorem s0_21_o2 (d : Nat) (l0 : Value) (l1 : Value) (w0 w1 : Value) (σ : Hs) : ru d 0 21 [l0, l1] [.ref 2, w0, w1] σ = ru d 0 24 [l0, l1] [.ref 4, w0, w1] σ := q_getf t0_21 mo0 F0_15 rfl rfl
theorem s0_21_o31 (d : Nat) (l0 : Value) (l1 : Value) (w0 w1 : Value) (σ : Hs) : ru d 0 21 [l0, l1] [.ref 31, w0, w1] σ = ru d 0 24 [l0, l1] [.ref 33, w0, w1] σ := q_getf t0_21 mo0 F0_15 rfl rfl
theorem s0_21_o59 (d : Nat) (l0 : Value) (l1 : Value) (w0 w1 : Value) (σ : Hs) : ru d 0 21 [l0, l1] [.ref 59, w0, w1] σ = ru d 0 24 [l0, l1] [.ref 61, w0, w1] σ := q_getf t0_21 mo0 F0_15 rfl rfl
theorem t0_24 : decode (mb 0) 24 = .ok (.iconst 0, 1) := by decide +kernel
theorem s0_24 (d : Nat) (l0 : Value) (l1 : Value) (w0 w1 w2 : Value) (σ : Hs) : ru d 0 24 [l0, l1] [w0, w1, w2] σ = ru d 0 25 [l0, l1] [.int 0, w0, w1, w2] σ := q_iconst t0_24 (by decide +kernel)
theorem t0_25 : decode (mb 0) 25 = .ok (.bipush 30, 2) := by decide +kernel
theorem s0_25 (d : Nat) (l0 : Value) (l1 : Value) (w0 w1 w2 w3 : Value) (σ : Hs) : ru d 0 25 [l0, l1] [w0, w1, w2, w3] σ = ru d 0 27 [l0, l1] [.int 30, w0, w1, w2, w3] σ := q_bipush t0_25 (by decide +kernel)
theorem t0_27 : decode (mb 0) 27 = .ok (.invokestatic 59, 3) := by decide +kernel
theorem s0_27 (d : Nat) (l0 : Value) (l1 : Value) (n dp sp : Int32) (a b : Nat) (σ : Hs) : ru d 0 27 [l0, l1] [.int n, .int dp, .ref a, .int sp, .ref b] σ = gd (bndC σ a b sp dp n) (ru d 0 30 [l0, l1] [] (cp2 σ b a sp.toNatClampNeg dp.toNatClampNeg n.toNatClampNeg)) := q_acp t0_27 mo0 (by decide +kernel)
theorem t0_30 : decode (mb 0) 30 = .ok (.aload_n 1, 1) := by decide +kernel
theorem s0_30 (d : Nat) (l0 : Value) (a1 : Nat) (σ : Hs) : ru d 0 30 [l0, .ref a1] [] σ = ru d 0 31 [l0, .ref a1] [.ref a1] σ := q_aload_n t0_30 rfl
theorem t0_31 : decode (mb 0) 31 = .ok (.getfield 18, 3) := by decide +kernel
theorem s0_31_o2 (d : Nat) (l0 : Value) (l1 : Value) (σ : Hs) : ru d 0 31 [l0, l1] [.ref 2] σ = ru d 0 34 [l0, l1] [.ref 5] σ := q_getf t0_31 mo0 F0_18 rfl rfl
theorem s0_31_o31 (d : Nat) (l0 : Value) (l1 : Value) (σ : Hs) : ru d 0 31 [l0, l1] [.ref 31] σ = ru d 0 34 [l0, l1] [.ref 34] σ := q_getf t0_31 mo0 F0_18 rfl rfl
theorem t0_34 : decode (mb 0) 34 = .ok (.iconst 0, 1) := by decide +kernel
theorem s0_34 (d : Nat) (l0 : Value) (l1 : Value) (w0 : Value) (σ : Hs) : ru d 0 34 [l0, l1] [w0] σ = ru d 0 35 [l0, l1] [.int 0, w0] σ := q_iconst t0_34 (by decide +kernel)
theorem t0_35 : decode (mb 0) 35 = .ok (.aload_n 0, 1) := by decide +kernel
theorem s0_35 (d : Nat) (a0 : Nat) (l1 : Value) (w0 w1 : Value) (σ : Hs) : ru d 0 35 [.ref a0, l1] [w0, w1] σ = ru d 0 36 [.ref a0, l1] [.ref a0, w0, w1] σ := q_aload_n t0_35 rfl
theorem t0_36 : decode (mb 0) 36 = .ok (.getfield 18, 3) := by decide +kernel
theorem s0_36_o2 (d : Nat) (l0 : Value) (l1 : Value) (w0 w1 : Value) (σ : Hs) : ru d 0 36 [l0, l1] [.ref 2, w0, w1] σ = ru d 0 39 [l0, l1] [.ref 5, w0, w1] σ := q_getf t0_36 mo0 F0_18 rfl rfl
theorem s0_36_o31 (d : Nat) (l0 : Value) (l1 : Value) (w0 w1 : Value) (σ : Hs) : ru d 0 36 [l0, l1] [.ref 31, w0, w1] σ = ru d 0 39 [l0, l1] [.ref 34, w0, w1] σ := q_getf t0_36 mo0 F0_18 rfl rfl
theorem s0_36_o59 (d : Nat) (l0 : Value) (l1 : Value) (w0 w1 : Value) (σ : Hs) : ru d 0 36 [l0, l1] [.ref 59, w0, w1] σ = ru d 0 39 [l0, l1] [.ref 62, w0, w1] σ := q_getf t0_36 mo0 F0_18 rfl rfl
theorem t0_39 : decode (mb 0) 39 = .ok (.iconst 0, 1) := by decide +kernel
theorem s0_39 (d : Nat) (l0 : Value) (l1 : Value) (w0 w1 w2 : Value) (σ : Hs) : ru d 0 39 [l0, l1] [w0, w1, w2] σ = ru d 0 40 [l0, l1] [.int 0, w0, w1, w2] σ := q_iconst t0_39 (by decide +kernel)
theorem t0_40 : decode (mb 0) 40 = .ok (.bipush 30, 2) := by decide +kernel
theorem s0_40 (d : Nat) (l0 : Value) (l1 : Value) (w0 w1 w2 w3 : Value) (σ : Hs) : ru d 0 40 [l0, l1] [w0, w1, w2, w3] σ = ru d 0 42 [l0, l1] [.int 30, w0, w1, w2, w3] σ := q_bipush t0_40 (by decide +kernel)
theorem t0_42 : decode (mb 0) 42 = .ok (.invokestatic 59, 3) := by decide +kernel
theorem s0_42 (d : Nat) (l0 : Value) (l1 : Value) (n dp sp : Int32) (a b : Nat) (σ : Hs) : ru d 0 42 [l0, l1] [.int n, .int dp, .ref a, .int sp, .ref b] σ = gd (bndC σ a b sp dp n) (ru d 0 45 [l0, l1] [] (cp2 σ b a sp.toNatClampNeg dp.toNatClampNeg n.toNatClampNeg)) := q_acp t0_42 mo0 (by decide +kernel)
theorem t0_45 : decode (mb 0) 45 = .ok (.aload_n 1, 1) := by decide +kernel
theorem s0_45 (d : Nat) (l0 : Value) (a1 : Nat) (σ : Hs) : ru d 0 45 [l0, .ref a1] [] σ = ru d 0 46 [l0, .ref a1] [.ref a1] σ := q_aload_n t0_45 rfl
theorem t0_46 : decode (mb 0) 46 = .ok (.getfield 21, 3) := by decide +kernel
theorem s0_46_o2 (d : Nat) (l0 : Value) (l1 : Value) (σ : Hs) : ru d 0 46 [l0, l1] [.ref 2] σ = ru d 0 49 [l0, l1] [.ref 6] σ := q_getf t0_46 mo0 F0_21 rfl rfl
theorem s0_46_o31 (d : Nat) (l0 : Value) (l1 : Value) (σ : Hs) : ru d 0 46 [l0, l1] [.ref 31] σ = ru d 0 49 [l0, l1] [.ref 35] σ := q_getf t0_46 mo0 F0_21 rfl rfl
theorem t0_49 : decode (mb 0) 49 = .ok (.iconst 0, 1) := by decide +kernel
theorem s0_49 (d : Nat) (l0 : Value) (l1 : Value) (w0 : Value) (σ : Hs) : ru d 0 49 [l0, l1] [w0] σ = ru d 0 50 [l0, l1] [.int 0, w0] σ := q_iconst t0_49 (by decide +kernel)
theorem t0_50 : decode (mb 0) 50 = .ok (.aload_n 0, 1) := by decide +kernel
theorem s0_50 (d : Nat) (a0 : Nat) (l1 : Value) (w0 w1 : Value) (σ : Hs) : ru d 0 50 [.ref a0, l1] [w0, w1] σ = ru d 0 51 [.ref a0, l1] [.ref a0, w0, w1] σ := q_aload_n t0_50 rfl
theorem t0_51 : decode (mb 0) 51 = .ok (.getfield 21, 3) := by decide +kernel
theorem s0_51_o2 (d : Nat) (l0 : Value) (l1 : Value) (w0 w1 : Value) (σ : Hs) : ru d 0 51 [l0, l1] [.ref 2, w0, w1] σ = ru d 0 54 [l0, l1] [.ref 6, w0, w1] σ := q_getf t0_51 mo0 F0_21 rfl rfl
theorem s0_51_o31 (d : Nat) (l0 : Value) (l1 : Value) (w0 w1 : Value) (σ : Hs) : ru d 0 51 [l0, l1] [.ref 31, w0, w1] σ = ru d 0 54 [l0, l1] [.ref 35, w0, w1] σ := q_getf t0_51 mo0 F0_21 rfl rfl
theorem s0_51_o59 (d : Nat) (l0 : Value) (l1 : Value) (w0 w1 : Value) (σ : Hs) : ru d 0 51 [l0, l1] [.ref 59, w0, w1] σ = ru d 0 54 [l0, l1] [.ref 63, w0, w1] σ := q_getf t0_51 mo0 F0_21 rfl rfl
theorem t0_54 : decode (mb 0) 54 = .ok (.iconst 0, 1) := by decide +kernel
theorem s0_54 (d : Nat) (l0 : Value) (l1 : Value) (w0 w1 w2 : Value) (σ : Hs) : ru d 0 54 [l0, l1] [w0, w1, w2] σ = ru d 0 55 [l0, l1] [.int 0, w0, w1, w2] σ := q_iconst t0_54 (by decide +kernel)
theorem t0_55 : decode (mb 0) 55 = .ok (.bipush 30, 2) := by decide +kernel
theorem s0_55 (d : Nat) (l0 : Value) (l1 : Value) (w0 w1 w2 w3 : Value) (σ : Hs) : ru d 0 55 [l0, l1] [w0, w1, w2, w3] σ = ru d 0 57 [l0, l1] [.int 30, w0, w1, w2, w3] σ := q_bipush t0_55 (by decide +kernel)
theorem t0_57 : decode (mb 0) 57 = .ok (.invokestatic 59, 3) := by decide +kernel
theorem s0_57 (d : Nat) (l0 : Value) (l1 : Value) (n dp sp : Int32) (a b : Nat) (σ : Hs) : ru d 0 57 [l0, l1] [.int n, .int dp, .ref a, .int sp, .ref b] σ = gd (bndC σ a b sp dp n) (ru d 0 60 [l0, l1] [] (cp2 σ b a sp.toNatClampNeg dp.toNatClampNeg n.toNatClampNeg)) := q_acp t0_57 mo0 (by decide +kernel)
theorem t0_60 : decode (mb 0) 60 = .ok (.aload_n 1, 1) := by decide +kernel
theorem s0_60 (d : Nat) (l0 : Value) (a1 : Nat) (σ : Hs) : ru d 0 60 [l0, .ref a1] [] σ = ru d 0 61 [l0, .ref a1] [.ref a1] σ := q_aload_n t0_60 rfl
theorem t0_61 : decode (mb 0) 61 = .ok (.getfield 24, 3) := by decide +kernel
theorem s0_61_o2 (d : Nat) (l0 : Value) (l1 : Value) (σ : Hs) : ru d 0 61 [l0, l1] [.ref 2] σ = ru d 0 64 [l0, l1] [.ref 7] σ := q_getf t0_61 mo0 F0_24 rfl rfl
theorem s0_61_o31 (d : Nat) (l0 : Value) (l1 : Value) (σ : Hs) : ru d 0 61 [l0, l1] [.ref 31] σ = ru d 0 64 [l0, l1] [.ref 36] σ := q_getf t0_61 mo0 F0_24 rfl rfl
theorem t0_64 : decode (mb 0) 64 = .ok (.iconst 0, 1) := by decide +kernel
theorem s0_64 (d : Nat) (l0 : Value) (l1 : Value) (w0 : Value) (σ : Hs) : ru d 0 64 [l0, l1] [w0] σ = ru d 0 65 [l0, l1] [.int 0, w0] σ := q_iconst t0_64 (by decide +kernel)
theorem t0_65 : decode (mb 0) 65 = .ok (.aload_n 0, 1) := by decide +kernel
theorem s0_65 (d : Nat) (a0 : Nat) (l1 : Value) (w0 w1 : Value) (σ : Hs) : ru d 0 65 [.ref a0, l1] [w0, w1] σ = ru d 0 66 [.ref a0, l1] [.ref a0, w0, w1] σ := q_aload_n t0_65 rfl
theorem t0_66 : decode (mb 0) 66 = .ok (.getfield 24, 3) := by decide +kernel
theorem s0_66_o2 (d : Nat) (l0 : Value) (l1 : Value) (w0 w1 : Value) (σ : Hs) : ru d 0 66 [l0, l1] [.ref 2, w0, w1] σ = ru d 0 69 [l0, l1] [.ref 7, w0, w1] σ := q_getf t0_66 mo0 F0_24 rfl rfl
theorem s0_66_o31 (d : Nat) (l0 : Value) (l1 : Value) (w0 w1 : Value) (σ : Hs) : ru d 0 66 [l0, l1] [.ref 31, w0, w1] σ = ru d 0 69 [l0, l1] [.ref 36, w0, w1] σ := q_getf t0_66 mo0 F0_24 rfl rfl
theorem s0_66_o59 (d : Nat) (l0 : Value) (l1 : Value) (w0 w1 : Value) (σ : Hs) : ru d 0 66 [l0, l1] [.ref 59, w0, w1] σ = ru d 0 69 [l0, l1] [.ref 64, w0, w1] σ := q_getf t0_66 mo0 F0_24 rfl rfl
theorem t0_69 : decode (mb 0) 69 = .ok (.iconst 0, 1) := by decide +kernel
theorem s0_69 (d : Nat) (l0 : Value) (l1 : Value) (w0 w1 w2 : Value) (σ : Hs) : ru d 0 69 [l0, l1] [w0, w1, w2] σ = ru d 0 70 [l0, l1] [.int 0, w0, w1, w2] σ := q_iconst t0_69 (by decide +kernel)
theorem t0_70 : decode (mb 0) 70 = .ok (.bipush 30, 2) := by decide +kernel
theorem s0_70 (d : Nat) (l0 : Value) (l1 : Value) (w0 w1 w2 w3 : Value) (σ : Hs) : ru d 0 70 [l0, l1] [w0, w1, w2, w3] σ = ru d 0 72 [l0, l1] [.int 30, w0, w1, w2, w3] σ := q_bipush t0_70 (by decide +kernel)
theorem t0_72 : decode (mb 0) 72 = .ok (.invokestatic 59, 3) := by decide +kernel
theorem s0_72 (d : Nat) (l0 : Value) (l1 : Value) (n dp sp : Int32) (a b : Nat) (σ : Hs) : ru d 0 72 [l0, l1] [.int n, .int dp, .ref a, .int sp, .ref b] σ = gd (bndC σ a b sp dp n) (ru d 0 75 [l0, l1] [] (cp2 σ b a sp.toNatClampNeg dp.toNatClampNeg n.toNatClampNeg)) := q_acp t0_72 mo0 (by decide +kernel)
theorem t0_75 : decode (mb 0) 75 = .ok (.aload_n 1, 1) := by decide +kernel
theorem s0_75 (d : Nat) (l0 : Value) (a1 : Nat) (σ : Hs) : ru d 0 75 [l0, .ref a1] [] σ = ru d 0 76 [l0, .ref a1] [.ref a1] σ := q_aload_n t0_75 rfl
theorem t0_76 : decode (mb 0) 76 = .ok (.getfield 27, 3) := by decide +kernel
theorem s0_76_o2 (d : Nat) (l0 : Value) (l1 : Value) (σ : Hs) : ru d 0 76 [l0, l1] [.ref 2] σ = ru d 0 79 [l0, l1] [.ref 8] σ := q_getf t0_76 mo0 F0_27 rfl rfl
theorem s0_76_o31 (d : Nat) (l0 : Value) (l1 : Value) (σ : Hs) : ru d 0 76 [l0, l1] [.ref 31] σ = ru d 0 79 [l0, l1] [.ref 37] σ := q_getf t0_76 mo0 F0_27 rfl rfl
theorem t0_79 : decode (mb 0) 79 = .ok (.iconst 0, 1) := by decide +kernel
theorem s0_79 (d : Nat) (l0 : Value) (l1 : Value) (w0 : Value) (σ : Hs) : ru d 0 79 [l0, l1] [w0] σ = ru d 0 80 [l0, l1] [.int 0, w0] σ := q_iconst t0_79 (by decide +kernel)
theorem t0_80 : decode (mb 0) 80 = .ok (.aload_n 0, 1) := by decide +kernel
theorem s0_80 (d : Nat) (a0 : Nat) (l1 : Value) (w0 w1 : Value) (σ : Hs) : ru d 0 80 [.ref a0, l1] [w0, w1] σ = ru d 0 81 [.ref a0, l1] [.ref a0, w0, w1] σ := q_aload_n t0_80 rfl
theorem t0_81 : decode (mb 0) 81 = .ok (.getfield 27, 3) := by decide +kernel
theorem s0_81_o2 (d : Nat) (l0 : Value) (l1 : Value) (w0 w1 : Value) (σ : Hs) : ru d 0 81 [l0, l1] [.ref 2, w0, w1] σ = ru d 0 84 [l0, l1] [.ref 8, w0, w1] σ := q_getf t0_81 mo0 F0_27 rfl rfl
theorem s0_81_o31 (d : Nat) (l0 : Value) (l1 : Value) (w0 w1 : Value) (σ : Hs) : ru d 0 81 [l0, l1] [.ref 31, w0, w1] σ = ru d 0 84 [l0, l1] [.ref 37, w0, w1] σ := q_getf t0_81 mo0 F0_27 rfl rfl
theorem s0_81_o59 (d : Nat) (l0 : Value) (l1 : Value) (w0 w1 : Value) (σ : Hs) : ru d 0 81 [l0, l1] [.ref 59, w0, w1] σ = ru d 0 84 [l0, l1] [.ref 65, w0, w1] σ := q_getf t0_81 mo0 F0_27 rfl rfl
theorem t0_84 : decode (mb 0) 84 = .ok (.iconst 0, 1) := by decide +kernel
theorem s0_84 (d : Nat) (l0 : Value) (l1 : Value) (w0 w1 w2 : Value) (σ : Hs) : ru d 0 84 [l0, l1] [w0, w1, w2] σ = ru d 0 85 [l0, l1] [.int 0, w0, w1, w2] σ := q_iconst t0_84 (by decide +kernel)
theorem t0_85 : decode (mb 0) 85 = .ok (.bipush 30, 2) := by decide +kernel
theorem s0_85 (d : Nat) (l0 : Value) (l1 : Value) (w0 w1 w2 w3 : Value) (σ : Hs) : ru d 0 85 [l0, l1] [w0, w1, w2, w3] σ = ru d 0 87 [l0, l1] [.int 30, w0, w1, w2, w3] σ := q_bipush t0_85 (by decide +kernel)
theorem t0_87 : decode (mb 0) 87 = .ok (.invokestatic 59, 3) := by decide +kernel
theorem s0_87 (d : Nat) (l0 : Value) (l1 : Value) (n dp sp : Int32) (a b : Nat) (σ : Hs) : ru d 0 87 [l0, l1] [.int n, .int dp, .ref a, .int sp, .ref b] σ = gd (bndC σ a b sp dp n) (ru d 0 90 [l0, l1] [] (cp2 σ b a sp.toNatClampNeg dp.toNatClampNeg n.toNatClampNeg)) := q_acp t0_87 mo0 (by decide +kernel)
theorem t0_90 : decode (mb 0) 90 = .ok (.aload_n 1, 1) := by decide +kernel
theorem s0_90 (d : Nat) (l0 : Value) (a1 : Nat) (σ : Hs) : ru d 0 90 [l0, .ref a1] [] σ = ru d 0 91 [l0, .ref a1] [.ref a1] σ := q_aload_n t0_90 rfl
theorem t0_91 : decode (mb 0) 91 = .ok (.getfield 31, 3) := by decide +kernel
theorem s0_91_o2 (d : Nat) (l0 : Value) (l1 : Value) (σ : Hs) : ru d 0 91 [l0, l1] [.ref 2] σ = ru d 0 94 [l0, l1] [.ref 9] σ := q_getf t0_91 mo0 F0_31 rfl rfl
theorem s0_91_o31 (d : Nat) (l0 : Value) (l1 : Value) (σ : Hs) : ru d 0 91 [l0, l1] [.ref 31] σ = ru d 0 94 [l0, l1] [.ref 38] σ := q_getf t0_91 mo0 F0_31 rfl rfl
theorem t0_94 : decode (mb 0) 94 = .ok (.iconst 0, 1) := by decide +kernel
theorem s0_94 (d : Nat) (l0 : Value) (l1 : Value) (w0 : Value) (σ : Hs) : ru d 0 94 [l0, l1] [w0] σ = ru d 0 95 [l0, l1] [.int 0, w0] σ := q_iconst t0_94 (by decide +kernel)
theorem t0_95 : decode (mb 0) 95 = .ok (.aload_n 0, 1) := by decide +kernel
theorem s0_95 (d : Nat) (a0 : Nat) (l1 : Value) (w0 w1 : Value) (σ : Hs) : ru d 0 95 [.ref a0, l1] [w0, w1] σ = ru d 0 96 [.ref a0, l1] [.ref a0, w0, w1] σ := q_aload_n t0_95 rfl
theorem t0_96 : decode (mb 0) 96 = .ok (.getfield 31, 3) := by decide +kernel
theorem s0_96_o2 (d : Nat) (l0 : Value) (l1 : Value) (w0 w1 : Value) (σ : Hs) : ru d 0 96 [l0, l1] [.ref 2, w0, w1] σ = ru d 0 99 [l0, l1] [.ref 9, w0, w1] σ := q_getf t0_96 mo0 F0_31 rfl rfl
theorem s0_96_o31 (d : Nat) (l0 : Value) (l1 : Value) (w0 w1 : Value) (σ : Hs) : ru d 0 96 [l0, l1] [.ref 31, w0, w1] σ = ru d 0 99 [l0, l1] [.ref 38, w0, w1] σ := q_getf t0_96 mo0 F0_31 rfl rfl
theorem s0_96_o59 (d : Nat) (l0 : Value) (l1 : Value) (w0 w1 : Value) (σ : Hs) : ru d 0 96 [l0, l1] [.ref 59, w0, w1] σ = ru d 0 99 [l0, l1] [.ref 66, w0, w1] σ := q_getf t0_96 mo0 F0_31 rfl rfl
theorem t0_99 : decode (mb 0) 99 = .ok (.iconst 0, 1) := by decide +kernel
theorem s0_99 (d : Nat) (l0 : Value) (l1 : Value) (w0 w1 w2 : Value) (σ : Hs) : ru d 0 99 [l0, l1] [w0, w1, w2] σ = ru d 0 100 [l0, l1] [.int 0, w0, w1, w2] σ := q_iconst t0_99 (by decide +kernel)
theorem t0_100 : decode (mb 0) 100 = .ok (.iconst 5, 1) := by decide +kernel
theorem s0_100 (d : Nat) (l0 : Value) (l1 : Value) (w0 w1 w2 w3 : Value) (σ : Hs) : ru d 0 100 [l0, l1] [w0, w1, w2, w3] σ = ru d 0 101 [l0, l1] [.int 5, w0, w1, w2, w3] σ := q_iconst t0_100 (by decide +kernel)
theorem t0_101 : decode (mb 0) 101 = .ok (.invokestatic 59, 3) := by decide +kernel
theorem s0_101 (d : Nat) (l0 : Value) (l1 : Value) (n dp sp : Int32) (a b : Nat) (σ : Hs) : ru d 0 101 [l0, l1] [.int n, .int dp, .ref a, .int sp, .ref b] σ = gd (bndC σ a b sp dp n) (ru d 0 104 [l0, l1] [] (cp2 σ b a sp.toNatClampNeg dp.toNatClampNeg n.toNatClampNeg)) := q_acp t0_101 mo0 (by decide +kernel)
theorem t0_104 : decode (mb 0) 104 = .ok (.aload_n 1, 1) := by decide +kernel
theorem s0_104 (d : Nat) (l0 : Value) (a1 : Nat) (σ : Hs) : ru d 0 104 [l0, .ref a1] [] σ = ru d 0 105 [l0, .ref a1] [.ref a1] σ := q_aload_n t0_104 rfl
theorem t0_105 : decode (mb 0) 105 = .ok (.getfield 34, 3) := by decide +kernel
theorem s0_105_o2 (d : Nat) (l0 : Value) (l1 : Value) (σ : Hs) : ru d 0 105 [l0, l1] [.ref 2] σ = ru d 0 108 [l0, l1] [.ref 10] σ := q_getf t0_105 mo0 F0_34 rfl rfl
theorem s0_105_o31 (d : Nat) (l0 : Value) (l1 : Value) (σ : Hs) : ru d 0 105 [l0, l1] [.ref 31] σ = ru d 0 108 [l0, l1] [.ref 39] σ := q_getf t0_105 mo0 F0_34 rfl rfl
theorem t0_108 : decode (mb 0) 108 = .ok (.iconst 0, 1) := by decide +kernel
theorem s0_108 (d : Nat) (l0 : Value) (l1 : Value) (w0 : Value) (σ : Hs) : ru d 0 108 [l0, l1] [w0] σ = ru d 0 109 [l0, l1] [.int 0, w0] σ := q_iconst t0_108 (by decide +kernel)
theorem t0_109 : decode (mb 0) 109 = .ok (.aload_n 0, 1) := by decide +kernel
theorem s0_109 (d : Nat) (a0 : Nat) (l1 : Value) (w0 w1 : Value) (σ : Hs) : ru d 0 109 [.ref a0, l1] [w0, w1] σ = ru d 0 110 [.ref a0, l1] [.ref a0, w0, w1] σ := q_aload_n t0_109 rfl
theorem t0_110 : decode (mb 0) 110 = .ok (.getfield 34, 3) := by decide +kernel
theorem s0_110_o2 (d : Nat) (l0 : Value) (l1 : Value) (w0 w1 : Value) (σ : Hs) : ru d 0 110 [l0, l1] [.ref 2, w0, w1] σ = ru d 0 113 [l0, l1] [.ref 10, w0, w1] σ := q_getf t0_110 mo0 F0_34 rfl rfl
theorem s0_110_o31 (d : Nat) (l0 : Value) (l1 : Value) (w0 w1 : Value) (σ : Hs) : ru d 0 110 [l0, l1] [.ref 31, w0, w1] σ = ru d 0 113 [l0, l1] [.ref 39, w0, w1] σ := q_getf t0_110 mo0 F0_34 rfl rfl
theorem s0_110_o59 (d : Nat) (l0 : Value) (l1 : Value) (w0 w1 : Value) (σ : Hs) : ru d 0 110 [l0, l1] [.ref 59, w0, w1] σ = ru d 0 113 [l0, l1] [.ref 67, w0, w1] σ := q_getf t0_110 mo0 F0_34 rfl rfl
theorem t0_113 : decode (mb 0) 113 = .ok (.iconst 0, 1) := by decide +kernel
theorem s0_113 (d : Nat) (l0 : Value) (l1 : Value) (w0 w1 w2 : Value) (σ : Hs) : ru d 0 113 [l0, l1] [w0, w1, w2] σ = ru d 0 114 [l0, l1] [.int 0, w0, w1, w2] σ := q_iconst t0_113 (by decide +kernel)
theorem t0_114 : decode (mb 0) 114 = .ok (.bipush 9, 2) := by decide +kernel
theorem s0_114 (d : Nat) (l0 : Value) (l1 : Value) (w0 w1 w2 w3 : Value) (σ : Hs) : ru d 0 114 [l0, l1] [w0, w1, w2, w3] σ = ru d 0 116 [l0, l1] [.int 9, w0, w1, w2, w3] σ := q_bipush t0_114 (by decide +kernel)
theorem t0_116 : decode (mb 0) 116 = .ok (.invokestatic 59, 3) := by decide +kernel
theorem s0_116 (d : Nat) (l0 : Value) (l1 : Value) (n dp sp : Int32) (a b : Nat) (σ : Hs) : ru d 0 116 [l0, l1] [.int n, .int dp, .ref a, .int sp, .ref b] σ = gd (bndC σ a b sp dp n) (ru d 0 119 [l0, l1] [] (cp2 σ b a sp.toNatClampNeg dp.toNatClampNeg n.toNatClampNeg)) := q_acp t0_116 mo0 (by decide +kernel)
theorem t0_119 : decode (mb 0) 119 = .ok (.aload_n 1, 1) := by decide +kernel
theorem s0_119 (d : Nat) (l0 : Value) (a1 : Nat) (σ : Hs) : ru d 0 119 [l0, .ref a1] [] σ = ru d 0 120 [l0, .ref a1] [.ref a1] σ := q_aload_n t0_119 rfl
theorem t0_120 : decode (mb 0) 120 = .ok (.getfield 37, 3) := by decide +kernel
theorem s0_120_o2 (d : Nat) (l0 : Value) (l1 : Value) (σ : Hs) : ru d 0 120 [l0, l1] [.ref 2] σ = ru d 0 123 [l0, l1] [.ref 11] σ := q_getf t0_120 mo0 F0_37 rfl rfl
theorem s0_120_o31 (d : Nat) (l0 : Value) (l1 : Value) (σ : Hs) : ru d 0 120 [l0, l1] [.ref 31] σ = ru d 0 123 [l0, l1] [.ref 40] σ := q_getf t0_120 mo0 F0_37 rfl rfl
theorem t0_123 : decode (mb 0) 123 = .ok (.iconst 0, 1) := by decide +kernel
theorem s0_123 (d : Nat) (l0 : Value) (l1 : Value) (w0 : Value) (σ : Hs) : ru d 0 123 [l0, l1] [w0] σ = ru d 0 124 [l0, l1] [.int 0, w0] σ := q_iconst t0_123 (by decide +kernel)
theorem t0_124 : decode (mb 0) 124 = .ok (.aload_n 0, 1) := by decide +kernel
theorem s0_124 (d : Nat) (a0 : Nat) (l1 : Value) (w0 w1 : Value) (σ : Hs) : ru d 0 124 [.ref a0, l1] [w0, w1] σ = ru d 0 125 [.ref a0, l1] [.ref a0, w0, w1] σ := q_aload_n t0_124 rfl
theorem t0_125 : decode (mb 0) 125 = .ok (.getfield 37, 3) := by decide +kernel
theorem s0_125_o2 (d : Nat) (l0 : Value) (l1 : Value) (w0 w1 : Value) (σ : Hs) : ru d 0 125 [l0, l1] [.ref 2, w0, w1] σ = ru d 0 128 [l0, l1] [.ref 11, w0, w1] σ := q_getf t0_125 mo0 F0_37 rfl rfl
theorem s0_125_o31 (d : Nat) (l0 : Value) (l1 : Value) (w0 w1 : Value) (σ : Hs) : ru d 0 125 [l0, l1] [.ref 31, w0, w1] σ = ru d 0 128 [l0, l1] [.ref 40, w0, w1] σ := q_getf t0_125 mo0 F0_37 rfl rfl
theorem s0_125_o59 (d : Nat) (l0 : Value) (l1 : Value) (w0 w1 : Value) (σ : Hs) : ru d 0 125 [l0, l1] [.ref 59, w0, w1] σ = ru d 0 128 [l0, l1] [.ref 68, w0, w1] σ := q_getf t0_125 mo0 F0_37 rfl rfl
theorem t0_128 : decode (mb 0) 128 = .ok (.iconst 0, 1) := by decide +kernel
theorem s0_128 (d : Nat) (l0 : Value) (l1 : Value) (w0 w1 w2 : Value) (σ : Hs) : ru d 0 128 [l0, l1] [w0, w1, w2] σ = ru d 0 129 [l0, l1] [.int 0, w0, w1, w2] σ := q_iconst t0_128 (by decide +kernel)
theorem t0_129 : decode (mb 0) 129 = .ok (.bipush 9, 2) := by decide +kernel
theorem s0_129 (d : Nat) (l0 : Value) (l1 : Value) (w0 w1 w2 w3 : Value) (σ : Hs) : ru d 0 129 [l0, l1] [w0, w1, w2, w3] σ = ru d 0 131 [l0, l1] [.int 9, w0, w1, w2, w3] σ := q_bipush t0_129 (by decide +kernel)
theorem t0_131 : decode (mb 0) 131 = .ok (.invokestatic 59, 3) := by decide +kernel
theorem s0_131 (d : Nat) (l0 : Value) (l1 : Value) (n dp sp : Int32) (a b : Nat) (σ : Hs) : ru d 0 131 [l0, l1] [.int n, .int dp, .ref a, .int sp, .ref b] σ = gd (bndC σ a b sp dp n) (ru d 0 134 [l0, l1] [] (cp2 σ b a sp.toNatClampNeg dp.toNatClampNeg n.toNatClampNeg)) := q_acp t0_131 mo0 (by decide +kernel)
theorem t0_134 : decode (mb 0) 134 = .ok (.aload_n 1, 1) := by decide +kernel
theorem s0_134 (d : Nat) (l0 : Value) (a1 : Nat) (σ : Hs) : ru d 0 134 [l0, .ref a1] [] σ = ru d 0 135 [l0, .ref a1] [.ref a1] σ := q_aload_n t0_134 rfl
theorem t0_135 : decode (mb 0) 135 = .ok (.getfield 40, 3) := by decide +kernel
theorem s0_135_o2 (d : Nat) (l0 : Value) (l1 : Value) (σ : Hs) : ru d 0 135 [l0, l1] [.ref 2] σ = ru d 0 138 [l0, l1] [.ref 12] σ := q_getf t0_135 mo0 F0_40 rfl rfl
theorem s0_135_o31 (d : Nat) (l0 : Value) (l1 : Value) (σ : Hs) : ru d 0 135 [l0, l1] [.ref 31] σ = ru d 0 138 [l0, l1] [.ref 41] σ := q_getf t0_135 mo0 F0_40 rfl rfl
theorem t0_138 : decode (mb 0) 138 = .ok (.iconst 0, 1) := by decide +kernel
theorem s0_138 (d : Nat) (l0 : Value) (l1 : Value) (w0 : Value) (σ : Hs) : ru d 0 138 [l0, l1] [w0] σ = ru d 0 139 [l0, l1] [.int 0, w0] σ := q_iconst t0_138 (by decide +kernel)
theorem t0_139 : decode (mb 0) 139 = .ok (.aload_n 0, 1) := by decide +kernel
theorem s0_139 (d : Nat) (a0 : Nat) (l1 : Value) (w0 w1 : Value) (σ : Hs) : ru d 0 139 [.ref a0, l1] [w0, w1] σ = ru d 0 140 [.ref a0, l1] [.ref a0, w0, w1] σ := q_aload_n t0_139 rfl
theorem t0_140 : decode (mb 0) 140 = .ok (.getfield 40, 3) := by decide +kernel
theorem s0_140_o2 (d : Nat) (l0 : Value) (l1 : Value) (w0 w1 : Value) (σ : Hs) : ru d 0 140 [l0, l1] [.ref 2, w0, w1] σ = ru d 0 143 [l0, l1] [.ref 12, w0, w1] σ := q_getf t0_140 mo0 F0_40 rfl rfl
theorem s0_140_o31 (d : Nat) (l0 : Value) (l1 : Value) (w0 w1 : Value) (σ : Hs) : ru d 0 140 [l0, l1] [.ref 31, w0, w1] σ = ru d 0 143 [l0, l1] [.ref 41, w0, w1] σ := q_getf t0_140 mo0 F0_40 rfl rfl
theorem s0_140_o59 (d : Nat) (l0 : Value) (l1 : Value) (w0 w1 : Value) (σ : Hs) : ru d 0 140 [l0, l1] [.ref 59, w0, w1] σ = ru d 0 143 [l0, l1] [.ref 69, w0, w1] σ := q_getf t0_140 mo0 F0_40 rfl rfl
theorem t0_143 : decode (mb 0) 143 = .ok (.iconst 0, 1) := by decide +kernel
theorem s0_143 (d : Nat) (l0 : Value) (l1 : Value) (w0 w1 w2 : Value) (σ : Hs) : ru d 0 143 [l0, l1] [w0, w1, w2] σ = ru d 0 144 [l0, l1] [.int 0, w0, w1, w2] σ := q_iconst t0_143 (by decide +kernel)
theorem t0_144 : decode (mb 0) 144 = .ok (.bipush 9, 2) := by decide +kernel
theorem s0_144 (d : Nat) (l0 : Value) (l1 : Value) (w0 w1 w2 w3 : Value) (σ : Hs) : ru d 0 144 [l0, l1] [w0, w1, w2, w3] σ = ru d 0 146 [l0, l1] [.int 9, w0, w1, w2, w3] σ := q_bipush t0_144 (by decide +kernel)
theorem t0_146 : decode (mb 0) 146 = .ok (.invokestatic 59, 3) := by decide +kernel
theorem s0_146 (d : Nat) (l0 : Value) (l1 : Value) (n dp sp : Int32) (a b : Nat) (σ : Hs) : ru d 0 146 [l0, l1] [.int n, .int dp, .ref a, .int sp, .ref b] σ = gd (bndC σ a b sp dp n) (ru d 0 149 [l0, l1] [] (cp2 σ b a sp.toNatClampNeg dp.toNatClampNeg n.toNatClampNeg)) := q_acp t0_146 mo0 (by decide +kernel)
theorem t0_149 : decode (mb 0) 149 = .ok (.aload_n 0, 1) := by decide +kernel
theorem s0_149 (d : Nat) (a0 : Nat) (l1 : Value) (σ : Hs) : ru d 0 149 [.ref a0, l1] [] σ = ru d 0 150 [.ref a0, l1] [.ref a0] σ := q_aload_n t0_149 rfl
theorem t0_150 : decode (mb 0) 150 = .ok (.aload_n 1, 1) := by decide +kernel
theorem s0_150 (d : Nat) (l0 : Value) (a1 : Nat) (w0 : Value) (σ : Hs) : ru d 0 150 [l0, .ref a1] [w0] σ = ru d 0 151 [l0, .ref a1] [.ref a1, w0] σ := q_aload_n t0_150 rfl
theorem t0_151 : decode (mb 0) 151 = .ok (.getfield 43, 3) := by decide +kernel
theorem s0_151_o2 (d : Nat) (l0 : Value) (l1 : Value) (w0 : Value) (σ : Hs) : ru d 0 151 [l0, l1] [.ref 2, w0] σ = ru d 0 154 [l0, l1] [.int (σ 2 10), w0] σ := q_getf t0_151 mo0 F0_43 rfl rfl
theorem s0_151_o31 (d : Nat) (l0 : Value) (l1 : Value) (w0 : Value) (σ : Hs) : ru d 0 151 [l0, l1] [.ref 31, w0] σ = ru d 0 154 [l0, l1] [.int (σ 31 10), w0] σ := q_getf t0_151 mo0 F0_43 rfl rfl
theorem t0_154 : decode (mb 0) 154 = .ok (.putfield 43, 3) := by decide +kernel
theorem s0_154_o2 (d : Nat) (l0 : Value) (l1 : Value) (x : Int32) (σ : Hs) : ru d 0 154 [l0, l1] [.int x, .ref 2] σ = ru d 0 157 [l0, l1] [] (up2 σ 2 10 x) := q_puti t0_154 mo0 F0_43 (by decide +kernel) rfl rfl
theorem s0_154_o31 (d : Nat) (l0 : Value) (l1 : Value) (x : Int32) (σ : Hs) : ru d 0 154 [l0, l1] [.int x, .ref 31] σ = ru d 0 157 [l0, l1] [] (up2 σ 31 10 x) := q_puti t0_154 mo0 F0_43 (by decide +kernel) rfl rfl
theorem s0_154_o59 (d : Nat) (l0 : Value) (l1 : Value) (x : Int32) (σ : Hs) : ru d 0 154 [l0, l1] [.int x, .ref 59] σ = ru d 0 157 [l0, l1] [] (up2 σ 59 10 x) := q_puti t0_154 mo0 F0_43 (by decide +kernel) rfl rfl
theorem t0_157 : decode (mb 0) 157 = .ok (.aload_n 0, 1) := by decide +kernel
theorem s0_157 (d : Nat) (a0 : Nat) (l1 : Value) (σ : Hs) : ru d 0 157 [.ref a0, l1] [] σ = ru d 0 158 [.ref a0, l1] [.ref a0] σ := q_aload_n t0_157 rfl
theorem t0_158 : decode (mb 0) 158 = .ok (.aload_n 1, 1) := by decide +kernel
theorem s0_158 (d : Nat) (l0 : Value) (a1 : Nat) (w0 : Value) (σ : Hs) : ru d 0 158 [l0, .ref a1] [w0] σ = ru d 0 159 [l0, .ref a1] [.ref a1, w0] σ := q_aload_n t0_158 rfl
theorem t0_159 : decode (mb 0) 159 = .ok (.getfield 47, 3) := by decide +kernel
theorem s0_159_o2 (d : Nat) (l0 : Value) (l1 : Value) (w0 : Value) (σ : Hs) : ru d 0 159 [l0, l1] [.ref 2, w0] σ = ru d 0 162 [l0, l1] [.int (σ 2 11), w0] σ := q_getf t0_159 mo0 F0_47 rfl rfl
theorem s0_159_o31 (d : Nat) (l0 : Value) (l1 : Value) (w0 : Value) (σ : Hs) : ru d 0 159 [l0, l1] [.ref 31, w0] σ = ru d 0 162 [l0, l1] [.int (σ 31 11), w0] σ := q_getf t0_159 mo0 F0_47 rfl rfl
theorem t0_162 : decode (mb 0) 162 = .ok (.putfield 47, 3) := by decide +kernel
theorem s0_162_o2 (d : Nat) (l0 : Value) (l1 : Value) (x : Int32) (σ : Hs) : ru d 0 162 [l0, l1] [.int x, .ref 2] σ = ru d 0 165 [l0, l1] [] (up2 σ 2 11 x) := q_puti t0_162 mo0 F0_47 (by decide +kernel) rfl rfl
theorem s0_162_o31 (d : Nat) (l0 : Value) (l1 : Value) (x : Int32) (σ : Hs) : ru d 0 162 [l0, l1] [.int x, .ref 31] σ = ru d 0 165 [l0, l1] [] (up2 σ 31 11 x) := q_puti t0_162 mo0 F0_47 (by decide +kernel) rfl rfl
theorem s0_162_o59 (d : Nat) (l0 : Value) (l1 : Value) (x : Int32) (σ : Hs) : ru d 0 162 [l0, l1] [.int x, .ref 59] σ = ru d 0 165 [l0, l1] [] (up2 σ 59 11 x) := q_puti t0_162 mo0 F0_47 (by decide +kernel) rfl rfl
theorem t0_165 : decode (mb 0) 165 = .ok (.aload_n 0, 1) := by decide +kernel
theorem s0_165 (d : Nat) (a0 : Nat) (l1 : Value) (σ : Hs) : ru d 0 165 [.ref a0, l1] [] σ = ru d 0 166 [.ref a0, l1] [.ref a0] σ := q_aload_n t0_165 rfl
theorem t0_166 : decode (mb 0) 166 = .ok (.aload_n 1, 1) := by decide +kernel
theorem s0_166 (d : Nat) (l0 : Value) (a1 : Nat) (w0 : Value) (σ : Hs) : ru d 0 166 [l0, .ref a1] [w0] σ = ru d 0 167 [l0, .ref a1] [.ref a1, w0] σ := q_aload_n t0_166 rfl
theorem t0_167 : decode (mb 0) 167 = .ok (.getfield 50, 3) := by decide +kernel
theorem s0_167_o2 (d : Nat) (l0 : Value) (l1 : Value) (w0 : Value) (σ : Hs) : ru d 0 167 [l0, l1] [.ref 2, w0] σ = ru d 0 170 [l0, l1] [.int (σ 2 12), w0] σ := q_getf t0_167 mo0 F0_50 rfl rfl
theorem s0_167_o31 (d : Nat) (l0 : Value) (l1 : Value) (w0 : Value) (σ : Hs) : ru d 0 167 [l0, l1] [.ref 31, w0] σ = ru d 0 170 [l0, l1] [.int (σ 31 12), w0] σ := q_getf t0_167 mo0 F0_50 rfl rfl
theorem t0_170 : decode (mb 0) 170 = .ok (.putfield 50, 3) := by decide +kernel
theorem s0_170_o2 (d : Nat) (l0 : Value) (l1 : Value) (x : Int32) (σ : Hs) : ru d 0 170 [l0, l1] [.int x, .ref 2] σ = ru d 0 173 [l0, l1] [] (up2 σ 2 12 x) := q_puti t0_170 mo0 F0_50 (by decide +kernel) rfl rfl
theorem s0_170_o31 (d : Nat) (l0 : Value) (l1 : Value) (x : Int32) (σ : Hs) : ru d 0 170 [l0, l1] [.int x, .ref 31] σ = ru d 0 173 [l0, l1] [] (up2 σ 31 12 x) := q_puti t0_170 mo0 F0_50 (by decide +kernel) rfl rfl
theorem s0_170_o59 (d : Nat) (l0 : Value) (l1 : Value) (x : Int32) (σ : Hs) : ru d 0 170 [l0, l1] [.int x, .ref 59] σ = ru d 0 173 [l0, l1] [] (up2 σ 59 12 x) := q_puti t0_170 mo0 F0_50 (by decide +kernel) rfl rfl
theorem t0_173 : decode (mb 0) 173 = .ok (.aload_n 0, 1) := by decide +kernel
theorem s0_173 (d : Nat) (a0 : Nat) (l1 : Value) (σ : Hs) : ru d 0 173 [.ref a0, l1] [] σ = ru d 0 174 [.ref a0, l1] [.ref a0] σ := q_aload_n t0_173 rfl
theorem t0_174 : decode (mb 0) 174 = .ok (.aload_n 1, 1) := by decide +kernel
theorem s0_174 (d : Nat) (l0 : Value) (a1 : Nat) (w0 : Value) (σ : Hs) : ru d 0 174 [l0, .ref a1] [w0] σ = ru d 0 175 [l0, .ref a1] [.ref a1, w0] σ := q_aload_n t0_174 rfl
theorem t0_175 : decode (mb 0) 175 = .ok (.getfield 53, 3) := by decide +kernel
theorem s0_175_o2 (d : Nat) (l0 : Value) (l1 : Value) (w0 : Value) (σ : Hs) : ru d 0 175 [l0, l1] [.ref 2, w0] σ = ru d 0 178 [l0, l1] [.int (σ 2 13), w0] σ := q_getf t0_175 mo0 F0_53 rfl rfl
theorem s0_175_o31 (d : Nat) (l0 : Value) (l1 : Value) (w0 : Value) (σ : Hs) : ru d 0 175 [l0, l1] [.ref 31, w0] σ = ru d 0 178 [l0, l1] [.int (σ 31 13), w0] σ := q_getf t0_175 mo0 F0_53 rfl rfl
theorem t0_178 : decode (mb 0) 178 = .ok (.putfield 53, 3) := by decide +kernel
theorem s0_178_o2 (d : Nat) (l0 : Value) (l1 : Value) (x : Int32) (σ : Hs) : ru d 0 178 [l0, l1] [.int x, .ref 2] σ = ru d 0 181 [l0, l1] [] (up2 σ 2 13 x) := q_puti t0_178 mo0 F0_53 (by decide +kernel) rfl rfl
theorem s0_178_o31 (d : Nat) (l0 : Value) (l1 : Value) (x : Int32) (σ : Hs) : ru d 0 178 [l0, l1] [.int x, .ref 31] σ = ru d 0 181 [l0, l1] [] (up2 σ 31 13 x) := q_puti t0_178 mo0 F0_53 (by decide +kernel) rfl rfl
theorem s0_178_o59 (d : Nat) (l0 : Value) (l1 : Value) (x : Int32) (σ : Hs) : ru d 0 178 [l0, l1] [.int x, .ref 59] σ = ru d 0 181 [l0, l1] [] (up2 σ 59 13 x) := q_puti t0_178 mo0 F0_53 (by decide +kernel) rfl rfl
theorem t0_181 : decode (mb 0) 181 = .ok (.return_, 1) := by decide +kernel
theorem s0_181 (d : Nat) (l0 : Value) (l1 : Value) (σ : Hs) : ru d 0 181 [l0, l1] [] σ = some (none, σ) := q_vret t0_181 mr0
theorem c0 (d : Nat) (x0 : Nat) (x1 : Nat) (σ : Hs) : callD (d + 1) 0 [.ref x0, .ref x1] σ = ru d 0 0 [.ref x0, .ref x1] [] σ := callD_ru ml0 rfl rfl (Nat.le_of_ble_eq_true rfl)
-- 1: Heap.has(I)Z
theorem t1_0 : decode (mb 1) 0 = .ok (.aload_n 0, 1) := by decide +kernel
theorem s1_0 (d : Nat) (a0 : Nat) (l1 : Value) (σ : Hs) : ru d 1 0 [.ref a0, l1] [] σ = ru d 1 1 [.ref a0, l1] [.ref a0] σ := q_aload_n t1_0 rfl
theorem t1_1 : decode (mb 1) 1 = .ok (.getfield 15, 3) := by decide +kernel
theorem s1_1_o2 (d : Nat) (l0 : Value) (l1 : Value) (σ : Hs) : ru d 1 1 [l0, l1] [.ref 2] σ = ru d 1 4 [l0, l1] [.ref 4] σ := q_getf t1_1 mo1 F0_15 rfl rfl
theorem s1_1_o59 (d : Nat) (l0 : Value) (l1 : Value) (σ : Hs) : ru d 1 1 [l0, l1] [.ref 59] σ = ru d 1 4 [l0, l1] [.ref 61] σ := q_getf t1_1 mo1 F0_15 rfl rfl
theorem t1_4 : decode (mb 1) 4 = .ok (.iload_n 1, 1) := by decide +kernel
theorem s1_4 (d : Nat) (l0 : Value) (i1 : Int32) (w0 : Value) (σ : Hs) : ru d 1 4 [l0, .int i1] [w0] σ = ru d 1 5 [l0, .int i1] [.int i1, w0] σ := q_iload_n t1_4 rfl
theorem t1_5 : decode (mb 1) 5 = .ok (.iaload, 1) := by decide +kernel
theorem s1_5_o4 (d : Nat) (l0 : Value) (l1 : Value) (i : Int32) (σ : Hs) : ru d 1 5 [l0, l1] [.int i, .ref 4] σ = gd (vp_in i 30) (ru d 1 6 [l0, l1] [.int (σ 4 i.toNatClampNeg)] σ) := q_iald t1_5 rfl (by decide +kernel) rfl
theorem s1_5_o61 (d : Nat) (l0 : Value) (l1 : Value) (i : Int32) (σ : Hs) : ru d 1 5 [l0, l1] [.int i, .ref 61] σ = gd (vp_in i 30) (ru d 1 6 [l0, l1] [.int (σ 61 i.toNatClampNeg)] σ) := q_iald t1_5 rfl (by decide +kernel) rfl
theorem t1_6 : decode (mb 1) 6 = .ok (.ifCond .le 7, 3) := by decide +kernel
theorem s1_6 (d : Nat) (l0 : Value) (l1 : Value) (x : Int32) (σ : Hs) : ru d 1 6 [l0, l1] [.int x] σ = if x ≤ 0 then ru d 1 13 [l0, l1] [] σ else ru d 1 9 [l0, l1] [] σ := q_if_le t1_6 (by decide +kernel)
theorem t1_9 : decode (mb 1) 9 = .ok (.iconst 1, 1) := by decide +kernel
theorem s1_9 (d : Nat) (l0 : Value) (l1 : Value) (σ : Hs) : ru d 1 9 [l0, l1] [] σ = ru d 1 10 [l0, l1] [.int 1] σ := q_iconst t1_9 (by decide +kernel)
theorem t1_10 : decode (mb 1) 10 = .ok (.goto 4, 3) := by decide +kernel
theorem s1_10 (d : Nat) (l0 : Value) (l1 : Value) (w0 : Value) (σ : Hs) : ru d 1 10 [l0, l1] [w0] σ = ru d 1 14 [l0, l1] [w0] σ := q_goto t1_10 (by decide +kernel)
theorem t1_13 : decode (mb 1) 13 = .ok (.iconst 0, 1) := by decide +kernel
theorem s1_13 (d : Nat) (l0 : Value) (l1 : Value) (σ : Hs) : ru d 1 13 [l0, l1] [] σ = ru d 1 14 [l0, l1] [.int 0] σ := q_iconst t1_13 (by decide +kernel)
theorem t1_14 : decode (mb 1) 14 = .ok (.ireturn, 1) := by decide +kernel
theorem s1_14 (d : Nat) (l0 : Value) (l1 : Value) (x : Int32) (hx : isB x) (σ : Hs) : ru d 1 14 [l0, l1] [.int x] σ = some (some (.int x), σ) := q_iretz t1_14 mr1 hx
theorem c1 (d : Nat) (x0 : Nat) (x1 : Int32) (σ : Hs) : callD (d + 1) 1 [.ref x0, .int x1] σ = ru d 1 0 [.ref x0, .int x1] [] σ := callD_ru ml1 rfl rfl (Nat.le_of_ble_eq_true rfl)
-- 2: Heap.layOnTop(IIII)I
theorem t2_0 : decode (mb 2) 0 = .ok (.iload_n 1, 1) := by decide +kernel
theorem s2_0 (d : Nat) (l0 : Value) (i1 : Int32) (l2 : Value) (l3 : Value) (l4 : Value) (l5 : Value) (l6 : Value) (σ : Hs) : ru d 2 0 [l0, .int i1, l2, l3, l4, l5, l6] [] σ = ru d 2 1 [l0, .int i1, l2, l3, l4, l5, l6] [.int i1] σ := q_iload_n t2_0 rfl
theorem t2_1 : decode (mb 2) 1 = .ok (.invokestatic 65, 3) := by decide +kernel
theorem s2_1 (d : Nat) (l0 : Value) (l1 : Value) (l2 : Value) (l3 : Value) (l4 : Value) (l5 : Value) (l6 : Value) (v0 : Value) (σ : Hs) : ru d 2 1 [l0, l1, l2, l3, l4, l5, l6] [v0] σ = kont (callD d 104 [v0] σ) d 2 4 [l0, l1, l2, l3, l4, l5, l6] [] := q_invs t2_1 mo2 (by decide +kernel) K0_65 mj104 (Nat.le_of_ble_eq_true rfl) rfl rfl (Nat.le_of_ble_eq_true rfl)
theorem t2_4 : decode (mb 2) 4 = .ok (.ifCond .eq 35, 3) := by decide +kernel
theorem s2_4 (d : Nat) (l0 : Value) (l1 : Value) (l2 : Value) (l3 : Value) (l4 : Value) (l5 : Value) (l6 : Value) (x : Int32) (σ : Hs) : ru d 2 4 [l0, l1, l2, l3, l4, l5, l6] [.int x] σ = if x = 0 then ru d 2 39 [l0, l1, l2, l3, l4, l5, l6] [] σ else ru d 2 7 [l0, l1, l2, l3, l4, l5, l6] [] σ := q_if_eq t2_4 (by decide +kernel)
theorem t2_7 : decode (mb 2) 7 = .ok (.iload_n 2, 1) := by decide +kernel
theorem s2_7 (d : Nat) (l0 : Value) (l1 : Value) (i2 : Int32) (l3 : Value) (l4 : Value) (l5 : Value) (l6 : Value) (σ : Hs) : ru d 2 7 [l0, l1, .int i2, l3, l4, l5, l6] [] σ = ru d 2 8 [l0, l1, .int i2, l3, l4, l5, l6] [.int i2] σ := q_iload_n t2_7 rfl
theorem t2_8 : decode (mb 2) 8 = .ok (.iconst 0, 1) := by decide +kernel
theorem s2_8 (d : Nat) (l0 : Value) (l1 : Value) (l2 : Value) (l3 : Value) (l4 : Value) (l5 : Value) (l6 : Value) (w0 : Value) (σ : Hs) : ru d 2 8 [l0, l1, l2, l3, l4, l5, l6] [w0] σ = ru d 2 9 [l0, l1, l2, l3, l4, l5, l6] [.int 0, w0] σ := q_iconst t2_8 (by decide +kernel)
theorem t2_9 : decode (mb 2) 9 = .ok (.iconst 5, 1) := by decide +kernel
theorem s2_9 (d : Nat) (l0 : Value) (l1 : Value) (l2 : Value) (l3 : Value) (l4 : Value) (l5 : Value) (l6 : Value) (w0 w1 : Value) (σ : Hs) : ru d 2 9 [l0, l1, l2, l3, l4, l5, l6] [w0, w1] σ = ru d 2 10 [l0, l1, l2, l3, l4, l5, l6] [.int 5, w0, w1] σ := q_iconst t2_9 (by decide +kernel)
theorem t2_10 : decode (mb 2) 10 = .ok (.invokestatic 69, 3) := by decide +kernel
theorem s2_10 (d : Nat) (l0 : Value) (l1 : Value) (l2 : Value) (l3 : Value) (l4 : Value) (l5 : Value) (l6 : Value) (v0 v1 v2 : Value) (σ : Hs) : ru d 2 10 [l0, l1, l2, l3, l4, l5, l6] [v2, v1, v0] σ = kont (callD d 102 [v0, v1, v2] σ) d 2 13 [l0, l1, l2, l3, l4, l5, l6] [] := q_invs t2_10 mo2 (by decide +kernel) K0_69 mj102 (Nat.le_of_ble_eq_true rfl) rfl rfl (Nat.le_of_ble_eq_true rfl)
theorem t2_13 : decode (mb 2) 13 = .ok (.ifCond .eq 26, 3) := by decide +kernel
theorem s2_13 (d : Nat) (l0 : Value) (l1 : Value) (l2 : Value) (l3 : Value) (l4 : Value) (l5 : Value) (l6 : Value) (x : Int32) (σ : Hs) : ru d 2 13 [l0, l1, l2, l3, l4, l5, l6] [.int x] σ = if x = 0 then ru d 2 39 [l0, l1, l2, l3, l4, l5, l6] [] σ else ru d 2 16 [l0, l1, l2, l3, l4, l5, l6] [] σ := q_if_eq t2_13 (by decide +kernel)
theorem t2_16 : decode (mb 2) 16 = .ok (.iload_n 3, 1) := by decide +kernel
theorem s2_16 (d : Nat) (l0 : Value) (l1 : Value) (l2 : Value) (i3 : Int32) (l4 : Value) (l5 : Value) (l6 : Value) (σ : Hs) : ru d 2 16 [l0, l1, l2, .int i3, l4, l5, l6] [] σ = ru d 2 17 [l0, l1, l2, .int i3, l4, l5, l6] [.int i3] σ := q_iload_n t2_16 rfl
theorem t2_17 : decode (mb 2) 17 = .ok (.iconst 1, 1) := by decide +kernel
theorem s2_17 (d : Nat) (l0 : Value) (l1 : Value) (l2 : Value) (l3 : Value) (l4 : Value) (l5 : Value) (l6 : Value) (w0 : Value) (σ : Hs) : ru d 2 17 [l0, l1, l2, l3, l4, l5, l6] [w0] σ = ru d 2 18 [l0, l1, l2, l3, l4, l5, l6] [.int 1, w0] σ := q_iconst t2_17 (by decide +kernel)
theorem t2_18 : decode (mb 2) 18 = .ok (.sipush 999, 3) := by decide +kernel
theorem s2_18 (d : Nat) (l0 : Value) (l1 : Value) (l2 : Value) (l3 : Value) (l4 : Value) (l5 : Value) (l6 : Value) (w0 w1 : Value) (σ : Hs) : ru d 2 18 [l0, l1, l2, l3, l4, l5, l6] [w0, w1] σ = ru d 2 21 [l0, l1, l2, l3, l4, l5, l6] [.int 999, w0, w1] σ := q_sipush t2_18 (by decide +kernel)
theorem t2_21 : decode (mb 2) 21 = .ok (.invokestatic 69, 3) := by decide +kernel
theorem s2_21 (d : Nat) (l0 : Value) (l1 : Value) (l2 : Value) (l3 : Value) (l4 : Value) (l5 : Value) (l6 : Value) (v0 v1 v2 : Value) (σ : Hs) : ru d 2 21 [l0, l1, l2, l3, l4, l5, l6] [v2, v1, v0] σ = kont (callD d 102 [v0, v1, v2] σ) d 2 24 [l0, l1, l2, l3, l4, l5, l6] [] := q_invs t2_21 mo2 (by decide +kernel) K0_69 mj102 (Nat.le_of_ble_eq_true rfl) rfl rfl (Nat.le_of_ble_eq_true rfl)
theorem t2_24 : decode (mb 2) 24 = .ok (.ifCond .eq 15, 3) := by decide +kernel
theorem s2_24 (d : Nat) (l0 : Value) (l1 : Value) (l2 : Value) (l3 : Value) (l4 : Value) (l5 : Value) (l6 : Value) (x : Int32) (σ : Hs) : ru d 2 24 [l0, l1, l2, l3, l4, l5, l6] [.int x] σ = if x = 0 then ru d 2 39 [l0, l1, l2, l3, l4, l5, l6] [] σ else ru d 2 27 [l0, l1, l2, l3, l4, l5, l6] [] σ := q_if_eq t2_24 (by decide +kernel)
theorem t2_27 : decode (mb 2) 27 = .ok (.iload 4, 2) := by decide +kernel
theorem s2_27 (d : Nat) (l0 : Value) (l1 : Value) (l2 : Value) (l3 : Value) (i4 : Int32) (l5 : Value) (l6 : Value) (σ : Hs) : ru d 2 27 [l0, l1, l2, l3, .int i4, l5, l6] [] σ = ru d 2 29 [l0, l1, l2, l3, .int i4, l5, l6] [.int i4] σ := q_iload t2_27 rfl
theorem t2_29 : decode (mb 2) 29 = .ok (.iconst 0, 1) := by decide +kernel
theorem s2_29 (d : Nat) (l0 : Value) (l1 : Value) (l2 : Value) (l3 : Value) (l4 : Value) (l5 : Value) (l6 : Value) (w0 : Value) (σ : Hs) : ru d 2 29 [l0, l1, l2, l3, l4, l5, l6] [w0] σ = ru d 2 30 [l0, l1, l2, l3, l4, l5, l6] [.int 0, w0] σ := q_iconst t2_29 (by decide +kernel)
theorem t2_30 : decode (mb 2) 30 = .ok (.sipush 999, 3) := by decide +kernel
theorem s2_30 (d : Nat) (l0 : Value) (l1 : Value) (l2 : Value) (l3 : Value) (l4 : Value) (l5 : Value) (l6 : Value) (w0 w1 : Value) (σ : Hs) : ru d 2 30 [l0, l1, l2, l3, l4, l5, l6] [w0, w1] σ = ru d 2 33 [l0, l1, l2, l3, l4, l5, l6] [.int 999, w0, w1] σ := q_sipush t2_30 (by decide +kernel)
theorem t2_33 : decode (mb 2) 33 = .ok (.invokestatic 69, 3) := by decide +kernel
theorem s2_33 (d : Nat) (l0 : Value) (l1 : Value) (l2 : Value) (l3 : Value) (l4 : Value) (l5 : Value) (l6 : Value) (v0 v1 v2 : Value) (σ : Hs) : ru d 2 33 [l0, l1, l2, l3, l4, l5, l6] [v2, v1, v0] σ = kont (callD d 102 [v0, v1, v2] σ) d 2 36 [l0, l1, l2, l3, l4, l5, l6] [] := q_invs t2_33 mo2 (by decide +kernel) K0_69 mj102 (Nat.le_of_ble_eq_true rfl) rfl rfl (Nat.le_of_ble_eq_true rfl)
theorem t2_36 : decode (mb 2) 36 = .ok (.ifCond .ne 5, 3) := by decide +kernel
theorem s2_36 (d : Nat) (l0 : Value) (l1 : Value) (l2 : Value) (l3 : Value) (l4 : Value) (l5 : Value) (l6 : Value) (x : Int32) (σ : Hs) : ru d 2 36 [l0, l1, l2, l3, l4, l5, l6] [.int x] σ = if x = 0 then ru d 2 39 [l0, l1, l2, l3, l4, l5, l6] [] σ else ru d 2 41 [l0, l1, l2, l3, l4, l5, l6] [] σ := q_if_ne t2_36 (by decide +kernel)
theorem t2_39 : decode (mb 2) 39 = .ok (.iconst (-1), 1) := by decide +kernel
theorem s2_39 (d : Nat) (l0 : Value) (l1 : Value) (l2 : Value) (l3 : Value) (l4 : Value) (l5 : Value) (l6 : Value) (σ : Hs) : ru d 2 39 [l0, l1, l2, l3, l4, l5, l6] [] σ = ru d 2 40 [l0, l1, l2, l3, l4, l5, l6] [.int (-1)] σ := q_iconst t2_39 (by decide +kernel)
theorem t2_40 : decode (mb 2) 40 = .ok (.ireturn, 1) := by decide +kernel
theorem s2_40 (d : Nat) (l0 : Value) (l1 : Value) (l2 : Value) (l3 : Value) (l4 : Value) (l5 : Value) (l6 : Value) (x : Int32) (σ : Hs) : ru d 2 40 [l0, l1, l2, l3, l4, l5, l6] [.int x] σ = some (some (.int x), σ) := q_ireti t2_40 mr2
theorem t2_41 : decode (mb 2) 41 = .ok (.aload_n 0, 1) := by decide +kernel
theorem s2_41 (d : Nat) (a0 : Nat) (l1 : Value) (l2 : Value) (l3 : Value) (l4 : Value) (l5 : Value) (l6 : Value) (σ : Hs) : ru d 2 41 [.ref a0, l1, l2, l3, l4, l5, l6] [] σ = ru d 2 42 [.ref a0, l1, l2, l3, l4, l5, l6] [.ref a0] σ := q_aload_n t2_41 rfl
theorem t2_42 : decode (mb 2) 42 = .ok (.iload_n 2, 1) := by decide +kernel
theorem s2_42 (d : Nat) (l0 : Value) (l1 : Value) (i2 : Int32) (l3 : Value) (l4 : Value) (l5 : Value) (l6 : Value) (w0 : Value) (σ : Hs) : ru d 2 42 [l0, l1, .int i2, l3, l4, l5, l6] [w0] σ = ru d 2 43 [l0, l1, .int i2, l3, l4, l5, l6] [.int i2, w0] σ := q_iload_n t2_42 rfl
theorem t2_43 : decode (mb 2) 43 = .ok (.invokevirtual 73, 3) := by decide +kernel
theorem s2_43_o2 (d : Nat) (l0 : Value) (l1 : Value) (l2 : Value) (l3 : Value) (l4 : Value) (l5 : Value) (l6 : Value) (v1 : Value) (σ : Hs) : ru d 2 43 [l0, l1, l2, l3, l4, l5, l6] [v1, .ref 2] σ = kont (callD d 4 [.ref 2, v1] σ) d 2 46 [l0, l1, l2, l3, l4, l5, l6] [] := q_invv t2_43 mo2 K0_73 mj4 rfl rfl rfl rfl (Nat.le_of_ble_eq_true rfl)
theorem t2_46 : decode (mb 2) 46 = .ok (.istore 5, 2) := by decide +kernel
theorem s2_46 (d : Nat) (l0 : Value) (l1 : Value) (l2 : Value) (l3 : Value) (i4 : Int32) (l5 : Value) (l6 : Value) (x : Int32) (σ : Hs) : ru d 2 46 [l0, l1, l2, l3, .int i4, l5, l6] [.int x] σ = ru d 2 48 [l0, l1, l2, l3, .int i4, .int x, l6] [] σ := q_istore t2_46 ⟨Nat.le_of_ble_eq_true rfl, rfl⟩ rfl
theorem t2_48 : decode (mb 2) 48 = .ok (.iload 5, 2) := by decide +kernel
theorem s2_48 (d : Nat) (l0 : Value) (l1 : Value) (l2 : Value) (l3 : Value) (l4 : Value) (i5 : Int32) (l6 : Value) (σ : Hs) : ru d 2 48 [l0, l1, l2, l3, l4, .int i5, l6] [] σ = ru d 2 50 [l0, l1, l2, l3, l4, .int i5, l6] [.int i5] σ := q_iload t2_48 rfl
theorem t2_50 : decode (mb 2) 50 = .ok (.iconst 5, 1) := by decide +kernel
theorem s2_50 (d : Nat) (l0 : Value) (l1 : Value) (l2 : Value) (l3 : Value) (l4 : Value) (l5 : Value) (l6 : Value) (w0 : Value) (σ : Hs) : ru d 2 50 [l0, l1, l2, l3, l4, l5, l6] [w0] σ = ru d 2 51 [l0, l1, l2, l3, l4, l5, l6] [.int 5, w0] σ := q_iconst t2_50 (by decide +kernel)
theorem t2_51 : decode (mb 2) 51 = .ok (.if_icmp .lt 6, 3) := by decide +kernel
theorem s2_51 (d : Nat) (l0 : Value) (l1 : Value) (l2 : Value) (l3 : Value) (l4 : Value) (l5 : Value) (l6 : Value) (x y : Int32) (σ : Hs) : ru d 2 51 [l0, l1, l2, l3, l4, l5, l6] [.int y, .int x] σ = if x < y then ru d 2 57 [l0, l1, l2, l3, l4, l5, l6] [] σ else ru d 2 54 [l0, l1, l2, l3, l4, l5, l6] [] σ := q_ic_lt t2_51 (by decide +kernel)
theorem t2_54 : decode (mb 2) 54 = .ok (.bipush (-4), 2) := by decide +kernel
theorem s2_54 (d : Nat) (l0 : Value) (l1 : Value) (l2 : Value) (l3 : Value) (l4 : Value) (l5 : Value) (l6 : Value) (σ : Hs) : ru d 2 54 [l0, l1, l2, l3, l4, l5, l6] [] σ = ru d 2 56 [l0, l1, l2, l3, l4, l5, l6] [.int (-4)] σ := q_bipush t2_54 (by decide +kernel)
theorem t2_56 : decode (mb 2) 56 = .ok (.ireturn, 1) := by decide +kernel
theorem s2_56 (d : Nat) (l0 : Value) (l1 : Value) (l2 : Value) (l3 : Value) (l4 : Value) (l5 : Value) (l6 : Value) (x : Int32) (σ : Hs) : ru d 2 56 [l0, l1, l2, l3, l4, l5, l6] [.int x] σ = some (some (.int x), σ) := q_ireti t2_56 mr2
theorem t2_57 : decode (mb 2) 57 = .ok (.bipush 6, 2) := by decide +kernel
theorem s2_57 (d : Nat) (l0 : Value) (l1 : Value) (l2 : Value) (l3 : Value) (l4 : Value) (l5 : Value) (l6 : Value) (σ : Hs) : ru d 2 57 [l0, l1, l2, l3, l4, l5, l6] [] σ = ru d 2 59 [l0, l1, l2, l3, l4, l5, l6] [.int 6] σ := q_bipush t2_57 (by decide +kernel)
theorem t2_59 : decode (mb 2) 59 = .ok (.iload 5, 2) := by decide +kernel
theorem s2_59 (d : Nat) (l0 : Value) (l1 : Value) (l2 : Value) (l3 : Value) (l4 : Value) (i5 : Int32) (l6 : Value) (w0 : Value) (σ : Hs) : ru d 2 59 [l0, l1, l2, l3, l4, .int i5, l6] [w0] σ = ru d 2 61 [l0, l1, l2, l3, l4, .int i5, l6] [.int i5, w0] σ := q_iload t2_59 rfl
theorem t2_61 : decode (mb 2) 61 = .ok (.imul, 1) := by decide +kernel
theorem s2_61 (d : Nat) (l0 : Value) (l1 : Value) (l2 : Value) (l3 : Value) (l4 : Value) (l5 : Value) (l6 : Value) (x y : Int32) (σ : Hs) : ru d 2 61 [l0, l1, l2, l3, l4, l5, l6] [.int y, .int x] σ = ru d 2 62 [l0, l1, l2, l3, l4, l5, l6] [.int (x * y)] σ := q_imul t2_61
theorem t2_62 : decode (mb 2) 62 = .ok (.iload_n 2, 1) := by decide +kernel
theorem s2_62 (d : Nat) (l0 : Value) (l1 : Value) (i2 : Int32) (l3 : Value) (l4 : Value) (l5 : Value) (l6 : Value) (w0 : Value) (σ : Hs) : ru d 2 62 [l0, l1, .int i2, l3, l4, l5, l6] [w0] σ = ru d 2 63 [l0, l1, .int i2, l3, l4, l5, l6] [.int i2, w0] σ := q_iload_n t2_62 rfl
theorem t2_63 : decode (mb 2) 63 = .ok (.iadd, 1) := by decide +kernel
theorem s2_63 (d : Nat) (l0 : Value) (l1 : Value) (l2 : Value) (l3 : Value) (l4 : Value) (l5 : Value) (l6 : Value) (x y : Int32) (σ : Hs) : ru d 2 63 [l0, l1, l2, l3, l4, l5, l6] [.int y, .int x] σ = ru d 2 64 [l0, l1, l2, l3, l4, l5, l6] [.int (x + y)] σ := q_iadd t2_63
theorem t2_64 : decode (mb 2) 64 = .ok (.istore 6, 2) := by decide +kernel
theorem s2_64 (d : Nat) (l0 : Value) (l1 : Value) (l2 : Value) (l3 : Value) (l4 : Value) (i5 : Int32) (l6 : Value) (x : Int32) (σ : Hs) : ru d 2 64 [l0, l1, l2, l3, l4, .int i5, l6] [.int x] σ = ru d 2 66 [l0, l1, l2, l3, l4, .int i5, .int x] [] σ := q_istore t2_64 ⟨Nat.le_of_ble_eq_true rfl, rfl⟩ rfl
theorem t2_66 : decode (mb 2) 66 = .ok (.aload_n 0, 1) := by decide +kernel
theorem s2_66 (d : Nat) (a0 : Nat) (l1 : Value) (l2 : Value) (l3 : Value) (l4 : Value) (l5 : Value) (l6 : Value) (σ : Hs) : ru d 2 66 [.ref a0, l1, l2, l3, l4, l5, l6] [] σ = ru d 2 67 [.ref a0, l1, l2, l3, l4, l5, l6] [.ref a0] σ := q_aload_n t2_66 rfl
theorem t2_67 : decode (mb 2) 67 = .ok (.getfield 9, 3) := by decide +kernel
theorem s2_67_o2 (d : Nat) (l0 : Value) (l1 : Value) (l2 : Value) (l3 : Value) (l4 : Value) (l5 : Value) (l6 : Value) (σ : Hs) : ru d 2 67 [l0, l1, l2, l3, l4, l5, l6] [.ref 2] σ = ru d 2 70 [l0, l1, l2, l3, l4, l5, l6] [.ref 3] σ := q_getf t2_67 mo2 F0_9 rfl rfl
theorem t2_70 : decode (mb 2) 70 = .ok (.iload 6, 2) := by decide +kernel
theorem s2_70 (d : Nat) (l0 : Value) (l1 : Value) (l2 : Value) (l3 : Value) (l4 : Value) (l5 : Value) (i6 : Int32) (w0 : Value) (σ : Hs) : ru d 2 70 [l0, l1, l2, l3, l4, l5, .int i6] [w0] σ = ru d 2 72 [l0, l1, l2, l3, l4, l5, .int i6] [.int i6, w0] σ := q_iload t2_70 rfl
theorem t2_72 : decode (mb 2) 72 = .ok (.iload_n 1, 1) := by decide +kernel
theorem s2_72 (d : Nat) (l0 : Value) (i1 : Int32) (l2 : Value) (l3 : Value) (l4 : Value) (l5 : Value) (l6 : Value) (w0 w1 : Value) (σ : Hs) : ru d 2 72 [l0, .int i1, l2, l3, l4, l5, l6] [w0, w1] σ = ru d 2 73 [l0, .int i1, l2, l3, l4, l5, l6] [.int i1, w0, w1] σ := q_iload_n t2_72 rfl
theorem t2_73 : decode (mb 2) 73 = .ok (.iastore, 1) := by decide +kernel
theorem s2_73_o3 (d : Nat) (l0 : Value) (l1 : Value) (l2 : Value) (l3 : Value) (l4 : Value) (l5 : Value) (l6 : Value) (i x : Int32) (σ : Hs) : ru d 2 73 [l0, l1, l2, l3, l4, l5, l6] [.int x, .int i, .ref 3] σ = gd (vp_in i 30) (ru d 2 74 [l0, l1, l2, l3, l4, l5, l6] [] (up2 σ 3 i.toNatClampNeg x)) := q_iast t2_73 (by decide +kernel) rfl rfl
theorem t2_74 : decode (mb 2) 74 = .ok (.aload_n 0, 1) := by decide +kernel
theorem s2_74 (d : Nat) (a0 : Nat) (l1 : Value) (l2 : Value) (l3 : Value) (l4 : Value) (l5 : Value) (l6 : Value) (σ : Hs) : ru d 2 74 [.ref a0, l1, l2, l3, l4, l5, l6] [] σ = ru d 2 75 [.ref a0, l1, l2, l3, l4, l5, l6] [.ref a0] σ := q_aload_n t2_74 rfl
theorem t2_75 : decode (mb 2) 75 = .ok (.getfield 15, 3) := by decide +kernel
theorem s2_75_o2 (d : Nat) (l0 : Value) (l1 : Value) (l2 : Value) (l3 : Value) (l4 : Value) (l5 : Value) (l6 : Value) (σ : Hs) : ru d 2 75 [l0, l1, l2, l3, l4, l5, l6] [.ref 2] σ = ru d 2 78 [l0, l1, l2, l3, l4, l5, l6] [.ref 4] σ := q_getf t2_75 mo2 F0_15 rfl rfl
theorem t2_78 : decode (mb 2) 78 = .ok (.iload 6, 2) := by decide +kernel
theorem s2_78 (d : Nat) (l0 : Value) (l1 : Value) (l2 : Value) (l3 : Value) (l4 : Value) (l5 : Value) (i6 : Int32) (w0 : Value) (σ : Hs) : ru d 2 78 [l0, l1, l2, l3, l4, l5, .int i6] [w0] σ = ru d 2 80 [l0, l1, l2, l3, l4, l5, .int i6] [.int i6, w0] σ := q_iload t2_78 rfl
theorem t2_80 : decode (mb 2) 80 = .ok (.iload_n 3, 1) := by decide +kernel
theorem s2_80 (d : Nat) (l0 : Value) (l1 : Value) (l2 : Value) (i3 : Int32) (l4 : Value) (l5 : Value) (l6 : Value) (w0 w1 : Value) (σ : Hs) : ru d 2 80 [l0, l1, l2, .int i3, l4, l5, l6] [w0, w1] σ = ru d 2 81 [l0, l1, l2, .int i3, l4, l5, l6] [.int i3, w0, w1] σ := q_iload_n t2_80 rfl
theorem t2_81 : decode (mb 2) 81 = .ok (.iastore, 1) := by decide +kernel
theorem s2_81_o4 (d : Nat) (l0 : Value) (l1 : Value) (l2 : Value) (l3 : Value) (l4 : Value) (l5 : Value) (l6 : Value) (i x : Int32) (σ : Hs) : ru d 2 81 [l0, l1, l2, l3, l4, l5, l6] [.int x, .int i, .ref 4] σ = gd (vp_in i 30) (ru d 2 82 [l0, l1, l2, l3, l4, l5, l6] [] (up2 σ 4 i.toNatClampNeg x)) := q_iast t2_81 (by decide +kernel) rfl rfl
theorem t2_82 : decode (mb 2) 82 = .ok (.aload_n 0, 1) := by decide +kernel
theorem s2_82 (d : Nat) (a0 : Nat) (l1 : Value) (l2 : Value) (l3 : Value) (l4 : Value) (l5 : Value) (l6 : Value) (σ : Hs) : ru d 2 82 [.ref a0, l1, l2, l3, l4, l5, l6] [] σ = ru d 2 83 [.ref a0, l1, l2, l3, l4, l5, l6] [.ref a0] σ := q_aload_n t2_82 rfl
theorem t2_83 : decode (mb 2) 83 = .ok (.getfield 18, 3) := by decide +kernel
theorem s2_83_o2 (d : Nat) (l0 : Value) (l1 : Value) (l2 : Value) (l3 : Value) (l4 : Value) (l5 : Value) (l6 : Value) (σ : Hs) : ru d 2 83 [l0, l1, l2, l3, l4, l5, l6] [.ref 2] σ = ru d 2 86 [l0, l1, l2, l3, l4, l5, l6] [.ref 5] σ := q_getf t2_83 mo2 F0_18 rfl rfl
theorem t2_86 : decode (mb 2) 86 = .ok (.iload 6, 2) := by decide +kernel
theorem s2_86 (d : Nat) (l0 : Value) (l1 : Value) (l2 : Value) (l3 : Value) (l4 : Value) (l5 : Value) (i6 : Int32) (w0 : Value) (σ : Hs) : ru d 2 86 [l0, l1, l2, l3, l4, l5, .int i6] [w0] σ = ru d 2 88 [l0, l1, l2, l3, l4, l5, .int i6] [.int i6, w0] σ := q_iload t2_86 rfl
theorem t2_88 : decode (mb 2) 88 = .ok (.iload 4, 2) := by decide +kernel
theorem s2_88 (d : Nat) (l0 : Value) (l1 : Value) (l2 : Value) (l3 : Value) (i4 : Int32) (l5 : Value) (l6 : Value) (w0 w1 : Value) (σ : Hs) : ru d 2 88 [l0, l1, l2, l3, .int i4, l5, l6] [w0, w1] σ = ru d 2 90 [l0, l1, l2, l3, .int i4, l5, l6] [.int i4, w0, w1] σ := q_iload t2_88 rfl
theorem t2_90 : decode (mb 2) 90 = .ok (.iastore, 1) := by decide +kernel
theorem s2_90_o5 (d : Nat) (l0 : Value) (l1 : Value) (l2 : Value) (l3 : Value) (l4 : Value) (l5 : Value) (l6 : Value) (i x : Int32) (σ : Hs) : ru d 2 90 [l0, l1, l2, l3, l4, l5, l6] [.int x, .int i, .ref 5] σ = gd (vp_in i 30) (ru d 2 91 [l0, l1, l2, l3, l4, l5, l6] [] (up2 σ 5 i.toNatClampNeg x)) := q_iast t2_90 (by decide +kernel) rfl rfl
theorem t2_91 : decode (mb 2) 91 = .ok (.aload_n 0, 1) := by decide +kernel
theorem s2_91 (d : Nat) (a0 : Nat) (l1 : Value) (l2 : Value) (l3 : Value) (l4 : Value) (l5 : Value) (l6 : Value) (σ : Hs) : ru d 2 91 [.ref a0, l1, l2, l3, l4, l5, l6] [] σ = ru d 2 92 [.ref a0, l1, l2, l3, l4, l5, l6] [.ref a0] σ := q_aload_n t2_91 rfl
theorem t2_92 : decode (mb 2) 92 = .ok (.getfield 21, 3) := by decide +kernel
theorem s2_92_o2 (d : Nat) (l0 : Value) (l1 : Value) (l2 : Value) (l3 : Value) (l4 : Value) (l5 : Value) (l6 : Value) (σ : Hs) : ru d 2 92 [l0, l1, l2, l3, l4, l5, l6] [.ref 2] σ = ru d 2 95 [l0, l1, l2, l3, l4, l5, l6] [.ref 6] σ := q_getf t2_92 mo2 F0_21 rfl rfl
theorem t2_95 : decode (mb 2) 95 = .ok (.iload 6, 2) := by decide +kernel
theorem s2_95 (d : Nat) (l0 : Value) (l1 : Value) (l2 : Value) (l3 : Value) (l4 : Value) (l5 : Value) (i6 : Int32) (w0 : Value) (σ : Hs) : ru d 2 95 [l0, l1, l2, l3, l4, l5, .int i6] [w0] σ = ru d 2 97 [l0, l1, l2, l3, l4, l5, .int i6] [.int i6, w0] σ := q_iload t2_95 rfl
theorem t2_97 : decode (mb 2) 97 = .ok (.iconst 3, 1) := by decide +kernel
theorem s2_97 (d : Nat) (l0 : Value) (l1 : Value) (l2 : Value) (l3 : Value) (l4 : Value) (l5 : Value) (l6 : Value) (w0 w1 : Value) (σ : Hs) : ru d 2 97 [l0, l1, l2, l3, l4, l5, l6] [w0, w1] σ = ru d 2 98 [l0, l1, l2, l3, l4, l5, l6] [.int 3, w0, w1] σ := q_iconst t2_97 (by decide +kernel)
theorem t2_98 : decode (mb 2) 98 = .ok (.iastore, 1) := by decide +kernel
theorem s2_98_o6 (d : Nat) (l0 : Value) (l1 : Value) (l2 : Value) (l3 : Value) (l4 : Value) (l5 : Value) (l6 : Value) (i x : Int32) (σ : Hs) : ru d 2 98 [l0, l1, l2, l3, l4, l5, l6] [.int x, .int i, .ref 6] σ = gd (vp_in i 30) (ru d 2 99 [l0, l1, l2, l3, l4, l5, l6] [] (up2 σ 6 i.toNatClampNeg x)) := q_iast t2_98 (by decide +kernel) rfl rfl
theorem t2_99 : decode (mb 2) 99 = .ok (.aload_n 0, 1) := by decide +kernel
theorem s2_99 (d : Nat) (a0 : Nat) (l1 : Value) (l2 : Value) (l3 : Value) (l4 : Value) (l5 : Value) (l6 : Value) (σ : Hs) : ru d 2 99 [.ref a0, l1, l2, l3, l4, l5, l6] [] σ = ru d 2 100 [.ref a0, l1, l2, l3, l4, l5, l6] [.ref a0] σ := q_aload_n t2_99 rfl
theorem t2_100 : decode (mb 2) 100 = .ok (.getfield 24, 3) := by decide +kernel
theorem s2_100_o2 (d : Nat) (l0 : Value) (l1 : Value) (l2 : Value) (l3 : Value) (l4 : Value) (l5 : Value) (l6 : Value) (σ : Hs) : ru d 2 100 [l0, l1, l2, l3, l4, l5, l6] [.ref 2] σ = ru d 2 103 [l0, l1, l2, l3, l4, l5, l6] [.ref 7] σ := q_getf t2_100 mo2 F0_24 rfl rfl
theorem t2_103 : decode (mb 2) 103 = .ok (.iload 6, 2) := by decide +kernel
theorem s2_103 (d : Nat) (l0 : Value) (l1 : Value) (l2 : Value) (l3 : Value) (l4 : Value) (l5 : Value) (i6 : Int32) (w0 : Value) (σ : Hs) : ru d 2 103 [l0, l1, l2, l3, l4, l5, .int i6] [w0] σ = ru d 2 105 [l0, l1, l2, l3, l4, l5, .int i6] [.int i6, w0] σ := q_iload t2_103 rfl
theorem t2_105 : decode (mb 2) 105 = .ok (.iconst 0, 1) := by decide +kernel
theorem s2_105 (d : Nat) (l0 : Value) (l1 : Value) (l2 : Value) (l3 : Value) (l4 : Value) (l5 : Value) (l6 : Value) (w0 w1 : Value) (σ : Hs) : ru d 2 105 [l0, l1, l2, l3, l4, l5, l6] [w0, w1] σ = ru d 2 106 [l0, l1, l2, l3, l4, l5, l6] [.int 0, w0, w1] σ := q_iconst t2_105 (by decide +kernel)
theorem t2_106 : decode (mb 2) 106 = .ok (.iastore, 1) := by decide +kernel
theorem s2_106_o7 (d : Nat) (l0 : Value) (l1 : Value) (l2 : Value) (l3 : Value) (l4 : Value) (l5 : Value) (l6 : Value) (i x : Int32) (σ : Hs) : ru d 2 106 [l0, l1, l2, l3, l4, l5, l6] [.int x, .int i, .ref 7] σ = gd (vp_in i 30) (ru d 2 107 [l0, l1, l2, l3, l4, l5, l6] [] (up2 σ 7 i.toNatClampNeg x)) := q_iast t2_106 (by decide +kernel) rfl rfl
theorem t2_107 : decode (mb 2) 107 = .ok (.aload_n 0, 1) := by decide +kernel
theorem s2_107 (d : Nat) (a0 : Nat) (l1 : Value) (l2 : Value) (l3 : Value) (l4 : Value) (l5 : Value) (l6 : Value) (σ : Hs) : ru d 2 107 [.ref a0, l1, l2, l3, l4, l5, l6] [] σ = ru d 2 108 [.ref a0, l1, l2, l3, l4, l5, l6] [.ref a0] σ := q_aload_n t2_107 rfl
theorem t2_108 : decode (mb 2) 108 = .ok (.getfield 27, 3) := by decide +kernel
theorem s2_108_o2 (d : Nat) (l0 : Value) (l1 : Value) (l2 : Value) (l3 : Value) (l4 : Value) (l5 : Value) (l6 : Value) (σ : Hs) : ru d 2 108 [l0, l1, l2, l3, l4, l5, l6] [.ref 2] σ = ru d 2 111 [l0, l1, l2, l3, l4, l5, l6] [.ref 8] σ := q_getf t2_108 mo2 F0_27 rfl rfl
theorem t2_111 : decode (mb 2) 111 = .ok (.iload 6, 2) := by decide +kernel
theorem s2_111 (d : Nat) (l0 : Value) (l1 : Value) (l2 : Value) (l3 : Value) (l4 : Value) (l5 : Value) (i6 : Int32) (w0 : Value) (σ : Hs) : ru d 2 111 [l0, l1, l2, l3, l4, l5, .int i6] [w0] σ = ru d 2 113 [l0, l1, l2, l3, l4, l5, .int i6] [.int i6, w0] σ := q_iload t2_111 rfl
theorem t2_113 : decode (mb 2) 113 = .ok (.iconst 0, 1) := by decide +kernel
theorem s2_113 (d : Nat) (l0 : Value) (l1 : Value) (l2 : Value) (l3 : Value) (l4 : Value) (l5 : Value) (l6 : Value) (w0 w1 : Value) (σ : Hs) : ru d 2 113 [l0, l1, l2, l3, l4, l5, l6] [w0, w1] σ = ru d 2 114 [l0, l1, l2, l3, l4, l5, l6] [.int 0, w0, w1] σ := q_iconst t2_113 (by decide +kernel)
theorem t2_114 : decode (mb 2) 114 = .ok (.bastore, 1) := by decide +kernel
theorem s2_114_o8 (d : Nat) (l0 : Value) (l1 : Value) (l2 : Value) (l3 : Value) (l4 : Value) (l5 : Value) (l6 : Value) (i x : Int32) (σ : Hs) : ru d 2 114 [l0, l1, l2, l3, l4, l5, l6] [.int x, .int i, .ref 8] σ = gd (vp_in i 30) (ru d 2 115 [l0, l1, l2, l3, l4, l5, l6] [] (up2 σ 8 i.toNatClampNeg (vp_nar .boolean x))) := q_bast t2_114 (by decide +kernel) rfl rfl
theorem t2_115 : decode (mb 2) 115 = .ok (.iload 6, 2) := by decide +kernel
theorem s2_115 (d : Nat) (l0 : Value) (l1 : Value) (l2 : Value) (l3 : Value) (l4 : Value) (l5 : Value) (i6 : Int32) (σ : Hs) : ru d 2 115 [l0, l1, l2, l3, l4, l5, .int i6] [] σ = ru d 2 117 [l0, l1, l2, l3, l4, l5, .int i6] [.int i6] σ := q_iload t2_115 rfl
theorem t2_117 : decode (mb 2) 117 = .ok (.ireturn, 1) := by decide +kernel
theorem s2_117 (d : Nat) (l0 : Value) (l1 : Value) (l2 : Value) (l3 : Value) (l4 : Value) (l5 : Value) (l6 : Value) (x : Int32) (σ : Hs) : ru d 2 117 [l0, l1, l2, l3, l4, l5, l6] [.int x] σ = some (some (.int x), σ) := q_ireti t2_117 mr2
theorem c2 (d : Nat) (x0 : Nat) (x1 : Int32) (x2 : Int32) (x3 : Int32) (x4 : Int32) (σ : Hs) : callD (d + 1) 2 [.ref x0, .int x1, .int x2, .int x3, .int x4] σ = ru d 2 0 [.ref x0, .int x1, .int x2, .int x3, .int x4, uu, uu] [] σ := callD_ru ml2 rfl rfl (Nat.le_of_ble_eq_true rfl)
-- 3: Heap.remove(I)V
theorem t3_0 : decode (mb 3) 0 = .ok (.iload_n 1, 1) := by decide +kernel
theorem s3_0 (d : Nat) (l0 : Value) (i1 : Int32) (l2 : Value) (l3 : Value) (σ : Hs) : ru d 3 0 [l0, .int i1, l2, l3] [] σ = ru d 3 1 [l0, .int i1, l2, l3] [.int i1] σ := q_iload_n t3_0 rfl
theorem t3_1 : decode (mb 3) 1 = .ok (.istore_n 2, 1) := by decide +kernel
theorem s3_1 (d : Nat) (l0 : Value) (i1 : Int32) (l2 : Value) (l3 : Value) (x : Int32) (σ : Hs) : ru d 3 1 [l0, .int i1, l2, l3] [.int x] σ = ru d 3 2 [l0, .int i1, .int x, l3] [] σ := q_istore_n t3_1 ⟨Nat.le_of_ble_eq_true rfl, rfl⟩ rfl
theorem t3_2 : decode (mb 3) 2 = .ok (.iload_n 1, 1) := by decide +kernel
theorem s3_2 (d : Nat) (l0 : Value) (i1 : Int32) (l2 : Value) (l3 : Value) (σ : Hs) : ru d 3 2 [l0, .int i1, l2, l3] [] σ = ru d 3 3 [l0, .int i1, l2, l3] [.int i1] σ := q_iload_n t3_2 rfl
theorem t3_3 : decode (mb 3) 3 = .ok (.bipush 6, 2) := by decide +kernel
theorem s3_3 (d : Nat) (l0 : Value) (l1 : Value) (l2 : Value) (l3 : Value) (w0 : Value) (σ : Hs) : ru d 3 3 [l0, l1, l2, l3] [w0] σ = ru d 3 5 [l0, l1, l2, l3] [.int 6, w0] σ := q_bipush t3_3 (by decide +kernel)
theorem t3_5 : decode (mb 3) 5 = .ok (.iadd, 1) := by decide +kernel
theorem s3_5 (d : Nat) (l0 : Value) (l1 : Value) (l2 : Value) (l3 : Value) (x y : Int32) (σ : Hs) : ru d 3 5 [l0, l1, l2, l3] [.int y, .int x] σ = ru d 3 6 [l0, l1, l2, l3] [.int (x + y)] σ := q_iadd t3_5
theorem t3_6 : decode (mb 3) 6 = .ok (.istore_n 3, 1) := by decide +kernel
theorem s3_6 (d : Nat) (l0 : Value) (l1 : Value) (i2 : Int32) (l3 : Value) (x : Int32) (σ : Hs) : ru d 3 6 [l0, l1, .int i2, l3] [.int x] σ = ru d 3 7 [l0, l1, .int i2, .int x] [] σ := q_istore_n t3_6 ⟨Nat.le_of_ble_eq_true rfl, rfl⟩ rfl
theorem t3_7 : decode (mb 3) 7 = .ok (.iload_n 3, 1) := by decide +kernel
theorem s3_7 (d : Nat) (l0 : Value) (l1 : Value) (l2 : Value) (i3 : Int32) (σ : Hs) : ru d 3 7 [l0, l1, l2, .int i3] [] σ = ru d 3 8 [l0, l1, l2, .int i3] [.int i3] σ := q_iload_n t3_7 rfl
theorem t3_8 : decode (mb 3) 8 = .ok (.bipush 30, 2) := by decide +kernel
theorem s3_8 (d : Nat) (l0 : Value) (l1 : Value) (l2 : Value) (l3 : Value) (w0 : Value) (σ : Hs) : ru d 3 8 [l0, l1, l2, l3] [w0] σ = ru d 3 10 [l0, l1, l2, l3] [.int 30, w0] σ := q_bipush t3_8 (by decide +kernel)
theorem t3_10 : decode (mb 3) 10 = .ok (.if_icmp .ge 92, 3) := by decide +kernel
theorem s3_10 (d : Nat) (l0 : Value) (l1 : Value) (l2 : Value) (l3 : Value) (x y : Int32) (σ : Hs) : ru d 3 10 [l0, l1, l2, l3] [.int y, .int x] σ = if y ≤ x then ru d 3 102 [l0, l1, l2, l3] [] σ else ru d 3 13 [l0, l1, l2, l3] [] σ := q_ic_ge t3_10 (by decide +kernel)
theorem t3_13 : decode (mb 3) 13 = .ok (.aload_n 0, 1) := by decide +kernel
theorem s3_13 (d : Nat) (a0 : Nat) (l1 : Value) (l2 : Value) (l3 : Value) (σ : Hs) : ru d 3 13 [.ref a0, l1, l2, l3] [] σ = ru d 3 14 [.ref a0, l1, l2, l3] [.ref a0] σ := q_aload_n t3_13 rfl
theorem t3_14 : decode (mb 3) 14 = .ok (.getfield 15, 3) := by decide +kernel
theorem s3_14_o2 (d : Nat) (l0 : Value) (l1 : Value) (l2 : Value) (l3 : Value) (σ : Hs) : ru d 3 14 [l0, l1, l2, l3] [.ref 2] σ = ru d 3 17 [l0, l1, l2, l3] [.ref 4] σ := q_getf t3_14 mo3 F0_15 rfl rfl
theorem s3_14_o59 (d : Nat) (l0 : Value) (l1 : Value) (l2 : Value) (l3 : Value) (σ : Hs) : ru d 3 14 [l0, l1, l2, l3] [.ref 59] σ = ru d 3 17 [l0, l1, l2, l3] [.ref 61] σ := q_getf t3_14 mo3 F0_15 rfl rfl
theorem t3_17 : decode (mb 3) 17 = .ok (.iload_n 3, 1) := by decide +kernel
theorem s3_17 (d : Nat) (l0 : Value) (l1 : Value) (l2 : Value) (i3 : Int32) (w0 : Value) (σ : Hs) : ru d 3 17 [l0, l1, l2, .int i3] [w0] σ = ru d 3 18 [l0, l1, l2, .int i3] [.int i3, w0] σ := q_iload_n t3_17 rfl
theorem t3_18 : decode (mb 3) 18 = .ok (.iaload, 1) := by decide +kernel
theorem s3_18_o4 (d : Nat) (l0 : Value) (l1 : Value) (l2 : Value) (l3 : Value) (i : Int32) (σ : Hs) : ru d 3 18 [l0, l1, l2, l3] [.int i, .ref 4] σ = gd (vp_in i 30) (ru d 3 19 [l0, l1, l2, l3] [.int (σ 4 i.toNatClampNeg)] σ) := q_iald t3_18 rfl (by decide +kernel) rfl
theorem s3_18_o61 (d : Nat) (l0 : Value) (l1 : Value) (l2 : Value) (l3 : Value) (i : Int32) (σ : Hs) : ru d 3 18 [l0, l1, l2, l3] [.int i, .ref 61] σ = gd (vp_in i 30) (ru d 3 19 [l0, l1, l2, l3] [.int (σ 61 i.toNatClampNeg)] σ) := q_iald t3_18 rfl (by decide +kernel) rfl
theorem t3_19 : decode (mb 3) 19 = .ok (.ifCond .le 83, 3) := by decide +kernel
theorem s3_19 (d : Nat) (l0 : Value) (l1 : Value) (l2 : Value) (l3 : Value) (x : Int32) (σ : Hs) : ru d 3 19 [l0, l1, l2, l3] [.int x] σ = if x ≤ 0 then ru d 3 102 [l0, l1, l2, l3] [] σ else ru d 3 22 [l0, l1, l2, l3] [] σ := q_if_le t3_19 (by decide +kernel)
theorem t3_22 : decode (mb 3) 22 = .ok (.aload_n 0, 1) := by decide +kernel
theorem s3_22 (d : Nat) (a0 : Nat) (l1 : Value) (l2 : Value) (l3 : Value) (σ : Hs) : ru d 3 22 [.ref a0, l1, l2, l3] [] σ = ru d 3 23 [.ref a0, l1, l2, l3] [.ref a0] σ := q_aload_n t3_22 rfl
theorem t3_23 : decode (mb 3) 23 = .ok (.getfield 9, 3) := by decide +kernel
theorem s3_23_o2 (d : Nat) (l0 : Value) (l1 : Value) (l2 : Value) (l3 : Value) (σ : Hs) : ru d 3 23 [l0, l1, l2, l3] [.ref 2] σ = ru d 3 26 [l0, l1, l2, l3] [.ref 3] σ := q_getf t3_23 mo3 F0_9 rfl rfl
theorem s3_23_o59 (d : Nat) (l0 : Value) (l1 : Value) (l2 : Value) (l3 : Value) (σ : Hs) : ru d 3 23 [l0, l1, l2, l3] [.ref 59] σ = ru d 3 26 [l0, l1, l2, l3] [.ref 60] σ := q_getf t3_23 mo3 F0_9 rfl rfl
theorem t3_26 : decode (mb 3) 26 = .ok (.iload_n 2, 1) := by decide +kernel
theorem s3_26 (d : Nat) (l0 : Value) (l1 : Value) (i2 : Int32) (l3 : Value) (w0 : Value) (σ : Hs) : ru d 3 26 [l0, l1, .int i2, l3] [w0] σ = ru d 3 27 [l0, l1, .int i2, l3] [.int i2, w0] σ := q_iload_n t3_26 rfl
theorem t3_27 : decode (mb 3) 27 = .ok (.aload_n 0, 1) := by decide +kernel
theorem s3_27 (d : Nat) (a0 : Nat) (l1 : Value) (l2 : Value) (l3 : Value) (w0 w1 : Value) (σ : Hs) : ru d 3 27 [.ref a0, l1, l2, l3] [w0, w1] σ = ru d 3 28 [.ref a0, l1, l2, l3] [.ref a0, w0, w1] σ := q_aload_n t3_27 rfl
theorem t3_28 : decode (mb 3) 28 = .ok (.getfield 9, 3) := by decide +kernel
theorem s3_28_o2 (d : Nat) (l0 : Value) (l1 : Value) (l2 : Value) (l3 : Value) (w0 w1 : Value) (σ : Hs) : ru d 3 28 [l0, l1, l2, l3] [.ref 2, w0, w1] σ = ru d 3 31 [l0, l1, l2, l3] [.ref 3, w0, w1] σ := q_getf t3_28 mo3 F0_9 rfl rfl
theorem s3_28_o59 (d : Nat) (l0 : Value) (l1 : Value) (l2 : Value) (l3 : Value) (w0 w1 : Value) (σ : Hs) : ru d 3 28 [l0, l1, l2, l3] [.ref 59, w0, w1] σ = ru d 3 31 [l0, l1, l2, l3] [.ref 60, w0, w1] σ := q_getf t3_28 mo3 F0_9 rfl rfl
theorem t3_31 : decode (mb 3) 31 = .ok (.iload_n 3, 1) := by decide +kernel
theorem s3_31 (d : Nat) (l0 : Value) (l1 : Value) (l2 : Value) (i3 : Int32) (w0 w1 w2 : Value) (σ : Hs) : ru d 3 31 [l0, l1, l2, .int i3] [w0, w1, w2] σ = ru d 3 32 [l0, l1, l2, .int i3] [.int i3, w0, w1, w2] σ := q_iload_n t3_31 rfl
theorem t3_32 : decode (mb 3) 32 = .ok (.iaload, 1) := by decide +kernel
theorem s3_32_o3 (d : Nat) (l0 : Value) (l1 : Value) (l2 : Value) (l3 : Value) (i : Int32) (w0 w1 : Value) (σ : Hs) : ru d 3 32 [l0, l1, l2, l3] [.int i, .ref 3, w0, w1] σ = gd (vp_in i 30) (ru d 3 33 [l0, l1, l2, l3] [.int (σ 3 i.toNatClampNeg), w0, w1] σ) := q_iald t3_32 rfl (by decide +kernel) rfl
theorem s3_32_o60 (d : Nat) (l0 : Value) (l1 : Value) (l2 : Value) (l3 : Value) (i : Int32) (w0 w1 : Value) (σ : Hs) : ru d 3 32 [l0, l1, l2, l3] [.int i, .ref 60, w0, w1] σ = gd (vp_in i 30) (ru d 3 33 [l0, l1, l2, l3] [.int (σ 60 i.toNatClampNeg), w0, w1] σ) := q_iald t3_32 rfl (by decide +kernel) rfl
theorem t3_33 : decode (mb 3) 33 = .ok (.iastore, 1) := by decide +kernel
theorem s3_33_o3 (d : Nat) (l0 : Value) (l1 : Value) (l2 : Value) (l3 : Value) (i x : Int32) (σ : Hs) : ru d 3 33 [l0, l1, l2, l3] [.int x, .int i, .ref 3] σ = gd (vp_in i 30) (ru d 3 34 [l0, l1, l2, l3] [] (up2 σ 3 i.toNatClampNeg x)) := q_iast t3_33 (by decide +kernel) rfl rfl
theorem s3_33_o60 (d : Nat) (l0 : Value) (l1 : Value) (l2 : Value) (l3 : Value) (i x : Int32) (σ : Hs) : ru d 3 33 [l0, l1, l2, l3] [.int x, .int i, .ref 60] σ = gd (vp_in i 30) (ru d 3 34 [l0, l1, l2, l3] [] (up2 σ 60 i.toNatClampNeg x)) := q_iast t3_33 (by decide +kernel) rfl rfl
theorem t3_34 : decode (mb 3) 34 = .ok (.aload_n 0, 1) := by decide +kernel
theorem s3_34 (d : Nat) (a0 : Nat) (l1 : Value) (l2 : Value) (l3 : Value) (σ : Hs) : ru d 3 34 [.ref a0, l1, l2, l3] [] σ = ru d 3 35 [.ref a0, l1, l2, l3] [.ref a0] σ := q_aload_n t3_34 rfl
theorem t3_35 : decode (mb 3) 35 = .ok (.getfield 15, 3) := by decide +kernel
theorem s3_35_o2 (d : Nat) (l0 : Value) (l1 : Value) (l2 : Value) (l3 : Value) (σ : Hs) : ru d 3 35 [l0, l1, l2, l3] [.ref 2] σ = ru d 3 38 [l0, l1, l2, l3] [.ref 4] σ := q_getf t3_35 mo3 F0_15 rfl rfl
theorem s3_35_o59 (d : Nat) (l0 : Value) (l1 : Value) (l2 : Value) (l3 : Value) (σ : Hs) : ru d 3 35 [l0, l1, l2, l3] [.ref 59] σ = ru d 3 38 [l0, l1, l2, l3] [.ref 61] σ := q_getf t3_35 mo3 F0_15 rfl rfl
theorem t3_38 : decode (mb 3) 38 = .ok (.iload_n 2, 1) := by decide +kernel
theorem s3_38 (d : Nat) (l0 : Value) (l1 : Value) (i2 : Int32) (l3 : Value) (w0 : Value) (σ : Hs) : ru d 3 38 [l0, l1, .int i2, l3] [w0] σ = ru d 3 39 [l0, l1, .int i2, l3] [.int i2, w0] σ := q_iload_n t3_38 rfl
theorem t3_39 : decode (mb 3) 39 = .ok (.aload_n 0, 1) := by decide +kernel
theorem s3_39 (d : Nat) (a0 : Nat) (l1 : Value) (l2 : Value) (l3 : Value) (w0 w1 : Value) (σ : Hs) : ru d 3 39 [.ref a0, l1, l2, l3] [w0, w1] σ = ru d 3 40 [.ref a0, l1, l2, l3] [.ref a0, w0, w1] σ := q_aload_n t3_39 rfl
theorem t3_40 : decode (mb 3) 40 = .ok (.getfield 15, 3) := by decide +kernel
theorem s3_40_o2 (d : Nat) (l0 : Value) (l1 : Value) (l2 : Value) (l3 : Value) (w0 w1 : Value) (σ : Hs) : ru d 3 40 [l0, l1, l2, l3] [.ref 2, w0, w1] σ = ru d 3 43 [l0, l1, l2, l3] [.ref 4, w0, w1] σ := q_getf t3_40 mo3 F0_15 rfl rfl
theorem s3_40_o59 (d : Nat) (l0 : Value) (l1 : Value) (l2 : Value) (l3 : Value) (w0 w1 : Value) (σ : Hs) : ru d 3 40 [l0, l1, l2, l3] [.ref 59, w0, w1] σ = ru d 3 43 [l0, l1, l2, l3] [.ref 61, w0, w1] σ := q_getf t3_40 mo3 F0_15 rfl rfl
theorem t3_43 : decode (mb 3) 43 = .ok (.iload_n 3, 1) := by decide +kernel
theorem s3_43 (d : Nat) (l0 : Value) (l1 : Value) (l2 : Value) (i3 : Int32) (w0 w1 w2 : Value) (σ : Hs) : ru d 3 43 [l0, l1, l2, .int i3] [w0, w1, w2] σ = ru d 3 44 [l0, l1, l2, .int i3] [.int i3, w0, w1, w2] σ := q_iload_n t3_43 rfl
theorem t3_44 : decode (mb 3) 44 = .ok (.iaload, 1) := by decide +kernel
theorem s3_44_o4 (d : Nat) (l0 : Value) (l1 : Value) (l2 : Value) (l3 : Value) (i : Int32) (w0 w1 : Value) (σ : Hs) : ru d 3 44 [l0, l1, l2, l3] [.int i, .ref 4, w0, w1] σ = gd (vp_in i 30) (ru d 3 45 [l0, l1, l2, l3] [.int (σ 4 i.toNatClampNeg), w0, w1] σ) := q_iald t3_44 rfl (by decide +kernel) rfl
theorem s3_44_o61 (d : Nat) (l0 : Value) (l1 : Value) (l2 : Value) (l3 : Value) (i : Int32) (w0 w1 : Value) (σ : Hs) : ru d 3 44 [l0, l1, l2, l3] [.int i, .ref 61, w0, w1] σ = gd (vp_in i 30) (ru d 3 45 [l0, l1, l2, l3] [.int (σ 61 i.toNatClampNeg), w0, w1] σ) := q_iald t3_44 rfl (by decide +kernel) rfl
theorem t3_45 : decode (mb 3) 45 = .ok (.iastore, 1) := by decide +kernel
theorem s3_45_o4 (d : Nat) (l0 : Value) (l1 : Value) (l2 : Value) (l3 : Value) (i x : Int32) (σ : Hs) : ru d 3 45 [l0, l1, l2, l3] [.int x, .int i, .ref 4] σ = gd (vp_in i 30) (ru d 3 46 [l0, l1, l2, l3] [] (up2 σ 4 i.toNatClampNeg x)) := q_iast t3_45 (by decide +kernel) rfl rfl
theorem s3_45_o61 (d : Nat) (l0 : Value) (l1 : Value) (l2 : Value) (l3 : Value) (i x : Int32) (σ : Hs) : ru d 3 45 [l0, l1, l2, l3] [.int x, .int i, .ref 61] σ = gd (vp_in i 30) (ru d 3 46 [l0, l1, l2, l3] [] (up2 σ 61 i.toNatClampNeg x)) := q_iast t3_45 (by decide +kernel) rfl rfl
theorem t3_46 : decode (mb 3) 46 = .ok (.aload_n 0, 1) := by decide +kernel
theorem s3_46 (d : Nat) (a0 : Nat) (l1 : Value) (l2 : Value) (l3 : Value) (σ : Hs) : ru d 3 46 [.ref a0, l1, l2, l3] [] σ = ru d 3 47 [.ref a0, l1, l2, l3] [.ref a0] σ := q_aload_n t3_46 rfl
theorem t3_47 : decode (mb 3) 47 = .ok (.getfield 18, 3) := by decide +kernel
theorem s3_47_o2 (d : Nat) (l0 : Value) (l1 : Value) (l2 : Value) (l3 : Value) (σ : Hs) : ru d 3 47 [l0, l1, l2, l3] [.ref 2] σ = ru d 3 50 [l0, l1, l2, l3] [.ref 5] σ := q_getf t3_47 mo3 F0_18 rfl rfl
theorem s3_47_o59 (d : Nat) (l0 : Value) (l1 : Value) (l2 : Value) (l3 : Value) (σ : Hs) : ru d 3 47 [l0, l1, l2, l3] [.ref 59] σ = ru d 3 50 [l0, l1, l2, l3] [.ref 62] σ := q_getf t3_47 mo3 F0_18 rfl rfl
theorem t3_50 : decode (mb 3) 50 = .ok (.iload_n 2, 1) := by decide +kernel
theorem s3_50 (d : Nat) (l0 : Value) (l1 : Value) (i2 : Int32) (l3 : Value) (w0 : Value) (σ : Hs) : ru d 3 50 [l0, l1, .int i2, l3] [w0] σ = ru d 3 51 [l0, l1, .int i2, l3] [.int i2, w0] σ := q_iload_n t3_50 rfl
theorem t3_51 : decode (mb 3) 51 = .ok (.aload_n 0, 1) := by decide +kernel
theorem s3_51 (d : Nat) (a0 : Nat) (l1 : Value) (l2 : Value) (l3 : Value) (w0 w1 : Value) (σ : Hs) : ru d 3 51 [.ref a0, l1, l2, l3] [w0, w1] σ = ru d 3 52 [.ref a0, l1, l2, l3] [.ref a0, w0, w1] σ := q_aload_n t3_51 rfl
theorem t3_52 : decode (mb 3) 52 = .ok (.getfield 18, 3) := by decide +kernel
theorem s3_52_o2 (d : Nat) (l0 : Value) (l1 : Value) (l2 : Value) (l3 : Value) (w0 w1 : Value) (σ : Hs) : ru d 3 52 [l0, l1, l2, l3] [.ref 2, w0, w1] σ = ru d 3 55 [l0, l1, l2, l3] [.ref 5, w0, w1] σ := q_getf t3_52 mo3 F0_18 rfl rfl
theorem s3_52_o59 (d : Nat) (l0 : Value) (l1 : Value) (l2 : Value) (l3 : Value) (w0 w1 : Value) (σ : Hs) : ru d 3 52 [l0, l1, l2, l3] [.ref 59, w0, w1] σ = ru d 3 55 [l0, l1, l2, l3] [.ref 62, w0, w1] σ := q_getf t3_52 mo3 F0_18 rfl rfl
theorem t3_55 : decode (mb 3) 55 = .ok (.iload_n 3, 1) := by decide +kernel
theorem s3_55 (d : Nat) (l0 : Value) (l1 : Value) (l2 : Value) (i3 : Int32) (w0 w1 w2 : Value) (σ : Hs) : ru d 3 55 [l0, l1, l2, .int i3] [w0, w1, w2] σ = ru d 3 56 [l0, l1, l2, .int i3] [.int i3, w0, w1, w2] σ := q_iload_n t3_55 rfl
theorem t3_56 : decode (mb 3) 56 = .ok (.iaload, 1) := by decide +kernel
theorem s3_56_o5 (d : Nat) (l0 : Value) (l1 : Value) (l2 : Value) (l3 : Value) (i : Int32) (w0 w1 : Value) (σ : Hs) : ru d 3 56 [l0, l1, l2, l3] [.int i, .ref 5, w0, w1] σ = gd (vp_in i 30) (ru d 3 57 [l0, l1, l2, l3] [.int (σ 5 i.toNatClampNeg), w0, w1] σ) := q_iald t3_56 rfl (by decide +kernel) rfl
theorem s3_56_o62 (d : Nat) (l0 : Value) (l1 : Value) (l2 : Value) (l3 : Value) (i : Int32) (w0 w1 : Value) (σ : Hs) : ru d 3 56 [l0, l1, l2, l3] [.int i, .ref 62, w0, w1] σ = gd (vp_in i 30) (ru d 3 57 [l0, l1, l2, l3] [.int (σ 62 i.toNatClampNeg), w0, w1] σ) := q_iald t3_56 rfl (by decide +kernel) rfl
theorem t3_57 : decode (mb 3) 57 = .ok (.iastore, 1) := by decide +kernel
theorem s3_57_o5 (d : Nat) (l0 : Value) (l1 : Value) (l2 : Value) (l3 : Value) (i x : Int32) (σ : Hs) : ru d 3 57 [l0, l1, l2, l3] [.int x, .int i, .ref 5] σ = gd (vp_in i 30) (ru d 3 58 [l0, l1, l2, l3] [] (up2 σ 5 i.toNatClampNeg x)) := q_iast t3_57 (by decide +kernel) rfl rfl
theorem s3_57_o62 (d : Nat) (l0 : Value) (l1 : Value) (l2 : Value) (l3 : Value) (i x : Int32) (σ : Hs) : ru d 3 57 [l0, l1, l2, l3] [.int x, .int i, .ref 62] σ = gd (vp_in i 30) (ru d 3 58 [l0, l1, l2, l3] [] (up2 σ 62 i.toNatClampNeg x)) := q_iast t3_57 (by decide +kernel) rfl rfl
theorem t3_58 : decode (mb 3) 58 = .ok (.aload_n 0, 1) := by decide +kernel
theorem s3_58 (d : Nat) (a0 : Nat) (l1 : Value) (l2 : Value) (l3 : Value) (σ : Hs) : ru d 3 58 [.ref a0, l1, l2, l3] [] σ = ru d 3 59 [.ref a0, l1, l2, l3] [.ref a0] σ := q_aload_n t3_58 rfl
theorem t3_59 : decode (mb 3) 59 = .ok (.getfield 21, 3) := by decide +kernel
theorem s3_59_o2 (d : Nat) (l0 : Value) (l1 : Value) (l2 : Value) (l3 : Value) (σ : Hs) : ru d 3 59 [l0, l1, l2, l3] [.ref 2] σ = ru d 3 62 [l0, l1, l2, l3] [.ref 6] σ := q_getf t3_59 mo3 F0_21 rfl rfl
theorem s3_59_o59 (d : Nat) (l0 : Value) (l1 : Value) (l2 : Value) (l3 : Value) (σ : Hs) : ru d 3 59 [l0, l1, l2, l3] [.ref 59] σ = ru d 3 62 [l0, l1, l2, l3] [.ref 63] σ := q_getf t3_59 mo3 F0_21 rfl rfl
theorem t3_62 : decode (mb 3) 62 = .ok (.iload_n 2, 1) := by decide +kernel
theorem s3_62 (d : Nat) (l0 : Value) (l1 : Value) (i2 : Int32) (l3 : Value) (w0 : Value) (σ : Hs) : ru d 3 62 [l0, l1, .int i2, l3] [w0] σ = ru d 3 63 [l0, l1, .int i2, l3] [.int i2, w0] σ := q_iload_n t3_62 rfl
theorem t3_63 : decode (mb 3) 63 = .ok (.aload_n 0, 1) := by decide +kernel
theorem s3_63 (d : Nat) (a0 : Nat) (l1 : Value) (l2 : Value) (l3 : Value) (w0 w1 : Value) (σ : Hs) : ru d 3 63 [.ref a0, l1, l2, l3] [w0, w1] σ = ru d 3 64 [.ref a0, l1, l2, l3] [.ref a0, w0, w1] σ := q_aload_n t3_63 rfl
theorem t3_64 : decode (mb 3) 64 = .ok (.getfield 21, 3) := by decide +kernel
theorem s3_64_o2 (d : Nat) (l0 : Value) (l1 : Value) (l2 : Value) (l3 : Value) (w0 w1 : Value) (σ : Hs) : ru d 3 64 [l0, l1, l2, l3] [.ref 2, w0, w1] σ = ru d 3 67 [l0, l1, l2, l3] [.ref 6, w0, w1] σ := q_getf t3_64 mo3 F0_21 rfl rfl
theorem s3_64_o59 (d : Nat) (l0 : Value) (l1 : Value) (l2 : Value) (l3 : Value) (w0 w1 : Value) (σ : Hs) : ru d 3 64 [l0, l1, l2, l3] [.ref 59, w0, w1] σ = ru d 3 67 [l0, l1, l2, l3] [.ref 63, w0, w1] σ := q_getf t3_64 mo3 F0_21 rfl rfl
theorem t3_67 : decode (mb 3) 67 = .ok (.iload_n 3, 1) := by decide +kernel
theorem s3_67 (d : Nat) (l0 : Value) (l1 : Value) (l2 : Value) (i3 : Int32) (w0 w1 w2 : Value) (σ : Hs) : ru d 3 67 [l0, l1, l2, .int i3] [w0, w1, w2] σ = ru d 3 68 [l0, l1, l2, .int i3] [.int i3, w0, w1, w2] σ := q_iload_n t3_67 rfl
theorem t3_68 : decode (mb 3) 68 = .ok (.iaload, 1) := by decide +kernel
theorem s3_68_o6 (d : Nat) (l0 : Value) (l1 : Value) (l2 : Value) (l3 : Value) (i : Int32) (w0 w1 : Value) (σ : Hs) : ru d 3 68 [l0, l1, l2, l3] [.int i, .ref 6, w0, w1] σ = gd (vp_in i 30) (ru d 3 69 [l0, l1, l2, l3] [.int (σ 6 i.toNatClampNeg), w0, w1] σ) := q_iald t3_68 rfl (by decide +kernel) rfl
theorem s3_68_o63 (d : Nat) (l0 : Value) (l1 : Value) (l2 : Value) (l3 : Value) (i : Int32) (w0 w1 : Value) (σ : Hs) : ru d 3 68 [l0, l1, l2, l3] [.int i, .ref 63, w0, w1] σ = gd (vp_in i 30) (ru d 3 69 [l0, l1, l2, l3] [.int (σ 63 i.toNatClampNeg), w0, w1] σ) := q_iald t3_68 rfl (by decide +kernel) rfl
theorem t3_69 : decode (mb 3) 69 = .ok (.iastore, 1) := by decide +kernel
theorem s3_69_o6 (d : Nat) (l0 : Value) (l1 : Value) (l2 : Value) (l3 : Value) (i x : Int32) (σ : Hs) : ru d 3 69 [l0, l1, l2, l3] [.int x, .int i, .ref 6] σ = gd (vp_in i 30) (ru d 3 70 [l0, l1, l2, l3] [] (up2 σ 6 i.toNatClampNeg x)) := q_iast t3_69 (by decide +kernel) rfl rfl
theorem s3_69_o63 (d : Nat) (l0 : Value) (l1 : Value) (l2 : Value) (l3 : Value) (i x : Int32) (σ : Hs) : ru d 3 69 [l0, l1, l2, l3] [.int x, .int i, .ref 63] σ = gd (vp_in i 30) (ru d 3 70 [l0, l1, l2, l3] [] (up2 σ 63 i.toNatClampNeg x)) := q_iast t3_69 (by decide +kernel) rfl rfl
theorem t3_70 : decode (mb 3) 70 = .ok (.aload_n 0, 1) := by decide +kernel
theorem s3_70 (d : Nat) (a0 : Nat) (l1 : Value) (l2 : Value) (l3 : Value) (σ : Hs) : ru d 3 70 [.ref a0, l1, l2, l3] [] σ = ru d 3 71 [.ref a0, l1, l2, l3] [.ref a0] σ := q_aload_n t3_70 rfl
theorem t3_71 : decode (mb 3) 71 = .ok (.getfield 24, 3) := by decide +kernel
theorem s3_71_o2 (d : Nat) (l0 : Value) (l1 : Value) (l2 : Value) (l3 : Value) (σ : Hs) : ru d 3 71 [l0, l1, l2, l3] [.ref 2] σ = ru d 3 74 [l0, l1, l2, l3] [.ref 7] σ := q_getf t3_71 mo3 F0_24 rfl rfl
theorem s3_71_o59 (d : Nat) (l0 : Value) (l1 : Value) (l2 : Value) (l3 : Value) (σ : Hs) : ru d 3 71 [l0, l1, l2, l3] [.ref 59] σ = ru d 3 74 [l0, l1, l2, l3] [.ref 64] σ := q_getf t3_71 mo3 F0_24 rfl rfl
theorem t3_74 : decode (mb 3) 74 = .ok (.iload_n 2, 1) := by decide +kernel
theorem s3_74 (d : Nat) (l0 : Value) (l1 : Value) (i2 : Int32) (l3 : Value) (w0 : Value) (σ : Hs) : ru d 3 74 [l0, l1, .int i2, l3] [w0] σ = ru d 3 75 [l0, l1, .int i2, l3] [.int i2, w0] σ := q_iload_n t3_74 rfl
theorem t3_75 : decode (mb 3) 75 = .ok (.aload_n 0, 1) := by decide +kernel
theorem s3_75 (d : Nat) (a0 : Nat) (l1 : Value) (l2 : Value) (l3 : Value) (w0 w1 : Value) (σ : Hs) : ru d 3 75 [.ref a0, l1, l2, l3] [w0, w1] σ = ru d 3 76 [.ref a0, l1, l2, l3] [.ref a0, w0, w1] σ := q_aload_n t3_75 rfl
theorem t3_76 : decode (mb 3) 76 = .ok (.getfield 24, 3) := by decide +kernel
theorem s3_76_o2 (d : Nat) (l0 : Value) (l1 : Value) (l2 : Value) (l3 : Value) (w0 w1 : Value) (σ : Hs) : ru d 3 76 [l0, l1, l2, l3] [.ref 2, w0, w1] σ = ru d 3 79 [l0, l1, l2, l3] [.ref 7, w0, w1] σ := q_getf t3_76 mo3 F0_24 rfl rfl
theorem s3_76_o59 (d : Nat) (l0 : Value) (l1 : Value) (l2 : Value) (l3 : Value) (w0 w1 : Value) (σ : Hs) : ru d 3 76 [l0, l1, l2, l3] [.ref 59, w0, w1] σ = ru d 3 79 [l0, l1, l2, l3] [.ref 64, w0, w1] σ := q_getf t3_76 mo3 F0_24 rfl rfl
theorem t3_79 : decode (mb 3) 79 = .ok (.iload_n 3, 1) := by decide +kernel
theorem s3_79 (d : Nat) (l0 : Value) (l1 : Value) (l2 : Value) (i3 : Int32) (w0 w1 w2 : Value) (σ : Hs) : ru d 3 79 [l0, l1, l2, .int i3] [w0, w1, w2] σ = ru d 3 80 [l0, l1, l2, .int i3] [.int i3, w0, w1, w2] σ := q_iload_n t3_79 rfl
theorem t3_80 : decode (mb 3) 80 = .ok (.iaload, 1) := by decide +kernel
theorem s3_80_o7 (d : Nat) (l0 : Value) (l1 : Value) (l2 : Value) (l3 : Value) (i : Int32) (w0 w1 : Value) (σ : Hs) : ru d 3 80 [l0, l1, l2, l3] [.int i, .ref 7, w0, w1] σ = gd (vp_in i 30) (ru d 3 81 [l0, l1, l2, l3] [.int (σ 7 i.toNatClampNeg), w0, w1] σ) := q_iald t3_80 rfl (by decide +kernel) rfl
theorem s3_80_o64 (d : Nat) (l0 : Value) (l1 : Value) (l2 : Value) (l3 : Value) (i : Int32) (w0 w1 : Value) (σ : Hs) : ru d 3 80 [l0, l1, l2, l3] [.int i, .ref 64, w0, w1] σ = gd (vp_in i 30) (ru d 3 81 [l0, l1, l2, l3] [.int (σ 64 i.toNatClampNeg), w0, w1] σ) := q_iald t3_80 rfl (by decide +kernel) rfl
theorem t3_81 : decode (mb 3) 81 = .ok (.iastore, 1) := by decide +kernel
theorem s3_81_o7 (d : Nat) (l0 : Value) (l1 : Value) (l2 : Value) (l3 : Value) (i x : Int32) (σ : Hs) : ru d 3 81 [l0, l1, l2, l3] [.int x, .int i, .ref 7] σ = gd (vp_in i 30) (ru d 3 82 [l0, l1, l2, l3] [] (up2 σ 7 i.toNatClampNeg x)) := q_iast t3_81 (by decide +kernel) rfl rfl
theorem s3_81_o64 (d : Nat) (l0 : Value) (l1 : Value) (l2 : Value) (l3 : Value) (i x : Int32) (σ : Hs) : ru d 3 81 [l0, l1, l2, l3] [.int x, .int i, .ref 64] σ = gd (vp_in i 30) (ru d 3 82 [l0, l1, l2, l3] [] (up2 σ 64 i.toNatClampNeg x)) := q_iast t3_81 (by decide +kernel) rfl rfl
theorem t3_82 : decode (mb 3) 82 = .ok (.aload_n 0, 1) := by decide +kernel
theorem s3_82 (d : Nat) (a0 : Nat) (l1 : Value) (l2 : Value) (l3 : Value) (σ : Hs) : ru d 3 82 [.ref a0, l1, l2, l3] [] σ = ru d 3 83 [.ref a0, l1, l2, l3] [.ref a0] σ := q_aload_n t3_82 rfl
theorem t3_83 : decode (mb 3) 83 = .ok (.getfield 27, 3) := by decide +kernel
theorem s3_83_o2 (d : Nat) (l0 : Value) (l1 : Value) (l2 : Value) (l3 : Value) (σ : Hs) : ru d 3 83 [l0, l1, l2, l3] [.ref 2] σ = ru d 3 86 [l0, l1, l2, l3] [.ref 8] σ := q_getf t3_83 mo3 F0_27 rfl rfl
theorem s3_83_o59 (d : Nat) (l0 : Value) (l1 : Value) (l2 : Value) (l3 : Value) (σ : Hs) : ru d 3 83 [l0, l1, l2, l3] [.ref 59] σ = ru d 3 86 [l0, l1, l2, l3] [.ref 65] σ := q_getf t3_83 mo3 F0_27 rfl rfl
theorem t3_86 : decode (mb 3) 86 = .ok (.iload_n 2, 1) := by decide +kernel
theorem s3_86 (d : Nat) (l0 : Value) (l1 : Value) (i2 : Int32) (l3 : Value) (w0 : Value) (σ : Hs) : ru d 3 86 [l0, l1, .int i2, l3] [w0] σ = ru d 3 87 [l0, l1, .int i2, l3] [.int i2, w0] σ := q_iload_n t3_86 rfl
theorem t3_87 : decode (mb 3) 87 = .ok (.aload_n 0, 1) := by decide +kernel
theorem s3_87 (d : Nat) (a0 : Nat) (l1 : Value) (l2 : Value) (l3 : Value) (w0 w1 : Value) (σ : Hs) : ru d 3 87 [.ref a0, l1, l2, l3] [w0, w1] σ = ru d 3 88 [.ref a0, l1, l2, l3] [.ref a0, w0, w1] σ := q_aload_n t3_87 rfl
theorem t3_88 : decode (mb 3) 88 = .ok (.getfield 27, 3) := by decide +kernel
theorem s3_88_o2 (d : Nat) (l0 : Value) (l1 : Value) (l2 : Value) (l3 : Value) (w0 w1 : Value) (σ : Hs) : ru d 3 88 [l0, l1, l2, l3] [.ref 2, w0, w1] σ = ru d 3 91 [l0, l1, l2, l3] [.ref 8, w0, w1] σ := q_getf t3_88 mo3 F0_27 rfl rfl
theorem s3_88_o59 (d : Nat) (l0 : Value) (l1 : Value) (l2 : Value) (l3 : Value) (w0 w1 : Value) (σ : Hs) : ru d 3 88 [l0, l1, l2, l3] [.ref 59, w0, w1] σ = ru d 3 91 [l0, l1, l2, l3] [.ref 65, w0, w1] σ := q_getf t3_88 mo3 F0_27 rfl rfl
theorem t3_91 : decode (mb 3) 91 = .ok (.iload_n 3, 1) := by decide +kernel
theorem s3_91 (d : Nat) (l0 : Value) (l1 : Value) (l2 : Value) (i3 : Int32) (w0 w1 w2 : Value) (σ : Hs) : ru d 3 91 [l0, l1, l2, .int i3] [w0, w1, w2] σ = ru d 3 92 [l0, l1, l2, .int i3] [.int i3, w0, w1, w2] σ := q_iload_n t3_91 rfl
theorem t3_92 : decode (mb 3) 92 = .ok (.baload, 1) := by decide +kernel
theorem s3_92_o8 (d : Nat) (l0 : Value) (l1 : Value) (l2 : Value) (l3 : Value) (i : Int32) (w0 w1 : Value) (σ : Hs) : ru d 3 92 [l0, l1, l2, l3] [.int i, .ref 8, w0, w1] σ = gd (vp_in i 30) (ru d 3 93 [l0, l1, l2, l3] [.int (σ 8 i.toNatClampNeg), w0, w1] σ) := q_bald t3_92 (by decide +kernel) rfl rfl
theorem s3_92_o65 (d : Nat) (l0 : Value) (l1 : Value) (l2 : Value) (l3 : Value) (i : Int32) (w0 w1 : Value) (σ : Hs) : ru d 3 92 [l0, l1, l2, l3] [.int i, .ref 65, w0, w1] σ = gd (vp_in i 30) (ru d 3 93 [l0, l1, l2, l3] [.int (σ 65 i.toNatClampNeg), w0, w1] σ) := q_bald t3_92 (by decide +kernel) rfl rfl
theorem t3_93 : decode (mb 3) 93 = .ok (.bastore, 1) := by decide +kernel
theorem s3_93_o8 (d : Nat) (l0 : Value) (l1 : Value) (l2 : Value) (l3 : Value) (i x : Int32) (σ : Hs) : ru d 3 93 [l0, l1, l2, l3] [.int x, .int i, .ref 8] σ = gd (vp_in i 30) (ru d 3 94 [l0, l1, l2, l3] [] (up2 σ 8 i.toNatClampNeg (vp_nar .boolean x))) := q_bast t3_93 (by decide +kernel) rfl rfl
theorem s3_93_o65 (d : Nat) (l0 : Value) (l1 : Value) (l2 : Value) (l3 : Value) (i x : Int32) (σ : Hs) : ru d 3 93 [l0, l1, l2, l3] [.int x, .int i, .ref 65] σ = gd (vp_in i 30) (ru d 3 94 [l0, l1, l2, l3] [] (up2 σ 65 i.toNatClampNeg (vp_nar .boolean x))) := q_bast t3_93 (by decide +kernel) rfl rfl
theorem t3_94 : decode (mb 3) 94 = .ok (.iload_n 3, 1) := by decide +kernel
theorem s3_94 (d : Nat) (l0 : Value) (l1 : Value) (l2 : Value) (i3 : Int32) (σ : Hs) : ru d 3 94 [l0, l1, l2, .int i3] [] σ = ru d 3 95 [l0, l1, l2, .int i3] [.int i3] σ := q_iload_n t3_94 rfl
theorem t3_95 : decode (mb 3) 95 = .ok (.istore_n 2, 1) := by decide +kernel
theorem s3_95 (d : Nat) (l0 : Value) (i1 : Int32) (l2 : Value) (l3 : Value) (x : Int32) (σ : Hs) : ru d 3 95 [l0, .int i1, l2, l3] [.int x] σ = ru d 3 96 [l0, .int i1, .int x, l3] [] σ := q_istore_n t3_95 ⟨Nat.le_of_ble_eq_true rfl, rfl⟩ rfl
theorem t3_96 : decode (mb 3) 96 = .ok (.iinc 3 6, 3) := by decide +kernel
theorem s3_96 (d : Nat) (l0 : Value) (l1 : Value) (i2 : Int32) (i3 : Int32) (σ : Hs) : ru d 3 96 [l0, l1, .int i2, .int i3] [] σ = ru d 3 99 [l0, l1, .int i2, .int (i3 + 6)] [] σ := q_iinc t3_96 ⟨Nat.le_of_ble_eq_true rfl, rfl⟩ rfl (by decide +kernel) rfl
theorem t3_99 : decode (mb 3) 99 = .ok (.goto (-92), 3) := by decide +kernel
theorem s3_99 (d : Nat) (l0 : Value) (l1 : Value) (l2 : Value) (l3 : Value) (σ : Hs) : ru d 3 99 [l0, l1, l2, l3] [] σ = ru d 3 7 [l0, l1, l2, l3] [] σ := q_goto t3_99 (by decide +kernel)
theorem t3_102 : decode (mb 3) 102 = .ok (.aload_n 0, 1) := by decide +kernel
theorem s3_102 (d : Nat) (a0 : Nat) (l1 : Value) (l2 : Value) (l3 : Value) (σ : Hs) : ru d 3 102 [.ref a0, l1, l2, l3] [] σ = ru d 3 103 [.ref a0, l1, l2, l3] [.ref a0] σ := q_aload_n t3_102 rfl
theorem t3_103 : decode (mb 3) 103 = .ok (.getfield 15, 3) := by decide +kernel
theorem s3_103_o2 (d : Nat) (l0 : Value) (l1 : Value) (l2 : Value) (l3 : Value) (σ : Hs) : ru d 3 103 [l0, l1, l2, l3] [.ref 2] σ = ru d 3 106 [l0, l1, l2, l3] [.ref 4] σ := q_getf t3_103 mo3 F0_15 rfl rfl
theorem s3_103_o59 (d : Nat) (l0 : Value) (l1 : Value) (l2 : Value) (l3 : Value) (σ : Hs) : ru d 3 103 [l0, l1, l2, l3] [.ref 59] σ = ru d 3 106 [l0, l1, l2, l3] [.ref 61] σ := q_getf t3_103 mo3 F0_15 rfl rfl
theorem t3_106 : decode (mb 3) 106 = .ok (.iload_n 2, 1) := by decide +kernel
theorem s3_106 (d : Nat) (l0 : Value) (l1 : Value) (i2 : Int32) (l3 : Value) (w0 : Value) (σ : Hs) : ru d 3 106 [l0, l1, .int i2, l3] [w0] σ = ru d 3 107 [l0, l1, .int i2, l3] [.int i2, w0] σ := q_iload_n t3_106 rfl
theorem t3_107 : decode (mb 3) 107 = .ok (.iconst 0, 1) := by decide +kernel
theorem s3_107 (d : Nat) (l0 : Value) (l1 : Value) (l2 : Value) (l3 : Value) (w0 w1 : Value) (σ : Hs) : ru d 3 107 [l0, l1, l2, l3] [w0, w1] σ = ru d 3 108 [l0, l1, l2, l3] [.int 0, w0, w1] σ := q_iconst t3_107 (by decide +kernel)
theorem t3_108 : decode (mb 3) 108 = .ok (.iastore, 1) := by decide +kernel
theorem s3_108_o4 (d : Nat) (l0 : Value) (l1 : Value) (l2 : Value) (l3 : Value) (i x : Int32) (σ : Hs) : ru d 3 108 [l0, l1, l2, l3] [.int x, .int i, .ref 4] σ = gd (vp_in i 30) (ru d 3 109 [l0, l1, l2, l3] [] (up2 σ 4 i.toNatClampNeg x)) := q_iast t3_108 (by decide +kernel) rfl rfl
theorem s3_108_o61 (d : Nat) (l0 : Value) (l1 : Value) (l2 : Value) (l3 : Value) (i x : Int32) (σ : Hs) : ru d 3 108 [l0, l1, l2, l3] [.int x, .int i, .ref 61] σ = gd (vp_in i 30) (ru d 3 109 [l0, l1, l2, l3] [] (up2 σ 61 i.toNatClampNeg x)) := q_iast t3_108 (by decide +kernel) rfl rfl
theorem t3_109 : decode (mb 3) 109 = .ok (.return_, 1) := by decide +kernel
theorem s3_109 (d : Nat) (l0 : Value) (l1 : Value) (l2 : Value) (l3 : Value) (σ : Hs) : ru d 3 109 [l0, l1, l2, l3] [] σ = some (none, σ) := q_vret t3_109 mr3
theorem c3 (d : Nat) (x0 : Nat) (x1 : Int32) (σ : Hs) : callD (d + 1) 3 [.ref x0, .int x1] σ = ru d 3 0 [.ref x0, .int x1, uu, uu] [] σ := callD_ru ml3 rfl rfl (Nat.le_of_ble_eq_true rfl)
-- 4: Heap.heightOf(I)I
theorem t4_0 : decode (mb 4) 0 = .ok (.iconst 0, 1) := by decide +kernel
theorem s4_0 (d : Nat) (l0 : Value) (l1 : Value) (l2 : Value) (l3 : Value) (σ : Hs) : ru d 4 0 [l0, l1, l2, l3] [] σ = ru d 4 1 [l0, l1, l2, l3] [.int 0] σ := q_iconst t4_0 (by decide +kernel)
theorem t4_1 : decode (mb 4) 1 = .ok (.istore_n 2, 1) := by decide +kernel
theorem s4_1 (d : Nat) (l0 : Value) (i1 : Int32) (l2 : Value) (l3 : Value) (x : Int32) (σ : Hs) : ru d 4 1 [l0, .int i1, l2, l3] [.int x] σ = ru d 4 2 [l0, .int i1, .int x, l3] [] σ := q_istore_n t4_1 ⟨Nat.le_of_ble_eq_true rfl, rfl⟩ rfl
theorem t4_2 : decode (mb 4) 2 = .ok (.iload_n 1, 1) := by decide +kernel
theorem s4_2 (d : Nat) (l0 : Value) (i1 : Int32) (l2 : Value) (l3 : Value) (σ : Hs) : ru d 4 2 [l0, .int i1, l2, l3] [] σ = ru d 4 3 [l0, .int i1, l2, l3] [.int i1] σ := q_iload_n t4_2 rfl
theorem t4_3 : decode (mb 4) 3 = .ok (.istore_n 3, 1) := by decide +kernel
theorem s4_3 (d : Nat) (l0 : Value) (l1 : Value) (i2 : Int32) (l3 : Value) (x : Int32) (σ : Hs) : ru d 4 3 [l0, l1, .int i2, l3] [.int x] σ = ru d 4 4 [l0, l1, .int i2, .int x] [] σ := q_istore_n t4_3 ⟨Nat.le_of_ble_eq_true rfl, rfl⟩ rfl
theorem t4_4 : decode (mb 4) 4 = .ok (.iload_n 3, 1) := by decide +kernel
theorem s4_4 (d : Nat) (l0 : Value) (l1 : Value) (l2 : Value) (i3 : Int32) (σ : Hs) : ru d 4 4 [l0, l1, l2, .int i3] [] σ = ru d 4 5 [l0, l1, l2, .int i3] [.int i3] σ := q_iload_n t4_4 rfl
theorem t4_5 : decode (mb 4) 5 = .ok (.bipush 30, 2) := by decide +kernel
theorem s4_5 (d : Nat) (l0 : Value) (l1 : Value) (l2 : Value) (l3 : Value) (w0 : Value) (σ : Hs) : ru d 4 5 [l0, l1, l2, l3] [w0] σ = ru d 4 7 [l0, l1, l2, l3] [.int 30, w0] σ := q_bipush t4_5 (by decide +kernel)
theorem t4_7 : decode (mb 4) 7 = .ok (.if_icmp .ge 21, 3) := by decide +kernel
theorem s4_7 (d : Nat) (l0 : Value) (l1 : Value) (l2 : Value) (l3 : Value) (x y : Int32) (σ : Hs) : ru d 4 7 [l0, l1, l2, l3] [.int y, .int x] σ = if y ≤ x then ru d 4 28 [l0, l1, l2, l3] [] σ else ru d 4 10 [l0, l1, l2, l3] [] σ := q_ic_ge t4_7 (by decide +kernel)
theorem t4_10 : decode (mb 4) 10 = .ok (.aload_n 0, 1) := by decide +kernel
theorem s4_10 (d : Nat) (a0 : Nat) (l1 : Value) (l2 : Value) (l3 : Value) (σ : Hs) : ru d 4 10 [.ref a0, l1, l2, l3] [] σ = ru d 4 11 [.ref a0, l1, l2, l3] [.ref a0] σ := q_aload_n t4_10 rfl
theorem t4_11 : decode (mb 4) 11 = .ok (.getfield 15, 3) := by decide +kernel
theorem s4_11_o2 (d : Nat) (l0 : Value) (l1 : Value) (l2 : Value) (l3 : Value) (σ : Hs) : ru d 4 11 [l0, l1, l2, l3] [.ref 2] σ = ru d 4 14 [l0, l1, l2, l3] [.ref 4] σ := q_getf t4_11 mo4 F0_15 rfl rfl
theorem s4_11_o59 (d : Nat) (l0 : Value) (l1 : Value) (l2 : Value) (l3 : Value) (σ : Hs) : ru d 4 11 [l0, l1, l2, l3] [.ref 59] σ = ru d 4 14 [l0, l1, l2, l3] [.ref 61] σ := q_getf t4_11 mo4 F0_15 rfl rfl
theorem t4_14 : decode (mb 4) 14 = .ok (.iload_n 3, 1) := by decide +kernel
theorem s4_14 (d : Nat) (l0 : Value) (l1 : Value) (l2 : Value) (i3 : Int32) (w0 : Value) (σ : Hs) : ru d 4 14 [l0, l1, l2, .int i3] [w0] σ = ru d 4 15 [l0, l1, l2, .int i3] [.int i3, w0] σ := q_iload_n t4_14 rfl
theorem t4_15 : decode (mb 4) 15 = .ok (.iaload, 1) := by decide +kernel
theorem s4_15_o4 (d : Nat) (l0 : Value) (l1 : Value) (l2 : Value) (l3 : Value) (i : Int32) (σ : Hs) : ru d 4 15 [l0, l1, l2, l3] [.int i, .ref 4] σ = gd (vp_in i 30) (ru d 4 16 [l0, l1, l2, l3] [.int (σ 4 i.toNatClampNeg)] σ) := q_iald t4_15 rfl (by decide +kernel) rfl
theorem s4_15_o61 (d : Nat) (l0 : Value) (l1 : Value) (l2 : Value) (l3 : Value) (i : Int32) (σ : Hs) : ru d 4 15 [l0, l1, l2, l3] [.int i, .ref 61] σ = gd (vp_in i 30) (ru d 4 16 [l0, l1, l2, l3] [.int (σ 61 i.toNatClampNeg)] σ) := q_iald t4_15 rfl (by decide +kernel) rfl
theorem t4_16 : decode (mb 4) 16 = .ok (.ifCond .le 12, 3) := by decide +kernel
theorem s4_16 (d : Nat) (l0 : Value) (l1 : Value) (l2 : Value) (l3 : Value) (x : Int32) (σ : Hs) : ru d 4 16 [l0, l1, l2, l3] [.int x] σ = if x ≤ 0 then ru d 4 28 [l0, l1, l2, l3] [] σ else ru d 4 19 [l0, l1, l2, l3] [] σ := q_if_le t4_16 (by decide +kernel)
theorem t4_19 : decode (mb 4) 19 = .ok (.iinc 2 1, 3) := by decide +kernel
theorem s4_19 (d : Nat) (l0 : Value) (i1 : Int32) (i2 : Int32) (l3 : Value) (σ : Hs) : ru d 4 19 [l0, .int i1, .int i2, l3] [] σ = ru d 4 22 [l0, .int i1, .int (i2 + 1), l3] [] σ := q_iinc t4_19 ⟨Nat.le_of_ble_eq_true rfl, rfl⟩ rfl (by decide +kernel) rfl
theorem t4_22 : decode (mb 4) 22 = .ok (.iinc 3 6, 3) := by decide +kernel
theorem s4_22 (d : Nat) (l0 : Value) (l1 : Value) (i2 : Int32) (i3 : Int32) (σ : Hs) : ru d 4 22 [l0, l1, .int i2, .int i3] [] σ = ru d 4 25 [l0, l1, .int i2, .int (i3 + 6)] [] σ := q_iinc t4_22 ⟨Nat.le_of_ble_eq_true rfl, rfl⟩ rfl (by decide +kernel) rfl
theorem t4_25 : decode (mb 4) 25 = .ok (.goto (-21), 3) := by decide +kernel
theorem s4_25 (d : Nat) (l0 : Value) (l1 : Value) (l2 : Value) (l3 : Value) (σ : Hs) : ru d 4 25 [l0, l1, l2, l3] [] σ = ru d 4 4 [l0, l1, l2, l3] [] σ := q_goto t4_25 (by decide +kernel)
theorem t4_28 : decode (mb 4) 28 = .ok (.iload_n 2, 1) := by decide +kernel
theorem s4_28 (d : Nat) (l0 : Value) (l1 : Value) (i2 : Int32) (l3 : Value) (σ : Hs) : ru d 4 28 [l0, l1, .int i2, l3] [] σ = ru d 4 29 [l0, l1, .int i2, l3] [.int i2] σ := q_iload_n t4_28 rfl
theorem t4_29 : decode (mb 4) 29 = .ok (.ireturn, 1) := by decide +kernel
theorem s4_29 (d : Nat) (l0 : Value) (l1 : Value) (l2 : Value) (l3 : Value) (x : Int32) (σ : Hs) : ru d 4 29 [l0, l1, l2, l3] [.int x] σ = some (some (.int x), σ) := q_ireti t4_29 mr4
theorem c4 (d : Nat) (x0 : Nat) (x1 : Int32) (σ : Hs) : callD (d + 1) 4 [.ref x0, .int x1] σ = ru d 4 0 [.ref x0, .int x1, uu, uu] [] σ := callD_ru ml4 rfl rfl (Nat.le_of_ble_eq_true rfl)
-- 5: Heap.hourNow()I
theorem t5_0 : decode (mb 5) 0 = .ok (.aload_n 0, 1) := by decide +kernel
theorem s5_0 (d : Nat) (a0 : Nat) (σ : Hs) : ru d 5 0 [.ref a0] [] σ = ru d 5 1 [.ref a0] [.ref a0] σ := q_aload_n t5_0 rfl
theorem t5_1 : decode (mb 5) 1 = .ok (.getfield 31, 3) := by decide +kernel
theorem s5_1_o2 (d : Nat) (l0 : Value) (σ : Hs) : ru d 5 1 [l0] [.ref 2] σ = ru d 5 4 [l0] [.ref 9] σ := q_getf t5_1 mo5 F0_31 rfl rfl
theorem s5_1_o59 (d : Nat) (l0 : Value) (σ : Hs) : ru d 5 1 [l0] [.ref 59] σ = ru d 5 4 [l0] [.ref 66] σ := q_getf t5_1 mo5 F0_31 rfl rfl
theorem t5_4 : decode (mb 5) 4 = .ok (.iconst 0, 1) := by decide +kernel
theorem s5_4 (d : Nat) (l0 : Value) (w0 : Value) (σ : Hs) : ru d 5 4 [l0] [w0] σ = ru d 5 5 [l0] [.int 0, w0] σ := q_iconst t5_4 (by decide +kernel)
theorem t5_5 : decode (mb 5) 5 = .ok (.iaload, 1) := by decide +kernel
theorem s5_5_o9 (d : Nat) (l0 : Value) (i : Int32) (σ : Hs) : ru d 5 5 [l0] [.int i, .ref 9] σ = gd (vp_in i 5) (ru d 5 6 [l0] [.int (σ 9 i.toNatClampNeg)] σ) := q_iald t5_5 rfl (by decide +kernel) rfl
theorem s5_5_o66 (d : Nat) (l0 : Value) (i : Int32) (σ : Hs) : ru d 5 5 [l0] [.int i, .ref 66] σ = gd (vp_in i 5) (ru d 5 6 [l0] [.int (σ 66 i.toNatClampNeg)] σ) := q_iald t5_5 rfl (by decide +kernel) rfl
theorem t5_6 : decode (mb 5) 6 = .ok (.bipush 60, 2) := by decide +kernel
theorem s5_6 (d : Nat) (l0 : Value) (w0 : Value) (σ : Hs) : ru d 5 6 [l0] [w0] σ = ru d 5 8 [l0] [.int 60, w0] σ := q_bipush t5_6 (by decide +kernel)
theorem t5_8 : decode (mb 5) 8 = .ok (.idiv, 1) := by decide +kernel
theorem s5_8 (d : Nat) (l0 : Value) (x y : Int32) (σ : Hs) : ru d 5 8 [l0] [.int y, .int x] σ = gd (¬ y = 0) (ru d 5 9 [l0] [.int (x / y)] σ) := q_idiv t5_8
theorem t5_9 : decode (mb 5) 9 = .ok (.ireturn, 1) := by decide +kernel
theorem s5_9 (d : Nat) (l0 : Value) (x : Int32) (σ : Hs) : ru d 5 9 [l0] [.int x] σ = some (some (.int x), σ) := q_ireti t5_9 mr5
theorem c5 (d : Nat) (x0 : Nat) (σ : Hs) : callD (d + 1) 5 [.ref x0] σ = ru d 5 0 [.ref x0] [] σ := callD_ru ml5 rfl rfl (Nat.le_of_ble_eq_true rfl)
-- 6: Heap.howMany()I
theorem t6_0 : decode (mb 6) 0 = .ok (.iconst 0, 1) := by decide +kernel
theorem s6_0 (d : Nat) (l0 : Value) (l1 : Value) (l2 : Value) (σ : Hs) : ru d 6 0 [l0, l1, l2] [] σ = ru d 6 1 [l0, l1, l2] [.int 0] σ := q_iconst t6_0 (by decide +kernel)
theorem t6_1 : decode (mb 6) 1 = .ok (.istore_n 1, 1) := by decide +kernel
theorem s6_1 (d : Nat) (a0 : Nat) (l1 : Value) (l2 : Value) (x : Int32) (σ : Hs) : ru d 6 1 [.ref a0, l1, l2] [.int x] σ = ru d 6 2 [.ref a0, .int x, l2] [] σ := q_istore_n t6_1 ⟨Nat.le_of_ble_eq_true rfl, rfl⟩ rfl
theorem t6_2 : decode (mb 6) 2 = .ok (.iconst 0, 1) := by decide +kernel
theorem s6_2 (d : Nat) (l0 : Value) (l1 : Value) (l2 : Value) (σ : Hs) : ru d 6 2 [l0, l1, l2] [] σ = ru d 6 3 [l0, l1, l2] [.int 0] σ := q_iconst t6_2 (by decide +kernel)
theorem t6_3 : decode (mb 6) 3 = .ok (.istore_n 2, 1) := by decide +kernel
theorem s6_3 (d : Nat) (l0 : Value) (i1 : Int32) (l2 : Value) (x : Int32) (σ : Hs) : ru d 6 3 [l0, .int i1, l2] [.int x] σ = ru d 6 4 [l0, .int i1, .int x] [] σ := q_istore_n t6_3 ⟨Nat.le_of_ble_eq_true rfl, rfl⟩ rfl
theorem t6_4 : decode (mb 6) 4 = .ok (.iload_n 2, 1) := by decide +kernel
theorem s6_4 (d : Nat) (l0 : Value) (l1 : Value) (i2 : Int32) (σ : Hs) : ru d 6 4 [l0, l1, .int i2] [] σ = ru d 6 5 [l0, l1, .int i2] [.int i2] σ := q_iload_n t6_4 rfl
theorem t6_5 : decode (mb 6) 5 = .ok (.bipush 30, 2) := by decide +kernel
theorem s6_5 (d : Nat) (l0 : Value) (l1 : Value) (l2 : Value) (w0 : Value) (σ : Hs) : ru d 6 5 [l0, l1, l2] [w0] σ = ru d 6 7 [l0, l1, l2] [.int 30, w0] σ := q_bipush t6_5 (by decide +kernel)
theorem t6_7 : decode (mb 6) 7 = .ok (.if_icmp .ge 21, 3) := by decide +kernel
theorem s6_7 (d : Nat) (l0 : Value) (l1 : Value) (l2 : Value) (x y : Int32) (σ : Hs) : ru d 6 7 [l0, l1, l2] [.int y, .int x] σ = if y ≤ x then ru d 6 28 [l0, l1, l2] [] σ else ru d 6 10 [l0, l1, l2] [] σ := q_ic_ge t6_7 (by decide +kernel)
theorem t6_10 : decode (mb 6) 10 = .ok (.aload_n 0, 1) := by decide +kernel
theorem s6_10 (d : Nat) (a0 : Nat) (l1 : Value) (l2 : Value) (σ : Hs) : ru d 6 10 [.ref a0, l1, l2] [] σ = ru d 6 11 [.ref a0, l1, l2] [.ref a0] σ := q_aload_n t6_10 rfl
theorem t6_11 : decode (mb 6) 11 = .ok (.getfield 15, 3) := by decide +kernel
theorem s6_11_o2 (d : Nat) (l0 : Value) (l1 : Value) (l2 : Value) (σ : Hs) : ru d 6 11 [l0, l1, l2] [.ref 2] σ = ru d 6 14 [l0, l1, l2] [.ref 4] σ := q_getf t6_11 mo6 F0_15 rfl rfl
theorem t6_14 : decode (mb 6) 14 = .ok (.iload_n 2, 1) := by decide +kernel
theorem s6_14 (d : Nat) (l0 : Value) (l1 : Value) (i2 : Int32) (w0 : Value) (σ : Hs) : ru d 6 14 [l0, l1, .int i2] [w0] σ = ru d 6 15 [l0, l1, .int i2] [.int i2, w0] σ := q_iload_n t6_14 rfl
theorem t6_15 : decode (mb 6) 15 = .ok (.iaload, 1) := by decide +kernel
theorem s6_15_o4 (d : Nat) (l0 : Value) (l1 : Value) (l2 : Value) (i : Int32) (σ : Hs) : ru d 6 15 [l0, l1, l2] [.int i, .ref 4] σ = gd (vp_in i 30) (ru d 6 16 [l0, l1, l2] [.int (σ 4 i.toNatClampNeg)] σ) := q_iald t6_15 rfl (by decide +kernel) rfl
theorem t6_16 : decode (mb 6) 16 = .ok (.ifCond .le 6, 3) := by decide +kernel
theorem s6_16 (d : Nat) (l0 : Value) (l1 : Value) (l2 : Value) (x : Int32) (σ : Hs) : ru d 6 16 [l0, l1, l2] [.int x] σ = if x ≤ 0 then ru d 6 22 [l0, l1, l2] [] σ else ru d 6 19 [l0, l1, l2] [] σ := q_if_le t6_16 (by decide +kernel)
theorem t6_19 : decode (mb 6) 19 = .ok (.iinc 1 1, 3) := by decide +kernel
theorem s6_19 (d : Nat) (a0 : Nat) (i1 : Int32) (l2 : Value) (σ : Hs) : ru d 6 19 [.ref a0, .int i1, l2] [] σ = ru d 6 22 [.ref a0, .int (i1 + 1), l2] [] σ := q_iinc t6_19 ⟨Nat.le_of_ble_eq_true rfl, rfl⟩ rfl (by decide +kernel) rfl
theorem t6_22 : decode (mb 6) 22 = .ok (.iinc 2 1, 3) := by decide +kernel
theorem s6_22 (d : Nat) (l0 : Value) (i1 : Int32) (i2 : Int32) (σ : Hs) : ru d 6 22 [l0, .int i1, .int i2] [] σ = ru d 6 25 [l0, .int i1, .int (i2 + 1)] [] σ := q_iinc t6_22 ⟨Nat.le_of_ble_eq_true rfl, rfl⟩ rfl (by decide +kernel) rfl
theorem t6_25 : decode (mb 6) 25 = .ok (.goto (-21), 3) := by decide +kernel
theorem s6_25 (d : Nat) (l0 : Value) (l1 : Value) (l2 : Value) (σ : Hs) : ru d 6 25 [l0, l1, l2] [] σ = ru d 6 4 [l0, l1, l2] [] σ := q_goto t6_25 (by decide +kernel)
theorem t6_28 : decode (mb 6) 28 = .ok (.iload_n 1, 1) := by decide +kernel
theorem s6_28 (d : Nat) (l0 : Value) (i1 : Int32) (l2 : Value) (σ : Hs) : ru d 6 28 [l0, .int i1, l2] [] σ = ru d 6 29 [l0, .int i1, l2] [.int i1] σ := q_iload_n t6_28 rfl
theorem t6_29 : decode (mb 6) 29 = .ok (.ireturn, 1) := by decide +kernel
theorem s6_29 (d : Nat) (l0 : Value) (l1 : Value) (l2 : Value) (x : Int32) (σ : Hs) : ru d 6 29 [l0, l1, l2] [.int x] σ = some (some (.int x), σ) := q_ireti t6_29 mr6
theorem c6 (d : Nat) (x0 : Nat) (σ : Hs) : callD (d + 1) 6 [.ref x0] σ = ru d 6 0 [.ref x0, uu, uu] [] σ := callD_ru ml6 rfl rfl (Nat.le_of_ble_eq_true rfl)
-- 7: Heap.howManyLit()I
theorem t7_0 : decode (mb 7) 0 = .ok (.iconst 0, 1) := by decide +kernel
theorem s7_0 (d : Nat) (l0 : Value) (l1 : Value) (l2 : Value) (σ : Hs) : ru d 7 0 [l0, l1, l2] [] σ = ru d 7 1 [l0, l1, l2] [.int 0] σ := q_iconst t7_0 (by decide +kernel)
theorem t7_1 : decode (mb 7) 1 = .ok (.istore_n 1, 1) := by decide +kernel
theorem s7_1 (d : Nat) (a0 : Nat) (l1 : Value) (l2 : Value) (x : Int32) (σ : Hs) : ru d 7 1 [.ref a0, l1, l2] [.int x] σ = ru d 7 2 [.ref a0, .int x, l2] [] σ := q_istore_n t7_1 ⟨Nat.le_of_ble_eq_true rfl, rfl⟩ rfl
theorem t7_2 : decode (mb 7) 2 = .ok (.iconst 0, 1) := by decide +kernel
theorem s7_2 (d : Nat) (l0 : Value) (l1 : Value) (l2 : Value) (σ : Hs) : ru d 7 2 [l0, l1, l2] [] σ = ru d 7 3 [l0, l1, l2] [.int 0] σ := q_iconst t7_2 (by decide +kernel)
theorem t7_3 : decode (mb 7) 3 = .ok (.istore_n 2, 1) := by decide +kernel
theorem s7_3 (d : Nat) (l0 : Value) (i1 : Int32) (l2 : Value) (x : Int32) (σ : Hs) : ru d 7 3 [l0, .int i1, l2] [.int x] σ = ru d 7 4 [l0, .int i1, .int x] [] σ := q_istore_n t7_3 ⟨Nat.le_of_ble_eq_true rfl, rfl⟩ rfl
theorem t7_4 : decode (mb 7) 4 = .ok (.iload_n 2, 1) := by decide +kernel
theorem s7_4 (d : Nat) (l0 : Value) (l1 : Value) (i2 : Int32) (σ : Hs) : ru d 7 4 [l0, l1, .int i2] [] σ = ru d 7 5 [l0, l1, .int i2] [.int i2] σ := q_iload_n t7_4 rfl
theorem t7_5 : decode (mb 7) 5 = .ok (.bipush 30, 2) := by decide +kernel
theorem s7_5 (d : Nat) (l0 : Value) (l1 : Value) (l2 : Value) (w0 : Value) (σ : Hs) : ru d 7 5 [l0, l1, l2] [w0] σ = ru d 7 7 [l0, l1, l2] [.int 30, w0] σ := q_bipush t7_5 (by decide +kernel)
theorem t7_7 : decode (mb 7) 7 = .ok (.if_icmp .ge 30, 3) := by decide +kernel
theorem s7_7 (d : Nat) (l0 : Value) (l1 : Value) (l2 : Value) (x y : Int32) (σ : Hs) : ru d 7 7 [l0, l1, l2] [.int y, .int x] σ = if y ≤ x then ru d 7 37 [l0, l1, l2] [] σ else ru d 7 10 [l0, l1, l2] [] σ := q_ic_ge t7_7 (by decide +kernel)
theorem t7_10 : decode (mb 7) 10 = .ok (.aload_n 0, 1) := by decide +kernel
theorem s7_10 (d : Nat) (a0 : Nat) (l1 : Value) (l2 : Value) (σ : Hs) : ru d 7 10 [.ref a0, l1, l2] [] σ = ru d 7 11 [.ref a0, l1, l2] [.ref a0] σ := q_aload_n t7_10 rfl
theorem t7_11 : decode (mb 7) 11 = .ok (.getfield 15, 3) := by decide +kernel
theorem s7_11_o2 (d : Nat) (l0 : Value) (l1 : Value) (l2 : Value) (σ : Hs) : ru d 7 11 [l0, l1, l2] [.ref 2] σ = ru d 7 14 [l0, l1, l2] [.ref 4] σ := q_getf t7_11 mo7 F0_15 rfl rfl
theorem s7_11_o59 (d : Nat) (l0 : Value) (l1 : Value) (l2 : Value) (σ : Hs) : ru d 7 11 [l0, l1, l2] [.ref 59] σ = ru d 7 14 [l0, l1, l2] [.ref 61] σ := q_getf t7_11 mo7 F0_15 rfl rfl
theorem t7_14 : decode (mb 7) 14 = .ok (.iload_n 2, 1) := by decide +kernel
theorem s7_14 (d : Nat) (l0 : Value) (l1 : Value) (i2 : Int32) (w0 : Value) (σ : Hs) : ru d 7 14 [l0, l1, .int i2] [w0] σ = ru d 7 15 [l0, l1, .int i2] [.int i2, w0] σ := q_iload_n t7_14 rfl
theorem t7_15 : decode (mb 7) 15 = .ok (.iaload, 1) := by decide +kernel
theorem s7_15_o4 (d : Nat) (l0 : Value) (l1 : Value) (l2 : Value) (i : Int32) (σ : Hs) : ru d 7 15 [l0, l1, l2] [.int i, .ref 4] σ = gd (vp_in i 30) (ru d 7 16 [l0, l1, l2] [.int (σ 4 i.toNatClampNeg)] σ) := q_iald t7_15 rfl (by decide +kernel) rfl
theorem s7_15_o61 (d : Nat) (l0 : Value) (l1 : Value) (l2 : Value) (i : Int32) (σ : Hs) : ru d 7 15 [l0, l1, l2] [.int i, .ref 61] σ = gd (vp_in i 30) (ru d 7 16 [l0, l1, l2] [.int (σ 61 i.toNatClampNeg)] σ) := q_iald t7_15 rfl (by decide +kernel) rfl
theorem t7_16 : decode (mb 7) 16 = .ok (.ifCond .le 15, 3) := by decide +kernel
theorem s7_16 (d : Nat) (l0 : Value) (l1 : Value) (l2 : Value) (x : Int32) (σ : Hs) : ru d 7 16 [l0, l1, l2] [.int x] σ = if x ≤ 0 then ru d 7 31 [l0, l1, l2] [] σ else ru d 7 19 [l0, l1, l2] [] σ := q_if_le t7_16 (by decide +kernel)
theorem t7_19 : decode (mb 7) 19 = .ok (.aload_n 0, 1) := by decide +kernel
theorem s7_19 (d : Nat) (a0 : Nat) (l1 : Value) (l2 : Value) (σ : Hs) : ru d 7 19 [.ref a0, l1, l2] [] σ = ru d 7 20 [.ref a0, l1, l2] [.ref a0] σ := q_aload_n t7_19 rfl
theorem t7_20 : decode (mb 7) 20 = .ok (.getfield 27, 3) := by decide +kernel
theorem s7_20_o2 (d : Nat) (l0 : Value) (l1 : Value) (l2 : Value) (σ : Hs) : ru d 7 20 [l0, l1, l2] [.ref 2] σ = ru d 7 23 [l0, l1, l2] [.ref 8] σ := q_getf t7_20 mo7 F0_27 rfl rfl
theorem s7_20_o59 (d : Nat) (l0 : Value) (l1 : Value) (l2 : Value) (σ : Hs) : ru d 7 20 [l0, l1, l2] [.ref 59] σ = ru d 7 23 [l0, l1, l2] [.ref 65] σ := q_getf t7_20 mo7 F0_27 rfl rfl
theorem t7_23 : decode (mb 7) 23 = .ok (.iload_n 2, 1) := by decide +kernel
theorem s7_23 (d : Nat) (l0 : Value) (l1 : Value) (i2 : Int32) (w0 : Value) (σ : Hs) : ru d 7 23 [l0, l1, .int i2] [w0] σ = ru d 7 24 [l0, l1, .int i2] [.int i2, w0] σ := q_iload_n t7_23 rfl
theorem t7_24 : decode (mb 7) 24 = .ok (.baload, 1) := by decide +kernel
theorem s7_24_o8 (d : Nat) (l0 : Value) (l1 : Value) (l2 : Value) (i : Int32) (σ : Hs) : ru d 7 24 [l0, l1, l2] [.int i, .ref 8] σ = gd (vp_in i 30) (ru d 7 25 [l0, l1, l2] [.int (σ 8 i.toNatClampNeg)] σ) := q_bald t7_24 (by decide +kernel) rfl rfl
theorem s7_24_o65 (d : Nat) (l0 : Value) (l1 : Value) (l2 : Value) (i : Int32) (σ : Hs) : ru d 7 24 [l0, l1, l2] [.int i, .ref 65] σ = gd (vp_in i 30) (ru d 7 25 [l0, l1, l2] [.int (σ 65 i.toNatClampNeg)] σ) := q_bald t7_24 (by decide +kernel) rfl rfl
theorem t7_25 : decode (mb 7) 25 = .ok (.ifCond .eq 6, 3) := by decide +kernel
theorem s7_25 (d : Nat) (l0 : Value) (l1 : Value) (l2 : Value) (x : Int32) (σ : Hs) : ru d 7 25 [l0, l1, l2] [.int x] σ = if x = 0 then ru d 7 31 [l0, l1, l2] [] σ else ru d 7 28 [l0, l1, l2] [] σ := q_if_eq t7_25 (by decide +kernel)
theorem t7_28 : decode (mb 7) 28 = .ok (.iinc 1 1, 3) := by decide +kernel
theorem s7_28 (d : Nat) (a0 : Nat) (i1 : Int32) (l2 : Value) (σ : Hs) : ru d 7 28 [.ref a0, .int i1, l2] [] σ = ru d 7 31 [.ref a0, .int (i1 + 1), l2] [] σ := q_iinc t7_28 ⟨Nat.le_of_ble_eq_true rfl, rfl⟩ rfl (by decide +kernel) rfl
theorem t7_31 : decode (mb 7) 31 = .ok (.iinc 2 1, 3) := by decide +kernel
theorem s7_31 (d : Nat) (l0 : Value) (i1 : Int32) (i2 : Int32) (σ : Hs) : ru d 7 31 [l0, .int i1, .int i2] [] σ = ru d 7 34 [l0, .int i1, .int (i2 + 1)] [] σ := q_iinc t7_31 ⟨Nat.le_of_ble_eq_true rfl, rfl⟩ rfl (by decide +kernel) rfl
theorem t7_34 : decode (mb 7) 34 = .ok (.goto (-30), 3) := by decide +kernel
theorem s7_34 (d : Nat) (l0 : Value) (l1 : Value) (l2 : Value) (σ : Hs) : ru d 7 34 [l0, l1, l2] [] σ = ru d 7 4 [l0, l1, l2] [] σ := q_goto t7_34 (by decide +kernel)
theorem t7_37 : decode (mb 7) 37 = .ok (.iload_n 1, 1) := by decide +kernel
theorem s7_37 (d : Nat) (l0 : Value) (i1 : Int32) (l2 : Value) (σ : Hs) : ru d 7 37 [l0, .int i1, l2] [] σ = ru d 7 38 [l0, .int i1, l2] [.int i1] σ := q_iload_n t7_37 rfl
theorem t7_38 : decode (mb 7) 38 = .ok (.ireturn, 1) := by decide +kernel
theorem s7_38 (d : Nat) (l0 : Value) (l1 : Value) (l2 : Value) (x : Int32) (σ : Hs) : ru d 7 38 [l0, l1, l2] [.int x] σ = some (some (.int x), σ) := q_ireti t7_38 mr7
theorem c7 (d : Nat) (x0 : Nat) (σ : Hs) : callD (d + 1) 7 [.ref x0] σ = ru d 7 0 [.ref x0, uu, uu] [] σ := callD_ru ml7 rfl rfl (Nat.le_of_ble_eq_true rfl)
-- 8: Heap.canBeLit(I)Z
theorem t8_0 : decode (mb 8) 0 = .ok (.aload_n 0, 1) := by decide +kernel
theorem s8_0 (d : Nat) (a0 : Nat) (l1 : Value) (σ : Hs) : ru d 8 0 [.ref a0, l1] [] σ = ru d 8 1 [.ref a0, l1] [.ref a0] σ := q_aload_n t8_0 rfl
theorem t8_1 : decode (mb 8) 1 = .ok (.getfield 27, 3) := by decide +kernel
theorem s8_1_o2 (d : Nat) (l0 : Value) (l1 : Value) (σ : Hs) : ru d 8 1 [l0, l1] [.ref 2] σ = ru d 8 4 [l0, l1] [.ref 8] σ := q_getf t8_1 mo8 F0_27 rfl rfl
theorem t8_4 : decode (mb 8) 4 = .ok (.iload_n 1, 1) := by decide +kernel
theorem s8_4 (d : Nat) (l0 : Value) (i1 : Int32) (w0 : Value) (σ : Hs) : ru d 8 4 [l0, .int i1] [w0] σ = ru d 8 5 [l0, .int i1] [.int i1, w0] σ := q_iload_n t8_4 rfl
theorem t8_5 : decode (mb 8) 5 = .ok (.baload, 1) := by decide +kernel
theorem s8_5_o8 (d : Nat) (l0 : Value) (l1 : Value) (i : Int32) (σ : Hs) : ru d 8 5 [l0, l1] [.int i, .ref 8] σ = gd (vp_in i 30) (ru d 8 6 [l0, l1] [.int (σ 8 i.toNatClampNeg)] σ) := q_bald t8_5 (by decide +kernel) rfl rfl
theorem t8_6 : decode (mb 8) 6 = .ok (.ifCond .ne 33, 3) := by decide +kernel
theorem s8_6 (d : Nat) (l0 : Value) (l1 : Value) (x : Int32) (σ : Hs) : ru d 8 6 [l0, l1] [.int x] σ = if x = 0 then ru d 8 9 [l0, l1] [] σ else ru d 8 39 [l0, l1] [] σ := q_if_ne t8_6 (by decide +kernel)
theorem t8_9 : decode (mb 8) 9 = .ok (.aload_n 0, 1) := by decide +kernel
theorem s8_9 (d : Nat) (a0 : Nat) (l1 : Value) (σ : Hs) : ru d 8 9 [.ref a0, l1] [] σ = ru d 8 10 [.ref a0, l1] [.ref a0] σ := q_aload_n t8_9 rfl
theorem t8_10 : decode (mb 8) 10 = .ok (.getfield 18, 3) := by decide +kernel
theorem s8_10_o2 (d : Nat) (l0 : Value) (l1 : Value) (σ : Hs) : ru d 8 10 [l0, l1] [.ref 2] σ = ru d 8 13 [l0, l1] [.ref 5] σ := q_getf t8_10 mo8 F0_18 rfl rfl
theorem t8_13 : decode (mb 8) 13 = .ok (.iload_n 1, 1) := by decide +kernel
theorem s8_13 (d : Nat) (l0 : Value) (i1 : Int32) (w0 : Value) (σ : Hs) : ru d 8 13 [l0, .int i1] [w0] σ = ru d 8 14 [l0, .int i1] [.int i1, w0] σ := q_iload_n t8_13 rfl
theorem t8_14 : decode (mb 8) 14 = .ok (.iaload, 1) := by decide +kernel
theorem s8_14_o5 (d : Nat) (l0 : Value) (l1 : Value) (i : Int32) (σ : Hs) : ru d 8 14 [l0, l1] [.int i, .ref 5] σ = gd (vp_in i 30) (ru d 8 15 [l0, l1] [.int (σ 5 i.toNatClampNeg)] σ) := q_iald t8_14 rfl (by decide +kernel) rfl
theorem t8_15 : decode (mb 8) 15 = .ok (.aload_n 0, 1) := by decide +kernel
theorem s8_15 (d : Nat) (a0 : Nat) (l1 : Value) (w0 : Value) (σ : Hs) : ru d 8 15 [.ref a0, l1] [w0] σ = ru d 8 16 [.ref a0, l1] [.ref a0, w0] σ := q_aload_n t8_15 rfl
theorem t8_16 : decode (mb 8) 16 = .ok (.getfield 31, 3) := by decide +kernel
theorem s8_16_o2 (d : Nat) (l0 : Value) (l1 : Value) (w0 : Value) (σ : Hs) : ru d 8 16 [l0, l1] [.ref 2, w0] σ = ru d 8 19 [l0, l1] [.ref 9, w0] σ := q_getf t8_16 mo8 F0_31 rfl rfl
theorem t8_19 : decode (mb 8) 19 = .ok (.iconst 3, 1) := by decide +kernel
theorem s8_19 (d : Nat) (l0 : Value) (l1 : Value) (w0 w1 : Value) (σ : Hs) : ru d 8 19 [l0, l1] [w0, w1] σ = ru d 8 20 [l0, l1] [.int 3, w0, w1] σ := q_iconst t8_19 (by decide +kernel)
theorem t8_20 : decode (mb 8) 20 = .ok (.iaload, 1) := by decide +kernel
theorem s8_20_o9 (d : Nat) (l0 : Value) (l1 : Value) (i : Int32) (w0 : Value) (σ : Hs) : ru d 8 20 [l0, l1] [.int i, .ref 9, w0] σ = gd (vp_in i 5) (ru d 8 21 [l0, l1] [.int (σ 9 i.toNatClampNeg), w0] σ) := q_iald t8_20 rfl (by decide +kernel) rfl
theorem t8_21 : decode (mb 8) 21 = .ok (.if_icmp .gt 18, 3) := by decide +kernel
theorem s8_21 (d : Nat) (l0 : Value) (l1 : Value) (x y : Int32) (σ : Hs) : ru d 8 21 [l0, l1] [.int y, .int x] σ = if y < x then ru d 8 39 [l0, l1] [] σ else ru d 8 24 [l0, l1] [] σ := q_ic_gt t8_21 (by decide +kernel)
theorem t8_24 : decode (mb 8) 24 = .ok (.aload_n 0, 1) := by decide +kernel
theorem s8_24 (d : Nat) (a0 : Nat) (l1 : Value) (σ : Hs) : ru d 8 24 [.ref a0, l1] [] σ = ru d 8 25 [.ref a0, l1] [.ref a0] σ := q_aload_n t8_24 rfl
theorem t8_25 : decode (mb 8) 25 = .ok (.getfield 9, 3) := by decide +kernel
theorem s8_25_o2 (d : Nat) (l0 : Value) (l1 : Value) (σ : Hs) : ru d 8 25 [l0, l1] [.ref 2] σ = ru d 8 28 [l0, l1] [.ref 3] σ := q_getf t8_25 mo8 F0_9 rfl rfl
theorem t8_28 : decode (mb 8) 28 = .ok (.iload_n 1, 1) := by decide +kernel
theorem s8_28 (d : Nat) (l0 : Value) (i1 : Int32) (w0 : Value) (σ : Hs) : ru d 8 28 [l0, .int i1] [w0] σ = ru d 8 29 [l0, .int i1] [.int i1, w0] σ := q_iload_n t8_28 rfl
theorem t8_29 : decode (mb 8) 29 = .ok (.iaload, 1) := by decide +kernel
theorem s8_29_o3 (d : Nat) (l0 : Value) (l1 : Value) (i : Int32) (σ : Hs) : ru d 8 29 [l0, l1] [.int i, .ref 3] σ = gd (vp_in i 30) (ru d 8 30 [l0, l1] [.int (σ 3 i.toNatClampNeg)] σ) := q_iald t8_29 rfl (by decide +kernel) rfl
theorem t8_30 : decode (mb 8) 30 = .ok (.bipush 6, 2) := by decide +kernel
theorem s8_30 (d : Nat) (l0 : Value) (l1 : Value) (w0 : Value) (σ : Hs) : ru d 8 30 [l0, l1] [w0] σ = ru d 8 32 [l0, l1] [.int 6, w0] σ := q_bipush t8_30 (by decide +kernel)
theorem t8_32 : decode (mb 8) 32 = .ok (.if_icmp .eq 7, 3) := by decide +kernel
theorem s8_32 (d : Nat) (l0 : Value) (l1 : Value) (x y : Int32) (σ : Hs) : ru d 8 32 [l0, l1] [.int y, .int x] σ = if x = y then ru d 8 39 [l0, l1] [] σ else ru d 8 35 [l0, l1] [] σ := q_ic_eq t8_32 (by decide +kernel)
theorem t8_35 : decode (mb 8) 35 = .ok (.iconst 1, 1) := by decide +kernel
theorem s8_35 (d : Nat) (l0 : Value) (l1 : Value) (σ : Hs) : ru d 8 35 [l0, l1] [] σ = ru d 8 36 [l0, l1] [.int 1] σ := q_iconst t8_35 (by decide +kernel)
theorem t8_36 : decode (mb 8) 36 = .ok (.goto 4, 3) := by decide +kernel
theorem s8_36 (d : Nat) (l0 : Value) (l1 : Value) (w0 : Value) (σ : Hs) : ru d 8 36 [l0, l1] [w0] σ = ru d 8 40 [l0, l1] [w0] σ := q_goto t8_36 (by decide +kernel)
theorem t8_39 : decode (mb 8) 39 = .ok (.iconst 0, 1) := by decide +kernel
theorem s8_39 (d : Nat) (l0 : Value) (l1 : Value) (σ : Hs) : ru d 8 39 [l0, l1] [] σ = ru d 8 40 [l0, l1] [.int 0] σ := q_iconst t8_39 (by decide +kernel)
theorem t8_40 : decode (mb 8) 40 = .ok (.ireturn, 1) := by decide +kernel
theorem s8_40 (d : Nat) (l0 : Value) (l1 : Value) (x : Int32) (hx : isB x) (σ : Hs) : ru d 8 40 [l0, l1] [.int x] σ = some (some (.int x), σ) := q_iretz t8_40 mr8 hx
theorem c8 (d : Nat) (x0 : Nat) (x1 : Int32) (σ : Hs) : callD (d + 1) 8 [.ref x0, .int x1] σ = ru d 8 0 [.ref x0, .int x1] [] σ := callD_ru ml8 rfl rfl (Nat.le_of_ble_eq_true rfl)
-- 9: Heap.lightByHand(I)V
theorem t9_0 : decode (mb 9) 0 = .ok (.aload_n 0, 1) := by decide +kernel
theorem s9_0 (d : Nat) (a0 : Nat) (l1 : Value) (σ : Hs) : ru d 9 0 [.ref a0, l1] [] σ = ru d 9 1 [.ref a0, l1] [.ref a0] σ := q_aload_n t9_0 rfl
theorem t9_1 : decode (mb 9) 1 = .ok (.getfield 27, 3) := by decide +kernel
theorem s9_1_o2 (d : Nat) (l0 : Value) (l1 : Value) (σ : Hs) : ru d 9 1 [l0, l1] [.ref 2] σ = ru d 9 4 [l0, l1] [.ref 8] σ := q_getf t9_1 mo9 F0_27 rfl rfl
theorem s9_1_o59 (d : Nat) (l0 : Value) (l1 : Value) (σ : Hs) : ru d 9 1 [l0, l1] [.ref 59] σ = ru d 9 4 [l0, l1] [.ref 65] σ := q_getf t9_1 mo9 F0_27 rfl rfl
theorem t9_4 : decode (mb 9) 4 = .ok (.iload_n 1, 1) := by decide +kernel
theorem s9_4 (d : Nat) (l0 : Value) (i1 : Int32) (w0 : Value) (σ : Hs) : ru d 9 4 [l0, .int i1] [w0] σ = ru d 9 5 [l0, .int i1] [.int i1, w0] σ := q_iload_n t9_4 rfl
theorem t9_5 : decode (mb 9) 5 = .ok (.iconst 1, 1) := by decide +kernel
theorem s9_5 (d : Nat) (l0 : Value) (l1 : Value) (w0 w1 : Value) (σ : Hs) : ru d 9 5 [l0, l1] [w0, w1] σ = ru d 9 6 [l0, l1] [.int 1, w0, w1] σ := q_iconst t9_5 (by decide +kernel)
theorem t9_6 : decode (mb 9) 6 = .ok (.bastore, 1) := by decide +kernel
theorem s9_6_o8 (d : Nat) (l0 : Value) (l1 : Value) (i x : Int32) (σ : Hs) : ru d 9 6 [l0, l1] [.int x, .int i, .ref 8] σ = gd (vp_in i 30) (ru d 9 7 [l0, l1] [] (up2 σ 8 i.toNatClampNeg (vp_nar .boolean x))) := q_bast t9_6 (by decide +kernel) rfl rfl
theorem s9_6_o65 (d : Nat) (l0 : Value) (l1 : Value) (i x : Int32) (σ : Hs) : ru d 9 6 [l0, l1] [.int x, .int i, .ref 65] σ = gd (vp_in i 30) (ru d 9 7 [l0, l1] [] (up2 σ 65 i.toNatClampNeg (vp_nar .boolean x))) := q_bast t9_6 (by decide +kernel) rfl rfl
theorem t9_7 : decode (mb 9) 7 = .ok (.aload_n 0, 1) := by decide +kernel
theorem s9_7 (d : Nat) (a0 : Nat) (l1 : Value) (σ : Hs) : ru d 9 7 [.ref a0, l1] [] σ = ru d 9 8 [.ref a0, l1] [.ref a0] σ := q_aload_n t9_7 rfl
theorem t9_8 : decode (mb 9) 8 = .ok (.getfield 24, 3) := by decide +kernel
theorem s9_8_o2 (d : Nat) (l0 : Value) (l1 : Value) (σ : Hs) : ru d 9 8 [l0, l1] [.ref 2] σ = ru d 9 11 [l0, l1] [.ref 7] σ := q_getf t9_8 mo9 F0_24 rfl rfl
theorem s9_8_o59 (d : Nat) (l0 : Value) (l1 : Value) (σ : Hs) : ru d 9 8 [l0, l1] [.ref 59] σ = ru d 9 11 [l0, l1] [.ref 64] σ := q_getf t9_8 mo9 F0_24 rfl rfl
theorem t9_11 : decode (mb 9) 11 = .ok (.iload_n 1, 1) := by decide +kernel
theorem s9_11 (d : Nat) (l0 : Value) (i1 : Int32) (w0 : Value) (σ : Hs) : ru d 9 11 [l0, .int i1] [w0] σ = ru d 9 12 [l0, .int i1] [.int i1, w0] σ := q_iload_n t9_11 rfl
theorem t9_12 : decode (mb 9) 12 = .ok (.aload_n 0, 1) := by decide +kernel
theorem s9_12 (d : Nat) (a0 : Nat) (l1 : Value) (w0 w1 : Value) (σ : Hs) : ru d 9 12 [.ref a0, l1] [w0, w1] σ = ru d 9 13 [.ref a0, l1] [.ref a0, w0, w1] σ := q_aload_n t9_12 rfl
theorem t9_13 : decode (mb 9) 13 = .ok (.getfield 24, 3) := by decide +kernel
theorem s9_13_o2 (d : Nat) (l0 : Value) (l1 : Value) (w0 w1 : Value) (σ : Hs) : ru d 9 13 [l0, l1] [.ref 2, w0, w1] σ = ru d 9 16 [l0, l1] [.ref 7, w0, w1] σ := q_getf t9_13 mo9 F0_24 rfl rfl
theorem s9_13_o59 (d : Nat) (l0 : Value) (l1 : Value) (w0 w1 : Value) (σ : Hs) : ru d 9 13 [l0, l1] [.ref 59, w0, w1] σ = ru d 9 16 [l0, l1] [.ref 64, w0, w1] σ := q_getf t9_13 mo9 F0_24 rfl rfl
theorem t9_16 : decode (mb 9) 16 = .ok (.iload_n 1, 1) := by decide +kernel
theorem s9_16 (d : Nat) (l0 : Value) (i1 : Int32) (w0 w1 w2 : Value) (σ : Hs) : ru d 9 16 [l0, .int i1] [w0, w1, w2] σ = ru d 9 17 [l0, .int i1] [.int i1, w0, w1, w2] σ := q_iload_n t9_16 rfl
theorem t9_17 : decode (mb 9) 17 = .ok (.iaload, 1) := by decide +kernel
theorem s9_17_o7 (d : Nat) (l0 : Value) (l1 : Value) (i : Int32) (w0 w1 : Value) (σ : Hs) : ru d 9 17 [l0, l1] [.int i, .ref 7, w0, w1] σ = gd (vp_in i 30) (ru d 9 18 [l0, l1] [.int (σ 7 i.toNatClampNeg), w0, w1] σ) := q_iald t9_17 rfl (by decide +kernel) rfl
theorem s9_17_o64 (d : Nat) (l0 : Value) (l1 : Value) (i : Int32) (w0 w1 : Value) (σ : Hs) : ru d 9 17 [l0, l1] [.int i, .ref 64, w0, w1] σ = gd (vp_in i 30) (ru d 9 18 [l0, l1] [.int (σ 64 i.toNatClampNeg), w0, w1] σ) := q_iald t9_17 rfl (by decide +kernel) rfl
theorem t9_18 : decode (mb 9) 18 = .ok (.bipush 100, 2) := by decide +kernel
theorem s9_18 (d : Nat) (l0 : Value) (l1 : Value) (w0 w1 w2 : Value) (σ : Hs) : ru d 9 18 [l0, l1] [w0, w1, w2] σ = ru d 9 20 [l0, l1] [.int 100, w0, w1, w2] σ := q_bipush t9_18 (by decide +kernel)
theorem t9_20 : decode (mb 9) 20 = .ok (.invokestatic 77, 3) := by decide +kernel
theorem s9_20 (d : Nat) (l0 : Value) (l1 : Value) (x y : Int32) (w0 : Int32) (w1 : Nat) (σ : Hs) : ru d 9 20 [l0, l1] [.int y, .int x, .int w0, .ref w1] σ = ru d 9 23 [l0, l1] [.int (jmax x y), .int w0, .ref w1] σ := q_mx t9_20 mo9 (by decide +kernel) (by decide +kernel) (Nat.le_of_ble_eq_true rfl)
theorem t9_23 : decode (mb 9) 23 = .ok (.iastore, 1) := by decide +kernel
theorem s9_23_o7 (d : Nat) (l0 : Value) (l1 : Value) (i x : Int32) (σ : Hs) : ru d 9 23 [l0, l1] [.int x, .int i, .ref 7] σ = gd (vp_in i 30) (ru d 9 24 [l0, l1] [] (up2 σ 7 i.toNatClampNeg x)) := q_iast t9_23 (by decide +kernel) rfl rfl
theorem s9_23_o64 (d : Nat) (l0 : Value) (l1 : Value) (i x : Int32) (σ : Hs) : ru d 9 23 [l0, l1] [.int x, .int i, .ref 64] σ = gd (vp_in i 30) (ru d 9 24 [l0, l1] [] (up2 σ 64 i.toNatClampNeg x)) := q_iast t9_23 (by decide +kernel) rfl rfl
theorem t9_24 : decode (mb 9) 24 = .ok (.return_, 1) := by decide +kernel
theorem s9_24 (d : Nat) (l0 : Value) (l1 : Value) (σ : Hs) : ru d 9 24 [l0, l1] [] σ = some (none, σ) := q_vret t9_24 mr9
theorem c9 (d : Nat) (x0 : Nat) (x1 : Int32) (σ : Hs) : callD (d + 1) 9 [.ref x0, .int x1] σ = ru d 9 0 [.ref x0, .int x1] [] σ := callD_ru ml9 rfl rfl (Nat.le_of_ble_eq_true rfl)
-- 10: Heap.pourOn(II)V
theorem t10_0 : decode (mb 10) 0 = .ok (.aload_n 0, 1) := by decide +kernel
theorem s10_0 (d : Nat) (a0 : Nat) (l1 : Value) (l2 : Value) (σ : Hs) : ru d 10 0 [.ref a0, l1, l2] [] σ = ru d 10 1 [.ref a0, l1, l2] [.ref a0] σ := q_aload_n t10_0 rfl
theorem t10_1 : decode (mb 10) 1 = .ok (.getfield 18, 3) := by decide +kernel
theorem s10_1_o2 (d : Nat) (l0 : Value) (l1 : Value) (l2 : Value) (σ : Hs) : ru d 10 1 [l0, l1, l2] [.ref 2] σ = ru d 10 4 [l0, l1, l2] [.ref 5] σ := q_getf t10_1 mo10 F0_18 rfl rfl
theorem s10_1_o59 (d : Nat) (l0 : Value) (l1 : Value) (l2 : Value) (σ : Hs) : ru d 10 1 [l0, l1, l2] [.ref 59] σ = ru d 10 4 [l0, l1, l2] [.ref 62] σ := q_getf t10_1 mo10 F0_18 rfl rfl
theorem t10_4 : decode (mb 10) 4 = .ok (.iload_n 1, 1) := by decide +kernel
theorem s10_4 (d : Nat) (l0 : Value) (i1 : Int32) (l2 : Value) (w0 : Value) (σ : Hs) : ru d 10 4 [l0, .int i1, l2] [w0] σ = ru d 10 5 [l0, .int i1, l2] [.int i1, w0] σ := q_iload_n t10_4 rfl
theorem t10_5 : decode (mb 10) 5 = .ok (.aload_n 0, 1) := by decide +kernel
theorem s10_5 (d : Nat) (a0 : Nat) (l1 : Value) (l2 : Value) (w0 w1 : Value) (σ : Hs) : ru d 10 5 [.ref a0, l1, l2] [w0, w1] σ = ru d 10 6 [.ref a0, l1, l2] [.ref a0, w0, w1] σ := q_aload_n t10_5 rfl
theorem t10_6 : decode (mb 10) 6 = .ok (.getfield 18, 3) := by decide +kernel
theorem s10_6_o2 (d : Nat) (l0 : Value) (l1 : Value) (l2 : Value) (w0 w1 : Value) (σ : Hs) : ru d 10 6 [l0, l1, l2] [.ref 2, w0, w1] σ = ru d 10 9 [l0, l1, l2] [.ref 5, w0, w1] σ := q_getf t10_6 mo10 F0_18 rfl rfl
theorem s10_6_o59 (d : Nat) (l0 : Value) (l1 : Value) (l2 : Value) (w0 w1 : Value) (σ : Hs) : ru d 10 6 [l0, l1, l2] [.ref 59, w0, w1] σ = ru d 10 9 [l0, l1, l2] [.ref 62, w0, w1] σ := q_getf t10_6 mo10 F0_18 rfl rfl
theorem t10_9 : decode (mb 10) 9 = .ok (.iload_n 1, 1) := by decide +kernel
theorem s10_9 (d : Nat) (l0 : Value) (i1 : Int32) (l2 : Value) (w0 w1 w2 : Value) (σ : Hs) : ru d 10 9 [l0, .int i1, l2] [w0, w1, w2] σ = ru d 10 10 [l0, .int i1, l2] [.int i1, w0, w1, w2] σ := q_iload_n t10_9 rfl
theorem t10_10 : decode (mb 10) 10 = .ok (.iaload, 1) := by decide +kernel
theorem s10_10_o5 (d : Nat) (l0 : Value) (l1 : Value) (l2 : Value) (i : Int32) (w0 w1 : Value) (σ : Hs) : ru d 10 10 [l0, l1, l2] [.int i, .ref 5, w0, w1] σ = gd (vp_in i 30) (ru d 10 11 [l0, l1, l2] [.int (σ 5 i.toNatClampNeg), w0, w1] σ) := q_iald t10_10 rfl (by decide +kernel) rfl
theorem s10_10_o62 (d : Nat) (l0 : Value) (l1 : Value) (l2 : Value) (i : Int32) (w0 w1 : Value) (σ : Hs) : ru d 10 10 [l0, l1, l2] [.int i, .ref 62, w0, w1] σ = gd (vp_in i 30) (ru d 10 11 [l0, l1, l2] [.int (σ 62 i.toNatClampNeg), w0, w1] σ) := q_iald t10_10 rfl (by decide +kernel) rfl
theorem t10_11 : decode (mb 10) 11 = .ok (.iload_n 2, 1) := by decide +kernel
theorem s10_11 (d : Nat) (l0 : Value) (l1 : Value) (i2 : Int32) (w0 w1 w2 : Value) (σ : Hs) : ru d 10 11 [l0, l1, .int i2] [w0, w1, w2] σ = ru d 10 12 [l0, l1, .int i2] [.int i2, w0, w1, w2] σ := q_iload_n t10_11 rfl
theorem t10_12 : decode (mb 10) 12 = .ok (.iadd, 1) := by decide +kernel
theorem s10_12 (d : Nat) (l0 : Value) (l1 : Value) (l2 : Value) (x y : Int32) (w0 w1 : Value) (σ : Hs) : ru d 10 12 [l0, l1, l2] [.int y, .int x, w0, w1] σ = ru d 10 13 [l0, l1, l2] [.int (x + y), w0, w1] σ := q_iadd t10_12
theorem t10_13 : decode (mb 10) 13 = .ok (.sipush 999, 3) := by decide +kernel
theorem s10_13 (d : Nat) (l0 : Value) (l1 : Value) (l2 : Value) (w0 w1 w2 : Value) (σ : Hs) : ru d 10 13 [l0, l1, l2] [w0, w1, w2] σ = ru d 10 16 [l0, l1, l2] [.int 999, w0, w1, w2] σ := q_sipush t10_13 (by decide +kernel)
theorem t10_16 : decode (mb 10) 16 = .ok (.invokestatic 83, 3) := by decide +kernel
theorem s10_16 (d : Nat) (l0 : Value) (l1 : Value) (l2 : Value) (x y : Int32) (w0 : Int32) (w1 : Nat) (σ : Hs) : ru d 10 16 [l0, l1, l2] [.int y, .int x, .int w0, .ref w1] σ = ru d 10 19 [l0, l1, l2] [.int (jmin x y), .int w0, .ref w1] σ := q_mi t10_16 mo10 (by decide +kernel) (by decide +kernel) (by decide +kernel) (Nat.le_of_ble_eq_true rfl)
theorem t10_19 : decode (mb 10) 19 = .ok (.iastore, 1) := by decide +kernel
theorem s10_19_o5 (d : Nat) (l0 : Value) (l1 : Value) (l2 : Value) (i x : Int32) (σ : Hs) : ru d 10 19 [l0, l1, l2] [.int x, .int i, .ref 5] σ = gd (vp_in i 30) (ru d 10 20 [l0, l1, l2] [] (up2 σ 5 i.toNatClampNeg x)) := q_iast t10_19 (by decide +kernel) rfl rfl
theorem s10_19_o62 (d : Nat) (l0 : Value) (l1 : Value) (l2 : Value) (i x : Int32) (σ : Hs) : ru d 10 19 [l0, l1, l2] [.int x, .int i, .ref 62] σ = gd (vp_in i 30) (ru d 10 20 [l0, l1, l2] [] (up2 σ 62 i.toNatClampNeg x)) := q_iast t10_19 (by decide +kernel) rfl rfl
theorem t10_20 : decode (mb 10) 20 = .ok (.aload_n 0, 1) := by decide +kernel
theorem s10_20 (d : Nat) (a0 : Nat) (l1 : Value) (l2 : Value) (σ : Hs) : ru d 10 20 [.ref a0, l1, l2] [] σ = ru d 10 21 [.ref a0, l1, l2] [.ref a0] σ := q_aload_n t10_20 rfl
theorem t10_21 : decode (mb 10) 21 = .ok (.getfield 24, 3) := by decide +kernel
theorem s10_21_o2 (d : Nat) (l0 : Value) (l1 : Value) (l2 : Value) (σ : Hs) : ru d 10 21 [l0, l1, l2] [.ref 2] σ = ru d 10 24 [l0, l1, l2] [.ref 7] σ := q_getf t10_21 mo10 F0_24 rfl rfl
theorem s10_21_o59 (d : Nat) (l0 : Value) (l1 : Value) (l2 : Value) (σ : Hs) : ru d 10 21 [l0, l1, l2] [.ref 59] σ = ru d 10 24 [l0, l1, l2] [.ref 64] σ := q_getf t10_21 mo10 F0_24 rfl rfl
theorem t10_24 : decode (mb 10) 24 = .ok (.iload_n 1, 1) := by decide +kernel
theorem s10_24 (d : Nat) (l0 : Value) (i1 : Int32) (l2 : Value) (w0 : Value) (σ : Hs) : ru d 10 24 [l0, .int i1, l2] [w0] σ = ru d 10 25 [l0, .int i1, l2] [.int i1, w0] σ := q_iload_n t10_24 rfl
theorem t10_25 : decode (mb 10) 25 = .ok (.aload_n 0, 1) := by decide +kernel
theorem s10_25 (d : Nat) (a0 : Nat) (l1 : Value) (l2 : Value) (w0 w1 : Value) (σ : Hs) : ru d 10 25 [.ref a0, l1, l2] [w0, w1] σ = ru d 10 26 [.ref a0, l1, l2] [.ref a0, w0, w1] σ := q_aload_n t10_25 rfl
theorem t10_26 : decode (mb 10) 26 = .ok (.getfield 24, 3) := by decide +kernel
theorem s10_26_o2 (d : Nat) (l0 : Value) (l1 : Value) (l2 : Value) (w0 w1 : Value) (σ : Hs) : ru d 10 26 [l0, l1, l2] [.ref 2, w0, w1] σ = ru d 10 29 [l0, l1, l2] [.ref 7, w0, w1] σ := q_getf t10_26 mo10 F0_24 rfl rfl
theorem s10_26_o59 (d : Nat) (l0 : Value) (l1 : Value) (l2 : Value) (w0 w1 : Value) (σ : Hs) : ru d 10 26 [l0, l1, l2] [.ref 59, w0, w1] σ = ru d 10 29 [l0, l1, l2] [.ref 64, w0, w1] σ := q_getf t10_26 mo10 F0_24 rfl rfl
theorem t10_29 : decode (mb 10) 29 = .ok (.iload_n 1, 1) := by decide +kernel
theorem s10_29 (d : Nat) (l0 : Value) (i1 : Int32) (l2 : Value) (w0 w1 w2 : Value) (σ : Hs) : ru d 10 29 [l0, .int i1, l2] [w0, w1, w2] σ = ru d 10 30 [l0, .int i1, l2] [.int i1, w0, w1, w2] σ := q_iload_n t10_29 rfl
theorem t10_30 : decode (mb 10) 30 = .ok (.iaload, 1) := by decide +kernel
theorem s10_30_o7 (d : Nat) (l0 : Value) (l1 : Value) (l2 : Value) (i : Int32) (w0 w1 : Value) (σ : Hs) : ru d 10 30 [l0, l1, l2] [.int i, .ref 7, w0, w1] σ = gd (vp_in i 30) (ru d 10 31 [l0, l1, l2] [.int (σ 7 i.toNatClampNeg), w0, w1] σ) := q_iald t10_30 rfl (by decide +kernel) rfl
theorem s10_30_o64 (d : Nat) (l0 : Value) (l1 : Value) (l2 : Value) (i : Int32) (w0 w1 : Value) (σ : Hs) : ru d 10 30 [l0, l1, l2] [.int i, .ref 64, w0, w1] σ = gd (vp_in i 30) (ru d 10 31 [l0, l1, l2] [.int (σ 64 i.toNatClampNeg), w0, w1] σ) := q_iald t10_30 rfl (by decide +kernel) rfl
theorem t10_31 : decode (mb 10) 31 = .ok (.iload_n 2, 1) := by decide +kernel
theorem s10_31 (d : Nat) (l0 : Value) (l1 : Value) (i2 : Int32) (w0 w1 w2 : Value) (σ : Hs) : ru d 10 31 [l0, l1, .int i2] [w0, w1, w2] σ = ru d 10 32 [l0, l1, .int i2] [.int i2, w0, w1, w2] σ := q_iload_n t10_31 rfl
theorem t10_32 : decode (mb 10) 32 = .ok (.isub, 1) := by decide +kernel
theorem s10_32 (d : Nat) (l0 : Value) (l1 : Value) (l2 : Value) (x y : Int32) (w0 w1 : Value) (σ : Hs) : ru d 10 32 [l0, l1, l2] [.int y, .int x, w0, w1] σ = ru d 10 33 [l0, l1, l2] [.int (x - y), w0, w1] σ := q_isub t10_32
theorem t10_33 : decode (mb 10) 33 = .ok (.iconst 0, 1) := by decide +kernel
theorem s10_33 (d : Nat) (l0 : Value) (l1 : Value) (l2 : Value) (w0 w1 w2 : Value) (σ : Hs) : ru d 10 33 [l0, l1, l2] [w0, w1, w2] σ = ru d 10 34 [l0, l1, l2] [.int 0, w0, w1, w2] σ := q_iconst t10_33 (by decide +kernel)
theorem t10_34 : decode (mb 10) 34 = .ok (.invokestatic 77, 3) := by decide +kernel
theorem s10_34 (d : Nat) (l0 : Value) (l1 : Value) (l2 : Value) (x y : Int32) (w0 : Int32) (w1 : Nat) (σ : Hs) : ru d 10 34 [l0, l1, l2] [.int y, .int x, .int w0, .ref w1] σ = ru d 10 37 [l0, l1, l2] [.int (jmax x y), .int w0, .ref w1] σ := q_mx t10_34 mo10 (by decide +kernel) (by decide +kernel) (Nat.le_of_ble_eq_true rfl)
theorem t10_37 : decode (mb 10) 37 = .ok (.iastore, 1) := by decide +kernel
theorem s10_37_o7 (d : Nat) (l0 : Value) (l1 : Value) (l2 : Value) (i x : Int32) (σ : Hs) : ru d 10 37 [l0, l1, l2] [.int x, .int i, .ref 7] σ = gd (vp_in i 30) (ru d 10 38 [l0, l1, l2] [] (up2 σ 7 i.toNatClampNeg x)) := q_iast t10_37 (by decide +kernel) rfl rfl
theorem s10_37_o64 (d : Nat) (l0 : Value) (l1 : Value) (l2 : Value) (i x : Int32) (σ : Hs) : ru d 10 37 [l0, l1, l2] [.int x, .int i, .ref 64] σ = gd (vp_in i 30) (ru d 10 38 [l0, l1, l2] [] (up2 σ 64 i.toNatClampNeg x)) := q_iast t10_37 (by decide +kernel) rfl rfl
theorem t10_38 : decode (mb 10) 38 = .ok (.return_, 1) := by decide +kernel
theorem s10_38 (d : Nat) (l0 : Value) (l1 : Value) (l2 : Value) (σ : Hs) : ru d 10 38 [l0, l1, l2] [] σ = some (none, σ) := q_vret t10_38 mr10
theorem c10 (d : Nat) (x0 : Nat) (x1 : Int32) (x2 : Int32) (σ : Hs) : callD (d + 1) 10 [.ref x0, .int x1, .int x2] σ = ru d 10 0 [.ref x0, .int x1, .int x2] [] σ := callD_ru ml10 rfl rfl (Nat.le_of_ble_eq_true rfl)
-- 11: Heap.pourOnLit(I)V
theorem t11_0 : decode (mb 11) 0 = .ok (.iconst 0, 1) := by decide +kernel
theorem s11_0 (d : Nat) (l0 : Value) (l1 : Value) (l2 : Value) (σ : Hs) : ru d 11 0 [l0, l1, l2] [] σ = ru d 11 1 [l0, l1, l2] [.int 0] σ := q_iconst t11_0 (by decide +kernel)
theorem t11_1 : decode (mb 11) 1 = .ok (.istore_n 2, 1) := by decide +kernel
theorem s11_1 (d : Nat) (l0 : Value) (i1 : Int32) (l2 : Value) (x : Int32) (σ : Hs) : ru d 11 1 [l0, .int i1, l2] [.int x] σ = ru d 11 2 [l0, .int i1, .int x] [] σ := q_istore_n t11_1 ⟨Nat.le_of_ble_eq_true rfl, rfl⟩ rfl
theorem t11_2 : decode (mb 11) 2 = .ok (.iload_n 2, 1) := by decide +kernel
theorem s11_2 (d : Nat) (l0 : Value) (l1 : Value) (i2 : Int32) (σ : Hs) : ru d 11 2 [l0, l1, .int i2] [] σ = ru d 11 3 [l0, l1, .int i2] [.int i2] σ := q_iload_n t11_2 rfl
theorem t11_3 : decode (mb 11) 3 = .ok (.bipush 30, 2) := by decide +kernel
theorem s11_3 (d : Nat) (l0 : Value) (l1 : Value) (l2 : Value) (w0 : Value) (σ : Hs) : ru d 11 3 [l0, l1, l2] [w0] σ = ru d 11 5 [l0, l1, l2] [.int 30, w0] σ := q_bipush t11_3 (by decide +kernel)
theorem t11_5 : decode (mb 11) 5 = .ok (.if_icmp .ge 33, 3) := by decide +kernel
theorem s11_5 (d : Nat) (l0 : Value) (l1 : Value) (l2 : Value) (x y : Int32) (σ : Hs) : ru d 11 5 [l0, l1, l2] [.int y, .int x] σ = if y ≤ x then ru d 11 38 [l0, l1, l2] [] σ else ru d 11 8 [l0, l1, l2] [] σ := q_ic_ge t11_5 (by decide +kernel)
theorem t11_8 : decode (mb 11) 8 = .ok (.aload_n 0, 1) := by decide +kernel
theorem s11_8 (d : Nat) (a0 : Nat) (l1 : Value) (l2 : Value) (σ : Hs) : ru d 11 8 [.ref a0, l1, l2] [] σ = ru d 11 9 [.ref a0, l1, l2] [.ref a0] σ := q_aload_n t11_8 rfl
theorem t11_9 : decode (mb 11) 9 = .ok (.getfield 15, 3) := by decide +kernel
theorem s11_9_o59 (d : Nat) (l0 : Value) (l1 : Value) (l2 : Value) (σ : Hs) : ru d 11 9 [l0, l1, l2] [.ref 59] σ = ru d 11 12 [l0, l1, l2] [.ref 61] σ := q_getf t11_9 mo11 F0_15 rfl rfl
theorem t11_12 : decode (mb 11) 12 = .ok (.iload_n 2, 1) := by decide +kernel
theorem s11_12 (d : Nat) (l0 : Value) (l1 : Value) (i2 : Int32) (w0 : Value) (σ : Hs) : ru d 11 12 [l0, l1, .int i2] [w0] σ = ru d 11 13 [l0, l1, .int i2] [.int i2, w0] σ := q_iload_n t11_12 rfl
theorem t11_13 : decode (mb 11) 13 = .ok (.iaload, 1) := by decide +kernel
theorem s11_13_o61 (d : Nat) (l0 : Value) (l1 : Value) (l2 : Value) (i : Int32) (σ : Hs) : ru d 11 13 [l0, l1, l2] [.int i, .ref 61] σ = gd (vp_in i 30) (ru d 11 14 [l0, l1, l2] [.int (σ 61 i.toNatClampNeg)] σ) := q_iald t11_13 rfl (by decide +kernel) rfl
theorem t11_14 : decode (mb 11) 14 = .ok (.ifCond .le 18, 3) := by decide +kernel
theorem s11_14 (d : Nat) (l0 : Value) (l1 : Value) (l2 : Value) (x : Int32) (σ : Hs) : ru d 11 14 [l0, l1, l2] [.int x] σ = if x ≤ 0 then ru d 11 32 [l0, l1, l2] [] σ else ru d 11 17 [l0, l1, l2] [] σ := q_if_le t11_14 (by decide +kernel)
theorem t11_17 : decode (mb 11) 17 = .ok (.aload_n 0, 1) := by decide +kernel
theorem s11_17 (d : Nat) (a0 : Nat) (l1 : Value) (l2 : Value) (σ : Hs) : ru d 11 17 [.ref a0, l1, l2] [] σ = ru d 11 18 [.ref a0, l1, l2] [.ref a0] σ := q_aload_n t11_17 rfl
theorem t11_18 : decode (mb 11) 18 = .ok (.getfield 27, 3) := by decide +kernel
theorem s11_18_o59 (d : Nat) (l0 : Value) (l1 : Value) (l2 : Value) (σ : Hs) : ru d 11 18 [l0, l1, l2] [.ref 59] σ = ru d 11 21 [l0, l1, l2] [.ref 65] σ := q_getf t11_18 mo11 F0_27 rfl rfl
theorem t11_21 : decode (mb 11) 21 = .ok (.iload_n 2, 1) := by decide +kernel
theorem s11_21 (d : Nat) (l0 : Value) (l1 : Value) (i2 : Int32) (w0 : Value) (σ : Hs) : ru d 11 21 [l0, l1, .int i2] [w0] σ = ru d 11 22 [l0, l1, .int i2] [.int i2, w0] σ := q_iload_n t11_21 rfl
theorem t11_22 : decode (mb 11) 22 = .ok (.baload, 1) := by decide +kernel
theorem s11_22_o65 (d : Nat) (l0 : Value) (l1 : Value) (l2 : Value) (i : Int32) (σ : Hs) : ru d 11 22 [l0, l1, l2] [.int i, .ref 65] σ = gd (vp_in i 30) (ru d 11 23 [l0, l1, l2] [.int (σ 65 i.toNatClampNeg)] σ) := q_bald t11_22 (by decide +kernel) rfl rfl
theorem t11_23 : decode (mb 11) 23 = .ok (.ifCond .eq 9, 3) := by decide +kernel
theorem s11_23 (d : Nat) (l0 : Value) (l1 : Value) (l2 : Value) (x : Int32) (σ : Hs) : ru d 11 23 [l0, l1, l2] [.int x] σ = if x = 0 then ru d 11 32 [l0, l1, l2] [] σ else ru d 11 26 [l0, l1, l2] [] σ := q_if_eq t11_23 (by decide +kernel)
theorem t11_26 : decode (mb 11) 26 = .ok (.aload_n 0, 1) := by decide +kernel
theorem s11_26 (d : Nat) (a0 : Nat) (l1 : Value) (l2 : Value) (σ : Hs) : ru d 11 26 [.ref a0, l1, l2] [] σ = ru d 11 27 [.ref a0, l1, l2] [.ref a0] σ := q_aload_n t11_26 rfl
theorem t11_27 : decode (mb 11) 27 = .ok (.iload_n 2, 1) := by decide +kernel
theorem s11_27 (d : Nat) (l0 : Value) (l1 : Value) (i2 : Int32) (w0 : Value) (σ : Hs) : ru d 11 27 [l0, l1, .int i2] [w0] σ = ru d 11 28 [l0, l1, .int i2] [.int i2, w0] σ := q_iload_n t11_27 rfl
theorem t11_28 : decode (mb 11) 28 = .ok (.iload_n 1, 1) := by decide +kernel
theorem s11_28 (d : Nat) (l0 : Value) (i1 : Int32) (l2 : Value) (w0 w1 : Value) (σ : Hs) : ru d 11 28 [l0, .int i1, l2] [w0, w1] σ = ru d 11 29 [l0, .int i1, l2] [.int i1, w0, w1] σ := q_iload_n t11_28 rfl
theorem t11_29 : decode (mb 11) 29 = .ok (.invokevirtual 86, 3) := by decide +kernel
theorem s11_29_o59 (d : Nat) (l0 : Value) (l1 : Value) (l2 : Value) (v1 v2 : Value) (σ : Hs) : ru d 11 29 [l0, l1, l2] [v2, v1, .ref 59] σ = kont (callD d 10 [.ref 59, v1, v2] σ) d 11 32 [l0, l1, l2] [] := q_invv t11_29 mo11 K0_86 mj10 rfl rfl rfl rfl (Nat.le_of_ble_eq_true rfl)
theorem t11_32 : decode (mb 11) 32 = .ok (.iinc 2 1, 3) := by decide +kernel
theorem s11_32 (d : Nat) (l0 : Value) (i1 : Int32) (i2 : Int32) (σ : Hs) : ru d 11 32 [l0, .int i1, .int i2] [] σ = ru d 11 35 [l0, .int i1, .int (i2 + 1)] [] σ := q_iinc t11_32 ⟨Nat.le_of_ble_eq_true rfl, rfl⟩ rfl (by decide +kernel) rfl
theorem t11_35 : decode (mb 11) 35 = .ok (.goto (-33), 3) := by decide +kernel
theorem s11_35 (d : Nat) (l0 : Value) (l1 : Value) (l2 : Value) (σ : Hs) : ru d 11 35 [l0, l1, l2] [] σ = ru d 11 2 [l0, l1, l2] [] σ := q_goto t11_35 (by decide +kernel)
theorem t11_38 : decode (mb 11) 38 = .ok (.return_, 1) := by decide +kernel
theorem s11_38 (d : Nat) (l0 : Value) (l1 : Value) (l2 : Value) (σ : Hs) : ru d 11 38 [l0, l1, l2] [] σ = some (none, σ) := q_vret t11_38 mr11
theorem c11 (d : Nat) (x0 : Nat) (x1 : Int32) (σ : Hs) : callD (d + 1) 11 [.ref x0, .int x1] σ = ru d 11 0 [.ref x0, .int x1, uu] [] σ := callD_ru ml11 rfl rfl (Nat.le_of_ble_eq_true rfl)
-- 12: Heap.draughtOf(I)I
theorem t12_0 : decode (mb 12) 0 = .ok (.iload_n 1, 1) := by decide +kernel
theorem s12_0 (d : Nat) (l0 : Value) (i1 : Int32) (l2 : Value) (l3 : Value) (l4 : Value) (l5 : Value) (l6 : Value) (l7 : Value) (l8 : Value) (σ : Hs) : ru d 12 0 [l0, .int i1, l2, l3, l4, l5, l6, l7, l8] [] σ = ru d 12 1 [l0, .int i1, l2, l3, l4, l5, l6, l7, l8] [.int i1] σ := q_iload_n t12_0 rfl
theorem t12_1 : decode (mb 12) 1 = .ok (.bipush 6, 2) := by decide +kernel
theorem s12_1 (d : Nat) (l0 : Value) (l1 : Value) (l2 : Value) (l3 : Value) (l4 : Value) (l5 : Value) (l6 : Value) (l7 : Value) (l8 : Value) (w0 : Value) (σ : Hs) : ru d 12 1 [l0, l1, l2, l3, l4, l5, l6, l7, l8] [w0] σ = ru d 12 3 [l0, l1, l2, l3, l4, l5, l6, l7, l8] [.int 6, w0] σ := q_bipush t12_1 (by decide +kernel)
theorem t12_3 : decode (mb 12) 3 = .ok (.irem, 1) := by decide +kernel
theorem s12_3 (d : Nat) (l0 : Value) (l1 : Value) (l2 : Value) (l3 : Value) (l4 : Value) (l5 : Value) (l6 : Value) (l7 : Value) (l8 : Value) (x y : Int32) (σ : Hs) : ru d 12 3 [l0, l1, l2, l3, l4, l5, l6, l7, l8] [.int y, .int x] σ = gd (¬ y = 0) (ru d 12 4 [l0, l1, l2, l3, l4, l5, l6, l7, l8] [.int (x - x / y * y)] σ) := q_irem t12_3
theorem t12_4 : decode (mb 12) 4 = .ok (.istore_n 2, 1) := by decide +kernel
theorem s12_4 (d : Nat) (l0 : Value) (i1 : Int32) (l2 : Value) (l3 : Value) (l4 : Value) (l5 : Value) (l6 : Value) (l7 : Value) (l8 : Value) (x : Int32) (σ : Hs) : ru d 12 4 [l0, .int i1, l2, l3, l4, l5, l6, l7, l8] [.int x] σ = ru d 12 5 [l0, .int i1, .int x, l3, l4, l5, l6, l7, l8] [] σ := q_istore_n t12_4 ⟨Nat.le_of_ble_eq_true rfl, rfl⟩ rfl
theorem t12_5 : decode (mb 12) 5 = .ok (.iload_n 2, 1) := by decide +kernel
theorem s12_5 (d : Nat) (l0 : Value) (l1 : Value) (i2 : Int32) (l3 : Value) (l4 : Value) (l5 : Value) (l6 : Value) (l7 : Value) (l8 : Value) (σ : Hs) : ru d 12 5 [l0, l1, .int i2, l3, l4, l5, l6, l7, l8] [] σ = ru d 12 6 [l0, l1, .int i2, l3, l4, l5, l6, l7, l8] [.int i2] σ := q_iload_n t12_5 rfl
theorem t12_6 : decode (mb 12) 6 = .ok (.ifCond .eq 14, 3) := by decide +kernel
theorem s12_6 (d : Nat) (l0 : Value) (l1 : Value) (l2 : Value) (l3 : Value) (l4 : Value) (l5 : Value) (l6 : Value) (l7 : Value) (l8 : Value) (x : Int32) (σ : Hs) : ru d 12 6 [l0, l1, l2, l3, l4, l5, l6, l7, l8] [.int x] σ = if x = 0 then ru d 12 20 [l0, l1, l2, l3, l4, l5, l6, l7, l8] [] σ else ru d 12 9 [l0, l1, l2, l3, l4, l5, l6, l7, l8] [] σ := q_if_eq t12_6 (by decide +kernel)
theorem t12_9 : decode (mb 12) 9 = .ok (.aload_n 0, 1) := by decide +kernel
theorem s12_9 (d : Nat) (a0 : Nat) (l1 : Value) (l2 : Value) (l3 : Value) (l4 : Value) (l5 : Value) (l6 : Value) (l7 : Value) (l8 : Value) (σ : Hs) : ru d 12 9 [.ref a0, l1, l2, l3, l4, l5, l6, l7, l8] [] σ = ru d 12 10 [.ref a0, l1, l2, l3, l4, l5, l6, l7, l8] [.ref a0] σ := q_aload_n t12_9 rfl
theorem t12_10 : decode (mb 12) 10 = .ok (.getfield 15, 3) := by decide +kernel
theorem s12_10_o2 (d : Nat) (l0 : Value) (l1 : Value) (l2 : Value) (l3 : Value) (l4 : Value) (l5 : Value) (l6 : Value) (l7 : Value) (l8 : Value) (σ : Hs) : ru d 12 10 [l0, l1, l2, l3, l4, l5, l6, l7, l8] [.ref 2] σ = ru d 12 13 [l0, l1, l2, l3, l4, l5, l6, l7, l8] [.ref 4] σ := q_getf t12_10 mo12 F0_15 rfl rfl
theorem s12_10_o59 (d : Nat) (l0 : Value) (l1 : Value) (l2 : Value) (l3 : Value) (l4 : Value) (l5 : Value) (l6 : Value) (l7 : Value) (l8 : Value) (σ : Hs) : ru d 12 10 [l0, l1, l2, l3, l4, l5, l6, l7, l8] [.ref 59] σ = ru d 12 13 [l0, l1, l2, l3, l4, l5, l6, l7, l8] [.ref 61] σ := q_getf t12_10 mo12 F0_15 rfl rfl
theorem t12_13 : decode (mb 12) 13 = .ok (.iload_n 1, 1) := by decide +kernel
theorem s12_13 (d : Nat) (l0 : Value) (i1 : Int32) (l2 : Value) (l3 : Value) (l4 : Value) (l5 : Value) (l6 : Value) (l7 : Value) (l8 : Value) (w0 : Value) (σ : Hs) : ru d 12 13 [l0, .int i1, l2, l3, l4, l5, l6, l7, l8] [w0] σ = ru d 12 14 [l0, .int i1, l2, l3, l4, l5, l6, l7, l8] [.int i1, w0] σ := q_iload_n t12_13 rfl
theorem t12_14 : decode (mb 12) 14 = .ok (.iconst 1, 1) := by decide +kernel
theorem s12_14 (d : Nat) (l0 : Value) (l1 : Value) (l2 : Value) (l3 : Value) (l4 : Value) (l5 : Value) (l6 : Value) (l7 : Value) (l8 : Value) (w0 w1 : Value) (σ : Hs) : ru d 12 14 [l0, l1, l2, l3, l4, l5, l6, l7, l8] [w0, w1] σ = ru d 12 15 [l0, l1, l2, l3, l4, l5, l6, l7, l8] [.int 1, w0, w1] σ := q_iconst t12_14 (by decide +kernel)
theorem t12_15 : decode (mb 12) 15 = .ok (.isub, 1) := by decide +kernel
theorem s12_15 (d : Nat) (l0 : Value) (l1 : Value) (l2 : Value) (l3 : Value) (l4 : Value) (l5 : Value) (l6 : Value) (l7 : Value) (l8 : Value) (x y : Int32) (w0 : Value) (σ : Hs) : ru d 12 15 [l0, l1, l2, l3, l4, l5, l6, l7, l8] [.int y, .int x, w0] σ = ru d 12 16 [l0, l1, l2, l3, l4, l5, l6, l7, l8] [.int (x - y), w0] σ := q_isub t12_15
theorem t12_16 : decode (mb 12) 16 = .ok (.iaload, 1) := by decide +kernel
theorem s12_16_o4 (d : Nat) (l0 : Value) (l1 : Value) (l2 : Value) (l3 : Value) (l4 : Value) (l5 : Value) (l6 : Value) (l7 : Value) (l8 : Value) (i : Int32) (σ : Hs) : ru d 12 16 [l0, l1, l2, l3, l4, l5, l6, l7, l8] [.int i, .ref 4] σ = gd (vp_in i 30) (ru d 12 17 [l0, l1, l2, l3, l4, l5, l6, l7, l8] [.int (σ 4 i.toNatClampNeg)] σ) := q_iald t12_16 rfl (by decide +kernel) rfl
theorem s12_16_o61 (d : Nat) (l0 : Value) (l1 : Value) (l2 : Value) (l3 : Value) (l4 : Value) (l5 : Value) (l6 : Value) (l7 : Value) (l8 : Value) (i : Int32) (σ : Hs) : ru d 12 16 [l0, l1, l2, l3, l4, l5, l6, l7, l8] [.int i, .ref 61] σ = gd (vp_in i 30) (ru d 12 17 [l0, l1, l2, l3, l4, l5, l6, l7, l8] [.int (σ 61 i.toNatClampNeg)] σ) := q_iald t12_16 rfl (by decide +kernel) rfl
theorem t12_17 : decode (mb 12) 17 = .ok (.ifCond .ne 7, 3) := by decide +kernel
theorem s12_17 (d : Nat) (l0 : Value) (l1 : Value) (l2 : Value) (l3 : Value) (l4 : Value) (l5 : Value) (l6 : Value) (l7 : Value) (l8 : Value) (x : Int32) (σ : Hs) : ru d 12 17 [l0, l1, l2, l3, l4, l5, l6, l7, l8] [.int x] σ = if x = 0 then ru d 12 20 [l0, l1, l2, l3, l4, l5, l6, l7, l8] [] σ else ru d 12 24 [l0, l1, l2, l3, l4, l5, l6, l7, l8] [] σ := q_if_ne t12_17 (by decide +kernel)
theorem t12_20 : decode (mb 12) 20 = .ok (.iconst 1, 1) := by decide +kernel
theorem s12_20 (d : Nat) (l0 : Value) (l1 : Value) (l2 : Value) (l3 : Value) (l4 : Value) (l5 : Value) (l6 : Value) (l7 : Value) (l8 : Value) (σ : Hs) : ru d 12 20 [l0, l1, l2, l3, l4, l5, l6, l7, l8] [] σ = ru d 12 21 [l0, l1, l2, l3, l4, l5, l6, l7, l8] [.int 1] σ := q_iconst t12_20 (by decide +kernel)
theorem t12_21 : decode (mb 12) 21 = .ok (.goto 4, 3) := by decide +kernel
theorem s12_21 (d : Nat) (l0 : Value) (l1 : Value) (l2 : Value) (l3 : Value) (l4 : Value) (l5 : Value) (l6 : Value) (l7 : Value) (l8 : Value) (w0 : Value) (σ : Hs) : ru d 12 21 [l0, l1, l2, l3, l4, l5, l6, l7, l8] [w0] σ = ru d 12 25 [l0, l1, l2, l3, l4, l5, l6, l7, l8] [w0] σ := q_goto t12_21 (by decide +kernel)
theorem t12_24 : decode (mb 12) 24 = .ok (.iconst 0, 1) := by decide +kernel
theorem s12_24 (d : Nat) (l0 : Value) (l1 : Value) (l2 : Value) (l3 : Value) (l4 : Value) (l5 : Value) (l6 : Value) (l7 : Value) (l8 : Value) (σ : Hs) : ru d 12 24 [l0, l1, l2, l3, l4, l5, l6, l7, l8] [] σ = ru d 12 25 [l0, l1, l2, l3, l4, l5, l6, l7, l8] [.int 0] σ := q_iconst t12_24 (by decide +kernel)
theorem t12_25 : decode (mb 12) 25 = .ok (.istore_n 3, 1) := by decide +kernel
theorem s12_25 (d : Nat) (l0 : Value) (l1 : Value) (i2 : Int32) (l3 : Value) (l4 : Value) (l5 : Value) (l6 : Value) (l7 : Value) (l8 : Value) (x : Int32) (σ : Hs) : ru d 12 25 [l0, l1, .int i2, l3, l4, l5, l6, l7, l8] [.int x] σ = ru d 12 26 [l0, l1, .int i2, .int x, l4, l5, l6, l7, l8] [] σ := q_istore_n t12_25 ⟨Nat.le_of_ble_eq_true rfl, rfl⟩ rfl
theorem t12_26 : decode (mb 12) 26 = .ok (.iload_n 2, 1) := by decide +kernel
theorem s12_26 (d : Nat) (l0 : Value) (l1 : Value) (i2 : Int32) (l3 : Value) (l4 : Value) (l5 : Value) (l6 : Value) (l7 : Value) (l8 : Value) (σ : Hs) : ru d 12 26 [l0, l1, .int i2, l3, l4, l5, l6, l7, l8] [] σ = ru d 12 27 [l0, l1, .int i2, l3, l4, l5, l6, l7, l8] [.int i2] σ := q_iload_n t12_26 rfl
theorem t12_27 : decode (mb 12) 27 = .ok (.iconst 5, 1) := by decide +kernel
theorem s12_27 (d : Nat) (l0 : Value) (l1 : Value) (l2 : Value) (l3 : Value) (l4 : Value) (l5 : Value) (l6 : Value) (l7 : Value) (l8 : Value) (w0 : Value) (σ : Hs) : ru d 12 27 [l0, l1, l2, l3, l4, l5, l6, l7, l8] [w0] σ = ru d 12 28 [l0, l1, l2, l3, l4, l5, l6, l7, l8] [.int 5, w0] σ := q_iconst t12_27 (by decide +kernel)
theorem t12_28 : decode (mb 12) 28 = .ok (.if_icmp .eq 14, 3) := by decide +kernel
theorem s12_28 (d : Nat) (l0 : Value) (l1 : Value) (l2 : Value) (l3 : Value) (l4 : Value) (l5 : Value) (l6 : Value) (l7 : Value) (l8 : Value) (x y : Int32) (σ : Hs) : ru d 12 28 [l0, l1, l2, l3, l4, l5, l6, l7, l8] [.int y, .int x] σ = if x = y then ru d 12 42 [l0, l1, l2, l3, l4, l5, l6, l7, l8] [] σ else ru d 12 31 [l0, l1, l2, l3, l4, l5, l6, l7, l8] [] σ := q_ic_eq t12_28 (by decide +kernel)
theorem t12_31 : decode (mb 12) 31 = .ok (.aload_n 0, 1) := by decide +kernel
theorem s12_31 (d : Nat) (a0 : Nat) (l1 : Value) (l2 : Value) (l3 : Value) (l4 : Value) (l5 : Value) (l6 : Value) (l7 : Value) (l8 : Value) (σ : Hs) : ru d 12 31 [.ref a0, l1, l2, l3, l4, l5, l6, l7, l8] [] σ = ru d 12 32 [.ref a0, l1, l2, l3, l4, l5, l6, l7, l8] [.ref a0] σ := q_aload_n t12_31 rfl
theorem t12_32 : decode (mb 12) 32 = .ok (.getfield 15, 3) := by decide +kernel
theorem s12_32_o2 (d : Nat) (l0 : Value) (l1 : Value) (l2 : Value) (l3 : Value) (l4 : Value) (l5 : Value) (l6 : Value) (l7 : Value) (l8 : Value) (σ : Hs) : ru d 12 32 [l0, l1, l2, l3, l4, l5, l6, l7, l8] [.ref 2] σ = ru d 12 35 [l0, l1, l2, l3, l4, l5, l6, l7, l8] [.ref 4] σ := q_getf t12_32 mo12 F0_15 rfl rfl
theorem s12_32_o59 (d : Nat) (l0 : Value) (l1 : Value) (l2 : Value) (l3 : Value) (l4 : Value) (l5 : Value) (l6 : Value) (l7 : Value) (l8 : Value) (σ : Hs) : ru d 12 32 [l0, l1, l2, l3, l4, l5, l6, l7, l8] [.ref 59] σ = ru d 12 35 [l0, l1, l2, l3, l4, l5, l6, l7, l8] [.ref 61] σ := q_getf t12_32 mo12 F0_15 rfl rfl
theorem t12_35 : decode (mb 12) 35 = .ok (.iload_n 1, 1) := by decide +kernel
theorem s12_35 (d : Nat) (l0 : Value) (i1 : Int32) (l2 : Value) (l3 : Value) (l4 : Value) (l5 : Value) (l6 : Value) (l7 : Value) (l8 : Value) (w0 : Value) (σ : Hs) : ru d 12 35 [l0, .int i1, l2, l3, l4, l5, l6, l7, l8] [w0] σ = ru d 12 36 [l0, .int i1, l2, l3, l4, l5, l6, l7, l8] [.int i1, w0] σ := q_iload_n t12_35 rfl
theorem t12_36 : decode (mb 12) 36 = .ok (.iconst 1, 1) := by decide +kernel
theorem s12_36 (d : Nat) (l0 : Value) (l1 : Value) (l2 : Value) (l3 : Value) (l4 : Value) (l5 : Value) (l6 : Value) (l7 : Value) (l8 : Value) (w0 w1 : Value) (σ : Hs) : ru d 12 36 [l0, l1, l2, l3, l4, l5, l6, l7, l8] [w0, w1] σ = ru d 12 37 [l0, l1, l2, l3, l4, l5, l6, l7, l8] [.int 1, w0, w1] σ := q_iconst t12_36 (by decide +kernel)
theorem t12_37 : decode (mb 12) 37 = .ok (.iadd, 1) := by decide +kernel
theorem s12_37 (d : Nat) (l0 : Value) (l1 : Value) (l2 : Value) (l3 : Value) (l4 : Value) (l5 : Value) (l6 : Value) (l7 : Value) (l8 : Value) (x y : Int32) (w0 : Value) (σ : Hs) : ru d 12 37 [l0, l1, l2, l3, l4, l5, l6, l7, l8] [.int y, .int x, w0] σ = ru d 12 38 [l0, l1, l2, l3, l4, l5, l6, l7, l8] [.int (x + y), w0] σ := q_iadd t12_37
theorem t12_38 : decode (mb 12) 38 = .ok (.iaload, 1) := by decide +kernel
theorem s12_38_o4 (d : Nat) (l0 : Value) (l1 : Value) (l2 : Value) (l3 : Value) (l4 : Value) (l5 : Value) (l6 : Value) (l7 : Value) (l8 : Value) (i : Int32) (σ : Hs) : ru d 12 38 [l0, l1, l2, l3, l4, l5, l6, l7, l8] [.int i, .ref 4] σ = gd (vp_in i 30) (ru d 12 39 [l0, l1, l2, l3, l4, l5, l6, l7, l8] [.int (σ 4 i.toNatClampNeg)] σ) := q_iald t12_38 rfl (by decide +kernel) rfl
theorem s12_38_o61 (d : Nat) (l0 : Value) (l1 : Value) (l2 : Value) (l3 : Value) (l4 : Value) (l5 : Value) (l6 : Value) (l7 : Value) (l8 : Value) (i : Int32) (σ : Hs) : ru d 12 38 [l0, l1, l2, l3, l4, l5, l6, l7, l8] [.int i, .ref 61] σ = gd (vp_in i 30) (ru d 12 39 [l0, l1, l2, l3, l4, l5, l6, l7, l8] [.int (σ 61 i.toNatClampNeg)] σ) := q_iald t12_38 rfl (by decide +kernel) rfl
theorem t12_39 : decode (mb 12) 39 = .ok (.ifCond .ne 7, 3) := by decide +kernel
theorem s12_39 (d : Nat) (l0 : Value) (l1 : Value) (l2 : Value) (l3 : Value) (l4 : Value) (l5 : Value) (l6 : Value) (l7 : Value) (l8 : Value) (x : Int32) (σ : Hs) : ru d 12 39 [l0, l1, l2, l3, l4, l5, l6, l7, l8] [.int x] σ = if x = 0 then ru d 12 42 [l0, l1, l2, l3, l4, l5, l6, l7, l8] [] σ else ru d 12 46 [l0, l1, l2, l3, l4, l5, l6, l7, l8] [] σ := q_if_ne t12_39 (by decide +kernel)
theorem t12_42 : decode (mb 12) 42 = .ok (.iconst 1, 1) := by decide +kernel
theorem s12_42 (d : Nat) (l0 : Value) (l1 : Value) (l2 : Value) (l3 : Value) (l4 : Value) (l5 : Value) (l6 : Value) (l7 : Value) (l8 : Value) (σ : Hs) : ru d 12 42 [l0, l1, l2, l3, l4, l5, l6, l7, l8] [] σ = ru d 12 43 [l0, l1, l2, l3, l4, l5, l6, l7, l8] [.int 1] σ := q_iconst t12_42 (by decide +kernel)
theorem t12_43 : decode (mb 12) 43 = .ok (.goto 4, 3) := by decide +kernel
theorem s12_43 (d : Nat) (l0 : Value) (l1 : Value) (l2 : Value) (l3 : Value) (l4 : Value) (l5 : Value) (l6 : Value) (l7 : Value) (l8 : Value) (w0 : Value) (σ : Hs) : ru d 12 43 [l0, l1, l2, l3, l4, l5, l6, l7, l8] [w0] σ = ru d 12 47 [l0, l1, l2, l3, l4, l5, l6, l7, l8] [w0] σ := q_goto t12_43 (by decide +kernel)
theorem t12_46 : decode (mb 12) 46 = .ok (.iconst 0, 1) := by decide +kernel
theorem s12_46 (d : Nat) (l0 : Value) (l1 : Value) (l2 : Value) (l3 : Value) (l4 : Value) (l5 : Value) (l6 : Value) (l7 : Value) (l8 : Value) (σ : Hs) : ru d 12 46 [l0, l1, l2, l3, l4, l5, l6, l7, l8] [] σ = ru d 12 47 [l0, l1, l2, l3, l4, l5, l6, l7, l8] [.int 0] σ := q_iconst t12_46 (by decide +kernel)
theorem t12_47 : decode (mb 12) 47 = .ok (.istore 4, 2) := by decide +kernel
theorem s12_47 (d : Nat) (l0 : Value) (l1 : Value) (l2 : Value) (i3 : Int32) (l4 : Value) (l5 : Value) (l6 : Value) (l7 : Value) (l8 : Value) (x : Int32) (σ : Hs) : ru d 12 47 [l0, l1, l2, .int i3, l4, l5, l6, l7, l8] [.int x] σ = ru d 12 49 [l0, l1, l2, .int i3, .int x, l5, l6, l7, l8] [] σ := q_istore t12_47 ⟨Nat.le_of_ble_eq_true rfl, rfl⟩ rfl
theorem t12_49 : decode (mb 12) 49 = .ok (.iload_n 1, 1) := by decide +kernel
theorem s12_49 (d : Nat) (l0 : Value) (i1 : Int32) (l2 : Value) (l3 : Value) (l4 : Value) (l5 : Value) (l6 : Value) (l7 : Value) (l8 : Value) (σ : Hs) : ru d 12 49 [l0, .int i1, l2, l3, l4, l5, l6, l7, l8] [] σ = ru d 12 50 [l0, .int i1, l2, l3, l4, l5, l6, l7, l8] [.int i1] σ := q_iload_n t12_49 rfl
theorem t12_50 : decode (mb 12) 50 = .ok (.bipush 6, 2) := by decide +kernel
theorem s12_50 (d : Nat) (l0 : Value) (l1 : Value) (l2 : Value) (l3 : Value) (l4 : Value) (l5 : Value) (l6 : Value) (l7 : Value) (l8 : Value) (w0 : Value) (σ : Hs) : ru d 12 50 [l0, l1, l2, l3, l4, l5, l6, l7, l8] [w0] σ = ru d 12 52 [l0, l1, l2, l3, l4, l5, l6, l7, l8] [.int 6, w0] σ := q_bipush t12_50 (by decide +kernel)
theorem t12_52 : decode (mb 12) 52 = .ok (.iadd, 1) := by decide +kernel
theorem s12_52 (d : Nat) (l0 : Value) (l1 : Value) (l2 : Value) (l3 : Value) (l4 : Value) (l5 : Value) (l6 : Value) (l7 : Value) (l8 : Value) (x y : Int32) (σ : Hs) : ru d 12 52 [l0, l1, l2, l3, l4, l5, l6, l7, l8] [.int y, .int x] σ = ru d 12 53 [l0, l1, l2, l3, l4, l5, l6, l7, l8] [.int (x + y)] σ := q_iadd t12_52
theorem t12_53 : decode (mb 12) 53 = .ok (.bipush 30, 2) := by decide +kernel
theorem s12_53 (d : Nat) (l0 : Value) (l1 : Value) (l2 : Value) (l3 : Value) (l4 : Value) (l5 : Value) (l6 : Value) (l7 : Value) (l8 : Value) (w0 : Value) (σ : Hs) : ru d 12 53 [l0, l1, l2, l3, l4, l5, l6, l7, l8] [w0] σ = ru d 12 55 [l0, l1, l2, l3, l4, l5, l6, l7, l8] [.int 30, w0] σ := q_bipush t12_53 (by decide +kernel)
theorem t12_55 : decode (mb 12) 55 = .ok (.if_icmp .ge 15, 3) := by decide +kernel
theorem s12_55 (d : Nat) (l0 : Value) (l1 : Value) (l2 : Value) (l3 : Value) (l4 : Value) (l5 : Value) (l6 : Value) (l7 : Value) (l8 : Value) (x y : Int32) (σ : Hs) : ru d 12 55 [l0, l1, l2, l3, l4, l5, l6, l7, l8] [.int y, .int x] σ = if y ≤ x then ru d 12 70 [l0, l1, l2, l3, l4, l5, l6, l7, l8] [] σ else ru d 12 58 [l0, l1, l2, l3, l4, l5, l6, l7, l8] [] σ := q_ic_ge t12_55 (by decide +kernel)
theorem t12_58 : decode (mb 12) 58 = .ok (.aload_n 0, 1) := by decide +kernel
theorem s12_58 (d : Nat) (a0 : Nat) (l1 : Value) (l2 : Value) (l3 : Value) (l4 : Value) (l5 : Value) (l6 : Value) (l7 : Value) (l8 : Value) (σ : Hs) : ru d 12 58 [.ref a0, l1, l2, l3, l4, l5, l6, l7, l8] [] σ = ru d 12 59 [.ref a0, l1, l2, l3, l4, l5, l6, l7, l8] [.ref a0] σ := q_aload_n t12_58 rfl
theorem t12_59 : decode (mb 12) 59 = .ok (.getfield 15, 3) := by decide +kernel
theorem s12_59_o2 (d : Nat) (l0 : Value) (l1 : Value) (l2 : Value) (l3 : Value) (l4 : Value) (l5 : Value) (l6 : Value) (l7 : Value) (l8 : Value) (σ : Hs) : ru d 12 59 [l0, l1, l2, l3, l4, l5, l6, l7, l8] [.ref 2] σ = ru d 12 62 [l0, l1, l2, l3, l4, l5, l6, l7, l8] [.ref 4] σ := q_getf t12_59 mo12 F0_15 rfl rfl
theorem s12_59_o59 (d : Nat) (l0 : Value) (l1 : Value) (l2 : Value) (l3 : Value) (l4 : Value) (l5 : Value) (l6 : Value) (l7 : Value) (l8 : Value) (σ : Hs) : ru d 12 59 [l0, l1, l2, l3, l4, l5, l6, l7, l8] [.ref 59] σ = ru d 12 62 [l0, l1, l2, l3, l4, l5, l6, l7, l8] [.ref 61] σ := q_getf t12_59 mo12 F0_15 rfl rfl
theorem t12_62 : decode (mb 12) 62 = .ok (.iload_n 1, 1) := by decide +kernel
theorem s12_62 (d : Nat) (l0 : Value) (i1 : Int32) (l2 : Value) (l3 : Value) (l4 : Value) (l5 : Value) (l6 : Value) (l7 : Value) (l8 : Value) (w0 : Value) (σ : Hs) : ru d 12 62 [l0, .int i1, l2, l3, l4, l5, l6, l7, l8] [w0] σ = ru d 12 63 [l0, .int i1, l2, l3, l4, l5, l6, l7, l8] [.int i1, w0] σ := q_iload_n t12_62 rfl
theorem t12_63 : decode (mb 12) 63 = .ok (.bipush 6, 2) := by decide +kernel
theorem s12_63 (d : Nat) (l0 : Value) (l1 : Value) (l2 : Value) (l3 : Value) (l4 : Value) (l5 : Value) (l6 : Value) (l7 : Value) (l8 : Value) (w0 w1 : Value) (σ : Hs) : ru d 12 63 [l0, l1, l2, l3, l4, l5, l6, l7, l8] [w0, w1] σ = ru d 12 65 [l0, l1, l2, l3, l4, l5, l6, l7, l8] [.int 6, w0, w1] σ := q_bipush t12_63 (by decide +kernel)
theorem t12_65 : decode (mb 12) 65 = .ok (.iadd, 1) := by decide +kernel
theorem s12_65 (d : Nat) (l0 : Value) (l1 : Value) (l2 : Value) (l3 : Value) (l4 : Value) (l5 : Value) (l6 : Value) (l7 : Value) (l8 : Value) (x y : Int32) (w0 : Value) (σ : Hs) : ru d 12 65 [l0, l1, l2, l3, l4, l5, l6, l7, l8] [.int y, .int x, w0] σ = ru d 12 66 [l0, l1, l2, l3, l4, l5, l6, l7, l8] [.int (x + y), w0] σ := q_iadd t12_65
theorem t12_66 : decode (mb 12) 66 = .ok (.iaload, 1) := by decide +kernel
theorem s12_66_o4 (d : Nat) (l0 : Value) (l1 : Value) (l2 : Value) (l3 : Value) (l4 : Value) (l5 : Value) (l6 : Value) (l7 : Value) (l8 : Value) (i : Int32) (σ : Hs) : ru d 12 66 [l0, l1, l2, l3, l4, l5, l6, l7, l8] [.int i, .ref 4] σ = gd (vp_in i 30) (ru d 12 67 [l0, l1, l2, l3, l4, l5, l6, l7, l8] [.int (σ 4 i.toNatClampNeg)] σ) := q_iald t12_66 rfl (by decide +kernel) rfl
theorem s12_66_o61 (d : Nat) (l0 : Value) (l1 : Value) (l2 : Value) (l3 : Value) (l4 : Value) (l5 : Value) (l6 : Value) (l7 : Value) (l8 : Value) (i : Int32) (σ : Hs) : ru d 12 66 [l0, l1, l2, l3, l4, l5, l6, l7, l8] [.int i, .ref 61] σ = gd (vp_in i 30) (ru d 12 67 [l0, l1, l2, l3, l4, l5, l6, l7, l8] [.int (σ 61 i.toNatClampNeg)] σ) := q_iald t12_66 rfl (by decide +kernel) rfl
theorem t12_67 : decode (mb 12) 67 = .ok (.ifCond .ne 7, 3) := by decide +kernel
theorem s12_67 (d : Nat) (l0 : Value) (l1 : Value) (l2 : Value) (l3 : Value) (l4 : Value) (l5 : Value) (l6 : Value) (l7 : Value) (l8 : Value) (x : Int32) (σ : Hs) : ru d 12 67 [l0, l1, l2, l3, l4, l5, l6, l7, l8] [.int x] σ = if x = 0 then ru d 12 70 [l0, l1, l2, l3, l4, l5, l6, l7, l8] [] σ else ru d 12 74 [l0, l1, l2, l3, l4, l5, l6, l7, l8] [] σ := q_if_ne t12_67 (by decide +kernel)
theorem t12_70 : decode (mb 12) 70 = .ok (.iconst 1, 1) := by decide +kernel
theorem s12_70 (d : Nat) (l0 : Value) (l1 : Value) (l2 : Value) (l3 : Value) (l4 : Value) (l5 : Value) (l6 : Value) (l7 : Value) (l8 : Value) (σ : Hs) : ru d 12 70 [l0, l1, l2, l3, l4, l5, l6, l7, l8] [] σ = ru d 12 71 [l0, l1, l2, l3, l4, l5, l6, l7, l8] [.int 1] σ := q_iconst t12_70 (by decide +kernel)
theorem t12_71 : decode (mb 12) 71 = .ok (.goto 4, 3) := by decide +kernel
theorem s12_71 (d : Nat) (l0 : Value) (l1 : Value) (l2 : Value) (l3 : Value) (l4 : Value) (l5 : Value) (l6 : Value) (l7 : Value) (l8 : Value) (w0 : Value) (σ : Hs) : ru d 12 71 [l0, l1, l2, l3, l4, l5, l6, l7, l8] [w0] σ = ru d 12 75 [l0, l1, l2, l3, l4, l5, l6, l7, l8] [w0] σ := q_goto t12_71 (by decide +kernel)
theorem t12_74 : decode (mb 12) 74 = .ok (.iconst 0, 1) := by decide +kernel
theorem s12_74 (d : Nat) (l0 : Value) (l1 : Value) (l2 : Value) (l3 : Value) (l4 : Value) (l5 : Value) (l6 : Value) (l7 : Value) (l8 : Value) (σ : Hs) : ru d 12 74 [l0, l1, l2, l3, l4, l5, l6, l7, l8] [] σ = ru d 12 75 [l0, l1, l2, l3, l4, l5, l6, l7, l8] [.int 0] σ := q_iconst t12_74 (by decide +kernel)
theorem t12_75 : decode (mb 12) 75 = .ok (.istore 5, 2) := by decide +kernel
theorem s12_75 (d : Nat) (l0 : Value) (l1 : Value) (l2 : Value) (l3 : Value) (i4 : Int32) (l5 : Value) (l6 : Value) (l7 : Value) (l8 : Value) (x : Int32) (σ : Hs) : ru d 12 75 [l0, l1, l2, l3, .int i4, l5, l6, l7, l8] [.int x] σ = ru d 12 77 [l0, l1, l2, l3, .int i4, .int x, l6, l7, l8] [] σ := q_istore t12_75 ⟨Nat.le_of_ble_eq_true rfl, rfl⟩ rfl
theorem t12_77 : decode (mb 12) 77 = .ok (.iload_n 3, 1) := by decide +kernel
theorem s12_77 (d : Nat) (l0 : Value) (l1 : Value) (l2 : Value) (i3 : Int32) (l4 : Value) (l5 : Value) (l6 : Value) (l7 : Value) (l8 : Value) (σ : Hs) : ru d 12 77 [l0, l1, l2, .int i3, l4, l5, l6, l7, l8] [] σ = ru d 12 78 [l0, l1, l2, .int i3, l4, l5, l6, l7, l8] [.int i3] σ := q_iload_n t12_77 rfl
theorem t12_78 : decode (mb 12) 78 = .ok (.ifCond .eq 7, 3) := by decide +kernel
theorem s12_78 (d : Nat) (l0 : Value) (l1 : Value) (l2 : Value) (l3 : Value) (l4 : Value) (l5 : Value) (l6 : Value) (l7 : Value) (l8 : Value) (x : Int32) (σ : Hs) : ru d 12 78 [l0, l1, l2, l3, l4, l5, l6, l7, l8] [.int x] σ = if x = 0 then ru d 12 85 [l0, l1, l2, l3, l4, l5, l6, l7, l8] [] σ else ru d 12 81 [l0, l1, l2, l3, l4, l5, l6, l7, l8] [] σ := q_if_eq t12_78 (by decide +kernel)
theorem t12_81 : decode (mb 12) 81 = .ok (.iconst 1, 1) := by decide +kernel
theorem s12_81 (d : Nat) (l0 : Value) (l1 : Value) (l2 : Value) (l3 : Value) (l4 : Value) (l5 : Value) (l6 : Value) (l7 : Value) (l8 : Value) (σ : Hs) : ru d 12 81 [l0, l1, l2, l3, l4, l5, l6, l7, l8] [] σ = ru d 12 82 [l0, l1, l2, l3, l4, l5, l6, l7, l8] [.int 1] σ := q_iconst t12_81 (by decide +kernel)
theorem t12_82 : decode (mb 12) 82 = .ok (.goto 4, 3) := by decide +kernel
theorem s12_82 (d : Nat) (l0 : Value) (l1 : Value) (l2 : Value) (l3 : Value) (l4 : Value) (l5 : Value) (l6 : Value) (l7 : Value) (l8 : Value) (w0 : Value) (σ : Hs) : ru d 12 82 [l0, l1, l2, l3, l4, l5, l6, l7, l8] [w0] σ = ru d 12 86 [l0, l1, l2, l3, l4, l5, l6, l7, l8] [w0] σ := q_goto t12_82 (by decide +kernel)
theorem t12_85 : decode (mb 12) 85 = .ok (.iconst 0, 1) := by decide +kernel
theorem s12_85 (d : Nat) (l0 : Value) (l1 : Value) (l2 : Value) (l3 : Value) (l4 : Value) (l5 : Value) (l6 : Value) (l7 : Value) (l8 : Value) (σ : Hs) : ru d 12 85 [l0, l1, l2, l3, l4, l5, l6, l7, l8] [] σ = ru d 12 86 [l0, l1, l2, l3, l4, l5, l6, l7, l8] [.int 0] σ := q_iconst t12_85 (by decide +kernel)
theorem t12_86 : decode (mb 12) 86 = .ok (.iload 4, 2) := by decide +kernel
theorem s12_86 (d : Nat) (l0 : Value) (l1 : Value) (l2 : Value) (l3 : Value) (i4 : Int32) (l5 : Value) (l6 : Value) (l7 : Value) (l8 : Value) (w0 : Value) (σ : Hs) : ru d 12 86 [l0, l1, l2, l3, .int i4, l5, l6, l7, l8] [w0] σ = ru d 12 88 [l0, l1, l2, l3, .int i4, l5, l6, l7, l8] [.int i4, w0] σ := q_iload t12_86 rfl
theorem t12_88 : decode (mb 12) 88 = .ok (.ifCond .eq 7, 3) := by decide +kernel
theorem s12_88 (d : Nat) (l0 : Value) (l1 : Value) (l2 : Value) (l3 : Value) (l4 : Value) (l5 : Value) (l6 : Value) (l7 : Value) (l8 : Value) (x : Int32) (w0 : Value) (σ : Hs) : ru d 12 88 [l0, l1, l2, l3, l4, l5, l6, l7, l8] [.int x, w0] σ = if x = 0 then ru d 12 95 [l0, l1, l2, l3, l4, l5, l6, l7, l8] [w0] σ else ru d 12 91 [l0, l1, l2, l3, l4, l5, l6, l7, l8] [w0] σ := q_if_eq t12_88 (by decide +kernel)
theorem t12_91 : decode (mb 12) 91 = .ok (.iconst 1, 1) := by decide +kernel
theorem s12_91 (d : Nat) (l0 : Value) (l1 : Value) (l2 : Value) (l3 : Value) (l4 : Value) (l5 : Value) (l6 : Value) (l7 : Value) (l8 : Value) (w0 : Value) (σ : Hs) : ru d 12 91 [l0, l1, l2, l3, l4, l5, l6, l7, l8] [w0] σ = ru d 12 92 [l0, l1, l2, l3, l4, l5, l6, l7, l8] [.int 1, w0] σ := q_iconst t12_91 (by decide +kernel)
theorem t12_92 : decode (mb 12) 92 = .ok (.goto 4, 3) := by decide +kernel
theorem s12_92 (d : Nat) (l0 : Value) (l1 : Value) (l2 : Value) (l3 : Value) (l4 : Value) (l5 : Value) (l6 : Value) (l7 : Value) (l8 : Value) (w0 w1 : Value) (σ : Hs) : ru d 12 92 [l0, l1, l2, l3, l4, l5, l6, l7, l8] [w0, w1] σ = ru d 12 96 [l0, l1, l2, l3, l4, l5, l6, l7, l8] [w0, w1] σ := q_goto t12_92 (by decide +kernel)
theorem t12_95 : decode (mb 12) 95 = .ok (.iconst 0, 1) := by decide +kernel
theorem s12_95 (d : Nat) (l0 : Value) (l1 : Value) (l2 : Value) (l3 : Value) (l4 : Value) (l5 : Value) (l6 : Value) (l7 : Value) (l8 : Value) (w0 : Value) (σ : Hs) : ru d 12 95 [l0, l1, l2, l3, l4, l5, l6, l7, l8] [w0] σ = ru d 12 96 [l0, l1, l2, l3, l4, l5, l6, l7, l8] [.int 0, w0] σ := q_iconst t12_95 (by decide +kernel)
theorem t12_96 : decode (mb 12) 96 = .ok (.iadd, 1) := by decide +kernel
theorem s12_96 (d : Nat) (l0 : Value) (l1 : Value) (l2 : Value) (l3 : Value) (l4 : Value) (l5 : Value) (l6 : Value) (l7 : Value) (l8 : Value) (x y : Int32) (σ : Hs) : ru d 12 96 [l0, l1, l2, l3, l4, l5, l6, l7, l8] [.int y, .int x] σ = ru d 12 97 [l0, l1, l2, l3, l4, l5, l6, l7, l8] [.int (x + y)] σ := q_iadd t12_96
theorem t12_97 : decode (mb 12) 97 = .ok (.iload 5, 2) := by decide +kernel
theorem s12_97 (d : Nat) (l0 : Value) (l1 : Value) (l2 : Value) (l3 : Value) (l4 : Value) (i5 : Int32) (l6 : Value) (l7 : Value) (l8 : Value) (w0 : Value) (σ : Hs) : ru d 12 97 [l0, l1, l2, l3, l4, .int i5, l6, l7, l8] [w0] σ = ru d 12 99 [l0, l1, l2, l3, l4, .int i5, l6, l7, l8] [.int i5, w0] σ := q_iload t12_97 rfl
theorem t12_99 : decode (mb 12) 99 = .ok (.ifCond .eq 7, 3) := by decide +kernel
theorem s12_99 (d : Nat) (l0 : Value) (l1 : Value) (l2 : Value) (l3 : Value) (l4 : Value) (l5 : Value) (l6 : Value) (l7 : Value) (l8 : Value) (x : Int32) (w0 : Value) (σ : Hs) : ru d 12 99 [l0, l1, l2, l3, l4, l5, l6, l7, l8] [.int x, w0] σ = if x = 0 then ru d 12 106 [l0, l1, l2, l3, l4, l5, l6, l7, l8] [w0] σ else ru d 12 102 [l0, l1, l2, l3, l4, l5, l6, l7, l8] [w0] σ := q_if_eq t12_99 (by decide +kernel)
theorem t12_102 : decode (mb 12) 102 = .ok (.iconst 1, 1) := by decide +kernel
theorem s12_102 (d : Nat) (l0 : Value) (l1 : Value) (l2 : Value) (l3 : Value) (l4 : Value) (l5 : Value) (l6 : Value) (l7 : Value) (l8 : Value) (w0 : Value) (σ : Hs) : ru d 12 102 [l0, l1, l2, l3, l4, l5, l6, l7, l8] [w0] σ = ru d 12 103 [l0, l1, l2, l3, l4, l5, l6, l7, l8] [.int 1, w0] σ := q_iconst t12_102 (by decide +kernel)
theorem t12_103 : decode (mb 12) 103 = .ok (.goto 4, 3) := by decide +kernel
theorem s12_103 (d : Nat) (l0 : Value) (l1 : Value) (l2 : Value) (l3 : Value) (l4 : Value) (l5 : Value) (l6 : Value) (l7 : Value) (l8 : Value) (w0 w1 : Value) (σ : Hs) : ru d 12 103 [l0, l1, l2, l3, l4, l5, l6, l7, l8] [w0, w1] σ = ru d 12 107 [l0, l1, l2, l3, l4, l5, l6, l7, l8] [w0, w1] σ := q_goto t12_103 (by decide +kernel)
theorem t12_106 : decode (mb 12) 106 = .ok (.iconst 0, 1) := by decide +kernel
theorem s12_106 (d : Nat) (l0 : Value) (l1 : Value) (l2 : Value) (l3 : Value) (l4 : Value) (l5 : Value) (l6 : Value) (l7 : Value) (l8 : Value) (w0 : Value) (σ : Hs) : ru d 12 106 [l0, l1, l2, l3, l4, l5, l6, l7, l8] [w0] σ = ru d 12 107 [l0, l1, l2, l3, l4, l5, l6, l7, l8] [.int 0, w0] σ := q_iconst t12_106 (by decide +kernel)
theorem t12_107 : decode (mb 12) 107 = .ok (.iadd, 1) := by decide +kernel
theorem s12_107 (d : Nat) (l0 : Value) (l1 : Value) (l2 : Value) (l3 : Value) (l4 : Value) (l5 : Value) (l6 : Value) (l7 : Value) (l8 : Value) (x y : Int32) (σ : Hs) : ru d 12 107 [l0, l1, l2, l3, l4, l5, l6, l7, l8] [.int y, .int x] σ = ru d 12 108 [l0, l1, l2, l3, l4, l5, l6, l7, l8] [.int (x + y)] σ := q_iadd t12_107
theorem t12_108 : decode (mb 12) 108 = .ok (.istore 6, 2) := by decide +kernel
theorem s12_108 (d : Nat) (l0 : Value) (l1 : Value) (l2 : Value) (l3 : Value) (l4 : Value) (i5 : Int32) (l6 : Value) (l7 : Value) (l8 : Value) (x : Int32) (σ : Hs) : ru d 12 108 [l0, l1, l2, l3, l4, .int i5, l6, l7, l8] [.int x] σ = ru d 12 110 [l0, l1, l2, l3, l4, .int i5, .int x, l7, l8] [] σ := q_istore t12_108 ⟨Nat.le_of_ble_eq_true rfl, rfl⟩ rfl
theorem t12_110 : decode (mb 12) 110 = .ok (.aload_n 0, 1) := by decide +kernel
theorem s12_110 (d : Nat) (a0 : Nat) (l1 : Value) (l2 : Value) (l3 : Value) (l4 : Value) (l5 : Value) (l6 : Value) (l7 : Value) (l8 : Value) (σ : Hs) : ru d 12 110 [.ref a0, l1, l2, l3, l4, l5, l6, l7, l8] [] σ = ru d 12 111 [.ref a0, l1, l2, l3, l4, l5, l6, l7, l8] [.ref a0] σ := q_aload_n t12_110 rfl
theorem t12_111 : decode (mb 12) 111 = .ok (.getfield 31, 3) := by decide +kernel
theorem s12_111_o2 (d : Nat) (l0 : Value) (l1 : Value) (l2 : Value) (l3 : Value) (l4 : Value) (l5 : Value) (l6 : Value) (l7 : Value) (l8 : Value) (σ : Hs) : ru d 12 111 [l0, l1, l2, l3, l4, l5, l6, l7, l8] [.ref 2] σ = ru d 12 114 [l0, l1, l2, l3, l4, l5, l6, l7, l8] [.ref 9] σ := q_getf t12_111 mo12 F0_31 rfl rfl
theorem s12_111_o59 (d : Nat) (l0 : Value) (l1 : Value) (l2 : Value) (l3 : Value) (l4 : Value) (l5 : Value) (l6 : Value) (l7 : Value) (l8 : Value) (σ : Hs) : ru d 12 111 [l0, l1, l2, l3, l4, l5, l6, l7, l8] [.ref 59] σ = ru d 12 114 [l0, l1, l2, l3, l4, l5, l6, l7, l8] [.ref 66] σ := q_getf t12_111 mo12 F0_31 rfl rfl
theorem t12_114 : decode (mb 12) 114 = .ok (.iconst 2, 1) := by decide +kernel
theorem s12_114 (d : Nat) (l0 : Value) (l1 : Value) (l2 : Value) (l3 : Value) (l4 : Value) (l5 : Value) (l6 : Value) (l7 : Value) (l8 : Value) (w0 : Value) (σ : Hs) : ru d 12 114 [l0, l1, l2, l3, l4, l5, l6, l7, l8] [w0] σ = ru d 12 115 [l0, l1, l2, l3, l4, l5, l6, l7, l8] [.int 2, w0] σ := q_iconst t12_114 (by decide +kernel)
theorem t12_115 : decode (mb 12) 115 = .ok (.iaload, 1) := by decide +kernel
theorem s12_115_o9 (d : Nat) (l0 : Value) (l1 : Value) (l2 : Value) (l3 : Value) (l4 : Value) (l5 : Value) (l6 : Value) (l7 : Value) (l8 : Value) (i : Int32) (σ : Hs) : ru d 12 115 [l0, l1, l2, l3, l4, l5, l6, l7, l8] [.int i, .ref 9] σ = gd (vp_in i 5) (ru d 12 116 [l0, l1, l2, l3, l4, l5, l6, l7, l8] [.int (σ 9 i.toNatClampNeg)] σ) := q_iald t12_115 rfl (by decide +kernel) rfl
theorem s12_115_o66 (d : Nat) (l0 : Value) (l1 : Value) (l2 : Value) (l3 : Value) (l4 : Value) (l5 : Value) (l6 : Value) (l7 : Value) (l8 : Value) (i : Int32) (σ : Hs) : ru d 12 115 [l0, l1, l2, l3, l4, l5, l6, l7, l8] [.int i, .ref 66] σ = gd (vp_in i 5) (ru d 12 116 [l0, l1, l2, l3, l4, l5, l6, l7, l8] [.int (σ 66 i.toNatClampNeg)] σ) := q_iald t12_115 rfl (by decide +kernel) rfl
theorem t12_116 : decode (mb 12) 116 = .ok (.istore 7, 2) := by decide +kernel
theorem s12_116 (d : Nat) (l0 : Value) (l1 : Value) (l2 : Value) (l3 : Value) (l4 : Value) (l5 : Value) (i6 : Int32) (l7 : Value) (l8 : Value) (x : Int32) (σ : Hs) : ru d 12 116 [l0, l1, l2, l3, l4, l5, .int i6, l7, l8] [.int x] σ = ru d 12 118 [l0, l1, l2, l3, l4, l5, .int i6, .int x, l8] [] σ := q_istore t12_116 ⟨Nat.le_of_ble_eq_true rfl, rfl⟩ rfl
theorem t12_118 : decode (mb 12) 118 = .ok (.iload 7, 2) := by decide +kernel
theorem s12_118 (d : Nat) (l0 : Value) (l1 : Value) (l2 : Value) (l3 : Value) (l4 : Value) (l5 : Value) (l6 : Value) (i7 : Int32) (l8 : Value) (σ : Hs) : ru d 12 118 [l0, l1, l2, l3, l4, l5, l6, .int i7, l8] [] σ = ru d 12 120 [l0, l1, l2, l3, l4, l5, l6, .int i7, l8] [.int i7] σ := q_iload t12_118 rfl
theorem t12_120 : decode (mb 12) 120 = .ok (.ifCond .ne 7, 3) := by decide +kernel
theorem s12_120 (d : Nat) (l0 : Value) (l1 : Value) (l2 : Value) (l3 : Value) (l4 : Value) (l5 : Value) (l6 : Value) (l7 : Value) (l8 : Value) (x : Int32) (σ : Hs) : ru d 12 120 [l0, l1, l2, l3, l4, l5, l6, l7, l8] [.int x] σ = if x = 0 then ru d 12 123 [l0, l1, l2, l3, l4, l5, l6, l7, l8] [] σ else ru d 12 127 [l0, l1, l2, l3, l4, l5, l6, l7, l8] [] σ := q_if_ne t12_120 (by decide +kernel)
theorem t12_123 : decode (mb 12) 123 = .ok (.iload_n 3, 1) := by decide +kernel
theorem s12_123 (d : Nat) (l0 : Value) (l1 : Value) (l2 : Value) (i3 : Int32) (l4 : Value) (l5 : Value) (l6 : Value) (l7 : Value) (l8 : Value) (σ : Hs) : ru d 12 123 [l0, l1, l2, .int i3, l4, l5, l6, l7, l8] [] σ = ru d 12 124 [l0, l1, l2, .int i3, l4, l5, l6, l7, l8] [.int i3] σ := q_iload_n t12_123 rfl
theorem t12_124 : decode (mb 12) 124 = .ok (.goto 16, 3) := by decide +kernel
theorem s12_124 (d : Nat) (l0 : Value) (l1 : Value) (l2 : Value) (l3 : Value) (l4 : Value) (l5 : Value) (l6 : Value) (l7 : Value) (l8 : Value) (w0 : Value) (σ : Hs) : ru d 12 124 [l0, l1, l2, l3, l4, l5, l6, l7, l8] [w0] σ = ru d 12 140 [l0, l1, l2, l3, l4, l5, l6, l7, l8] [w0] σ := q_goto t12_124 (by decide +kernel)
theorem t12_127 : decode (mb 12) 127 = .ok (.iload 7, 2) := by decide +kernel
theorem s12_127 (d : Nat) (l0 : Value) (l1 : Value) (l2 : Value) (l3 : Value) (l4 : Value) (l5 : Value) (l6 : Value) (i7 : Int32) (l8 : Value) (σ : Hs) : ru d 12 127 [l0, l1, l2, l3, l4, l5, l6, .int i7, l8] [] σ = ru d 12 129 [l0, l1, l2, l3, l4, l5, l6, .int i7, l8] [.int i7] σ := q_iload t12_127 rfl
theorem t12_129 : decode (mb 12) 129 = .ok (.iconst 2, 1) := by decide +kernel
theorem s12_129 (d : Nat) (l0 : Value) (l1 : Value) (l2 : Value) (l3 : Value) (l4 : Value) (l5 : Value) (l6 : Value) (l7 : Value) (l8 : Value) (w0 : Value) (σ : Hs) : ru d 12 129 [l0, l1, l2, l3, l4, l5, l6, l7, l8] [w0] σ = ru d 12 130 [l0, l1, l2, l3, l4, l5, l6, l7, l8] [.int 2, w0] σ := q_iconst t12_129 (by decide +kernel)
theorem t12_130 : decode (mb 12) 130 = .ok (.if_icmp .ne 8, 3) := by decide +kernel
theorem s12_130 (d : Nat) (l0 : Value) (l1 : Value) (l2 : Value) (l3 : Value) (l4 : Value) (l5 : Value) (l6 : Value) (l7 : Value) (l8 : Value) (x y : Int32) (σ : Hs) : ru d 12 130 [l0, l1, l2, l3, l4, l5, l6, l7, l8] [.int y, .int x] σ = if x = y then ru d 12 133 [l0, l1, l2, l3, l4, l5, l6, l7, l8] [] σ else ru d 12 138 [l0, l1, l2, l3, l4, l5, l6, l7, l8] [] σ := q_ic_ne t12_130 (by decide +kernel)
theorem t12_133 : decode (mb 12) 133 = .ok (.iload 4, 2) := by decide +kernel
theorem s12_133 (d : Nat) (l0 : Value) (l1 : Value) (l2 : Value) (l3 : Value) (i4 : Int32) (l5 : Value) (l6 : Value) (l7 : Value) (l8 : Value) (σ : Hs) : ru d 12 133 [l0, l1, l2, l3, .int i4, l5, l6, l7, l8] [] σ = ru d 12 135 [l0, l1, l2, l3, .int i4, l5, l6, l7, l8] [.int i4] σ := q_iload t12_133 rfl
theorem t12_135 : decode (mb 12) 135 = .ok (.goto 5, 3) := by decide +kernel
theorem s12_135 (d : Nat) (l0 : Value) (l1 : Value) (l2 : Value) (l3 : Value) (l4 : Value) (l5 : Value) (l6 : Value) (l7 : Value) (l8 : Value) (w0 : Value) (σ : Hs) : ru d 12 135 [l0, l1, l2, l3, l4, l5, l6, l7, l8] [w0] σ = ru d 12 140 [l0, l1, l2, l3, l4, l5, l6, l7, l8] [w0] σ := q_goto t12_135 (by decide +kernel)
theorem t12_138 : decode (mb 12) 138 = .ok (.iload 5, 2) := by decide +kernel
theorem s12_138 (d : Nat) (l0 : Value) (l1 : Value) (l2 : Value) (l3 : Value) (l4 : Value) (i5 : Int32) (l6 : Value) (l7 : Value) (l8 : Value) (σ : Hs) : ru d 12 138 [l0, l1, l2, l3, l4, .int i5, l6, l7, l8] [] σ = ru d 12 140 [l0, l1, l2, l3, l4, .int i5, l6, l7, l8] [.int i5] σ := q_iload t12_138 rfl
theorem t12_140 : decode (mb 12) 140 = .ok (.istore 8, 2) := by decide +kernel
theorem s12_140 (d : Nat) (l0 : Value) (l1 : Value) (l2 : Value) (l3 : Value) (l4 : Value) (l5 : Value) (l6 : Value) (i7 : Int32) (l8 : Value) (x : Int32) (σ : Hs) : ru d 12 140 [l0, l1, l2, l3, l4, l5, l6, .int i7, l8] [.int x] σ = ru d 12 142 [l0, l1, l2, l3, l4, l5, l6, .int i7, .int x] [] σ := q_istore t12_140 ⟨Nat.le_of_ble_eq_true rfl, rfl⟩ rfl
theorem t12_142 : decode (mb 12) 142 = .ok (.iload 6, 2) := by decide +kernel
theorem s12_142 (d : Nat) (l0 : Value) (l1 : Value) (l2 : Value) (l3 : Value) (l4 : Value) (l5 : Value) (i6 : Int32) (l7 : Value) (l8 : Value) (σ : Hs) : ru d 12 142 [l0, l1, l2, l3, l4, l5, .int i6, l7, l8] [] σ = ru d 12 144 [l0, l1, l2, l3, l4, l5, .int i6, l7, l8] [.int i6] σ := q_iload t12_142 rfl
theorem t12_144 : decode (mb 12) 144 = .ok (.aload_n 0, 1) := by decide +kernel
theorem s12_144 (d : Nat) (a0 : Nat) (l1 : Value) (l2 : Value) (l3 : Value) (l4 : Value) (l5 : Value) (l6 : Value) (l7 : Value) (l8 : Value) (w0 : Value) (σ : Hs) : ru d 12 144 [.ref a0, l1, l2, l3, l4, l5, l6, l7, l8] [w0] σ = ru d 12 145 [.ref a0, l1, l2, l3, l4, l5, l6, l7, l8] [.ref a0, w0] σ := q_aload_n t12_144 rfl
theorem t12_145 : decode (mb 12) 145 = .ok (.getfield 21, 3) := by decide +kernel
theorem s12_145_o2 (d : Nat) (l0 : Value) (l1 : Value) (l2 : Value) (l3 : Value) (l4 : Value) (l5 : Value) (l6 : Value) (l7 : Value) (l8 : Value) (w0 : Value) (σ : Hs) : ru d 12 145 [l0, l1, l2, l3, l4, l5, l6, l7, l8] [.ref 2, w0] σ = ru d 12 148 [l0, l1, l2, l3, l4, l5, l6, l7, l8] [.ref 6, w0] σ := q_getf t12_145 mo12 F0_21 rfl rfl
theorem s12_145_o59 (d : Nat) (l0 : Value) (l1 : Value) (l2 : Value) (l3 : Value) (l4 : Value) (l5 : Value) (l6 : Value) (l7 : Value) (l8 : Value) (w0 : Value) (σ : Hs) : ru d 12 145 [l0, l1, l2, l3, l4, l5, l6, l7, l8] [.ref 59, w0] σ = ru d 12 148 [l0, l1, l2, l3, l4, l5, l6, l7, l8] [.ref 63, w0] σ := q_getf t12_145 mo12 F0_21 rfl rfl
theorem t12_148 : decode (mb 12) 148 = .ok (.iload_n 1, 1) := by decide +kernel
theorem s12_148 (d : Nat) (l0 : Value) (i1 : Int32) (l2 : Value) (l3 : Value) (l4 : Value) (l5 : Value) (l6 : Value) (l7 : Value) (l8 : Value) (w0 w1 : Value) (σ : Hs) : ru d 12 148 [l0, .int i1, l2, l3, l4, l5, l6, l7, l8] [w0, w1] σ = ru d 12 149 [l0, .int i1, l2, l3, l4, l5, l6, l7, l8] [.int i1, w0, w1] σ := q_iload_n t12_148 rfl
theorem t12_149 : decode (mb 12) 149 = .ok (.iaload, 1) := by decide +kernel
theorem s12_149_o6 (d : Nat) (l0 : Value) (l1 : Value) (l2 : Value) (l3 : Value) (l4 : Value) (l5 : Value) (l6 : Value) (l7 : Value) (l8 : Value) (i : Int32) (w0 : Value) (σ : Hs) : ru d 12 149 [l0, l1, l2, l3, l4, l5, l6, l7, l8] [.int i, .ref 6, w0] σ = gd (vp_in i 30) (ru d 12 150 [l0, l1, l2, l3, l4, l5, l6, l7, l8] [.int (σ 6 i.toNatClampNeg), w0] σ) := q_iald t12_149 rfl (by decide +kernel) rfl
theorem s12_149_o63 (d : Nat) (l0 : Value) (l1 : Value) (l2 : Value) (l3 : Value) (l4 : Value) (l5 : Value) (l6 : Value) (l7 : Value) (l8 : Value) (i : Int32) (w0 : Value) (σ : Hs) : ru d 12 149 [l0, l1, l2, l3, l4, l5, l6, l7, l8] [.int i, .ref 63, w0] σ = gd (vp_in i 30) (ru d 12 150 [l0, l1, l2, l3, l4, l5, l6, l7, l8] [.int (σ 63 i.toNatClampNeg), w0] σ) := q_iald t12_149 rfl (by decide +kernel) rfl
theorem t12_150 : decode (mb 12) 150 = .ok (.imul, 1) := by decide +kernel
theorem s12_150 (d : Nat) (l0 : Value) (l1 : Value) (l2 : Value) (l3 : Value) (l4 : Value) (l5 : Value) (l6 : Value) (l7 : Value) (l8 : Value) (x y : Int32) (σ : Hs) : ru d 12 150 [l0, l1, l2, l3, l4, l5, l6, l7, l8] [.int y, .int x] σ = ru d 12 151 [l0, l1, l2, l3, l4, l5, l6, l7, l8] [.int (x * y)] σ := q_imul t12_150
theorem t12_151 : decode (mb 12) 151 = .ok (.iload 8, 2) := by decide +kernel
theorem s12_151 (d : Nat) (l0 : Value) (l1 : Value) (l2 : Value) (l3 : Value) (l4 : Value) (l5 : Value) (l6 : Value) (l7 : Value) (i8 : Int32) (w0 : Value) (σ : Hs) : ru d 12 151 [l0, l1, l2, l3, l4, l5, l6, l7, .int i8] [w0] σ = ru d 12 153 [l0, l1, l2, l3, l4, l5, l6, l7, .int i8] [.int i8, w0] σ := q_iload t12_151 rfl
theorem t12_153 : decode (mb 12) 153 = .ok (.ifCond .eq 12, 3) := by decide +kernel
theorem s12_153 (d : Nat) (l0 : Value) (l1 : Value) (l2 : Value) (l3 : Value) (l4 : Value) (l5 : Value) (l6 : Value) (l7 : Value) (l8 : Value) (x : Int32) (w0 : Value) (σ : Hs) : ru d 12 153 [l0, l1, l2, l3, l4, l5, l6, l7, l8] [.int x, w0] σ = if x = 0 then ru d 12 165 [l0, l1, l2, l3, l4, l5, l6, l7, l8] [w0] σ else ru d 12 156 [l0, l1, l2, l3, l4, l5, l6, l7, l8] [w0] σ := q_if_eq t12_153 (by decide +kernel)
theorem t12_156 : decode (mb 12) 156 = .ok (.aload_n 0, 1) := by decide +kernel
theorem s12_156 (d : Nat) (a0 : Nat) (l1 : Value) (l2 : Value) (l3 : Value) (l4 : Value) (l5 : Value) (l6 : Value) (l7 : Value) (l8 : Value) (w0 : Value) (σ : Hs) : ru d 12 156 [.ref a0, l1, l2, l3, l4, l5, l6, l7, l8] [w0] σ = ru d 12 157 [.ref a0, l1, l2, l3, l4, l5, l6, l7, l8] [.ref a0, w0] σ := q_aload_n t12_156 rfl
theorem t12_157 : decode (mb 12) 157 = .ok (.getfield 31, 3) := by decide +kernel
theorem s12_157_o2 (d : Nat) (l0 : Value) (l1 : Value) (l2 : Value) (l3 : Value) (l4 : Value) (l5 : Value) (l6 : Value) (l7 : Value) (l8 : Value) (w0 : Value) (σ : Hs) : ru d 12 157 [l0, l1, l2, l3, l4, l5, l6, l7, l8] [.ref 2, w0] σ = ru d 12 160 [l0, l1, l2, l3, l4, l5, l6, l7, l8] [.ref 9, w0] σ := q_getf t12_157 mo12 F0_31 rfl rfl
theorem s12_157_o59 (d : Nat) (l0 : Value) (l1 : Value) (l2 : Value) (l3 : Value) (l4 : Value) (l5 : Value) (l6 : Value) (l7 : Value) (l8 : Value) (w0 : Value) (σ : Hs) : ru d 12 157 [l0, l1, l2, l3, l4, l5, l6, l7, l8] [.ref 59, w0] σ = ru d 12 160 [l0, l1, l2, l3, l4, l5, l6, l7, l8] [.ref 66, w0] σ := q_getf t12_157 mo12 F0_31 rfl rfl
theorem t12_160 : decode (mb 12) 160 = .ok (.iconst 1, 1) := by decide +kernel
theorem s12_160 (d : Nat) (l0 : Value) (l1 : Value) (l2 : Value) (l3 : Value) (l4 : Value) (l5 : Value) (l6 : Value) (l7 : Value) (l8 : Value) (w0 w1 : Value) (σ : Hs) : ru d 12 160 [l0, l1, l2, l3, l4, l5, l6, l7, l8] [w0, w1] σ = ru d 12 161 [l0, l1, l2, l3, l4, l5, l6, l7, l8] [.int 1, w0, w1] σ := q_iconst t12_160 (by decide +kernel)
theorem t12_161 : decode (mb 12) 161 = .ok (.iaload, 1) := by decide +kernel
theorem s12_161_o9 (d : Nat) (l0 : Value) (l1 : Value) (l2 : Value) (l3 : Value) (l4 : Value) (l5 : Value) (l6 : Value) (l7 : Value) (l8 : Value) (i : Int32) (w0 : Value) (σ : Hs) : ru d 12 161 [l0, l1, l2, l3, l4, l5, l6, l7, l8] [.int i, .ref 9, w0] σ = gd (vp_in i 5) (ru d 12 162 [l0, l1, l2, l3, l4, l5, l6, l7, l8] [.int (σ 9 i.toNatClampNeg), w0] σ) := q_iald t12_161 rfl (by decide +kernel) rfl
theorem s12_161_o66 (d : Nat) (l0 : Value) (l1 : Value) (l2 : Value) (l3 : Value) (l4 : Value) (l5 : Value) (l6 : Value) (l7 : Value) (l8 : Value) (i : Int32) (w0 : Value) (σ : Hs) : ru d 12 161 [l0, l1, l2, l3, l4, l5, l6, l7, l8] [.int i, .ref 66, w0] σ = gd (vp_in i 5) (ru d 12 162 [l0, l1, l2, l3, l4, l5, l6, l7, l8] [.int (σ 66 i.toNatClampNeg), w0] σ) := q_iald t12_161 rfl (by decide +kernel) rfl
theorem t12_162 : decode (mb 12) 162 = .ok (.goto 4, 3) := by decide +kernel
theorem s12_162 (d : Nat) (l0 : Value) (l1 : Value) (l2 : Value) (l3 : Value) (l4 : Value) (l5 : Value) (l6 : Value) (l7 : Value) (l8 : Value) (w0 w1 : Value) (σ : Hs) : ru d 12 162 [l0, l1, l2, l3, l4, l5, l6, l7, l8] [w0, w1] σ = ru d 12 166 [l0, l1, l2, l3, l4, l5, l6, l7, l8] [w0, w1] σ := q_goto t12_162 (by decide +kernel)
theorem t12_165 : decode (mb 12) 165 = .ok (.iconst 0, 1) := by decide +kernel
theorem s12_165 (d : Nat) (l0 : Value) (l1 : Value) (l2 : Value) (l3 : Value) (l4 : Value) (l5 : Value) (l6 : Value) (l7 : Value) (l8 : Value) (w0 : Value) (σ : Hs) : ru d 12 165 [l0, l1, l2, l3, l4, l5, l6, l7, l8] [w0] σ = ru d 12 166 [l0, l1, l2, l3, l4, l5, l6, l7, l8] [.int 0, w0] σ := q_iconst t12_165 (by decide +kernel)
theorem t12_166 : decode (mb 12) 166 = .ok (.iadd, 1) := by decide +kernel
theorem s12_166 (d : Nat) (l0 : Value) (l1 : Value) (l2 : Value) (l3 : Value) (l4 : Value) (l5 : Value) (l6 : Value) (l7 : Value) (l8 : Value) (x y : Int32) (σ : Hs) : ru d 12 166 [l0, l1, l2, l3, l4, l5, l6, l7, l8] [.int y, .int x] σ = ru d 12 167 [l0, l1, l2, l3, l4, l5, l6, l7, l8] [.int (x + y)] σ := q_iadd t12_166
theorem t12_167 : decode (mb 12) 167 = .ok (.ireturn, 1) := by decide +kernel
theorem s12_167 (d : Nat) (l0 : Value) (l1 : Value) (l2 : Value) (l3 : Value) (l4 : Value) (l5 : Value) (l6 : Value) (l7 : Value) (l8 : Value) (x : Int32) (σ : Hs) : ru d 12 167 [l0, l1, l2, l3, l4, l5, l6, l7, l8] [.int x] σ = some (some (.int x), σ) := q_ireti t12_167 mr12
theorem c12 (d : Nat) (x0 : Nat) (x1 : Int32) (σ : Hs) : callD (d + 1) 12 [.ref x0, .int x1] σ = ru d 12 0 [.ref x0, .int x1, uu, uu, uu, uu, uu, uu, uu] [] σ := callD_ru ml12 rfl rfl (Nat.le_of_ble_eq_true rfl)
-- 13: Heap.pass(ILSmokyHeap$Laws;)V
theorem t13_0 : decode (mb 13) 0 = .ok (.iconst 0, 1) := by decide +kernel
theorem s13_0 (d : Nat) (l0 : Value) (l1 : Value) (l2 : Value) (l3 : Value) (l4 : Value) (σ : Hs) : ru d 13 0 [l0, l1, l2, l3, l4] [] σ = ru d 13 1 [l0, l1, l2, l3, l4] [.int 0] σ := q_iconst t13_0 (by decide +kernel)
theorem t13_1 : decode (mb 13) 1 = .ok (.istore_n 3, 1) := by decide +kernel
theorem s13_1 (d : Nat) (l0 : Value) (l1 : Value) (a2 : Nat) (l3 : Value) (l4 : Value) (x : Int32) (σ : Hs) : ru d 13 1 [l0, l1, .ref a2, l3, l4] [.int x] σ = ru d 13 2 [l0, l1, .ref a2, .int x, l4] [] σ := q_istore_n t13_1 ⟨Nat.le_of_ble_eq_true rfl, rfl⟩ rfl
theorem t13_2 : decode (mb 13) 2 = .ok (.iload_n 3, 1) := by decide +kernel
theorem s13_2 (d : Nat) (l0 : Value) (l1 : Value) (l2 : Value) (i3 : Int32) (l4 : Value) (σ : Hs) : ru d 13 2 [l0, l1, l2, .int i3, l4] [] σ = ru d 13 3 [l0, l1, l2, .int i3, l4] [.int i3] σ := q_iload_n t13_2 rfl
theorem t13_3 : decode (mb 13) 3 = .ok (.iload_n 1, 1) := by decide +kernel
theorem s13_3 (d : Nat) (l0 : Value) (i1 : Int32) (l2 : Value) (l3 : Value) (l4 : Value) (w0 : Value) (σ : Hs) : ru d 13 3 [l0, .int i1, l2, l3, l4] [w0] σ = ru d 13 4 [l0, .int i1, l2, l3, l4] [.int i1, w0] σ := q_iload_n t13_3 rfl
theorem t13_4 : decode (mb 13) 4 = .ok (.if_icmp .ge 67, 3) := by decide +kernel
theorem s13_4 (d : Nat) (l0 : Value) (l1 : Value) (l2 : Value) (l3 : Value) (l4 : Value) (x y : Int32) (σ : Hs) : ru d 13 4 [l0, l1, l2, l3, l4] [.int y, .int x] σ = if y ≤ x then ru d 13 71 [l0, l1, l2, l3, l4] [] σ else ru d 13 7 [l0, l1, l2, l3, l4] [] σ := q_ic_ge t13_4 (by decide +kernel)
theorem t13_7 : decode (mb 13) 7 = .ok (.aload_n 0, 1) := by decide +kernel
theorem s13_7 (d : Nat) (a0 : Nat) (l1 : Value) (l2 : Value) (l3 : Value) (l4 : Value) (σ : Hs) : ru d 13 7 [.ref a0, l1, l2, l3, l4] [] σ = ru d 13 8 [.ref a0, l1, l2, l3, l4] [.ref a0] σ := q_aload_n t13_7 rfl
theorem t13_8 : decode (mb 13) 8 = .ok (.aload_n 2, 1) := by decide +kernel
theorem s13_8 (d : Nat) (l0 : Value) (l1 : Value) (a2 : Nat) (l3 : Value) (l4 : Value) (w0 : Value) (σ : Hs) : ru d 13 8 [l0, l1, .ref a2, l3, l4] [w0] σ = ru d 13 9 [l0, l1, .ref a2, l3, l4] [.ref a2, w0] σ := q_aload_n t13_8 rfl
theorem t13_9 : decode (mb 13) 9 = .ok (.invokevirtual 90, 3) := by decide +kernel
theorem s13_9_o2 (d : Nat) (l0 : Value) (l1 : Value) (l2 : Value) (l3 : Value) (l4 : Value) (v1 : Value) (σ : Hs) : ru d 13 9 [l0, l1, l2, l3, l4] [v1, .ref 2] σ = kont (callD d 14 [.ref 2, v1] σ) d 13 12 [l0, l1, l2, l3, l4] [] := q_invv t13_9 mo13 K0_90 mj14 rfl rfl rfl rfl (Nat.le_of_ble_eq_true rfl)
theorem s13_9_o59 (d : Nat) (l0 : Value) (l1 : Value) (l2 : Value) (l3 : Value) (l4 : Value) (v1 : Value) (σ : Hs) : ru d 13 9 [l0, l1, l2, l3, l4] [v1, .ref 59] σ = kont (callD d 14 [.ref 59, v1] σ) d 13 12 [l0, l1, l2, l3, l4] [] := q_invv t13_9 mo13 K0_90 mj14 rfl rfl rfl rfl (Nat.le_of_ble_eq_true rfl)
theorem t13_12 : decode (mb 13) 12 = .ok (.istore 4, 2) := by decide +kernel
theorem s13_12 (d : Nat) (l0 : Value) (l1 : Value) (l2 : Value) (i3 : Int32) (l4 : Value) (x : Int32) (σ : Hs) : ru d 13 12 [l0, l1, l2, .int i3, l4] [.int x] σ = ru d 13 14 [l0, l1, l2, .int i3, .int x] [] σ := q_istore t13_12 ⟨Nat.le_of_ble_eq_true rfl, rfl⟩ rfl
theorem t13_14 : decode (mb 13) 14 = .ok (.aload_n 0, 1) := by decide +kernel
theorem s13_14 (d : Nat) (a0 : Nat) (l1 : Value) (l2 : Value) (l3 : Value) (l4 : Value) (σ : Hs) : ru d 13 14 [.ref a0, l1, l2, l3, l4] [] σ = ru d 13 15 [.ref a0, l1, l2, l3, l4] [.ref a0] σ := q_aload_n t13_14 rfl
theorem t13_15 : decode (mb 13) 15 = .ok (.iload 4, 2) := by decide +kernel
theorem s13_15 (d : Nat) (l0 : Value) (l1 : Value) (l2 : Value) (l3 : Value) (i4 : Int32) (w0 : Value) (σ : Hs) : ru d 13 15 [l0, l1, l2, l3, .int i4] [w0] σ = ru d 13 17 [l0, l1, l2, l3, .int i4] [.int i4, w0] σ := q_iload t13_15 rfl
theorem t13_17 : decode (mb 13) 17 = .ok (.aload_n 2, 1) := by decide +kernel
theorem s13_17 (d : Nat) (l0 : Value) (l1 : Value) (a2 : Nat) (l3 : Value) (l4 : Value) (w0 w1 : Value) (σ : Hs) : ru d 13 17 [l0, l1, .ref a2, l3, l4] [w0, w1] σ = ru d 13 18 [l0, l1, .ref a2, l3, l4] [.ref a2, w0, w1] σ := q_aload_n t13_17 rfl
theorem t13_18 : decode (mb 13) 18 = .ok (.invokevirtual 94, 3) := by decide +kernel
theorem s13_18_o2 (d : Nat) (l0 : Value) (l1 : Value) (l2 : Value) (l3 : Value) (l4 : Value) (v1 v2 : Value) (σ : Hs) : ru d 13 18 [l0, l1, l2, l3, l4] [v2, v1, .ref 2] σ = kont (callD d 20 [.ref 2, v1, v2] σ) d 13 21 [l0, l1, l2, l3, l4] [] := q_invv t13_18 mo13 K0_94 mj20 rfl rfl rfl rfl (Nat.le_of_ble_eq_true rfl)
theorem s13_18_o59 (d : Nat) (l0 : Value) (l1 : Value) (l2 : Value) (l3 : Value) (l4 : Value) (v1 v2 : Value) (σ : Hs) : ru d 13 18 [l0, l1, l2, l3, l4] [v2, v1, .ref 59] σ = kont (callD d 20 [.ref 59, v1, v2] σ) d 13 21 [l0, l1, l2, l3, l4] [] := q_invv t13_18 mo13 K0_94 mj20 rfl rfl rfl rfl (Nat.le_of_ble_eq_true rfl)
theorem t13_21 : decode (mb 13) 21 = .ok (.aload_n 0, 1) := by decide +kernel
theorem s13_21 (d : Nat) (a0 : Nat) (l1 : Value) (l2 : Value) (l3 : Value) (l4 : Value) (σ : Hs) : ru d 13 21 [.ref a0, l1, l2, l3, l4] [] σ = ru d 13 22 [.ref a0, l1, l2, l3, l4] [.ref a0] σ := q_aload_n t13_21 rfl
theorem t13_22 : decode (mb 13) 22 = .ok (.aload_n 0, 1) := by decide +kernel
theorem s13_22 (d : Nat) (a0 : Nat) (l1 : Value) (l2 : Value) (l3 : Value) (l4 : Value) (w0 : Value) (σ : Hs) : ru d 13 22 [.ref a0, l1, l2, l3, l4] [w0] σ = ru d 13 23 [.ref a0, l1, l2, l3, l4] [.ref a0, w0] σ := q_aload_n t13_22 rfl
theorem t13_23 : decode (mb 13) 23 = .ok (.getfield 50, 3) := by decide +kernel
theorem s13_23_o2 (d : Nat) (l0 : Value) (l1 : Value) (l2 : Value) (l3 : Value) (l4 : Value) (w0 : Value) (σ : Hs) : ru d 13 23 [l0, l1, l2, l3, l4] [.ref 2, w0] σ = ru d 13 26 [l0, l1, l2, l3, l4] [.int (σ 2 12), w0] σ := q_getf t13_23 mo13 F0_50 rfl rfl
theorem s13_23_o59 (d : Nat) (l0 : Value) (l1 : Value) (l2 : Value) (l3 : Value) (l4 : Value) (w0 : Value) (σ : Hs) : ru d 13 23 [l0, l1, l2, l3, l4] [.ref 59, w0] σ = ru d 13 26 [l0, l1, l2, l3, l4] [.int (σ 59 12), w0] σ := q_getf t13_23 mo13 F0_50 rfl rfl
theorem t13_26 : decode (mb 13) 26 = .ok (.iload 4, 2) := by decide +kernel
theorem s13_26 (d : Nat) (l0 : Value) (l1 : Value) (l2 : Value) (l3 : Value) (i4 : Int32) (w0 w1 : Value) (σ : Hs) : ru d 13 26 [l0, l1, l2, l3, .int i4] [w0, w1] σ = ru d 13 28 [l0, l1, l2, l3, .int i4] [.int i4, w0, w1] σ := q_iload t13_26 rfl
theorem t13_28 : decode (mb 13) 28 = .ok (.iadd, 1) := by decide +kernel
theorem s13_28 (d : Nat) (l0 : Value) (l1 : Value) (l2 : Value) (l3 : Value) (l4 : Value) (x y : Int32) (w0 : Value) (σ : Hs) : ru d 13 28 [l0, l1, l2, l3, l4] [.int y, .int x, w0] σ = ru d 13 29 [l0, l1, l2, l3, l4] [.int (x + y), w0] σ := q_iadd t13_28
theorem t13_29 : decode (mb 13) 29 = .ok (.ldc 98, 2) := by decide +kernel
theorem s13_29 (d : Nat) (l0 : Value) (l1 : Value) (l2 : Value) (l3 : Value) (l4 : Value) (w0 w1 : Value) (σ : Hs) : ru d 13 29 [l0, l1, l2, l3, l4] [w0, w1] σ = ru d 13 31 [l0, l1, l2, l3, l4] [.int 1999999999, w0, w1] σ := q_ldc t13_29 mo13 C0_98
theorem t13_31 : decode (mb 13) 31 = .ok (.invokestatic 83, 3) := by decide +kernel
theorem s13_31 (d : Nat) (l0 : Value) (l1 : Value) (l2 : Value) (l3 : Value) (l4 : Value) (x y : Int32) (w0 : Nat) (σ : Hs) : ru d 13 31 [l0, l1, l2, l3, l4] [.int y, .int x, .ref w0] σ = ru d 13 34 [l0, l1, l2, l3, l4] [.int (jmin x y), .ref w0] σ := q_mi t13_31 mo13 (by decide +kernel) (by decide +kernel) (by decide +kernel) (Nat.le_of_ble_eq_true rfl)
theorem t13_34 : decode (mb 13) 34 = .ok (.putfield 50, 3) := by decide +kernel
theorem s13_34_o2 (d : Nat) (l0 : Value) (l1 : Value) (l2 : Value) (l3 : Value) (l4 : Value) (x : Int32) (σ : Hs) : ru d 13 34 [l0, l1, l2, l3, l4] [.int x, .ref 2] σ = ru d 13 37 [l0, l1, l2, l3, l4] [] (up2 σ 2 12 x) := q_puti t13_34 mo13 F0_50 (by decide +kernel) rfl rfl
theorem s13_34_o59 (d : Nat) (l0 : Value) (l1 : Value) (l2 : Value) (l3 : Value) (l4 : Value) (x : Int32) (σ : Hs) : ru d 13 34 [l0, l1, l2, l3, l4] [.int x, .ref 59] σ = ru d 13 37 [l0, l1, l2, l3, l4] [] (up2 σ 59 12 x) := q_puti t13_34 mo13 F0_50 (by decide +kernel) rfl rfl
theorem t13_37 : decode (mb 13) 37 = .ok (.aload_n 0, 1) := by decide +kernel
theorem s13_37 (d : Nat) (a0 : Nat) (l1 : Value) (l2 : Value) (l3 : Value) (l4 : Value) (σ : Hs) : ru d 13 37 [.ref a0, l1, l2, l3, l4] [] σ = ru d 13 38 [.ref a0, l1, l2, l3, l4] [.ref a0] σ := q_aload_n t13_37 rfl
theorem t13_38 : decode (mb 13) 38 = .ok (.getfield 31, 3) := by decide +kernel
theorem s13_38_o2 (d : Nat) (l0 : Value) (l1 : Value) (l2 : Value) (l3 : Value) (l4 : Value) (σ : Hs) : ru d 13 38 [l0, l1, l2, l3, l4] [.ref 2] σ = ru d 13 41 [l0, l1, l2, l3, l4] [.ref 9] σ := q_getf t13_38 mo13 F0_31 rfl rfl
theorem s13_38_o59 (d : Nat) (l0 : Value) (l1 : Value) (l2 : Value) (l3 : Value) (l4 : Value) (σ : Hs) : ru d 13 38 [l0, l1, l2, l3, l4] [.ref 59] σ = ru d 13 41 [l0, l1, l2, l3, l4] [.ref 66] σ := q_getf t13_38 mo13 F0_31 rfl rfl
theorem t13_41 : decode (mb 13) 41 = .ok (.iconst 0, 1) := by decide +kernel
theorem s13_41 (d : Nat) (l0 : Value) (l1 : Value) (l2 : Value) (l3 : Value) (l4 : Value) (w0 : Value) (σ : Hs) : ru d 13 41 [l0, l1, l2, l3, l4] [w0] σ = ru d 13 42 [l0, l1, l2, l3, l4] [.int 0, w0] σ := q_iconst t13_41 (by decide +kernel)
theorem t13_42 : decode (mb 13) 42 = .ok (.aload_n 0, 1) := by decide +kernel
theorem s13_42 (d : Nat) (a0 : Nat) (l1 : Value) (l2 : Value) (l3 : Value) (l4 : Value) (w0 w1 : Value) (σ : Hs) : ru d 13 42 [.ref a0, l1, l2, l3, l4] [w0, w1] σ = ru d 13 43 [.ref a0, l1, l2, l3, l4] [.ref a0, w0, w1] σ := q_aload_n t13_42 rfl
theorem t13_43 : decode (mb 13) 43 = .ok (.getfield 31, 3) := by decide +kernel
theorem s13_43_o2 (d : Nat) (l0 : Value) (l1 : Value) (l2 : Value) (l3 : Value) (l4 : Value) (w0 w1 : Value) (σ : Hs) : ru d 13 43 [l0, l1, l2, l3, l4] [.ref 2, w0, w1] σ = ru d 13 46 [l0, l1, l2, l3, l4] [.ref 9, w0, w1] σ := q_getf t13_43 mo13 F0_31 rfl rfl
theorem s13_43_o59 (d : Nat) (l0 : Value) (l1 : Value) (l2 : Value) (l3 : Value) (l4 : Value) (w0 w1 : Value) (σ : Hs) : ru d 13 43 [l0, l1, l2, l3, l4] [.ref 59, w0, w1] σ = ru d 13 46 [l0, l1, l2, l3, l4] [.ref 66, w0, w1] σ := q_getf t13_43 mo13 F0_31 rfl rfl
theorem t13_46 : decode (mb 13) 46 = .ok (.iconst 0, 1) := by decide +kernel
theorem s13_46 (d : Nat) (l0 : Value) (l1 : Value) (l2 : Value) (l3 : Value) (l4 : Value) (w0 w1 w2 : Value) (σ : Hs) : ru d 13 46 [l0, l1, l2, l3, l4] [w0, w1, w2] σ = ru d 13 47 [l0, l1, l2, l3, l4] [.int 0, w0, w1, w2] σ := q_iconst t13_46 (by decide +kernel)
theorem t13_47 : decode (mb 13) 47 = .ok (.iaload, 1) := by decide +kernel
theorem s13_47_o9 (d : Nat) (l0 : Value) (l1 : Value) (l2 : Value) (l3 : Value) (l4 : Value) (i : Int32) (w0 w1 : Value) (σ : Hs) : ru d 13 47 [l0, l1, l2, l3, l4] [.int i, .ref 9, w0, w1] σ = gd (vp_in i 5) (ru d 13 48 [l0, l1, l2, l3, l4] [.int (σ 9 i.toNatClampNeg), w0, w1] σ) := q_iald t13_47 rfl (by decide +kernel) rfl
theorem s13_47_o66 (d : Nat) (l0 : Value) (l1 : Value) (l2 : Value) (l3 : Value) (l4 : Value) (i : Int32) (w0 w1 : Value) (σ : Hs) : ru d 13 47 [l0, l1, l2, l3, l4] [.int i, .ref 66, w0, w1] σ = gd (vp_in i 5) (ru d 13 48 [l0, l1, l2, l3, l4] [.int (σ 66 i.toNatClampNeg), w0, w1] σ) := q_iald t13_47 rfl (by decide +kernel) rfl
theorem t13_48 : decode (mb 13) 48 = .ok (.iconst 1, 1) := by decide +kernel
theorem s13_48 (d : Nat) (l0 : Value) (l1 : Value) (l2 : Value) (l3 : Value) (l4 : Value) (w0 w1 w2 : Value) (σ : Hs) : ru d 13 48 [l0, l1, l2, l3, l4] [w0, w1, w2] σ = ru d 13 49 [l0, l1, l2, l3, l4] [.int 1, w0, w1, w2] σ := q_iconst t13_48 (by decide +kernel)
theorem t13_49 : decode (mb 13) 49 = .ok (.iadd, 1) := by decide +kernel
theorem s13_49 (d : Nat) (l0 : Value) (l1 : Value) (l2 : Value) (l3 : Value) (l4 : Value) (x y : Int32) (w0 w1 : Value) (σ : Hs) : ru d 13 49 [l0, l1, l2, l3, l4] [.int y, .int x, w0, w1] σ = ru d 13 50 [l0, l1, l2, l3, l4] [.int (x + y), w0, w1] σ := q_iadd t13_49
theorem t13_50 : decode (mb 13) 50 = .ok (.sipush 1440, 3) := by decide +kernel
theorem s13_50 (d : Nat) (l0 : Value) (l1 : Value) (l2 : Value) (l3 : Value) (l4 : Value) (w0 w1 w2 : Value) (σ : Hs) : ru d 13 50 [l0, l1, l2, l3, l4] [w0, w1, w2] σ = ru d 13 53 [l0, l1, l2, l3, l4] [.int 1440, w0, w1, w2] σ := q_sipush t13_50 (by decide +kernel)
theorem t13_53 : decode (mb 13) 53 = .ok (.irem, 1) := by decide +kernel
theorem s13_53 (d : Nat) (l0 : Value) (l1 : Value) (l2 : Value) (l3 : Value) (l4 : Value) (x y : Int32) (w0 w1 : Value) (σ : Hs) : ru d 13 53 [l0, l1, l2, l3, l4] [.int y, .int x, w0, w1] σ = gd (¬ y = 0) (ru d 13 54 [l0, l1, l2, l3, l4] [.int (x - x / y * y), w0, w1] σ) := q_irem t13_53
theorem t13_54 : decode (mb 13) 54 = .ok (.iastore, 1) := by decide +kernel
theorem s13_54_o9 (d : Nat) (l0 : Value) (l1 : Value) (l2 : Value) (l3 : Value) (l4 : Value) (i x : Int32) (σ : Hs) : ru d 13 54 [l0, l1, l2, l3, l4] [.int x, .int i, .ref 9] σ = gd (vp_in i 5) (ru d 13 55 [l0, l1, l2, l3, l4] [] (up2 σ 9 i.toNatClampNeg x)) := q_iast t13_54 (by decide +kernel) rfl rfl
theorem s13_54_o66 (d : Nat) (l0 : Value) (l1 : Value) (l2 : Value) (l3 : Value) (l4 : Value) (i x : Int32) (σ : Hs) : ru d 13 54 [l0, l1, l2, l3, l4] [.int x, .int i, .ref 66] σ = gd (vp_in i 5) (ru d 13 55 [l0, l1, l2, l3, l4] [] (up2 σ 66 i.toNatClampNeg x)) := q_iast t13_54 (by decide +kernel) rfl rfl
theorem t13_55 : decode (mb 13) 55 = .ok (.aload_n 0, 1) := by decide +kernel
theorem s13_55 (d : Nat) (a0 : Nat) (l1 : Value) (l2 : Value) (l3 : Value) (l4 : Value) (σ : Hs) : ru d 13 55 [.ref a0, l1, l2, l3, l4] [] σ = ru d 13 56 [.ref a0, l1, l2, l3, l4] [.ref a0] σ := q_aload_n t13_55 rfl
theorem t13_56 : decode (mb 13) 56 = .ok (.dup, 1) := by decide +kernel
theorem s13_56 (d : Nat) (l0 : Value) (l1 : Value) (l2 : Value) (l3 : Value) (l4 : Value) (x : Nat) (σ : Hs) : ru d 13 56 [l0, l1, l2, l3, l4] [.ref x] σ = ru d 13 57 [l0, l1, l2, l3, l4] [.ref x, .ref x] σ := q_dup t13_56 rfl
theorem t13_57 : decode (mb 13) 57 = .ok (.getfield 53, 3) := by decide +kernel
theorem s13_57_o2 (d : Nat) (l0 : Value) (l1 : Value) (l2 : Value) (l3 : Value) (l4 : Value) (w0 : Value) (σ : Hs) : ru d 13 57 [l0, l1, l2, l3, l4] [.ref 2, w0] σ = ru d 13 60 [l0, l1, l2, l3, l4] [.int (σ 2 13), w0] σ := q_getf t13_57 mo13 F0_53 rfl rfl
theorem s13_57_o59 (d : Nat) (l0 : Value) (l1 : Value) (l2 : Value) (l3 : Value) (l4 : Value) (w0 : Value) (σ : Hs) : ru d 13 57 [l0, l1, l2, l3, l4] [.ref 59, w0] σ = ru d 13 60 [l0, l1, l2, l3, l4] [.int (σ 59 13), w0] σ := q_getf t13_57 mo13 F0_53 rfl rfl
theorem t13_60 : decode (mb 13) 60 = .ok (.iconst 1, 1) := by decide +kernel
theorem s13_60 (d : Nat) (l0 : Value) (l1 : Value) (l2 : Value) (l3 : Value) (l4 : Value) (w0 w1 : Value) (σ : Hs) : ru d 13 60 [l0, l1, l2, l3, l4] [w0, w1] σ = ru d 13 61 [l0, l1, l2, l3, l4] [.int 1, w0, w1] σ := q_iconst t13_60 (by decide +kernel)
theorem t13_61 : decode (mb 13) 61 = .ok (.iadd, 1) := by decide +kernel
theorem s13_61 (d : Nat) (l0 : Value) (l1 : Value) (l2 : Value) (l3 : Value) (l4 : Value) (x y : Int32) (w0 : Value) (σ : Hs) : ru d 13 61 [l0, l1, l2, l3, l4] [.int y, .int x, w0] σ = ru d 13 62 [l0, l1, l2, l3, l4] [.int (x + y), w0] σ := q_iadd t13_61
theorem t13_62 : decode (mb 13) 62 = .ok (.putfield 53, 3) := by decide +kernel
theorem s13_62_o2 (d : Nat) (l0 : Value) (l1 : Value) (l2 : Value) (l3 : Value) (l4 : Value) (x : Int32) (σ : Hs) : ru d 13 62 [l0, l1, l2, l3, l4] [.int x, .ref 2] σ = ru d 13 65 [l0, l1, l2, l3, l4] [] (up2 σ 2 13 x) := q_puti t13_62 mo13 F0_53 (by decide +kernel) rfl rfl
theorem s13_62_o59 (d : Nat) (l0 : Value) (l1 : Value) (l2 : Value) (l3 : Value) (l4 : Value) (x : Int32) (σ : Hs) : ru d 13 62 [l0, l1, l2, l3, l4] [.int x, .ref 59] σ = ru d 13 65 [l0, l1, l2, l3, l4] [] (up2 σ 59 13 x) := q_puti t13_62 mo13 F0_53 (by decide +kernel) rfl rfl
theorem t13_65 : decode (mb 13) 65 = .ok (.iinc 3 1, 3) := by decide +kernel
theorem s13_65 (d : Nat) (l0 : Value) (l1 : Value) (a2 : Nat) (i3 : Int32) (l4 : Value) (σ : Hs) : ru d 13 65 [l0, l1, .ref a2, .int i3, l4] [] σ = ru d 13 68 [l0, l1, .ref a2, .int (i3 + 1), l4] [] σ := q_iinc t13_65 ⟨Nat.le_of_ble_eq_true rfl, rfl⟩ rfl (by decide +kernel) rfl
theorem t13_68 : decode (mb 13) 68 = .ok (.goto (-66), 3) := by decide +kernel
theorem s13_68 (d : Nat) (l0 : Value) (l1 : Value) (l2 : Value) (l3 : Value) (l4 : Value) (σ : Hs) : ru d 13 68 [l0, l1, l2, l3, l4] [] σ = ru d 13 2 [l0, l1, l2, l3, l4] [] σ := q_goto t13_68 (by decide +kernel)
theorem t13_71 : decode (mb 13) 71 = .ok (.return_, 1) := by decide +kernel
theorem s13_71 (d : Nat) (l0 : Value) (l1 : Value) (l2 : Value) (l3 : Value) (l4 : Value) (σ : Hs) : ru d 13 71 [l0, l1, l2, l3, l4] [] σ = some (none, σ) := q_vret t13_71 mr13
theorem c13 (d : Nat) (x0 : Nat) (x1 : Int32) (x2 : Nat) (σ : Hs) : callD (d + 1) 13 [.ref x0, .int x1, .ref x2] σ = ru d 13 0 [.ref x0, .int x1, .ref x2, uu, uu] [] σ := callD_ru ml13 rfl rfl (Nat.le_of_ble_eq_true rfl)
-- 14: Heap.burn(LSmokyHeap$Laws;)I
theorem t14_0 : decode (mb 14) 0 = .ok (.iconst 0, 1) := by decide +kernel
theorem s14_0 (d : Nat) (l0 : Value) (l1 : Value) (l2 : Value) (l3 : Value) (σ : Hs) : ru d 14 0 [l0, l1, l2, l3] [] σ = ru d 14 1 [l0, l1, l2, l3] [.int 0] σ := q_iconst t14_0 (by decide +kernel)
theorem t14_1 : decode (mb 14) 1 = .ok (.istore_n 2, 1) := by decide +kernel
theorem s14_1 (d : Nat) (l0 : Value) (a1 : Nat) (l2 : Value) (l3 : Value) (x : Int32) (σ : Hs) : ru d 14 1 [l0, .ref a1, l2, l3] [.int x] σ = ru d 14 2 [l0, .ref a1, .int x, l3] [] σ := q_istore_n t14_1 ⟨Nat.le_of_ble_eq_true rfl, rfl⟩ rfl
theorem t14_2 : decode (mb 14) 2 = .ok (.iconst 0, 1) := by decide +kernel
theorem s14_2 (d : Nat) (l0 : Value) (l1 : Value) (l2 : Value) (l3 : Value) (σ : Hs) : ru d 14 2 [l0, l1, l2, l3] [] σ = ru d 14 3 [l0, l1, l2, l3] [.int 0] σ := q_iconst t14_2 (by decide +kernel)
theorem t14_3 : decode (mb 14) 3 = .ok (.istore_n 3, 1) := by decide +kernel
theorem s14_3 (d : Nat) (l0 : Value) (l1 : Value) (i2 : Int32) (l3 : Value) (x : Int32) (σ : Hs) : ru d 14 3 [l0, l1, .int i2, l3] [.int x] σ = ru d 14 4 [l0, l1, .int i2, .int x] [] σ := q_istore_n t14_3 ⟨Nat.le_of_ble_eq_true rfl, rfl⟩ rfl
theorem t14_4 : decode (mb 14) 4 = .ok (.iload_n 3, 1) := by decide +kernel
theorem s14_4 (d : Nat) (l0 : Value) (l1 : Value) (l2 : Value) (i3 : Int32) (σ : Hs) : ru d 14 4 [l0, l1, l2, .int i3] [] σ = ru d 14 5 [l0, l1, l2, .int i3] [.int i3] σ := q_iload_n t14_4 rfl
theorem t14_5 : decode (mb 14) 5 = .ok (.bipush 30, 2) := by decide +kernel
theorem s14_5 (d : Nat) (l0 : Value) (l1 : Value) (l2 : Value) (l3 : Value) (w0 : Value) (σ : Hs) : ru d 14 5 [l0, l1, l2, l3] [w0] σ = ru d 14 7 [l0, l1, l2, l3] [.int 30, w0] σ := q_bipush t14_5 (by decide +kernel)
theorem t14_7 : decode (mb 14) 7 = .ok (.if_icmp .ge 95, 3) := by decide +kernel
theorem s14_7 (d : Nat) (l0 : Value) (l1 : Value) (l2 : Value) (l3 : Value) (x y : Int32) (σ : Hs) : ru d 14 7 [l0, l1, l2, l3] [.int y, .int x] σ = if y ≤ x then ru d 14 102 [l0, l1, l2, l3] [] σ else ru d 14 10 [l0, l1, l2, l3] [] σ := q_ic_ge t14_7 (by decide +kernel)
theorem t14_10 : decode (mb 14) 10 = .ok (.aload_n 0, 1) := by decide +kernel
theorem s14_10 (d : Nat) (a0 : Nat) (l1 : Value) (l2 : Value) (l3 : Value) (σ : Hs) : ru d 14 10 [.ref a0, l1, l2, l3] [] σ = ru d 14 11 [.ref a0, l1, l2, l3] [.ref a0] σ := q_aload_n t14_10 rfl
theorem t14_11 : decode (mb 14) 11 = .ok (.getfield 15, 3) := by decide +kernel
theorem s14_11_o2 (d : Nat) (l0 : Value) (l1 : Value) (l2 : Value) (l3 : Value) (σ : Hs) : ru d 14 11 [l0, l1, l2, l3] [.ref 2] σ = ru d 14 14 [l0, l1, l2, l3] [.ref 4] σ := q_getf t14_11 mo14 F0_15 rfl rfl
theorem s14_11_o59 (d : Nat) (l0 : Value) (l1 : Value) (l2 : Value) (l3 : Value) (σ : Hs) : ru d 14 11 [l0, l1, l2, l3] [.ref 59] σ = ru d 14 14 [l0, l1, l2, l3] [.ref 61] σ := q_getf t14_11 mo14 F0_15 rfl rfl
theorem t14_14 : decode (mb 14) 14 = .ok (.iload_n 3, 1) := by decide +kernel
theorem s14_14 (d : Nat) (l0 : Value) (l1 : Value) (l2 : Value) (i3 : Int32) (w0 : Value) (σ : Hs) : ru d 14 14 [l0, l1, l2, .int i3] [w0] σ = ru d 14 15 [l0, l1, l2, .int i3] [.int i3, w0] σ := q_iload_n t14_14 rfl
theorem t14_15 : decode (mb 14) 15 = .ok (.iaload, 1) := by decide +kernel
theorem s14_15_o4 (d : Nat) (l0 : Value) (l1 : Value) (l2 : Value) (l3 : Value) (i : Int32) (σ : Hs) : ru d 14 15 [l0, l1, l2, l3] [.int i, .ref 4] σ = gd (vp_in i 30) (ru d 14 16 [l0, l1, l2, l3] [.int (σ 4 i.toNatClampNeg)] σ) := q_iald t14_15 rfl (by decide +kernel) rfl
theorem s14_15_o61 (d : Nat) (l0 : Value) (l1 : Value) (l2 : Value) (l3 : Value) (i : Int32) (σ : Hs) : ru d 14 15 [l0, l1, l2, l3] [.int i, .ref 61] σ = gd (vp_in i 30) (ru d 14 16 [l0, l1, l2, l3] [.int (σ 61 i.toNatClampNeg)] σ) := q_iald t14_15 rfl (by decide +kernel) rfl
theorem t14_16 : decode (mb 14) 16 = .ok (.ifCond .le 80, 3) := by decide +kernel
theorem s14_16 (d : Nat) (l0 : Value) (l1 : Value) (l2 : Value) (l3 : Value) (x : Int32) (σ : Hs) : ru d 14 16 [l0, l1, l2, l3] [.int x] σ = if x ≤ 0 then ru d 14 96 [l0, l1, l2, l3] [] σ else ru d 14 19 [l0, l1, l2, l3] [] σ := q_if_le t14_16 (by decide +kernel)
theorem t14_19 : decode (mb 14) 19 = .ok (.aload_n 0, 1) := by decide +kernel
theorem s14_19 (d : Nat) (a0 : Nat) (l1 : Value) (l2 : Value) (l3 : Value) (σ : Hs) : ru d 14 19 [.ref a0, l1, l2, l3] [] σ = ru d 14 20 [.ref a0, l1, l2, l3] [.ref a0] σ := q_aload_n t14_19 rfl
theorem t14_20 : decode (mb 14) 20 = .ok (.getfield 27, 3) := by decide +kernel
theorem s14_20_o2 (d : Nat) (l0 : Value) (l1 : Value) (l2 : Value) (l3 : Value) (σ : Hs) : ru d 14 20 [l0, l1, l2, l3] [.ref 2] σ = ru d 14 23 [l0, l1, l2, l3] [.ref 8] σ := q_getf t14_20 mo14 F0_27 rfl rfl
theorem s14_20_o59 (d : Nat) (l0 : Value) (l1 : Value) (l2 : Value) (l3 : Value) (σ : Hs) : ru d 14 20 [l0, l1, l2, l3] [.ref 59] σ = ru d 14 23 [l0, l1, l2, l3] [.ref 65] σ := q_getf t14_20 mo14 F0_27 rfl rfl
theorem t14_23 : decode (mb 14) 23 = .ok (.iload_n 3, 1) := by decide +kernel
theorem s14_23 (d : Nat) (l0 : Value) (l1 : Value) (l2 : Value) (i3 : Int32) (w0 : Value) (σ : Hs) : ru d 14 23 [l0, l1, l2, .int i3] [w0] σ = ru d 14 24 [l0, l1, l2, .int i3] [.int i3, w0] σ := q_iload_n t14_23 rfl
theorem t14_24 : decode (mb 14) 24 = .ok (.baload, 1) := by decide +kernel
theorem s14_24_o8 (d : Nat) (l0 : Value) (l1 : Value) (l2 : Value) (l3 : Value) (i : Int32) (σ : Hs) : ru d 14 24 [l0, l1, l2, l3] [.int i, .ref 8] σ = gd (vp_in i 30) (ru d 14 25 [l0, l1, l2, l3] [.int (σ 8 i.toNatClampNeg)] σ) := q_bald t14_24 (by decide +kernel) rfl rfl
theorem s14_24_o65 (d : Nat) (l0 : Value) (l1 : Value) (l2 : Value) (l3 : Value) (i : Int32) (σ : Hs) : ru d 14 24 [l0, l1, l2, l3] [.int i, .ref 65] σ = gd (vp_in i 30) (ru d 14 25 [l0, l1, l2, l3] [.int (σ 65 i.toNatClampNeg)] σ) := q_bald t14_24 (by decide +kernel) rfl rfl
theorem t14_25 : decode (mb 14) 25 = .ok (.ifCond .ne 12, 3) := by decide +kernel
theorem s14_25 (d : Nat) (l0 : Value) (l1 : Value) (l2 : Value) (l3 : Value) (x : Int32) (σ : Hs) : ru d 14 25 [l0, l1, l2, l3] [.int x] σ = if x = 0 then ru d 14 28 [l0, l1, l2, l3] [] σ else ru d 14 37 [l0, l1, l2, l3] [] σ := q_if_ne t14_25 (by decide +kernel)
theorem t14_28 : decode (mb 14) 28 = .ok (.aload_n 0, 1) := by decide +kernel
theorem s14_28 (d : Nat) (a0 : Nat) (l1 : Value) (l2 : Value) (l3 : Value) (σ : Hs) : ru d 14 28 [.ref a0, l1, l2, l3] [] σ = ru d 14 29 [.ref a0, l1, l2, l3] [.ref a0] σ := q_aload_n t14_28 rfl
theorem t14_29 : decode (mb 14) 29 = .ok (.getfield 24, 3) := by decide +kernel
theorem s14_29_o2 (d : Nat) (l0 : Value) (l1 : Value) (l2 : Value) (l3 : Value) (σ : Hs) : ru d 14 29 [l0, l1, l2, l3] [.ref 2] σ = ru d 14 32 [l0, l1, l2, l3] [.ref 7] σ := q_getf t14_29 mo14 F0_24 rfl rfl
theorem s14_29_o59 (d : Nat) (l0 : Value) (l1 : Value) (l2 : Value) (l3 : Value) (σ : Hs) : ru d 14 29 [l0, l1, l2, l3] [.ref 59] σ = ru d 14 32 [l0, l1, l2, l3] [.ref 64] σ := q_getf t14_29 mo14 F0_24 rfl rfl
theorem t14_32 : decode (mb 14) 32 = .ok (.iload_n 3, 1) := by decide +kernel
theorem s14_32 (d : Nat) (l0 : Value) (l1 : Value) (l2 : Value) (i3 : Int32) (w0 : Value) (σ : Hs) : ru d 14 32 [l0, l1, l2, .int i3] [w0] σ = ru d 14 33 [l0, l1, l2, .int i3] [.int i3, w0] σ := q_iload_n t14_32 rfl
theorem t14_33 : decode (mb 14) 33 = .ok (.iaload, 1) := by decide +kernel
theorem s14_33_o7 (d : Nat) (l0 : Value) (l1 : Value) (l2 : Value) (l3 : Value) (i : Int32) (σ : Hs) : ru d 14 33 [l0, l1, l2, l3] [.int i, .ref 7] σ = gd (vp_in i 30) (ru d 14 34 [l0, l1, l2, l3] [.int (σ 7 i.toNatClampNeg)] σ) := q_iald t14_33 rfl (by decide +kernel) rfl
theorem s14_33_o64 (d : Nat) (l0 : Value) (l1 : Value) (l2 : Value) (l3 : Value) (i : Int32) (σ : Hs) : ru d 14 33 [l0, l1, l2, l3] [.int i, .ref 64] σ = gd (vp_in i 30) (ru d 14 34 [l0, l1, l2, l3] [.int (σ 64 i.toNatClampNeg)] σ) := q_iald t14_33 rfl (by decide +kernel) rfl
theorem t14_34 : decode (mb 14) 34 = .ok (.ifCond .le 62, 3) := by decide +kernel
theorem s14_34 (d : Nat) (l0 : Value) (l1 : Value) (l2 : Value) (l3 : Value) (x : Int32) (σ : Hs) : ru d 14 34 [l0, l1, l2, l3] [.int x] σ = if x ≤ 0 then ru d 14 96 [l0, l1, l2, l3] [] σ else ru d 14 37 [l0, l1, l2, l3] [] σ := q_if_le t14_34 (by decide +kernel)
theorem t14_37 : decode (mb 14) 37 = .ok (.iload_n 2, 1) := by decide +kernel
theorem s14_37 (d : Nat) (l0 : Value) (l1 : Value) (i2 : Int32) (l3 : Value) (σ : Hs) : ru d 14 37 [l0, l1, .int i2, l3] [] σ = ru d 14 38 [l0, l1, .int i2, l3] [.int i2] σ := q_iload_n t14_37 rfl
theorem t14_38 : decode (mb 14) 38 = .ok (.aload_n 0, 1) := by decide +kernel
theorem s14_38 (d : Nat) (a0 : Nat) (l1 : Value) (l2 : Value) (l3 : Value) (w0 : Value) (σ : Hs) : ru d 14 38 [.ref a0, l1, l2, l3] [w0] σ = ru d 14 39 [.ref a0, l1, l2, l3] [.ref a0, w0] σ := q_aload_n t14_38 rfl
theorem t14_39 : decode (mb 14) 39 = .ok (.getfield 27, 3) := by decide +kernel
theorem s14_39_o2 (d : Nat) (l0 : Value) (l1 : Value) (l2 : Value) (l3 : Value) (w0 : Value) (σ : Hs) : ru d 14 39 [l0, l1, l2, l3] [.ref 2, w0] σ = ru d 14 42 [l0, l1, l2, l3] [.ref 8, w0] σ := q_getf t14_39 mo14 F0_27 rfl rfl
theorem s14_39_o59 (d : Nat) (l0 : Value) (l1 : Value) (l2 : Value) (l3 : Value) (w0 : Value) (σ : Hs) : ru d 14 39 [l0, l1, l2, l3] [.ref 59, w0] σ = ru d 14 42 [l0, l1, l2, l3] [.ref 65, w0] σ := q_getf t14_39 mo14 F0_27 rfl rfl
theorem t14_42 : decode (mb 14) 42 = .ok (.iload_n 3, 1) := by decide +kernel
theorem s14_42 (d : Nat) (l0 : Value) (l1 : Value) (l2 : Value) (i3 : Int32) (w0 w1 : Value) (σ : Hs) : ru d 14 42 [l0, l1, l2, .int i3] [w0, w1] σ = ru d 14 43 [l0, l1, l2, .int i3] [.int i3, w0, w1] σ := q_iload_n t14_42 rfl
theorem t14_43 : decode (mb 14) 43 = .ok (.baload, 1) := by decide +kernel
theorem s14_43_o8 (d : Nat) (l0 : Value) (l1 : Value) (l2 : Value) (l3 : Value) (i : Int32) (w0 : Value) (σ : Hs) : ru d 14 43 [l0, l1, l2, l3] [.int i, .ref 8, w0] σ = gd (vp_in i 30) (ru d 14 44 [l0, l1, l2, l3] [.int (σ 8 i.toNatClampNeg), w0] σ) := q_bald t14_43 (by decide +kernel) rfl rfl
theorem s14_43_o65 (d : Nat) (l0 : Value) (l1 : Value) (l2 : Value) (l3 : Value) (i : Int32) (w0 : Value) (σ : Hs) : ru d 14 43 [l0, l1, l2, l3] [.int i, .ref 65, w0] σ = gd (vp_in i 30) (ru d 14 44 [l0, l1, l2, l3] [.int (σ 65 i.toNatClampNeg), w0] σ) := q_bald t14_43 (by decide +kernel) rfl rfl
theorem t14_44 : decode (mb 14) 44 = .ok (.ifCond .eq 12, 3) := by decide +kernel
theorem s14_44 (d : Nat) (l0 : Value) (l1 : Value) (l2 : Value) (l3 : Value) (x : Int32) (w0 : Value) (σ : Hs) : ru d 14 44 [l0, l1, l2, l3] [.int x, w0] σ = if x = 0 then ru d 14 56 [l0, l1, l2, l3] [w0] σ else ru d 14 47 [l0, l1, l2, l3] [w0] σ := q_if_eq t14_44 (by decide +kernel)
theorem t14_47 : decode (mb 14) 47 = .ok (.aload_n 0, 1) := by decide +kernel
theorem s14_47 (d : Nat) (a0 : Nat) (l1 : Value) (l2 : Value) (l3 : Value) (w0 : Value) (σ : Hs) : ru d 14 47 [.ref a0, l1, l2, l3] [w0] σ = ru d 14 48 [.ref a0, l1, l2, l3] [.ref a0, w0] σ := q_aload_n t14_47 rfl
theorem t14_48 : decode (mb 14) 48 = .ok (.iload_n 3, 1) := by decide +kernel
theorem s14_48 (d : Nat) (l0 : Value) (l1 : Value) (l2 : Value) (i3 : Int32) (w0 w1 : Value) (σ : Hs) : ru d 14 48 [l0, l1, l2, .int i3] [w0, w1] σ = ru d 14 49 [l0, l1, l2, .int i3] [.int i3, w0, w1] σ := q_iload_n t14_48 rfl
theorem t14_49 : decode (mb 14) 49 = .ok (.aload_n 1, 1) := by decide +kernel
theorem s14_49 (d : Nat) (l0 : Value) (a1 : Nat) (l2 : Value) (l3 : Value) (w0 w1 w2 : Value) (σ : Hs) : ru d 14 49 [l0, .ref a1, l2, l3] [w0, w1, w2] σ = ru d 14 50 [l0, .ref a1, l2, l3] [.ref a1, w0, w1, w2] σ := q_aload_n t14_49 rfl
theorem t14_50 : decode (mb 14) 50 = .ok (.invokevirtual 99, 3) := by decide +kernel
theorem s14_50_o2 (d : Nat) (l0 : Value) (l1 : Value) (l2 : Value) (l3 : Value) (v1 v2 : Value) (w0 : Int32) (σ : Hs) : ru d 14 50 [l0, l1, l2, l3] [v2, v1, .ref 2, .int w0] σ = kont (callD d 15 [.ref 2, v1, v2] σ) d 14 53 [l0, l1, l2, l3] [.int w0] := q_invv t14_50 mo14 K0_99 mj15 rfl rfl rfl rfl (Nat.le_of_ble_eq_true rfl)
theorem s14_50_o59 (d : Nat) (l0 : Value) (l1 : Value) (l2 : Value) (l3 : Value) (v1 v2 : Value) (w0 : Int32) (σ : Hs) : ru d 14 50 [l0, l1, l2, l3] [v2, v1, .ref 59, .int w0] σ = kont (callD d 15 [.ref 59, v1, v2] σ) d 14 53 [l0, l1, l2, l3] [.int w0] := q_invv t14_50 mo14 K0_99 mj15 rfl rfl rfl rfl (Nat.le_of_ble_eq_true rfl)
theorem t14_53 : decode (mb 14) 53 = .ok (.goto 4, 3) := by decide +kernel
theorem s14_53 (d : Nat) (l0 : Value) (l1 : Value) (l2 : Value) (l3 : Value) (w0 w1 : Value) (σ : Hs) : ru d 14 53 [l0, l1, l2, l3] [w0, w1] σ = ru d 14 57 [l0, l1, l2, l3] [w0, w1] σ := q_goto t14_53 (by decide +kernel)
theorem t14_56 : decode (mb 14) 56 = .ok (.iconst 0, 1) := by decide +kernel
theorem s14_56 (d : Nat) (l0 : Value) (l1 : Value) (l2 : Value) (l3 : Value) (w0 : Value) (σ : Hs) : ru d 14 56 [l0, l1, l2, l3] [w0] σ = ru d 14 57 [l0, l1, l2, l3] [.int 0, w0] σ := q_iconst t14_56 (by decide +kernel)
theorem t14_57 : decode (mb 14) 57 = .ok (.iadd, 1) := by decide +kernel
theorem s14_57 (d : Nat) (l0 : Value) (l1 : Value) (l2 : Value) (l3 : Value) (x y : Int32) (σ : Hs) : ru d 14 57 [l0, l1, l2, l3] [.int y, .int x] σ = ru d 14 58 [l0, l1, l2, l3] [.int (x + y)] σ := q_iadd t14_57
theorem t14_58 : decode (mb 14) 58 = .ok (.istore_n 2, 1) := by decide +kernel
theorem s14_58 (d : Nat) (l0 : Value) (a1 : Nat) (l2 : Value) (l3 : Value) (x : Int32) (σ : Hs) : ru d 14 58 [l0, .ref a1, l2, l3] [.int x] σ = ru d 14 59 [l0, .ref a1, .int x, l3] [] σ := q_istore_n t14_58 ⟨Nat.le_of_ble_eq_true rfl, rfl⟩ rfl
theorem t14_59 : decode (mb 14) 59 = .ok (.aload_n 0, 1) := by decide +kernel
theorem s14_59 (d : Nat) (a0 : Nat) (l1 : Value) (l2 : Value) (l3 : Value) (σ : Hs) : ru d 14 59 [.ref a0, l1, l2, l3] [] σ = ru d 14 60 [.ref a0, l1, l2, l3] [.ref a0] σ := q_aload_n t14_59 rfl
theorem t14_60 : decode (mb 14) 60 = .ok (.getfield 15, 3) := by decide +kernel
theorem s14_60_o2 (d : Nat) (l0 : Value) (l1 : Value) (l2 : Value) (l3 : Value) (σ : Hs) : ru d 14 60 [l0, l1, l2, l3] [.ref 2] σ = ru d 14 63 [l0, l1, l2, l3] [.ref 4] σ := q_getf t14_60 mo14 F0_15 rfl rfl
theorem s14_60_o59 (d : Nat) (l0 : Value) (l1 : Value) (l2 : Value) (l3 : Value) (σ : Hs) : ru d 14 60 [l0, l1, l2, l3] [.ref 59] σ = ru d 14 63 [l0, l1, l2, l3] [.ref 61] σ := q_getf t14_60 mo14 F0_15 rfl rfl
theorem t14_63 : decode (mb 14) 63 = .ok (.iload_n 3, 1) := by decide +kernel
theorem s14_63 (d : Nat) (l0 : Value) (l1 : Value) (l2 : Value) (i3 : Int32) (w0 : Value) (σ : Hs) : ru d 14 63 [l0, l1, l2, .int i3] [w0] σ = ru d 14 64 [l0, l1, l2, .int i3] [.int i3, w0] σ := q_iload_n t14_63 rfl
theorem t14_64 : decode (mb 14) 64 = .ok (.iaload, 1) := by decide +kernel
theorem s14_64_o4 (d : Nat) (l0 : Value) (l1 : Value) (l2 : Value) (l3 : Value) (i : Int32) (σ : Hs) : ru d 14 64 [l0, l1, l2, l3] [.int i, .ref 4] σ = gd (vp_in i 30) (ru d 14 65 [l0, l1, l2, l3] [.int (σ 4 i.toNatClampNeg)] σ) := q_iald t14_64 rfl (by decide +kernel) rfl
theorem s14_64_o61 (d : Nat) (l0 : Value) (l1 : Value) (l2 : Value) (l3 : Value) (i : Int32) (σ : Hs) : ru d 14 64 [l0, l1, l2, l3] [.int i, .ref 61] σ = gd (vp_in i 30) (ru d 14 65 [l0, l1, l2, l3] [.int (σ 61 i.toNatClampNeg)] σ) := q_iald t14_64 rfl (by decide +kernel) rfl
theorem t14_65 : decode (mb 14) 65 = .ok (.ifCond .ne 21, 3) := by decide +kernel
theorem s14_65 (d : Nat) (l0 : Value) (l1 : Value) (l2 : Value) (l3 : Value) (x : Int32) (σ : Hs) : ru d 14 65 [l0, l1, l2, l3] [.int x] σ = if x = 0 then ru d 14 68 [l0, l1, l2, l3] [] σ else ru d 14 86 [l0, l1, l2, l3] [] σ := q_if_ne t14_65 (by decide +kernel)
theorem t14_68 : decode (mb 14) 68 = .ok (.aload_n 0, 1) := by decide +kernel
theorem s14_68 (d : Nat) (a0 : Nat) (l1 : Value) (l2 : Value) (l3 : Value) (σ : Hs) : ru d 14 68 [.ref a0, l1, l2, l3] [] σ = ru d 14 69 [.ref a0, l1, l2, l3] [.ref a0] σ := q_aload_n t14_68 rfl
theorem t14_69 : decode (mb 14) 69 = .ok (.iload_n 3, 1) := by decide +kernel
theorem s14_69 (d : Nat) (l0 : Value) (l1 : Value) (l2 : Value) (i3 : Int32) (w0 : Value) (σ : Hs) : ru d 14 69 [l0, l1, l2, .int i3] [w0] σ = ru d 14 70 [l0, l1, l2, .int i3] [.int i3, w0] σ := q_iload_n t14_69 rfl
theorem t14_70 : decode (mb 14) 70 = .ok (.invokevirtual 103, 3) := by decide +kernel
theorem s14_70_o2 (d : Nat) (l0 : Value) (l1 : Value) (l2 : Value) (l3 : Value) (v1 : Value) (σ : Hs) : ru d 14 70 [l0, l1, l2, l3] [v1, .ref 2] σ = kont (callD d 3 [.ref 2, v1] σ) d 14 73 [l0, l1, l2, l3] [] := q_invv t14_70 mo14 K0_103 mj3 rfl rfl rfl rfl (Nat.le_of_ble_eq_true rfl)
theorem s14_70_o59 (d : Nat) (l0 : Value) (l1 : Value) (l2 : Value) (l3 : Value) (v1 : Value) (σ : Hs) : ru d 14 70 [l0, l1, l2, l3] [v1, .ref 59] σ = kont (callD d 3 [.ref 59, v1] σ) d 14 73 [l0, l1, l2, l3] [] := q_invv t14_70 mo14 K0_103 mj3 rfl rfl rfl rfl (Nat.le_of_ble_eq_true rfl)
theorem t14_73 : decode (mb 14) 73 = .ok (.aload_n 0, 1) := by decide +kernel
theorem s14_73 (d : Nat) (a0 : Nat) (l1 : Value) (l2 : Value) (l3 : Value) (σ : Hs) : ru d 14 73 [.ref a0, l1, l2, l3] [] σ = ru d 14 74 [.ref a0, l1, l2, l3] [.ref a0] σ := q_aload_n t14_73 rfl
theorem t14_74 : decode (mb 14) 74 = .ok (.dup, 1) := by decide +kernel
theorem s14_74 (d : Nat) (l0 : Value) (l1 : Value) (l2 : Value) (l3 : Value) (x : Nat) (σ : Hs) : ru d 14 74 [l0, l1, l2, l3] [.ref x] σ = ru d 14 75 [l0, l1, l2, l3] [.ref x, .ref x] σ := q_dup t14_74 rfl
theorem t14_75 : decode (mb 14) 75 = .ok (.getfield 43, 3) := by decide +kernel
theorem s14_75_o2 (d : Nat) (l0 : Value) (l1 : Value) (l2 : Value) (l3 : Value) (w0 : Value) (σ : Hs) : ru d 14 75 [l0, l1, l2, l3] [.ref 2, w0] σ = ru d 14 78 [l0, l1, l2, l3] [.int (σ 2 10), w0] σ := q_getf t14_75 mo14 F0_43 rfl rfl
theorem s14_75_o59 (d : Nat) (l0 : Value) (l1 : Value) (l2 : Value) (l3 : Value) (w0 : Value) (σ : Hs) : ru d 14 75 [l0, l1, l2, l3] [.ref 59, w0] σ = ru d 14 78 [l0, l1, l2, l3] [.int (σ 59 10), w0] σ := q_getf t14_75 mo14 F0_43 rfl rfl
theorem t14_78 : decode (mb 14) 78 = .ok (.iconst 1, 1) := by decide +kernel
theorem s14_78 (d : Nat) (l0 : Value) (l1 : Value) (l2 : Value) (l3 : Value) (w0 w1 : Value) (σ : Hs) : ru d 14 78 [l0, l1, l2, l3] [w0, w1] σ = ru d 14 79 [l0, l1, l2, l3] [.int 1, w0, w1] σ := q_iconst t14_78 (by decide +kernel)
theorem t14_79 : decode (mb 14) 79 = .ok (.iadd, 1) := by decide +kernel
theorem s14_79 (d : Nat) (l0 : Value) (l1 : Value) (l2 : Value) (l3 : Value) (x y : Int32) (w0 : Value) (σ : Hs) : ru d 14 79 [l0, l1, l2, l3] [.int y, .int x, w0] σ = ru d 14 80 [l0, l1, l2, l3] [.int (x + y), w0] σ := q_iadd t14_79
theorem t14_80 : decode (mb 14) 80 = .ok (.putfield 43, 3) := by decide +kernel
theorem s14_80_o2 (d : Nat) (l0 : Value) (l1 : Value) (l2 : Value) (l3 : Value) (x : Int32) (σ : Hs) : ru d 14 80 [l0, l1, l2, l3] [.int x, .ref 2] σ = ru d 14 83 [l0, l1, l2, l3] [] (up2 σ 2 10 x) := q_puti t14_80 mo14 F0_43 (by decide +kernel) rfl rfl
theorem s14_80_o59 (d : Nat) (l0 : Value) (l1 : Value) (l2 : Value) (l3 : Value) (x : Int32) (σ : Hs) : ru d 14 80 [l0, l1, l2, l3] [.int x, .ref 59] σ = ru d 14 83 [l0, l1, l2, l3] [] (up2 σ 59 10 x) := q_puti t14_80 mo14 F0_43 (by decide +kernel) rfl rfl
theorem t14_83 : decode (mb 14) 83 = .ok (.goto 13, 3) := by decide +kernel
theorem s14_83 (d : Nat) (l0 : Value) (l1 : Value) (l2 : Value) (l3 : Value) (σ : Hs) : ru d 14 83 [l0, l1, l2, l3] [] σ = ru d 14 96 [l0, l1, l2, l3] [] σ := q_goto t14_83 (by decide +kernel)
theorem t14_86 : decode (mb 14) 86 = .ok (.aload_n 0, 1) := by decide +kernel
theorem s14_86 (d : Nat) (a0 : Nat) (l1 : Value) (l2 : Value) (l3 : Value) (σ : Hs) : ru d 14 86 [.ref a0, l1, l2, l3] [] σ = ru d 14 87 [.ref a0, l1, l2, l3] [.ref a0] σ := q_aload_n t14_86 rfl
theorem t14_87 : decode (mb 14) 87 = .ok (.iload_n 3, 1) := by decide +kernel
theorem s14_87 (d : Nat) (l0 : Value) (l1 : Value) (l2 : Value) (i3 : Int32) (w0 : Value) (σ : Hs) : ru d 14 87 [l0, l1, l2, .int i3] [w0] σ = ru d 14 88 [l0, l1, l2, .int i3] [.int i3, w0] σ := q_iload_n t14_87 rfl
theorem t14_88 : decode (mb 14) 88 = .ok (.invokevirtual 107, 3) := by decide +kernel
theorem s14_88_o2 (d : Nat) (l0 : Value) (l1 : Value) (l2 : Value) (l3 : Value) (v1 : Value) (σ : Hs) : ru d 14 88 [l0, l1, l2, l3] [v1, .ref 2] σ = kont (callD d 17 [.ref 2, v1] σ) d 14 91 [l0, l1, l2, l3] [] := q_invv t14_88 mo14 K0_107 mj17 rfl rfl rfl rfl (Nat.le_of_ble_eq_true rfl)
theorem s14_88_o59 (d : Nat) (l0 : Value) (l1 : Value) (l2 : Value) (l3 : Value) (v1 : Value) (σ : Hs) : ru d 14 88 [l0, l1, l2, l3] [v1, .ref 59] σ = kont (callD d 17 [.ref 59, v1] σ) d 14 91 [l0, l1, l2, l3] [] := q_invv t14_88 mo14 K0_107 mj17 rfl rfl rfl rfl (Nat.le_of_ble_eq_true rfl)
theorem t14_91 : decode (mb 14) 91 = .ok (.aload_n 0, 1) := by decide +kernel
theorem s14_91 (d : Nat) (a0 : Nat) (l1 : Value) (l2 : Value) (l3 : Value) (σ : Hs) : ru d 14 91 [.ref a0, l1, l2, l3] [] σ = ru d 14 92 [.ref a0, l1, l2, l3] [.ref a0] σ := q_aload_n t14_91 rfl
theorem t14_92 : decode (mb 14) 92 = .ok (.iload_n 3, 1) := by decide +kernel
theorem s14_92 (d : Nat) (l0 : Value) (l1 : Value) (l2 : Value) (i3 : Int32) (w0 : Value) (σ : Hs) : ru d 14 92 [l0, l1, l2, .int i3] [w0] σ = ru d 14 93 [l0, l1, l2, .int i3] [.int i3, w0] σ := q_iload_n t14_92 rfl
theorem t14_93 : decode (mb 14) 93 = .ok (.invokevirtual 110, 3) := by decide +kernel
theorem s14_93_o2 (d : Nat) (l0 : Value) (l1 : Value) (l2 : Value) (l3 : Value) (v1 : Value) (σ : Hs) : ru d 14 93 [l0, l1, l2, l3] [v1, .ref 2] σ = kont (callD d 19 [.ref 2, v1] σ) d 14 96 [l0, l1, l2, l3] [] := q_invv t14_93 mo14 K0_110 mj19 rfl rfl rfl rfl (Nat.le_of_ble_eq_true rfl)
theorem s14_93_o59 (d : Nat) (l0 : Value) (l1 : Value) (l2 : Value) (l3 : Value) (v1 : Value) (σ : Hs) : ru d 14 93 [l0, l1, l2, l3] [v1, .ref 59] σ = kont (callD d 19 [.ref 59, v1] σ) d 14 96 [l0, l1, l2, l3] [] := q_invv t14_93 mo14 K0_110 mj19 rfl rfl rfl rfl (Nat.le_of_ble_eq_true rfl)
theorem t14_96 : decode (mb 14) 96 = .ok (.iinc 3 1, 3) := by decide +kernel
theorem s14_96 (d : Nat) (l0 : Value) (l1 : Value) (i2 : Int32) (i3 : Int32) (σ : Hs) : ru d 14 96 [l0, l1, .int i2, .int i3] [] σ = ru d 14 99 [l0, l1, .int i2, .int (i3 + 1)] [] σ := q_iinc t14_96 ⟨Nat.le_of_ble_eq_true rfl, rfl⟩ rfl (by decide +kernel) rfl
theorem t14_99 : decode (mb 14) 99 = .ok (.goto (-95), 3) := by decide +kernel
theorem s14_99 (d : Nat) (l0 : Value) (l1 : Value) (l2 : Value) (l3 : Value) (σ : Hs) : ru d 14 99 [l0, l1, l2, l3] [] σ = ru d 14 4 [l0, l1, l2, l3] [] σ := q_goto t14_99 (by decide +kernel)
theorem t14_102 : decode (mb 14) 102 = .ok (.iload_n 2, 1) := by decide +kernel
theorem s14_102 (d : Nat) (l0 : Value) (l1 : Value) (i2 : Int32) (l3 : Value) (σ : Hs) : ru d 14 102 [l0, l1, .int i2, l3] [] σ = ru d 14 103 [l0, l1, .int i2, l3] [.int i2] σ := q_iload_n t14_102 rfl
theorem t14_103 : decode (mb 14) 103 = .ok (.ireturn, 1) := by decide +kernel
theorem s14_103 (d : Nat) (l0 : Value) (l1 : Value) (l2 : Value) (l3 : Value) (x : Int32) (σ : Hs) : ru d 14 103 [l0, l1, l2, l3] [.int x] σ = some (some (.int x), σ) := q_ireti t14_103 mr14
theorem c14 (d : Nat) (x0 : Nat) (x1 : Nat) (σ : Hs) : callD (d + 1) 14 [.ref x0, .ref x1] σ = ru d 14 0 [.ref x0, .ref x1, uu, uu] [] σ := callD_ru ml14 rfl rfl (Nat.le_of_ble_eq_true rfl)
