-- 32: Laws.work(IIIII)I
theorem t32_0 : decode (mb 32) 0 = .ok (.iconst 0, 1) := by decide +kernel
theorem s32_0 (d : Nat) (l0 : Value) (l1 : Value) (l2 : Value) (l3 : Value) (l4 : Value) (l5 : Value) (l6 : Value) (l7 : Value) (l8 : Value) (l9 : Value) (σ : Hs) : ru d 32 0 [l0, l1, l2, l3, l4, l5, l6, l7, l8, l9] [] σ = ru d 32 1 [l0, l1, l2, l3, l4, l5, l6, l7, l8, l9] [.int 0] σ := q_iconst t32_0 (by decide +kernel)
theorem t32_1 : decode (mb 32) 1 = .ok (.istore 6, 2) := by decide +kernel
theorem s32_1 (d : Nat) (l0 : Value) (l1 : Value) (l2 : Value) (l3 : Value) (l4 : Value) (i5 : Int32) (l6 : Value) (l7 : Value) (l8 : Value) (l9 : Value) (x : Int32) (σ : Hs) : ru d 32 1 [l0, l1, l2, l3, l4, .int i5, l6, l7, l8, l9] [.int x] σ = ru d 32 3 [l0, l1, l2, l3, l4, .int i5, .int x, l7, l8, l9] [] σ := q_istore t32_1 ⟨Nat.le_of_ble_eq_true rfl, rfl⟩ rfl
theorem t32_3 : decode (mb 32) 3 = .ok (.aload_n 0, 1) := by decide +kernel
theorem s32_3 (d : Nat) (a0 : Nat) (l1 : Value) (l2 : Value) (l3 : Value) (l4 : Value) (l5 : Value) (l6 : Value) (l7 : Value) (l8 : Value) (l9 : Value) (σ : Hs) : ru d 32 3 [.ref a0, l1, l2, l3, l4, l5, l6, l7, l8, l9] [] σ = ru d 32 4 [.ref a0, l1, l2, l3, l4, l5, l6, l7, l8, l9] [.ref a0] σ := q_aload_n t32_3 rfl
theorem t32_4 : decode (mb 32) 4 = .ok (.getfield 11, 3) := by decide +kernel
theorem s32_4_o13 (d : Nat) (l0 : Value) (l1 : Value) (l2 : Value) (l3 : Value) (l4 : Value) (l5 : Value) (l6 : Value) (l7 : Value) (l8 : Value) (l9 : Value) (σ : Hs) : ru d 32 4 [l0, l1, l2, l3, l4, l5, l6, l7, l8, l9] [.ref 13] σ = ru d 32 7 [l0, l1, l2, l3, l4, l5, l6, l7, l8, l9] [.ref 14] σ := q_getf t32_4 mo32 F1_11 rfl rfl
theorem t32_7 : decode (mb 32) 7 = .ok (.iload_n 1, 1) := by decide +kernel
theorem s32_7 (d : Nat) (l0 : Value) (i1 : Int32) (l2 : Value) (l3 : Value) (l4 : Value) (l5 : Value) (l6 : Value) (l7 : Value) (l8 : Value) (l9 : Value) (w0 : Value) (σ : Hs) : ru d 32 7 [l0, .int i1, l2, l3, l4, l5, l6, l7, l8, l9] [w0] σ = ru d 32 8 [l0, .int i1, l2, l3, l4, l5, l6, l7, l8, l9] [.int i1, w0] σ := q_iload_n t32_7 rfl
theorem t32_8 : decode (mb 32) 8 = .ok (.aaload, 1) := by decide +kernel
theorem s32_8_o14 (d : Nat) (l0 : Value) (l1 : Value) (l2 : Value) (l3 : Value) (l4 : Value) (l5 : Value) (l6 : Value) (l7 : Value) (l8 : Value) (l9 : Value) (i : Int32) (σ : Hs) : ru d 32 8 [l0, l1, l2, l3, l4, l5, l6, l7, l8, l9] [.int i, .ref 14] σ = gd (vp_in i 3) (ru d 32 9 [l0, l1, l2, l3, l4, l5, l6, l7, l8, l9] [.ref (cr 14 i.toNatClampNeg)] σ) := q_aald t32_8 (by decide +kernel) (by decide +kernel) rfl
theorem t32_9 : decode (mb 32) 9 = .ok (.astore 7, 2) := by decide +kernel
theorem s32_9 (d : Nat) (l0 : Value) (l1 : Value) (l2 : Value) (l3 : Value) (l4 : Value) (l5 : Value) (i6 : Int32) (l7 : Value) (l8 : Value) (l9 : Value) (x : Nat) (σ : Hs) : ru d 32 9 [l0, l1, l2, l3, l4, l5, .int i6, l7, l8, l9] [.ref x] σ = ru d 32 11 [l0, l1, l2, l3, l4, l5, .int i6, .ref x, l8, l9] [] σ := q_astore t32_9 ⟨Nat.le_of_ble_eq_true rfl, rfl⟩ rfl
theorem t32_11 : decode (mb 32) 11 = .ok (.iconst 0, 1) := by decide +kernel
theorem s32_11 (d : Nat) (l0 : Value) (l1 : Value) (l2 : Value) (l3 : Value) (l4 : Value) (l5 : Value) (l6 : Value) (l7 : Value) (l8 : Value) (l9 : Value) (σ : Hs) : ru d 32 11 [l0, l1, l2, l3, l4, l5, l6, l7, l8, l9] [] σ = ru d 32 12 [l0, l1, l2, l3, l4, l5, l6, l7, l8, l9] [.int 0] σ := q_iconst t32_11 (by decide +kernel)
theorem t32_12 : decode (mb 32) 12 = .ok (.istore 8, 2) := by decide +kernel
theorem s32_12 (d : Nat) (l0 : Value) (l1 : Value) (l2 : Value) (l3 : Value) (l4 : Value) (l5 : Value) (l6 : Value) (a7 : Nat) (l8 : Value) (l9 : Value) (x : Int32) (σ : Hs) : ru d 32 12 [l0, l1, l2, l3, l4, l5, l6, .ref a7, l8, l9] [.int x] σ = ru d 32 14 [l0, l1, l2, l3, l4, l5, l6, .ref a7, .int x, l9] [] σ := q_istore t32_12 ⟨Nat.le_of_ble_eq_true rfl, rfl⟩ rfl
theorem t32_14 : decode (mb 32) 14 = .ok (.iload 8, 2) := by decide +kernel
theorem s32_14 (d : Nat) (l0 : Value) (l1 : Value) (l2 : Value) (l3 : Value) (l4 : Value) (l5 : Value) (l6 : Value) (l7 : Value) (i8 : Int32) (l9 : Value) (σ : Hs) : ru d 32 14 [l0, l1, l2, l3, l4, l5, l6, l7, .int i8, l9] [] σ = ru d 32 16 [l0, l1, l2, l3, l4, l5, l6, l7, .int i8, l9] [.int i8] σ := q_iload t32_14 rfl
theorem t32_16 : decode (mb 32) 16 = .ok (.aload 7, 2) := by decide +kernel
theorem s32_16 (d : Nat) (l0 : Value) (l1 : Value) (l2 : Value) (l3 : Value) (l4 : Value) (l5 : Value) (l6 : Value) (a7 : Nat) (l8 : Value) (l9 : Value) (w0 : Value) (σ : Hs) : ru d 32 16 [l0, l1, l2, l3, l4, l5, l6, .ref a7, l8, l9] [w0] σ = ru d 32 18 [l0, l1, l2, l3, l4, l5, l6, .ref a7, l8, l9] [.ref a7, w0] σ := q_aload t32_16 rfl
theorem t32_18 : decode (mb 32) 18 = .ok (.getfield 24, 3) := by decide +kernel
theorem s32_18_o16 (d : Nat) (l0 : Value) (l1 : Value) (l2 : Value) (l3 : Value) (l4 : Value) (l5 : Value) (l6 : Value) (l7 : Value) (l8 : Value) (l9 : Value) (w0 : Value) (σ : Hs) : ru d 32 18 [l0, l1, l2, l3, l4, l5, l6, l7, l8, l9] [.ref 16, w0] σ = ru d 32 21 [l0, l1, l2, l3, l4, l5, l6, l7, l8, l9] [.int (σ 16 1), w0] σ := q_getf t32_18 mo32 F1_24 rfl rfl
theorem s32_18_o18 (d : Nat) (l0 : Value) (l1 : Value) (l2 : Value) (l3 : Value) (l4 : Value) (l5 : Value) (l6 : Value) (l7 : Value) (l8 : Value) (l9 : Value) (w0 : Value) (σ : Hs) : ru d 32 18 [l0, l1, l2, l3, l4, l5, l6, l7, l8, l9] [.ref 18, w0] σ = ru d 32 21 [l0, l1, l2, l3, l4, l5, l6, l7, l8, l9] [.int (σ 18 1), w0] σ := q_getf t32_18 mo32 F1_24 rfl rfl
theorem s32_18_o20 (d : Nat) (l0 : Value) (l1 : Value) (l2 : Value) (l3 : Value) (l4 : Value) (l5 : Value) (l6 : Value) (l7 : Value) (l8 : Value) (l9 : Value) (w0 : Value) (σ : Hs) : ru d 32 18 [l0, l1, l2, l3, l4, l5, l6, l7, l8, l9] [.ref 20, w0] σ = ru d 32 21 [l0, l1, l2, l3, l4, l5, l6, l7, l8, l9] [.int (σ 20 1), w0] σ := q_getf t32_18 mo32 F1_24 rfl rfl
theorem t32_21 : decode (mb 32) 21 = .ok (.if_icmp .ge 220, 3) := by decide +kernel
theorem s32_21 (d : Nat) (l0 : Value) (l1 : Value) (l2 : Value) (l3 : Value) (l4 : Value) (l5 : Value) (l6 : Value) (l7 : Value) (l8 : Value) (l9 : Value) (x y : Int32) (σ : Hs) : ru d 32 21 [l0, l1, l2, l3, l4, l5, l6, l7, l8, l9] [.int y, .int x] σ = if y ≤ x then ru d 32 241 [l0, l1, l2, l3, l4, l5, l6, l7, l8, l9] [] σ else ru d 32 24 [l0, l1, l2, l3, l4, l5, l6, l7, l8, l9] [] σ := q_ic_ge t32_21 (by decide +kernel)
theorem t32_24 : decode (mb 32) 24 = .ok (.aload 7, 2) := by decide +kernel
theorem s32_24 (d : Nat) (l0 : Value) (l1 : Value) (l2 : Value) (l3 : Value) (l4 : Value) (l5 : Value) (l6 : Value) (a7 : Nat) (l8 : Value) (l9 : Value) (σ : Hs) : ru d 32 24 [l0, l1, l2, l3, l4, l5, l6, .ref a7, l8, l9] [] σ = ru d 32 26 [l0, l1, l2, l3, l4, l5, l6, .ref a7, l8, l9] [.ref a7] σ := q_aload t32_24 rfl
theorem t32_26 : decode (mb 32) 26 = .ok (.getfield 32, 3) := by decide +kernel
theorem s32_26_o16 (d : Nat) (l0 : Value) (l1 : Value) (l2 : Value) (l3 : Value) (l4 : Value) (l5 : Value) (l6 : Value) (l7 : Value) (l8 : Value) (l9 : Value) (σ : Hs) : ru d 32 26 [l0, l1, l2, l3, l4, l5, l6, l7, l8, l9] [.ref 16] σ = ru d 32 29 [l0, l1, l2, l3, l4, l5, l6, l7, l8, l9] [.ref 17] σ := q_getf t32_26 mo32 F1_32 rfl rfl
theorem s32_26_o18 (d : Nat) (l0 : Value) (l1 : Value) (l2 : Value) (l3 : Value) (l4 : Value) (l5 : Value) (l6 : Value) (l7 : Value) (l8 : Value) (l9 : Value) (σ : Hs) : ru d 32 26 [l0, l1, l2, l3, l4, l5, l6, l7, l8, l9] [.ref 18] σ = ru d 32 29 [l0, l1, l2, l3, l4, l5, l6, l7, l8, l9] [.ref 19] σ := q_getf t32_26 mo32 F1_32 rfl rfl
theorem s32_26_o20 (d : Nat) (l0 : Value) (l1 : Value) (l2 : Value) (l3 : Value) (l4 : Value) (l5 : Value) (l6 : Value) (l7 : Value) (l8 : Value) (l9 : Value) (σ : Hs) : ru d 32 26 [l0, l1, l2, l3, l4, l5, l6, l7, l8, l9] [.ref 20] σ = ru d 32 29 [l0, l1, l2, l3, l4, l5, l6, l7, l8, l9] [.ref 21] σ := q_getf t32_26 mo32 F1_32 rfl rfl
theorem t32_29 : decode (mb 32) 29 = .ok (.iload 8, 2) := by decide +kernel
theorem s32_29 (d : Nat) (l0 : Value) (l1 : Value) (l2 : Value) (l3 : Value) (l4 : Value) (l5 : Value) (l6 : Value) (l7 : Value) (i8 : Int32) (l9 : Value) (w0 : Value) (σ : Hs) : ru d 32 29 [l0, l1, l2, l3, l4, l5, l6, l7, .int i8, l9] [w0] σ = ru d 32 31 [l0, l1, l2, l3, l4, l5, l6, l7, .int i8, l9] [.int i8, w0] σ := q_iload t32_29 rfl
theorem t32_31 : decode (mb 32) 31 = .ok (.iaload, 1) := by decide +kernel
theorem s32_31_o17 (d : Nat) (l0 : Value) (l1 : Value) (l2 : Value) (l3 : Value) (l4 : Value) (l5 : Value) (l6 : Value) (l7 : Value) (l8 : Value) (l9 : Value) (i : Int32) (σ : Hs) : ru d 32 31 [l0, l1, l2, l3, l4, l5, l6, l7, l8, l9] [.int i, .ref 17] σ = gd (vp_in i 60) (ru d 32 32 [l0, l1, l2, l3, l4, l5, l6, l7, l8, l9] [.int (σ 17 i.toNatClampNeg)] σ) := q_iald t32_31 rfl (by decide +kernel) rfl
theorem s32_31_o19 (d : Nat) (l0 : Value) (l1 : Value) (l2 : Value) (l3 : Value) (l4 : Value) (l5 : Value) (l6 : Value) (l7 : Value) (l8 : Value) (l9 : Value) (i : Int32) (σ : Hs) : ru d 32 31 [l0, l1, l2, l3, l4, l5, l6, l7, l8, l9] [.int i, .ref 19] σ = gd (vp_in i 60) (ru d 32 32 [l0, l1, l2, l3, l4, l5, l6, l7, l8, l9] [.int (σ 19 i.toNatClampNeg)] σ) := q_iald t32_31 rfl (by decide +kernel) rfl
theorem s32_31_o21 (d : Nat) (l0 : Value) (l1 : Value) (l2 : Value) (l3 : Value) (l4 : Value) (l5 : Value) (l6 : Value) (l7 : Value) (l8 : Value) (l9 : Value) (i : Int32) (σ : Hs) : ru d 32 31 [l0, l1, l2, l3, l4, l5, l6, l7, l8, l9] [.int i, .ref 21] σ = gd (vp_in i 60) (ru d 32 32 [l0, l1, l2, l3, l4, l5, l6, l7, l8, l9] [.int (σ 21 i.toNatClampNeg)] σ) := q_iald t32_31 rfl (by decide +kernel) rfl
theorem t32_32 : decode (mb 32) 32 = .ok (.istore 9, 2) := by decide +kernel
theorem s32_32 (d : Nat) (l0 : Value) (l1 : Value) (l2 : Value) (l3 : Value) (l4 : Value) (l5 : Value) (l6 : Value) (l7 : Value) (i8 : Int32) (l9 : Value) (x : Int32) (σ : Hs) : ru d 32 32 [l0, l1, l2, l3, l4, l5, l6, l7, .int i8, l9] [.int x] σ = ru d 32 34 [l0, l1, l2, l3, l4, l5, l6, l7, .int i8, .int x] [] σ := q_istore t32_32 ⟨Nat.le_of_ble_eq_true rfl, rfl⟩ rfl
theorem t32_34 : decode (mb 32) 34 = .ok (.iload 9, 2) := by decide +kernel
theorem s32_34 (d : Nat) (l0 : Value) (l1 : Value) (l2 : Value) (l3 : Value) (l4 : Value) (l5 : Value) (l6 : Value) (l7 : Value) (l8 : Value) (i9 : Int32) (σ : Hs) : ru d 32 34 [l0, l1, l2, l3, l4, l5, l6, l7, l8, .int i9] [] σ = ru d 32 36 [l0, l1, l2, l3, l4, l5, l6, l7, l8, .int i9] [.int i9] σ := q_iload t32_34 rfl
theorem t32_36 : decode (mb 32) 36 = .ok (.sipush 20000, 3) := by decide +kernel
theorem s32_36 (d : Nat) (l0 : Value) (l1 : Value) (l2 : Value) (l3 : Value) (l4 : Value) (l5 : Value) (l6 : Value) (l7 : Value) (l8 : Value) (l9 : Value) (w0 : Value) (σ : Hs) : ru d 32 36 [l0, l1, l2, l3, l4, l5, l6, l7, l8, l9] [w0] σ = ru d 32 39 [l0, l1, l2, l3, l4, l5, l6, l7, l8, l9] [.int 20000, w0] σ := q_sipush t32_36 (by decide +kernel)
theorem t32_39 : decode (mb 32) 39 = .ok (.if_icmp .ge 106, 3) := by decide +kernel
theorem s32_39 (d : Nat) (l0 : Value) (l1 : Value) (l2 : Value) (l3 : Value) (l4 : Value) (l5 : Value) (l6 : Value) (l7 : Value) (l8 : Value) (l9 : Value) (x y : Int32) (σ : Hs) : ru d 32 39 [l0, l1, l2, l3, l4, l5, l6, l7, l8, l9] [.int y, .int x] σ = if y ≤ x then ru d 32 145 [l0, l1, l2, l3, l4, l5, l6, l7, l8, l9] [] σ else ru d 32 42 [l0, l1, l2, l3, l4, l5, l6, l7, l8, l9] [] σ := q_ic_ge t32_39 (by decide +kernel)
theorem t32_42 : decode (mb 32) 42 = .ok (.iload 6, 2) := by decide +kernel
theorem s32_42 (d : Nat) (l0 : Value) (l1 : Value) (l2 : Value) (l3 : Value) (l4 : Value) (l5 : Value) (i6 : Int32) (l7 : Value) (l8 : Value) (l9 : Value) (σ : Hs) : ru d 32 42 [l0, l1, l2, l3, l4, l5, .int i6, l7, l8, l9] [] σ = ru d 32 44 [l0, l1, l2, l3, l4, l5, .int i6, l7, l8, l9] [.int i6] σ := q_iload t32_42 rfl
theorem t32_44 : decode (mb 32) 44 = .ok (.bipush 60, 2) := by decide +kernel
theorem s32_44 (d : Nat) (l0 : Value) (l1 : Value) (l2 : Value) (l3 : Value) (l4 : Value) (l5 : Value) (l6 : Value) (l7 : Value) (l8 : Value) (l9 : Value) (w0 : Value) (σ : Hs) : ru d 32 44 [l0, l1, l2, l3, l4, l5, l6, l7, l8, l9] [w0] σ = ru d 32 46 [l0, l1, l2, l3, l4, l5, l6, l7, l8, l9] [.int 60, w0] σ := q_bipush t32_44 (by decide +kernel)
theorem t32_46 : decode (mb 32) 46 = .ok (.if_icmp .lt 5, 3) := by decide +kernel
theorem s32_46 (d : Nat) (l0 : Value) (l1 : Value) (l2 : Value) (l3 : Value) (l4 : Value) (l5 : Value) (l6 : Value) (l7 : Value) (l8 : Value) (l9 : Value) (x y : Int32) (σ : Hs) : ru d 32 46 [l0, l1, l2, l3, l4, l5, l6, l7, l8, l9] [.int y, .int x] σ = if x < y then ru d 32 51 [l0, l1, l2, l3, l4, l5, l6, l7, l8, l9] [] σ else ru d 32 49 [l0, l1, l2, l3, l4, l5, l6, l7, l8, l9] [] σ := q_ic_lt t32_46 (by decide +kernel)
theorem t32_49 : decode (mb 32) 49 = .ok (.iconst 0, 1) := by decide +kernel
theorem s32_49 (d : Nat) (l0 : Value) (l1 : Value) (l2 : Value) (l3 : Value) (l4 : Value) (l5 : Value) (l6 : Value) (l7 : Value) (l8 : Value) (l9 : Value) (σ : Hs) : ru d 32 49 [l0, l1, l2, l3, l4, l5, l6, l7, l8, l9] [] σ = ru d 32 50 [l0, l1, l2, l3, l4, l5, l6, l7, l8, l9] [.int 0] σ := q_iconst t32_49 (by decide +kernel)
theorem t32_50 : decode (mb 32) 50 = .ok (.ireturn, 1) := by decide +kernel
theorem s32_50 (d : Nat) (l0 : Value) (l1 : Value) (l2 : Value) (l3 : Value) (l4 : Value) (l5 : Value) (l6 : Value) (l7 : Value) (l8 : Value) (l9 : Value) (x : Int32) (σ : Hs) : ru d 32 50 [l0, l1, l2, l3, l4, l5, l6, l7, l8, l9] [.int x] σ = some (some (.int x), σ) := q_ireti t32_50 mr32
theorem t32_51 : decode (mb 32) 51 = .ok (.iload 9, 2) := by decide +kernel
theorem s32_51 (d : Nat) (l0 : Value) (l1 : Value) (l2 : Value) (l3 : Value) (l4 : Value) (l5 : Value) (l6 : Value) (l7 : Value) (l8 : Value) (i9 : Int32) (σ : Hs) : ru d 32 51 [l0, l1, l2, l3, l4, l5, l6, l7, l8, .int i9] [] σ = ru d 32 53 [l0, l1, l2, l3, l4, l5, l6, l7, l8, .int i9] [.int i9] σ := q_iload t32_51 rfl
theorem t32_53 : decode (mb 32) 53 = .ok (.tableswitch 77 10000 10003 #[31, 42, 53, 65], 31) := by decide +kernel
theorem f32_53 (x : Int32) : (tsw 10000 10003 #[31, 42, 53, 65] 77 x.toInt).bind (tgt 53) = some (if x = 10000 then 84 else (if x = 10001 then 95 else (if x = 10002 then 106 else (if x = 10003 then 118 else 130)))) := by
  by_cases h0 : x = 10000
  · subst h0; decide +kernel
  by_cases h1 : x = 10001
  · subst h1; decide +kernel
  by_cases h2 : x = 10002
  · subst h2; decide +kernel
  by_cases h3 : x = 10003
  · subst h3; decide +kernel
  have e0 : ¬ x.toInt = 10000 := fun h => h0 (Int32.toInt_inj.mp (h.trans (by decide +kernel)))
  have e1 : ¬ x.toInt = 10001 := fun h => h1 (Int32.toInt_inj.mp (h.trans (by decide +kernel)))
  have e2 : ¬ x.toInt = 10002 := fun h => h2 (Int32.toInt_inj.mp (h.trans (by decide +kernel)))
  have e3 : ¬ x.toInt = 10003 := fun h => h3 (Int32.toInt_inj.mp (h.trans (by decide +kernel)))
  have e : x.toInt < 10000 ∨ 10003 < x.toInt := by omega
  unfold tsw
  rw [if_pos e, if_neg h0, if_neg h1, if_neg h2, if_neg h3]
  decide +kernel
theorem s32_53 (d : Nat) (l0 : Value) (l1 : Value) (l2 : Value) (l3 : Value) (l4 : Value) (l5 : Value) (l6 : Value) (l7 : Value) (l8 : Value) (l9 : Value) (x : Int32) (σ : Hs) : ru d 32 53 [l0, l1, l2, l3, l4, l5, l6, l7, l8, l9] [.int x] σ = if x = 10000 then ru d 32 84 [l0, l1, l2, l3, l4, l5, l6, l7, l8, l9] [] σ else if x = 10001 then ru d 32 95 [l0, l1, l2, l3, l4, l5, l6, l7, l8, l9] [] σ else if x = 10002 then ru d 32 106 [l0, l1, l2, l3, l4, l5, l6, l7, l8, l9] [] σ else if x = 10003 then ru d 32 118 [l0, l1, l2, l3, l4, l5, l6, l7, l8, l9] [] σ else ru d 32 130 [l0, l1, l2, l3, l4, l5, l6, l7, l8, l9] [] σ := by
  refine (q_tsw t32_53 (fun x => (if x = 10000 then 84 else (if x = 10001 then 95 else (if x = 10002 then 106 else (if x = 10003 then 118 else 130))))) (f32_53 x)).trans ?_
  by_cases h0 : x = 10000
  · rw [if_pos h0, if_pos h0]
  rw [if_neg h0, if_neg h0]
  by_cases h1 : x = 10001
  · rw [if_pos h1, if_pos h1]
  rw [if_neg h1, if_neg h1]
  by_cases h2 : x = 10002
  · rw [if_pos h2, if_pos h2]
  rw [if_neg h2, if_neg h2]
  by_cases h3 : x = 10003
  · rw [if_pos h3, if_pos h3]
  rw [if_neg h3, if_neg h3]
theorem t32_84 : decode (mb 32) 84 = .ok (.aload_n 0, 1) := by decide +kernel
theorem s32_84 (d : Nat) (a0 : Nat) (l1 : Value) (l2 : Value) (l3 : Value) (l4 : Value) (l5 : Value) (l6 : Value) (l7 : Value) (l8 : Value) (l9 : Value) (σ : Hs) : ru d 32 84 [.ref a0, l1, l2, l3, l4, l5, l6, l7, l8, l9] [] σ = ru d 32 85 [.ref a0, l1, l2, l3, l4, l5, l6, l7, l8, l9] [.ref a0] σ := q_aload_n t32_84 rfl
theorem t32_85 : decode (mb 32) 85 = .ok (.getfield 17, 3) := by decide +kernel
theorem s32_85_o13 (d : Nat) (l0 : Value) (l1 : Value) (l2 : Value) (l3 : Value) (l4 : Value) (l5 : Value) (l6 : Value) (l7 : Value) (l8 : Value) (l9 : Value) (σ : Hs) : ru d 32 85 [l0, l1, l2, l3, l4, l5, l6, l7, l8, l9] [.ref 13] σ = ru d 32 88 [l0, l1, l2, l3, l4, l5, l6, l7, l8, l9] [.ref 15] σ := q_getf t32_85 mo32 F1_17 rfl rfl
theorem t32_88 : decode (mb 32) 88 = .ok (.iload 6, 2) := by decide +kernel
theorem s32_88 (d : Nat) (l0 : Value) (l1 : Value) (l2 : Value) (l3 : Value) (l4 : Value) (l5 : Value) (i6 : Int32) (l7 : Value) (l8 : Value) (l9 : Value) (w0 : Value) (σ : Hs) : ru d 32 88 [l0, l1, l2, l3, l4, l5, .int i6, l7, l8, l9] [w0] σ = ru d 32 90 [l0, l1, l2, l3, l4, l5, .int i6, l7, l8, l9] [.int i6, w0] σ := q_iload t32_88 rfl
theorem t32_90 : decode (mb 32) 90 = .ok (.iload_n 2, 1) := by decide +kernel
theorem s32_90 (d : Nat) (l0 : Value) (l1 : Value) (i2 : Int32) (l3 : Value) (l4 : Value) (l5 : Value) (l6 : Value) (l7 : Value) (l8 : Value) (l9 : Value) (w0 w1 : Value) (σ : Hs) : ru d 32 90 [l0, l1, .int i2, l3, l4, l5, l6, l7, l8, l9] [w0, w1] σ = ru d 32 91 [l0, l1, .int i2, l3, l4, l5, l6, l7, l8, l9] [.int i2, w0, w1] σ := q_iload_n t32_90 rfl
theorem t32_91 : decode (mb 32) 91 = .ok (.iastore, 1) := by decide +kernel
theorem s32_91_o15 (d : Nat) (l0 : Value) (l1 : Value) (l2 : Value) (l3 : Value) (l4 : Value) (l5 : Value) (l6 : Value) (l7 : Value) (l8 : Value) (l9 : Value) (i x : Int32) (σ : Hs) : ru d 32 91 [l0, l1, l2, l3, l4, l5, l6, l7, l8, l9] [.int x, .int i, .ref 15] σ = gd (vp_in i 60) (ru d 32 92 [l0, l1, l2, l3, l4, l5, l6, l7, l8, l9] [] (up2 σ 15 i.toNatClampNeg x)) := q_iast t32_91 (by decide +kernel) rfl rfl
theorem t32_92 : decode (mb 32) 92 = .ok (.goto 47, 3) := by decide +kernel
theorem s32_92 (d : Nat) (l0 : Value) (l1 : Value) (l2 : Value) (l3 : Value) (l4 : Value) (l5 : Value) (l6 : Value) (l7 : Value) (l8 : Value) (l9 : Value) (σ : Hs) : ru d 32 92 [l0, l1, l2, l3, l4, l5, l6, l7, l8, l9] [] σ = ru d 32 139 [l0, l1, l2, l3, l4, l5, l6, l7, l8, l9] [] σ := q_goto t32_92 (by decide +kernel)
theorem t32_95 : decode (mb 32) 95 = .ok (.aload_n 0, 1) := by decide +kernel
theorem s32_95 (d : Nat) (a0 : Nat) (l1 : Value) (l2 : Value) (l3 : Value) (l4 : Value) (l5 : Value) (l6 : Value) (l7 : Value) (l8 : Value) (l9 : Value) (σ : Hs) : ru d 32 95 [.ref a0, l1, l2, l3, l4, l5, l6, l7, l8, l9] [] σ = ru d 32 96 [.ref a0, l1, l2, l3, l4, l5, l6, l7, l8, l9] [.ref a0] σ := q_aload_n t32_95 rfl
theorem t32_96 : decode (mb 32) 96 = .ok (.getfield 17, 3) := by decide +kernel
theorem s32_96_o13 (d : Nat) (l0 : Value) (l1 : Value) (l2 : Value) (l3 : Value) (l4 : Value) (l5 : Value) (l6 : Value) (l7 : Value) (l8 : Value) (l9 : Value) (σ : Hs) : ru d 32 96 [l0, l1, l2, l3, l4, l5, l6, l7, l8, l9] [.ref 13] σ = ru d 32 99 [l0, l1, l2, l3, l4, l5, l6, l7, l8, l9] [.ref 15] σ := q_getf t32_96 mo32 F1_17 rfl rfl
theorem t32_99 : decode (mb 32) 99 = .ok (.iload 6, 2) := by decide +kernel
theorem s32_99 (d : Nat) (l0 : Value) (l1 : Value) (l2 : Value) (l3 : Value) (l4 : Value) (l5 : Value) (i6 : Int32) (l7 : Value) (l8 : Value) (l9 : Value) (w0 : Value) (σ : Hs) : ru d 32 99 [l0, l1, l2, l3, l4, l5, .int i6, l7, l8, l9] [w0] σ = ru d 32 101 [l0, l1, l2, l3, l4, l5, .int i6, l7, l8, l9] [.int i6, w0] σ := q_iload t32_99 rfl
theorem t32_101 : decode (mb 32) 101 = .ok (.iload_n 3, 1) := by decide +kernel
theorem s32_101 (d : Nat) (l0 : Value) (l1 : Value) (l2 : Value) (i3 : Int32) (l4 : Value) (l5 : Value) (l6 : Value) (l7 : Value) (l8 : Value) (l9 : Value) (w0 w1 : Value) (σ : Hs) : ru d 32 101 [l0, l1, l2, .int i3, l4, l5, l6, l7, l8, l9] [w0, w1] σ = ru d 32 102 [l0, l1, l2, .int i3, l4, l5, l6, l7, l8, l9] [.int i3, w0, w1] σ := q_iload_n t32_101 rfl
theorem t32_102 : decode (mb 32) 102 = .ok (.iastore, 1) := by decide +kernel
theorem s32_102_o15 (d : Nat) (l0 : Value) (l1 : Value) (l2 : Value) (l3 : Value) (l4 : Value) (l5 : Value) (l6 : Value) (l7 : Value) (l8 : Value) (l9 : Value) (i x : Int32) (σ : Hs) : ru d 32 102 [l0, l1, l2, l3, l4, l5, l6, l7, l8, l9] [.int x, .int i, .ref 15] σ = gd (vp_in i 60) (ru d 32 103 [l0, l1, l2, l3, l4, l5, l6, l7, l8, l9] [] (up2 σ 15 i.toNatClampNeg x)) := q_iast t32_102 (by decide +kernel) rfl rfl
theorem t32_103 : decode (mb 32) 103 = .ok (.goto 36, 3) := by decide +kernel
theorem s32_103 (d : Nat) (l0 : Value) (l1 : Value) (l2 : Value) (l3 : Value) (l4 : Value) (l5 : Value) (l6 : Value) (l7 : Value) (l8 : Value) (l9 : Value) (σ : Hs) : ru d 32 103 [l0, l1, l2, l3, l4, l5, l6, l7, l8, l9] [] σ = ru d 32 139 [l0, l1, l2, l3, l4, l5, l6, l7, l8, l9] [] σ := q_goto t32_103 (by decide +kernel)
theorem t32_106 : decode (mb 32) 106 = .ok (.aload_n 0, 1) := by decide +kernel
theorem s32_106 (d : Nat) (a0 : Nat) (l1 : Value) (l2 : Value) (l3 : Value) (l4 : Value) (l5 : Value) (l6 : Value) (l7 : Value) (l8 : Value) (l9 : Value) (σ : Hs) : ru d 32 106 [.ref a0, l1, l2, l3, l4, l5, l6, l7, l8, l9] [] σ = ru d 32 107 [.ref a0, l1, l2, l3, l4, l5, l6, l7, l8, l9] [.ref a0] σ := q_aload_n t32_106 rfl
theorem t32_107 : decode (mb 32) 107 = .ok (.getfield 17, 3) := by decide +kernel
theorem s32_107_o13 (d : Nat) (l0 : Value) (l1 : Value) (l2 : Value) (l3 : Value) (l4 : Value) (l5 : Value) (l6 : Value) (l7 : Value) (l8 : Value) (l9 : Value) (σ : Hs) : ru d 32 107 [l0, l1, l2, l3, l4, l5, l6, l7, l8, l9] [.ref 13] σ = ru d 32 110 [l0, l1, l2, l3, l4, l5, l6, l7, l8, l9] [.ref 15] σ := q_getf t32_107 mo32 F1_17 rfl rfl
theorem t32_110 : decode (mb 32) 110 = .ok (.iload 6, 2) := by decide +kernel
theorem s32_110 (d : Nat) (l0 : Value) (l1 : Value) (l2 : Value) (l3 : Value) (l4 : Value) (l5 : Value) (i6 : Int32) (l7 : Value) (l8 : Value) (l9 : Value) (w0 : Value) (σ : Hs) : ru d 32 110 [l0, l1, l2, l3, l4, l5, .int i6, l7, l8, l9] [w0] σ = ru d 32 112 [l0, l1, l2, l3, l4, l5, .int i6, l7, l8, l9] [.int i6, w0] σ := q_iload t32_110 rfl
theorem t32_112 : decode (mb 32) 112 = .ok (.iload 4, 2) := by decide +kernel
theorem s32_112 (d : Nat) (l0 : Value) (l1 : Value) (l2 : Value) (l3 : Value) (i4 : Int32) (l5 : Value) (l6 : Value) (l7 : Value) (l8 : Value) (l9 : Value) (w0 w1 : Value) (σ : Hs) : ru d 32 112 [l0, l1, l2, l3, .int i4, l5, l6, l7, l8, l9] [w0, w1] σ = ru d 32 114 [l0, l1, l2, l3, .int i4, l5, l6, l7, l8, l9] [.int i4, w0, w1] σ := q_iload t32_112 rfl
theorem t32_114 : decode (mb 32) 114 = .ok (.iastore, 1) := by decide +kernel
theorem s32_114_o15 (d : Nat) (l0 : Value) (l1 : Value) (l2 : Value) (l3 : Value) (l4 : Value) (l5 : Value) (l6 : Value) (l7 : Value) (l8 : Value) (l9 : Value) (i x : Int32) (σ : Hs) : ru d 32 114 [l0, l1, l2, l3, l4, l5, l6, l7, l8, l9] [.int x, .int i, .ref 15] σ = gd (vp_in i 60) (ru d 32 115 [l0, l1, l2, l3, l4, l5, l6, l7, l8, l9] [] (up2 σ 15 i.toNatClampNeg x)) := q_iast t32_114 (by decide +kernel) rfl rfl
theorem t32_115 : decode (mb 32) 115 = .ok (.goto 24, 3) := by decide +kernel
theorem s32_115 (d : Nat) (l0 : Value) (l1 : Value) (l2 : Value) (l3 : Value) (l4 : Value) (l5 : Value) (l6 : Value) (l7 : Value) (l8 : Value) (l9 : Value) (σ : Hs) : ru d 32 115 [l0, l1, l2, l3, l4, l5, l6, l7, l8, l9] [] σ = ru d 32 139 [l0, l1, l2, l3, l4, l5, l6, l7, l8, l9] [] σ := q_goto t32_115 (by decide +kernel)
theorem t32_118 : decode (mb 32) 118 = .ok (.aload_n 0, 1) := by decide +kernel
theorem s32_118 (d : Nat) (a0 : Nat) (l1 : Value) (l2 : Value) (l3 : Value) (l4 : Value) (l5 : Value) (l6 : Value) (l7 : Value) (l8 : Value) (l9 : Value) (σ : Hs) : ru d 32 118 [.ref a0, l1, l2, l3, l4, l5, l6, l7, l8, l9] [] σ = ru d 32 119 [.ref a0, l1, l2, l3, l4, l5, l6, l7, l8, l9] [.ref a0] σ := q_aload_n t32_118 rfl
theorem t32_119 : decode (mb 32) 119 = .ok (.getfield 17, 3) := by decide +kernel
theorem s32_119_o13 (d : Nat) (l0 : Value) (l1 : Value) (l2 : Value) (l3 : Value) (l4 : Value) (l5 : Value) (l6 : Value) (l7 : Value) (l8 : Value) (l9 : Value) (σ : Hs) : ru d 32 119 [l0, l1, l2, l3, l4, l5, l6, l7, l8, l9] [.ref 13] σ = ru d 32 122 [l0, l1, l2, l3, l4, l5, l6, l7, l8, l9] [.ref 15] σ := q_getf t32_119 mo32 F1_17 rfl rfl
theorem t32_122 : decode (mb 32) 122 = .ok (.iload 6, 2) := by decide +kernel
theorem s32_122 (d : Nat) (l0 : Value) (l1 : Value) (l2 : Value) (l3 : Value) (l4 : Value) (l5 : Value) (i6 : Int32) (l7 : Value) (l8 : Value) (l9 : Value) (w0 : Value) (σ : Hs) : ru d 32 122 [l0, l1, l2, l3, l4, l5, .int i6, l7, l8, l9] [w0] σ = ru d 32 124 [l0, l1, l2, l3, l4, l5, .int i6, l7, l8, l9] [.int i6, w0] σ := q_iload t32_122 rfl
theorem t32_124 : decode (mb 32) 124 = .ok (.iload 5, 2) := by decide +kernel
theorem s32_124 (d : Nat) (l0 : Value) (l1 : Value) (l2 : Value) (l3 : Value) (l4 : Value) (i5 : Int32) (l6 : Value) (l7 : Value) (l8 : Value) (l9 : Value) (w0 w1 : Value) (σ : Hs) : ru d 32 124 [l0, l1, l2, l3, l4, .int i5, l6, l7, l8, l9] [w0, w1] σ = ru d 32 126 [l0, l1, l2, l3, l4, .int i5, l6, l7, l8, l9] [.int i5, w0, w1] σ := q_iload t32_124 rfl
theorem t32_126 : decode (mb 32) 126 = .ok (.iastore, 1) := by decide +kernel
theorem s32_126_o15 (d : Nat) (l0 : Value) (l1 : Value) (l2 : Value) (l3 : Value) (l4 : Value) (l5 : Value) (l6 : Value) (l7 : Value) (l8 : Value) (l9 : Value) (i x : Int32) (σ : Hs) : ru d 32 126 [l0, l1, l2, l3, l4, l5, l6, l7, l8, l9] [.int x, .int i, .ref 15] σ = gd (vp_in i 60) (ru d 32 127 [l0, l1, l2, l3, l4, l5, l6, l7, l8, l9] [] (up2 σ 15 i.toNatClampNeg x)) := q_iast t32_126 (by decide +kernel) rfl rfl
theorem t32_127 : decode (mb 32) 127 = .ok (.goto 12, 3) := by decide +kernel
theorem s32_127 (d : Nat) (l0 : Value) (l1 : Value) (l2 : Value) (l3 : Value) (l4 : Value) (l5 : Value) (l6 : Value) (l7 : Value) (l8 : Value) (l9 : Value) (σ : Hs) : ru d 32 127 [l0, l1, l2, l3, l4, l5, l6, l7, l8, l9] [] σ = ru d 32 139 [l0, l1, l2, l3, l4, l5, l6, l7, l8, l9] [] σ := q_goto t32_127 (by decide +kernel)
theorem t32_130 : decode (mb 32) 130 = .ok (.aload_n 0, 1) := by decide +kernel
theorem s32_130 (d : Nat) (a0 : Nat) (l1 : Value) (l2 : Value) (l3 : Value) (l4 : Value) (l5 : Value) (l6 : Value) (l7 : Value) (l8 : Value) (l9 : Value) (σ : Hs) : ru d 32 130 [.ref a0, l1, l2, l3, l4, l5, l6, l7, l8, l9] [] σ = ru d 32 131 [.ref a0, l1, l2, l3, l4, l5, l6, l7, l8, l9] [.ref a0] σ := q_aload_n t32_130 rfl
theorem t32_131 : decode (mb 32) 131 = .ok (.getfield 17, 3) := by decide +kernel
theorem s32_131_o13 (d : Nat) (l0 : Value) (l1 : Value) (l2 : Value) (l3 : Value) (l4 : Value) (l5 : Value) (l6 : Value) (l7 : Value) (l8 : Value) (l9 : Value) (σ : Hs) : ru d 32 131 [l0, l1, l2, l3, l4, l5, l6, l7, l8, l9] [.ref 13] σ = ru d 32 134 [l0, l1, l2, l3, l4, l5, l6, l7, l8, l9] [.ref 15] σ := q_getf t32_131 mo32 F1_17 rfl rfl
theorem t32_134 : decode (mb 32) 134 = .ok (.iload 6, 2) := by decide +kernel
theorem s32_134 (d : Nat) (l0 : Value) (l1 : Value) (l2 : Value) (l3 : Value) (l4 : Value) (l5 : Value) (i6 : Int32) (l7 : Value) (l8 : Value) (l9 : Value) (w0 : Value) (σ : Hs) : ru d 32 134 [l0, l1, l2, l3, l4, l5, .int i6, l7, l8, l9] [w0] σ = ru d 32 136 [l0, l1, l2, l3, l4, l5, .int i6, l7, l8, l9] [.int i6, w0] σ := q_iload t32_134 rfl
theorem t32_136 : decode (mb 32) 136 = .ok (.iload 9, 2) := by decide +kernel
theorem s32_136 (d : Nat) (l0 : Value) (l1 : Value) (l2 : Value) (l3 : Value) (l4 : Value) (l5 : Value) (l6 : Value) (l7 : Value) (l8 : Value) (i9 : Int32) (w0 w1 : Value) (σ : Hs) : ru d 32 136 [l0, l1, l2, l3, l4, l5, l6, l7, l8, .int i9] [w0, w1] σ = ru d 32 138 [l0, l1, l2, l3, l4, l5, l6, l7, l8, .int i9] [.int i9, w0, w1] σ := q_iload t32_136 rfl
theorem t32_138 : decode (mb 32) 138 = .ok (.iastore, 1) := by decide +kernel
theorem s32_138_o15 (d : Nat) (l0 : Value) (l1 : Value) (l2 : Value) (l3 : Value) (l4 : Value) (l5 : Value) (l6 : Value) (l7 : Value) (l8 : Value) (l9 : Value) (i x : Int32) (σ : Hs) : ru d 32 138 [l0, l1, l2, l3, l4, l5, l6, l7, l8, l9] [.int x, .int i, .ref 15] σ = gd (vp_in i 60) (ru d 32 139 [l0, l1, l2, l3, l4, l5, l6, l7, l8, l9] [] (up2 σ 15 i.toNatClampNeg x)) := q_iast t32_138 (by decide +kernel) rfl rfl
theorem t32_139 : decode (mb 32) 139 = .ok (.iinc 6 1, 3) := by decide +kernel
theorem s32_139 (d : Nat) (l0 : Value) (l1 : Value) (l2 : Value) (l3 : Value) (l4 : Value) (i5 : Int32) (i6 : Int32) (l7 : Value) (l8 : Value) (l9 : Value) (σ : Hs) : ru d 32 139 [l0, l1, l2, l3, l4, .int i5, .int i6, l7, l8, l9] [] σ = ru d 32 142 [l0, l1, l2, l3, l4, .int i5, .int (i6 + 1), l7, l8, l9] [] σ := q_iinc t32_139 ⟨Nat.le_of_ble_eq_true rfl, rfl⟩ rfl (by decide +kernel) rfl
theorem t32_142 : decode (mb 32) 142 = .ok (.goto 93, 3) := by decide +kernel
theorem s32_142 (d : Nat) (l0 : Value) (l1 : Value) (l2 : Value) (l3 : Value) (l4 : Value) (l5 : Value) (l6 : Value) (l7 : Value) (l8 : Value) (l9 : Value) (σ : Hs) : ru d 32 142 [l0, l1, l2, l3, l4, l5, l6, l7, l8, l9] [] σ = ru d 32 235 [l0, l1, l2, l3, l4, l5, l6, l7, l8, l9] [] σ := q_goto t32_142 (by decide +kernel)
theorem t32_145 : decode (mb 32) 145 = .ok (.iload 9, 2) := by decide +kernel
theorem s32_145 (d : Nat) (l0 : Value) (l1 : Value) (l2 : Value) (l3 : Value) (l4 : Value) (l5 : Value) (l6 : Value) (l7 : Value) (l8 : Value) (i9 : Int32) (σ : Hs) : ru d 32 145 [l0, l1, l2, l3, l4, l5, l6, l7, l8, .int i9] [] σ = ru d 32 147 [l0, l1, l2, l3, l4, l5, l6, l7, l8, .int i9] [.int i9] σ := q_iload t32_145 rfl
theorem t32_147 : decode (mb 32) 147 = .ok (.sipush 20033, 3) := by decide +kernel
theorem s32_147 (d : Nat) (l0 : Value) (l1 : Value) (l2 : Value) (l3 : Value) (l4 : Value) (l5 : Value) (l6 : Value) (l7 : Value) (l8 : Value) (l9 : Value) (w0 : Value) (σ : Hs) : ru d 32 147 [l0, l1, l2, l3, l4, l5, l6, l7, l8, l9] [w0] σ = ru d 32 150 [l0, l1, l2, l3, l4, l5, l6, l7, l8, l9] [.int 20033, w0] σ := q_sipush t32_147 (by decide +kernel)
theorem t32_150 : decode (mb 32) 150 = .ok (.if_icmp .ne 40, 3) := by decide +kernel
theorem s32_150 (d : Nat) (l0 : Value) (l1 : Value) (l2 : Value) (l3 : Value) (l4 : Value) (l5 : Value) (l6 : Value) (l7 : Value) (l8 : Value) (l9 : Value) (x y : Int32) (σ : Hs) : ru d 32 150 [l0, l1, l2, l3, l4, l5, l6, l7, l8, l9] [.int y, .int x] σ = if x = y then ru d 32 153 [l0, l1, l2, l3, l4, l5, l6, l7, l8, l9] [] σ else ru d 32 190 [l0, l1, l2, l3, l4, l5, l6, l7, l8, l9] [] σ := q_ic_ne t32_150 (by decide +kernel)
theorem t32_153 : decode (mb 32) 153 = .ok (.iload 6, 2) := by decide +kernel
theorem s32_153 (d : Nat) (l0 : Value) (l1 : Value) (l2 : Value) (l3 : Value) (l4 : Value) (l5 : Value) (i6 : Int32) (l7 : Value) (l8 : Value) (l9 : Value) (σ : Hs) : ru d 32 153 [l0, l1, l2, l3, l4, l5, .int i6, l7, l8, l9] [] σ = ru d 32 155 [l0, l1, l2, l3, l4, l5, .int i6, l7, l8, l9] [.int i6] σ := q_iload t32_153 rfl
theorem t32_155 : decode (mb 32) 155 = .ok (.iconst 1, 1) := by decide +kernel
theorem s32_155 (d : Nat) (l0 : Value) (l1 : Value) (l2 : Value) (l3 : Value) (l4 : Value) (l5 : Value) (l6 : Value) (l7 : Value) (l8 : Value) (l9 : Value) (w0 : Value) (σ : Hs) : ru d 32 155 [l0, l1, l2, l3, l4, l5, l6, l7, l8, l9] [w0] σ = ru d 32 156 [l0, l1, l2, l3, l4, l5, l6, l7, l8, l9] [.int 1, w0] σ := q_iconst t32_155 (by decide +kernel)
theorem t32_156 : decode (mb 32) 156 = .ok (.if_icmp .ge 5, 3) := by decide +kernel
theorem s32_156 (d : Nat) (l0 : Value) (l1 : Value) (l2 : Value) (l3 : Value) (l4 : Value) (l5 : Value) (l6 : Value) (l7 : Value) (l8 : Value) (l9 : Value) (x y : Int32) (σ : Hs) : ru d 32 156 [l0, l1, l2, l3, l4, l5, l6, l7, l8, l9] [.int y, .int x] σ = if y ≤ x then ru d 32 161 [l0, l1, l2, l3, l4, l5, l6, l7, l8, l9] [] σ else ru d 32 159 [l0, l1, l2, l3, l4, l5, l6, l7, l8, l9] [] σ := q_ic_ge t32_156 (by decide +kernel)
theorem t32_159 : decode (mb 32) 159 = .ok (.iconst 0, 1) := by decide +kernel
theorem s32_159 (d : Nat) (l0 : Value) (l1 : Value) (l2 : Value) (l3 : Value) (l4 : Value) (l5 : Value) (l6 : Value) (l7 : Value) (l8 : Value) (l9 : Value) (σ : Hs) : ru d 32 159 [l0, l1, l2, l3, l4, l5, l6, l7, l8, l9] [] σ = ru d 32 160 [l0, l1, l2, l3, l4, l5, l6, l7, l8, l9] [.int 0] σ := q_iconst t32_159 (by decide +kernel)
theorem t32_160 : decode (mb 32) 160 = .ok (.ireturn, 1) := by decide +kernel
theorem s32_160 (d : Nat) (l0 : Value) (l1 : Value) (l2 : Value) (l3 : Value) (l4 : Value) (l5 : Value) (l6 : Value) (l7 : Value) (l8 : Value) (l9 : Value) (x : Int32) (σ : Hs) : ru d 32 160 [l0, l1, l2, l3, l4, l5, l6, l7, l8, l9] [.int x] σ = some (some (.int x), σ) := q_ireti t32_160 mr32
theorem t32_161 : decode (mb 32) 161 = .ok (.aload_n 0, 1) := by decide +kernel
theorem s32_161 (d : Nat) (a0 : Nat) (l1 : Value) (l2 : Value) (l3 : Value) (l4 : Value) (l5 : Value) (l6 : Value) (l7 : Value) (l8 : Value) (l9 : Value) (σ : Hs) : ru d 32 161 [.ref a0, l1, l2, l3, l4, l5, l6, l7, l8, l9] [] σ = ru d 32 162 [.ref a0, l1, l2, l3, l4, l5, l6, l7, l8, l9] [.ref a0] σ := q_aload_n t32_161 rfl
theorem t32_162 : decode (mb 32) 162 = .ok (.getfield 17, 3) := by decide +kernel
theorem s32_162_o13 (d : Nat) (l0 : Value) (l1 : Value) (l2 : Value) (l3 : Value) (l4 : Value) (l5 : Value) (l6 : Value) (l7 : Value) (l8 : Value) (l9 : Value) (σ : Hs) : ru d 32 162 [l0, l1, l2, l3, l4, l5, l6, l7, l8, l9] [.ref 13] σ = ru d 32 165 [l0, l1, l2, l3, l4, l5, l6, l7, l8, l9] [.ref 15] σ := q_getf t32_162 mo32 F1_17 rfl rfl
theorem t32_165 : decode (mb 32) 165 = .ok (.iload 6, 2) := by decide +kernel
theorem s32_165 (d : Nat) (l0 : Value) (l1 : Value) (l2 : Value) (l3 : Value) (l4 : Value) (l5 : Value) (i6 : Int32) (l7 : Value) (l8 : Value) (l9 : Value) (w0 : Value) (σ : Hs) : ru d 32 165 [l0, l1, l2, l3, l4, l5, .int i6, l7, l8, l9] [w0] σ = ru d 32 167 [l0, l1, l2, l3, l4, l5, .int i6, l7, l8, l9] [.int i6, w0] σ := q_iload t32_165 rfl
theorem t32_167 : decode (mb 32) 167 = .ok (.iconst 1, 1) := by decide +kernel
theorem s32_167 (d : Nat) (l0 : Value) (l1 : Value) (l2 : Value) (l3 : Value) (l4 : Value) (l5 : Value) (l6 : Value) (l7 : Value) (l8 : Value) (l9 : Value) (w0 w1 : Value) (σ : Hs) : ru d 32 167 [l0, l1, l2, l3, l4, l5, l6, l7, l8, l9] [w0, w1] σ = ru d 32 168 [l0, l1, l2, l3, l4, l5, l6, l7, l8, l9] [.int 1, w0, w1] σ := q_iconst t32_167 (by decide +kernel)
theorem t32_168 : decode (mb 32) 168 = .ok (.isub, 1) := by decide +kernel
theorem s32_168 (d : Nat) (l0 : Value) (l1 : Value) (l2 : Value) (l3 : Value) (l4 : Value) (l5 : Value) (l6 : Value) (l7 : Value) (l8 : Value) (l9 : Value) (x y : Int32) (w0 : Value) (σ : Hs) : ru d 32 168 [l0, l1, l2, l3, l4, l5, l6, l7, l8, l9] [.int y, .int x, w0] σ = ru d 32 169 [l0, l1, l2, l3, l4, l5, l6, l7, l8, l9] [.int (x - y), w0] σ := q_isub t32_168
theorem t32_169 : decode (mb 32) 169 = .ok (.aload_n 0, 1) := by decide +kernel
theorem s32_169 (d : Nat) (a0 : Nat) (l1 : Value) (l2 : Value) (l3 : Value) (l4 : Value) (l5 : Value) (l6 : Value) (l7 : Value) (l8 : Value) (l9 : Value) (w0 w1 : Value) (σ : Hs) : ru d 32 169 [.ref a0, l1, l2, l3, l4, l5, l6, l7, l8, l9] [w0, w1] σ = ru d 32 170 [.ref a0, l1, l2, l3, l4, l5, l6, l7, l8, l9] [.ref a0, w0, w1] σ := q_aload_n t32_169 rfl
theorem t32_170 : decode (mb 32) 170 = .ok (.getfield 17, 3) := by decide +kernel
theorem s32_170_o13 (d : Nat) (l0 : Value) (l1 : Value) (l2 : Value) (l3 : Value) (l4 : Value) (l5 : Value) (l6 : Value) (l7 : Value) (l8 : Value) (l9 : Value) (w0 w1 : Value) (σ : Hs) : ru d 32 170 [l0, l1, l2, l3, l4, l5, l6, l7, l8, l9] [.ref 13, w0, w1] σ = ru d 32 173 [l0, l1, l2, l3, l4, l5, l6, l7, l8, l9] [.ref 15, w0, w1] σ := q_getf t32_170 mo32 F1_17 rfl rfl
theorem t32_173 : decode (mb 32) 173 = .ok (.iload 6, 2) := by decide +kernel
theorem s32_173 (d : Nat) (l0 : Value) (l1 : Value) (l2 : Value) (l3 : Value) (l4 : Value) (l5 : Value) (i6 : Int32) (l7 : Value) (l8 : Value) (l9 : Value) (w0 w1 w2 : Value) (σ : Hs) : ru d 32 173 [l0, l1, l2, l3, l4, l5, .int i6, l7, l8, l9] [w0, w1, w2] σ = ru d 32 175 [l0, l1, l2, l3, l4, l5, .int i6, l7, l8, l9] [.int i6, w0, w1, w2] σ := q_iload t32_173 rfl
theorem t32_175 : decode (mb 32) 175 = .ok (.iconst 1, 1) := by decide +kernel
theorem s32_175 (d : Nat) (l0 : Value) (l1 : Value) (l2 : Value) (l3 : Value) (l4 : Value) (l5 : Value) (l6 : Value) (l7 : Value) (l8 : Value) (l9 : Value) (w0 w1 w2 w3 : Value) (σ : Hs) : ru d 32 175 [l0, l1, l2, l3, l4, l5, l6, l7, l8, l9] [w0, w1, w2, w3] σ = ru d 32 176 [l0, l1, l2, l3, l4, l5, l6, l7, l8, l9] [.int 1, w0, w1, w2, w3] σ := q_iconst t32_175 (by decide +kernel)
theorem t32_176 : decode (mb 32) 176 = .ok (.isub, 1) := by decide +kernel
theorem s32_176 (d : Nat) (l0 : Value) (l1 : Value) (l2 : Value) (l3 : Value) (l4 : Value) (l5 : Value) (l6 : Value) (l7 : Value) (l8 : Value) (l9 : Value) (x y : Int32) (w0 w1 w2 : Value) (σ : Hs) : ru d 32 176 [l0, l1, l2, l3, l4, l5, l6, l7, l8, l9] [.int y, .int x, w0, w1, w2] σ = ru d 32 177 [l0, l1, l2, l3, l4, l5, l6, l7, l8, l9] [.int (x - y), w0, w1, w2] σ := q_isub t32_176
theorem t32_177 : decode (mb 32) 177 = .ok (.iaload, 1) := by decide +kernel
theorem s32_177_o15 (d : Nat) (l0 : Value) (l1 : Value) (l2 : Value) (l3 : Value) (l4 : Value) (l5 : Value) (l6 : Value) (l7 : Value) (l8 : Value) (l9 : Value) (i : Int32) (w0 w1 : Value) (σ : Hs) : ru d 32 177 [l0, l1, l2, l3, l4, l5, l6, l7, l8, l9] [.int i, .ref 15, w0, w1] σ = gd (vp_in i 60) (ru d 32 178 [l0, l1, l2, l3, l4, l5, l6, l7, l8, l9] [.int (σ 15 i.toNatClampNeg), w0, w1] σ) := q_iald t32_177 rfl (by decide +kernel) rfl
theorem t32_178 : decode (mb 32) 178 = .ok (.ifCond .ne 7, 3) := by decide +kernel
theorem s32_178 (d : Nat) (l0 : Value) (l1 : Value) (l2 : Value) (l3 : Value) (l4 : Value) (l5 : Value) (l6 : Value) (l7 : Value) (l8 : Value) (l9 : Value) (x : Int32) (w0 w1 : Value) (σ : Hs) : ru d 32 178 [l0, l1, l2, l3, l4, l5, l6, l7, l8, l9] [.int x, w0, w1] σ = if x = 0 then ru d 32 181 [l0, l1, l2, l3, l4, l5, l6, l7, l8, l9] [w0, w1] σ else ru d 32 185 [l0, l1, l2, l3, l4, l5, l6, l7, l8, l9] [w0, w1] σ := q_if_ne t32_178 (by decide +kernel)
theorem t32_181 : decode (mb 32) 181 = .ok (.iconst 1, 1) := by decide +kernel
theorem s32_181 (d : Nat) (l0 : Value) (l1 : Value) (l2 : Value) (l3 : Value) (l4 : Value) (l5 : Value) (l6 : Value) (l7 : Value) (l8 : Value) (l9 : Value) (w0 w1 : Value) (σ : Hs) : ru d 32 181 [l0, l1, l2, l3, l4, l5, l6, l7, l8, l9] [w0, w1] σ = ru d 32 182 [l0, l1, l2, l3, l4, l5, l6, l7, l8, l9] [.int 1, w0, w1] σ := q_iconst t32_181 (by decide +kernel)
theorem t32_182 : decode (mb 32) 182 = .ok (.goto 4, 3) := by decide +kernel
theorem s32_182 (d : Nat) (l0 : Value) (l1 : Value) (l2 : Value) (l3 : Value) (l4 : Value) (l5 : Value) (l6 : Value) (l7 : Value) (l8 : Value) (l9 : Value) (w0 w1 w2 : Value) (σ : Hs) : ru d 32 182 [l0, l1, l2, l3, l4, l5, l6, l7, l8, l9] [w0, w1, w2] σ = ru d 32 186 [l0, l1, l2, l3, l4, l5, l6, l7, l8, l9] [w0, w1, w2] σ := q_goto t32_182 (by decide +kernel)
theorem t32_185 : decode (mb 32) 185 = .ok (.iconst 0, 1) := by decide +kernel
theorem s32_185 (d : Nat) (l0 : Value) (l1 : Value) (l2 : Value) (l3 : Value) (l4 : Value) (l5 : Value) (l6 : Value) (l7 : Value) (l8 : Value) (l9 : Value) (w0 w1 : Value) (σ : Hs) : ru d 32 185 [l0, l1, l2, l3, l4, l5, l6, l7, l8, l9] [w0, w1] σ = ru d 32 186 [l0, l1, l2, l3, l4, l5, l6, l7, l8, l9] [.int 0, w0, w1] σ := q_iconst t32_185 (by decide +kernel)
theorem t32_186 : decode (mb 32) 186 = .ok (.iastore, 1) := by decide +kernel
theorem s32_186_o15 (d : Nat) (l0 : Value) (l1 : Value) (l2 : Value) (l3 : Value) (l4 : Value) (l5 : Value) (l6 : Value) (l7 : Value) (l8 : Value) (l9 : Value) (i x : Int32) (σ : Hs) : ru d 32 186 [l0, l1, l2, l3, l4, l5, l6, l7, l8, l9] [.int x, .int i, .ref 15] σ = gd (vp_in i 60) (ru d 32 187 [l0, l1, l2, l3, l4, l5, l6, l7, l8, l9] [] (up2 σ 15 i.toNatClampNeg x)) := q_iast t32_186 (by decide +kernel) rfl rfl
theorem t32_187 : decode (mb 32) 187 = .ok (.goto 48, 3) := by decide +kernel
theorem s32_187 (d : Nat) (l0 : Value) (l1 : Value) (l2 : Value) (l3 : Value) (l4 : Value) (l5 : Value) (l6 : Value) (l7 : Value) (l8 : Value) (l9 : Value) (σ : Hs) : ru d 32 187 [l0, l1, l2, l3, l4, l5, l6, l7, l8, l9] [] σ = ru d 32 235 [l0, l1, l2, l3, l4, l5, l6, l7, l8, l9] [] σ := q_goto t32_187 (by decide +kernel)
theorem t32_190 : decode (mb 32) 190 = .ok (.iload 6, 2) := by decide +kernel
theorem s32_190 (d : Nat) (l0 : Value) (l1 : Value) (l2 : Value) (l3 : Value) (l4 : Value) (l5 : Value) (i6 : Int32) (l7 : Value) (l8 : Value) (l9 : Value) (σ : Hs) : ru d 32 190 [l0, l1, l2, l3, l4, l5, .int i6, l7, l8, l9] [] σ = ru d 32 192 [l0, l1, l2, l3, l4, l5, .int i6, l7, l8, l9] [.int i6] σ := q_iload t32_190 rfl
theorem t32_192 : decode (mb 32) 192 = .ok (.iconst 2, 1) := by decide +kernel
theorem s32_192 (d : Nat) (l0 : Value) (l1 : Value) (l2 : Value) (l3 : Value) (l4 : Value) (l5 : Value) (l6 : Value) (l7 : Value) (l8 : Value) (l9 : Value) (w0 : Value) (σ : Hs) : ru d 32 192 [l0, l1, l2, l3, l4, l5, l6, l7, l8, l9] [w0] σ = ru d 32 193 [l0, l1, l2, l3, l4, l5, l6, l7, l8, l9] [.int 2, w0] σ := q_iconst t32_192 (by decide +kernel)
theorem t32_193 : decode (mb 32) 193 = .ok (.if_icmp .ge 5, 3) := by decide +kernel
theorem s32_193 (d : Nat) (l0 : Value) (l1 : Value) (l2 : Value) (l3 : Value) (l4 : Value) (l5 : Value) (l6 : Value) (l7 : Value) (l8 : Value) (l9 : Value) (x y : Int32) (σ : Hs) : ru d 32 193 [l0, l1, l2, l3, l4, l5, l6, l7, l8, l9] [.int y, .int x] σ = if y ≤ x then ru d 32 198 [l0, l1, l2, l3, l4, l5, l6, l7, l8, l9] [] σ else ru d 32 196 [l0, l1, l2, l3, l4, l5, l6, l7, l8, l9] [] σ := q_ic_ge t32_193 (by decide +kernel)
theorem t32_196 : decode (mb 32) 196 = .ok (.iconst 0, 1) := by decide +kernel
theorem s32_196 (d : Nat) (l0 : Value) (l1 : Value) (l2 : Value) (l3 : Value) (l4 : Value) (l5 : Value) (l6 : Value) (l7 : Value) (l8 : Value) (l9 : Value) (σ : Hs) : ru d 32 196 [l0, l1, l2, l3, l4, l5, l6, l7, l8, l9] [] σ = ru d 32 197 [l0, l1, l2, l3, l4, l5, l6, l7, l8, l9] [.int 0] σ := q_iconst t32_196 (by decide +kernel)
theorem t32_197 : decode (mb 32) 197 = .ok (.ireturn, 1) := by decide +kernel
theorem s32_197 (d : Nat) (l0 : Value) (l1 : Value) (l2 : Value) (l3 : Value) (l4 : Value) (l5 : Value) (l6 : Value) (l7 : Value) (l8 : Value) (l9 : Value) (x : Int32) (σ : Hs) : ru d 32 197 [l0, l1, l2, l3, l4, l5, l6, l7, l8, l9] [.int x] σ = some (some (.int x), σ) := q_ireti t32_197 mr32
theorem t32_198 : decode (mb 32) 198 = .ok (.iinc 6 (-1), 3) := by decide +kernel
theorem s32_198 (d : Nat) (l0 : Value) (l1 : Value) (l2 : Value) (l3 : Value) (l4 : Value) (i5 : Int32) (i6 : Int32) (l7 : Value) (l8 : Value) (l9 : Value) (σ : Hs) : ru d 32 198 [l0, l1, l2, l3, l4, .int i5, .int i6, l7, l8, l9] [] σ = ru d 32 201 [l0, l1, l2, l3, l4, .int i5, .int (i6 + (-1)), l7, l8, l9] [] σ := q_iinc t32_198 ⟨Nat.le_of_ble_eq_true rfl, rfl⟩ rfl (by decide +kernel) rfl
theorem t32_201 : decode (mb 32) 201 = .ok (.aload_n 0, 1) := by decide +kernel
theorem s32_201 (d : Nat) (a0 : Nat) (l1 : Value) (l2 : Value) (l3 : Value) (l4 : Value) (l5 : Value) (l6 : Value) (l7 : Value) (l8 : Value) (l9 : Value) (σ : Hs) : ru d 32 201 [.ref a0, l1, l2, l3, l4, l5, l6, l7, l8, l9] [] σ = ru d 32 202 [.ref a0, l1, l2, l3, l4, l5, l6, l7, l8, l9] [.ref a0] σ := q_aload_n t32_201 rfl
theorem t32_202 : decode (mb 32) 202 = .ok (.getfield 17, 3) := by decide +kernel
theorem s32_202_o13 (d : Nat) (l0 : Value) (l1 : Value) (l2 : Value) (l3 : Value) (l4 : Value) (l5 : Value) (l6 : Value) (l7 : Value) (l8 : Value) (l9 : Value) (σ : Hs) : ru d 32 202 [l0, l1, l2, l3, l4, l5, l6, l7, l8, l9] [.ref 13] σ = ru d 32 205 [l0, l1, l2, l3, l4, l5, l6, l7, l8, l9] [.ref 15] σ := q_getf t32_202 mo32 F1_17 rfl rfl
theorem t32_205 : decode (mb 32) 205 = .ok (.iload 6, 2) := by decide +kernel
theorem s32_205 (d : Nat) (l0 : Value) (l1 : Value) (l2 : Value) (l3 : Value) (l4 : Value) (l5 : Value) (i6 : Int32) (l7 : Value) (l8 : Value) (l9 : Value) (w0 : Value) (σ : Hs) : ru d 32 205 [l0, l1, l2, l3, l4, l5, .int i6, l7, l8, l9] [w0] σ = ru d 32 207 [l0, l1, l2, l3, l4, l5, .int i6, l7, l8, l9] [.int i6, w0] σ := q_iload t32_205 rfl
theorem t32_207 : decode (mb 32) 207 = .ok (.iconst 1, 1) := by decide +kernel
theorem s32_207 (d : Nat) (l0 : Value) (l1 : Value) (l2 : Value) (l3 : Value) (l4 : Value) (l5 : Value) (l6 : Value) (l7 : Value) (l8 : Value) (l9 : Value) (w0 w1 : Value) (σ : Hs) : ru d 32 207 [l0, l1, l2, l3, l4, l5, l6, l7, l8, l9] [w0, w1] σ = ru d 32 208 [l0, l1, l2, l3, l4, l5, l6, l7, l8, l9] [.int 1, w0, w1] σ := q_iconst t32_207 (by decide +kernel)
theorem t32_208 : decode (mb 32) 208 = .ok (.isub, 1) := by decide +kernel
theorem s32_208 (d : Nat) (l0 : Value) (l1 : Value) (l2 : Value) (l3 : Value) (l4 : Value) (l5 : Value) (l6 : Value) (l7 : Value) (l8 : Value) (l9 : Value) (x y : Int32) (w0 : Value) (σ : Hs) : ru d 32 208 [l0, l1, l2, l3, l4, l5, l6, l7, l8, l9] [.int y, .int x, w0] σ = ru d 32 209 [l0, l1, l2, l3, l4, l5, l6, l7, l8, l9] [.int (x - y), w0] σ := q_isub t32_208
theorem t32_209 : decode (mb 32) 209 = .ok (.iload 9, 2) := by decide +kernel
theorem s32_209 (d : Nat) (l0 : Value) (l1 : Value) (l2 : Value) (l3 : Value) (l4 : Value) (l5 : Value) (l6 : Value) (l7 : Value) (l8 : Value) (i9 : Int32) (w0 w1 : Value) (σ : Hs) : ru d 32 209 [l0, l1, l2, l3, l4, l5, l6, l7, l8, .int i9] [w0, w1] σ = ru d 32 211 [l0, l1, l2, l3, l4, l5, l6, l7, l8, .int i9] [.int i9, w0, w1] σ := q_iload t32_209 rfl
theorem t32_211 : decode (mb 32) 211 = .ok (.sipush 20000, 3) := by decide +kernel
theorem s32_211 (d : Nat) (l0 : Value) (l1 : Value) (l2 : Value) (l3 : Value) (l4 : Value) (l5 : Value) (l6 : Value) (l7 : Value) (l8 : Value) (l9 : Value) (w0 w1 w2 : Value) (σ : Hs) : ru d 32 211 [l0, l1, l2, l3, l4, l5, l6, l7, l8, l9] [w0, w1, w2] σ = ru d 32 214 [l0, l1, l2, l3, l4, l5, l6, l7, l8, l9] [.int 20000, w0, w1, w2] σ := q_sipush t32_211 (by decide +kernel)
theorem t32_214 : decode (mb 32) 214 = .ok (.isub, 1) := by decide +kernel
theorem s32_214 (d : Nat) (l0 : Value) (l1 : Value) (l2 : Value) (l3 : Value) (l4 : Value) (l5 : Value) (l6 : Value) (l7 : Value) (l8 : Value) (l9 : Value) (x y : Int32) (w0 w1 : Value) (σ : Hs) : ru d 32 214 [l0, l1, l2, l3, l4, l5, l6, l7, l8, l9] [.int y, .int x, w0, w1] σ = ru d 32 215 [l0, l1, l2, l3, l4, l5, l6, l7, l8, l9] [.int (x - y), w0, w1] σ := q_isub t32_214
theorem t32_215 : decode (mb 32) 215 = .ok (.aload_n 0, 1) := by decide +kernel
theorem s32_215 (d : Nat) (a0 : Nat) (l1 : Value) (l2 : Value) (l3 : Value) (l4 : Value) (l5 : Value) (l6 : Value) (l7 : Value) (l8 : Value) (l9 : Value) (w0 w1 w2 : Value) (σ : Hs) : ru d 32 215 [.ref a0, l1, l2, l3, l4, l5, l6, l7, l8, l9] [w0, w1, w2] σ = ru d 32 216 [.ref a0, l1, l2, l3, l4, l5, l6, l7, l8, l9] [.ref a0, w0, w1, w2] σ := q_aload_n t32_215 rfl
theorem t32_216 : decode (mb 32) 216 = .ok (.getfield 17, 3) := by decide +kernel
theorem s32_216_o13 (d : Nat) (l0 : Value) (l1 : Value) (l2 : Value) (l3 : Value) (l4 : Value) (l5 : Value) (l6 : Value) (l7 : Value) (l8 : Value) (l9 : Value) (w0 w1 w2 : Value) (σ : Hs) : ru d 32 216 [l0, l1, l2, l3, l4, l5, l6, l7, l8, l9] [.ref 13, w0, w1, w2] σ = ru d 32 219 [l0, l1, l2, l3, l4, l5, l6, l7, l8, l9] [.ref 15, w0, w1, w2] σ := q_getf t32_216 mo32 F1_17 rfl rfl
theorem t32_219 : decode (mb 32) 219 = .ok (.iload 6, 2) := by decide +kernel
theorem s32_219 (d : Nat) (l0 : Value) (l1 : Value) (l2 : Value) (l3 : Value) (l4 : Value) (l5 : Value) (i6 : Int32) (l7 : Value) (l8 : Value) (l9 : Value) (w0 w1 w2 w3 : Value) (σ : Hs) : ru d 32 219 [l0, l1, l2, l3, l4, l5, .int i6, l7, l8, l9] [w0, w1, w2, w3] σ = ru d 32 221 [l0, l1, l2, l3, l4, l5, .int i6, l7, l8, l9] [.int i6, w0, w1, w2, w3] σ := q_iload t32_219 rfl
theorem t32_221 : decode (mb 32) 221 = .ok (.iconst 1, 1) := by decide +kernel
theorem s32_221 (d : Nat) (l0 : Value) (l1 : Value) (l2 : Value) (l3 : Value) (l4 : Value) (l5 : Value) (l6 : Value) (l7 : Value) (l8 : Value) (l9 : Value) (w0 w1 w2 w3 w4 : Value) (σ : Hs) : ru d 32 221 [l0, l1, l2, l3, l4, l5, l6, l7, l8, l9] [w0, w1, w2, w3, w4] σ = ru d 32 222 [l0, l1, l2, l3, l4, l5, l6, l7, l8, l9] [.int 1, w0, w1, w2, w3, w4] σ := q_iconst t32_221 (by decide +kernel)
theorem t32_222 : decode (mb 32) 222 = .ok (.isub, 1) := by decide +kernel
theorem s32_222 (d : Nat) (l0 : Value) (l1 : Value) (l2 : Value) (l3 : Value) (l4 : Value) (l5 : Value) (l6 : Value) (l7 : Value) (l8 : Value) (l9 : Value) (x y : Int32) (w0 w1 w2 w3 : Value) (σ : Hs) : ru d 32 222 [l0, l1, l2, l3, l4, l5, l6, l7, l8, l9] [.int y, .int x, w0, w1, w2, w3] σ = ru d 32 223 [l0, l1, l2, l3, l4, l5, l6, l7, l8, l9] [.int (x - y), w0, w1, w2, w3] σ := q_isub t32_222
theorem t32_223 : decode (mb 32) 223 = .ok (.iaload, 1) := by decide +kernel
theorem s32_223_o15 (d : Nat) (l0 : Value) (l1 : Value) (l2 : Value) (l3 : Value) (l4 : Value) (l5 : Value) (l6 : Value) (l7 : Value) (l8 : Value) (l9 : Value) (i : Int32) (w0 w1 w2 : Value) (σ : Hs) : ru d 32 223 [l0, l1, l2, l3, l4, l5, l6, l7, l8, l9] [.int i, .ref 15, w0, w1, w2] σ = gd (vp_in i 60) (ru d 32 224 [l0, l1, l2, l3, l4, l5, l6, l7, l8, l9] [.int (σ 15 i.toNatClampNeg), w0, w1, w2] σ) := q_iald t32_223 rfl (by decide +kernel) rfl
theorem t32_224 : decode (mb 32) 224 = .ok (.aload_n 0, 1) := by decide +kernel
theorem s32_224 (d : Nat) (a0 : Nat) (l1 : Value) (l2 : Value) (l3 : Value) (l4 : Value) (l5 : Value) (l6 : Value) (l7 : Value) (l8 : Value) (l9 : Value) (w0 w1 w2 w3 : Value) (σ : Hs) : ru d 32 224 [.ref a0, l1, l2, l3, l4, l5, l6, l7, l8, l9] [w0, w1, w2, w3] σ = ru d 32 225 [.ref a0, l1, l2, l3, l4, l5, l6, l7, l8, l9] [.ref a0, w0, w1, w2, w3] σ := q_aload_n t32_224 rfl
theorem t32_225 : decode (mb 32) 225 = .ok (.getfield 17, 3) := by decide +kernel
theorem s32_225_o13 (d : Nat) (l0 : Value) (l1 : Value) (l2 : Value) (l3 : Value) (l4 : Value) (l5 : Value) (l6 : Value) (l7 : Value) (l8 : Value) (l9 : Value) (w0 w1 w2 w3 : Value) (σ : Hs) : ru d 32 225 [l0, l1, l2, l3, l4, l5, l6, l7, l8, l9] [.ref 13, w0, w1, w2, w3] σ = ru d 32 228 [l0, l1, l2, l3, l4, l5, l6, l7, l8, l9] [.ref 15, w0, w1, w2, w3] σ := q_getf t32_225 mo32 F1_17 rfl rfl
theorem t32_228 : decode (mb 32) 228 = .ok (.iload 6, 2) := by decide +kernel
theorem s32_228 (d : Nat) (l0 : Value) (l1 : Value) (l2 : Value) (l3 : Value) (l4 : Value) (l5 : Value) (i6 : Int32) (l7 : Value) (l8 : Value) (l9 : Value) (w0 w1 w2 w3 w4 : Value) (σ : Hs) : ru d 32 228 [l0, l1, l2, l3, l4, l5, .int i6, l7, l8, l9] [w0, w1, w2, w3, w4] σ = ru d 32 230 [l0, l1, l2, l3, l4, l5, .int i6, l7, l8, l9] [.int i6, w0, w1, w2, w3, w4] σ := q_iload t32_228 rfl
theorem t32_230 : decode (mb 32) 230 = .ok (.iaload, 1) := by decide +kernel
theorem s32_230_o15 (d : Nat) (l0 : Value) (l1 : Value) (l2 : Value) (l3 : Value) (l4 : Value) (l5 : Value) (l6 : Value) (l7 : Value) (l8 : Value) (l9 : Value) (i : Int32) (w0 w1 w2 w3 : Value) (σ : Hs) : ru d 32 230 [l0, l1, l2, l3, l4, l5, l6, l7, l8, l9] [.int i, .ref 15, w0, w1, w2, w3] σ = gd (vp_in i 60) (ru d 32 231 [l0, l1, l2, l3, l4, l5, l6, l7, l8, l9] [.int (σ 15 i.toNatClampNeg), w0, w1, w2, w3] σ) := q_iald t32_230 rfl (by decide +kernel) rfl
theorem t32_231 : decode (mb 32) 231 = .ok (.invokestatic 35, 3) := by decide +kernel
theorem s32_231 (d : Nat) (l0 : Value) (l1 : Value) (l2 : Value) (l3 : Value) (l4 : Value) (l5 : Value) (l6 : Value) (l7 : Value) (l8 : Value) (l9 : Value) (v0 v1 v2 : Value) (w0 : Int32) (w1 : Nat) (σ : Hs) : ru d 32 231 [l0, l1, l2, l3, l4, l5, l6, l7, l8, l9] [v2, v1, v0, .int w0, .ref w1] σ = kont (callD d 33 [v0, v1, v2] σ) d 32 234 [l0, l1, l2, l3, l4, l5, l6, l7, l8, l9] [.int w0, .ref w1] := q_invs t32_231 mo32 (by decide +kernel) K1_35 mj33 (Nat.le_of_ble_eq_true rfl) rfl rfl (Nat.le_of_ble_eq_true rfl)
theorem t32_234 : decode (mb 32) 234 = .ok (.iastore, 1) := by decide +kernel
theorem s32_234_o15 (d : Nat) (l0 : Value) (l1 : Value) (l2 : Value) (l3 : Value) (l4 : Value) (l5 : Value) (l6 : Value) (l7 : Value) (l8 : Value) (l9 : Value) (i x : Int32) (σ : Hs) : ru d 32 234 [l0, l1, l2, l3, l4, l5, l6, l7, l8, l9] [.int x, .int i, .ref 15] σ = gd (vp_in i 60) (ru d 32 235 [l0, l1, l2, l3, l4, l5, l6, l7, l8, l9] [] (up2 σ 15 i.toNatClampNeg x)) := q_iast t32_234 (by decide +kernel) rfl rfl
theorem t32_235 : decode (mb 32) 235 = .ok (.iinc 8 1, 3) := by decide +kernel
theorem s32_235 (d : Nat) (l0 : Value) (l1 : Value) (l2 : Value) (l3 : Value) (l4 : Value) (l5 : Value) (l6 : Value) (a7 : Nat) (i8 : Int32) (l9 : Value) (σ : Hs) : ru d 32 235 [l0, l1, l2, l3, l4, l5, l6, .ref a7, .int i8, l9] [] σ = ru d 32 238 [l0, l1, l2, l3, l4, l5, l6, .ref a7, .int (i8 + 1), l9] [] σ := q_iinc t32_235 ⟨Nat.le_of_ble_eq_true rfl, rfl⟩ rfl (by decide +kernel) rfl
theorem t32_238 : decode (mb 32) 238 = .ok (.goto (-224), 3) := by decide +kernel
theorem s32_238 (d : Nat) (l0 : Value) (l1 : Value) (l2 : Value) (l3 : Value) (l4 : Value) (l5 : Value) (l6 : Value) (l7 : Value) (l8 : Value) (l9 : Value) (σ : Hs) : ru d 32 238 [l0, l1, l2, l3, l4, l5, l6, l7, l8, l9] [] σ = ru d 32 14 [l0, l1, l2, l3, l4, l5, l6, l7, l8, l9] [] σ := q_goto t32_238 (by decide +kernel)
theorem t32_241 : decode (mb 32) 241 = .ok (.iload 6, 2) := by decide +kernel
theorem s32_241 (d : Nat) (l0 : Value) (l1 : Value) (l2 : Value) (l3 : Value) (l4 : Value) (l5 : Value) (i6 : Int32) (l7 : Value) (l8 : Value) (l9 : Value) (σ : Hs) : ru d 32 241 [l0, l1, l2, l3, l4, l5, .int i6, l7, l8, l9] [] σ = ru d 32 243 [l0, l1, l2, l3, l4, l5, .int i6, l7, l8, l9] [.int i6] σ := q_iload t32_241 rfl
theorem t32_243 : decode (mb 32) 243 = .ok (.ifCond .le 15, 3) := by decide +kernel
theorem s32_243 (d : Nat) (l0 : Value) (l1 : Value) (l2 : Value) (l3 : Value) (l4 : Value) (l5 : Value) (l6 : Value) (l7 : Value) (l8 : Value) (l9 : Value) (x : Int32) (σ : Hs) : ru d 32 243 [l0, l1, l2, l3, l4, l5, l6, l7, l8, l9] [.int x] σ = if x ≤ 0 then ru d 32 258 [l0, l1, l2, l3, l4, l5, l6, l7, l8, l9] [] σ else ru d 32 246 [l0, l1, l2, l3, l4, l5, l6, l7, l8, l9] [] σ := q_if_le t32_243 (by decide +kernel)
theorem t32_246 : decode (mb 32) 246 = .ok (.aload_n 0, 1) := by decide +kernel
theorem s32_246 (d : Nat) (a0 : Nat) (l1 : Value) (l2 : Value) (l3 : Value) (l4 : Value) (l5 : Value) (l6 : Value) (l7 : Value) (l8 : Value) (l9 : Value) (σ : Hs) : ru d 32 246 [.ref a0, l1, l2, l3, l4, l5, l6, l7, l8, l9] [] σ = ru d 32 247 [.ref a0, l1, l2, l3, l4, l5, l6, l7, l8, l9] [.ref a0] σ := q_aload_n t32_246 rfl
theorem t32_247 : decode (mb 32) 247 = .ok (.getfield 17, 3) := by decide +kernel
theorem s32_247_o13 (d : Nat) (l0 : Value) (l1 : Value) (l2 : Value) (l3 : Value) (l4 : Value) (l5 : Value) (l6 : Value) (l7 : Value) (l8 : Value) (l9 : Value) (σ : Hs) : ru d 32 247 [l0, l1, l2, l3, l4, l5, l6, l7, l8, l9] [.ref 13] σ = ru d 32 250 [l0, l1, l2, l3, l4, l5, l6, l7, l8, l9] [.ref 15] σ := q_getf t32_247 mo32 F1_17 rfl rfl
theorem t32_250 : decode (mb 32) 250 = .ok (.iload 6, 2) := by decide +kernel
theorem s32_250 (d : Nat) (l0 : Value) (l1 : Value) (l2 : Value) (l3 : Value) (l4 : Value) (l5 : Value) (i6 : Int32) (l7 : Value) (l8 : Value) (l9 : Value) (w0 : Value) (σ : Hs) : ru d 32 250 [l0, l1, l2, l3, l4, l5, .int i6, l7, l8, l9] [w0] σ = ru d 32 252 [l0, l1, l2, l3, l4, l5, .int i6, l7, l8, l9] [.int i6, w0] σ := q_iload t32_250 rfl
theorem t32_252 : decode (mb 32) 252 = .ok (.iconst 1, 1) := by decide +kernel
theorem s32_252 (d : Nat) (l0 : Value) (l1 : Value) (l2 : Value) (l3 : Value) (l4 : Value) (l5 : Value) (l6 : Value) (l7 : Value) (l8 : Value) (l9 : Value) (w0 w1 : Value) (σ : Hs) : ru d 32 252 [l0, l1, l2, l3, l4, l5, l6, l7, l8, l9] [w0, w1] σ = ru d 32 253 [l0, l1, l2, l3, l4, l5, l6, l7, l8, l9] [.int 1, w0, w1] σ := q_iconst t32_252 (by decide +kernel)
theorem t32_253 : decode (mb 32) 253 = .ok (.isub, 1) := by decide +kernel
theorem s32_253 (d : Nat) (l0 : Value) (l1 : Value) (l2 : Value) (l3 : Value) (l4 : Value) (l5 : Value) (l6 : Value) (l7 : Value) (l8 : Value) (l9 : Value) (x y : Int32) (w0 : Value) (σ : Hs) : ru d 32 253 [l0, l1, l2, l3, l4, l5, l6, l7, l8, l9] [.int y, .int x, w0] σ = ru d 32 254 [l0, l1, l2, l3, l4, l5, l6, l7, l8, l9] [.int (x - y), w0] σ := q_isub t32_253
theorem t32_254 : decode (mb 32) 254 = .ok (.iaload, 1) := by decide +kernel
theorem s32_254_o15 (d : Nat) (l0 : Value) (l1 : Value) (l2 : Value) (l3 : Value) (l4 : Value) (l5 : Value) (l6 : Value) (l7 : Value) (l8 : Value) (l9 : Value) (i : Int32) (σ : Hs) : ru d 32 254 [l0, l1, l2, l3, l4, l5, l6, l7, l8, l9] [.int i, .ref 15] σ = gd (vp_in i 60) (ru d 32 255 [l0, l1, l2, l3, l4, l5, l6, l7, l8, l9] [.int (σ 15 i.toNatClampNeg)] σ) := q_iald t32_254 rfl (by decide +kernel) rfl
theorem t32_255 : decode (mb 32) 255 = .ok (.goto 4, 3) := by decide +kernel
theorem s32_255 (d : Nat) (l0 : Value) (l1 : Value) (l2 : Value) (l3 : Value) (l4 : Value) (l5 : Value) (l6 : Value) (l7 : Value) (l8 : Value) (l9 : Value) (w0 : Value) (σ : Hs) : ru d 32 255 [l0, l1, l2, l3, l4, l5, l6, l7, l8, l9] [w0] σ = ru d 32 259 [l0, l1, l2, l3, l4, l5, l6, l7, l8, l9] [w0] σ := q_goto t32_255 (by decide +kernel)
theorem t32_258 : decode (mb 32) 258 = .ok (.iconst 0, 1) := by decide +kernel
theorem s32_258 (d : Nat) (l0 : Value) (l1 : Value) (l2 : Value) (l3 : Value) (l4 : Value) (l5 : Value) (l6 : Value) (l7 : Value) (l8 : Value) (l9 : Value) (σ : Hs) : ru d 32 258 [l0, l1, l2, l3, l4, l5, l6, l7, l8, l9] [] σ = ru d 32 259 [l0, l1, l2, l3, l4, l5, l6, l7, l8, l9] [.int 0] σ := q_iconst t32_258 (by decide +kernel)
theorem t32_259 : decode (mb 32) 259 = .ok (.ireturn, 1) := by decide +kernel
theorem s32_259 (d : Nat) (l0 : Value) (l1 : Value) (l2 : Value) (l3 : Value) (l4 : Value) (l5 : Value) (l6 : Value) (l7 : Value) (l8 : Value) (l9 : Value) (x : Int32) (σ : Hs) : ru d 32 259 [l0, l1, l2, l3, l4, l5, l6, l7, l8, l9] [.int x] σ = some (some (.int x), σ) := q_ireti t32_259 mr32
theorem c32 (d : Nat) (x0 : Nat) (x1 : Int32) (x2 : Int32) (x3 : Int32) (x4 : Int32) (x5 : Int32) (σ : Hs) : callD (d + 1) 32 [.ref x0, .int x1, .int x2, .int x3, .int x4, .int x5] σ = ru d 32 0 [.ref x0, .int x1, .int x2, .int x3, .int x4, .int x5, uu, uu, uu, uu] [] σ := callD_ru ml32 rfl rfl (Nat.le_of_ble_eq_true rfl)
-- 33: Laws.joined(III)I
theorem t33_0 : decode (mb 33) 0 = .ok (.iload_n 0, 1) := by decide +kernel
theorem s33_0 (d : Nat) (i0 : Int32) (l1 : Value) (l2 : Value) (σ : Hs) : ru d 33 0 [.int i0, l1, l2] [] σ = ru d 33 1 [.int i0, l1, l2] [.int i0] σ := q_iload_n t33_0 rfl
theorem t33_1 : decode (mb 33) 1 = .ok (.lookupswitch 168 #[(38, 97), (42, 152), (43, 144), (45, 148), (47, 156), (60, 111), (61, 122), (62, 133), (124, 83)], 83) := by decide +kernel
theorem f33_1 (x : Int32) : tgt 1 (Op.lookupswitch.offset (#[(38, 97), (42, 152), (43, 144), (45, 148), (47, 156), (60, 111), (61, 122), (62, 133), (124, 83)] : Array (Int × Int)).toList 168 x.toInt) = some (if x = 38 then 98 else (if x = 42 then 153 else (if x = 43 then 145 else (if x = 45 then 149 else (if x = 47 then 157 else (if x = 60 then 112 else (if x = 61 then 123 else (if x = 62 then 134 else (if x = 124 then 84 else 169))))))))) := by
  by_cases h0 : x = 38
  · subst h0; decide +kernel
  by_cases h1 : x = 42
  · subst h1; decide +kernel
  by_cases h2 : x = 43
  · subst h2; decide +kernel
  by_cases h3 : x = 45
  · subst h3; decide +kernel
  by_cases h4 : x = 47
  · subst h4; decide +kernel
  by_cases h5 : x = 60
  · subst h5; decide +kernel
  by_cases h6 : x = 61
  · subst h6; decide +kernel
  by_cases h7 : x = 62
  · subst h7; decide +kernel
  by_cases h8 : x = 124
  · subst h8; decide +kernel
  have e0 : ¬ x.toInt = 38 := fun h => h0 (Int32.toInt_inj.mp (h.trans (by decide +kernel)))
  have e1 : ¬ x.toInt = 42 := fun h => h1 (Int32.toInt_inj.mp (h.trans (by decide +kernel)))
  have e2 : ¬ x.toInt = 43 := fun h => h2 (Int32.toInt_inj.mp (h.trans (by decide +kernel)))
  have e3 : ¬ x.toInt = 45 := fun h => h3 (Int32.toInt_inj.mp (h.trans (by decide +kernel)))
  have e4 : ¬ x.toInt = 47 := fun h => h4 (Int32.toInt_inj.mp (h.trans (by decide +kernel)))
  have e5 : ¬ x.toInt = 60 := fun h => h5 (Int32.toInt_inj.mp (h.trans (by decide +kernel)))
  have e6 : ¬ x.toInt = 61 := fun h => h6 (Int32.toInt_inj.mp (h.trans (by decide +kernel)))
  have e7 : ¬ x.toInt = 62 := fun h => h7 (Int32.toInt_inj.mp (h.trans (by decide +kernel)))
  have e8 : ¬ x.toInt = 124 := fun h => h8 (Int32.toInt_inj.mp (h.trans (by decide +kernel)))
  have g0 : ¬ (38 : Int) = x.toInt := fun h => e0 h.symm
  have g1 : ¬ (42 : Int) = x.toInt := fun h => e1 h.symm
  have g2 : ¬ (43 : Int) = x.toInt := fun h => e2 h.symm
  have g3 : ¬ (45 : Int) = x.toInt := fun h => e3 h.symm
  have g4 : ¬ (47 : Int) = x.toInt := fun h => e4 h.symm
  have g5 : ¬ (60 : Int) = x.toInt := fun h => e5 h.symm
  have g6 : ¬ (61 : Int) = x.toInt := fun h => e6 h.symm
  have g7 : ¬ (62 : Int) = x.toInt := fun h => e7 h.symm
  have g8 : ¬ (124 : Int) = x.toInt := fun h => e8 h.symm
  simp only [Op.lookupswitch.offset_cons, Op.lookupswitch.offset_nil, if_neg g0, if_neg h0, if_neg g1, if_neg h1, if_neg g2, if_neg h2, if_neg g3, if_neg h3, if_neg g4, if_neg h4, if_neg g5, if_neg h5, if_neg g6, if_neg h6, if_neg g7, if_neg h7, if_neg g8, if_neg h8]
  decide +kernel
theorem s33_1 (d : Nat) (l0 : Value) (l1 : Value) (l2 : Value) (x : Int32) (σ : Hs) : ru d 33 1 [l0, l1, l2] [.int x] σ = if x = 38 then ru d 33 98 [l0, l1, l2] [] σ else if x = 42 then ru d 33 153 [l0, l1, l2] [] σ else if x = 43 then ru d 33 145 [l0, l1, l2] [] σ else if x = 45 then ru d 33 149 [l0, l1, l2] [] σ else if x = 47 then ru d 33 157 [l0, l1, l2] [] σ else if x = 60 then ru d 33 112 [l0, l1, l2] [] σ else if x = 61 then ru d 33 123 [l0, l1, l2] [] σ else if x = 62 then ru d 33 134 [l0, l1, l2] [] σ else if x = 124 then ru d 33 84 [l0, l1, l2] [] σ else ru d 33 169 [l0, l1, l2] [] σ := by
  refine (q_lsw t33_1 (by decide +kernel) (fun x => (if x = 38 then 98 else (if x = 42 then 153 else (if x = 43 then 145 else (if x = 45 then 149 else (if x = 47 then 157 else (if x = 60 then 112 else (if x = 61 then 123 else (if x = 62 then 134 else (if x = 124 then 84 else 169)))))))))) (f33_1 x)).trans ?_
  by_cases h0 : x = 38
  · rw [if_pos h0, if_pos h0]
  rw [if_neg h0, if_neg h0]
  by_cases h1 : x = 42
  · rw [if_pos h1, if_pos h1]
  rw [if_neg h1, if_neg h1]
  by_cases h2 : x = 43
  · rw [if_pos h2, if_pos h2]
  rw [if_neg h2, if_neg h2]
  by_cases h3 : x = 45
  · rw [if_pos h3, if_pos h3]
  rw [if_neg h3, if_neg h3]
  by_cases h4 : x = 47
  · rw [if_pos h4, if_pos h4]
  rw [if_neg h4, if_neg h4]
  by_cases h5 : x = 60
  · rw [if_pos h5, if_pos h5]
  rw [if_neg h5, if_neg h5]
  by_cases h6 : x = 61
  · rw [if_pos h6, if_pos h6]
  rw [if_neg h6, if_neg h6]
  by_cases h7 : x = 62
  · rw [if_pos h7, if_pos h7]
  rw [if_neg h7, if_neg h7]
  by_cases h8 : x = 124
  · rw [if_pos h8, if_pos h8]
  rw [if_neg h8, if_neg h8]
theorem t33_84 : decode (mb 33) 84 = .ok (.iload_n 1, 1) := by decide +kernel
theorem s33_84 (d : Nat) (l0 : Value) (i1 : Int32) (l2 : Value) (σ : Hs) : ru d 33 84 [l0, .int i1, l2] [] σ = ru d 33 85 [l0, .int i1, l2] [.int i1] σ := q_iload_n t33_84 rfl
theorem t33_85 : decode (mb 33) 85 = .ok (.ifCond .ne 7, 3) := by decide +kernel
theorem s33_85 (d : Nat) (l0 : Value) (l1 : Value) (l2 : Value) (x : Int32) (σ : Hs) : ru d 33 85 [l0, l1, l2] [.int x] σ = if x = 0 then ru d 33 88 [l0, l1, l2] [] σ else ru d 33 92 [l0, l1, l2] [] σ := q_if_ne t33_85 (by decide +kernel)
theorem t33_88 : decode (mb 33) 88 = .ok (.iload_n 2, 1) := by decide +kernel
theorem s33_88 (d : Nat) (l0 : Value) (l1 : Value) (i2 : Int32) (σ : Hs) : ru d 33 88 [l0, l1, .int i2] [] σ = ru d 33 89 [l0, l1, .int i2] [.int i2] σ := q_iload_n t33_88 rfl
theorem t33_89 : decode (mb 33) 89 = .ok (.ifCond .eq 7, 3) := by decide +kernel
theorem s33_89 (d : Nat) (l0 : Value) (l1 : Value) (l2 : Value) (x : Int32) (σ : Hs) : ru d 33 89 [l0, l1, l2] [.int x] σ = if x = 0 then ru d 33 96 [l0, l1, l2] [] σ else ru d 33 92 [l0, l1, l2] [] σ := q_if_eq t33_89 (by decide +kernel)
theorem t33_92 : decode (mb 33) 92 = .ok (.iconst 1, 1) := by decide +kernel
theorem s33_92 (d : Nat) (l0 : Value) (l1 : Value) (l2 : Value) (σ : Hs) : ru d 33 92 [l0, l1, l2] [] σ = ru d 33 93 [l0, l1, l2] [.int 1] σ := q_iconst t33_92 (by decide +kernel)
theorem t33_93 : decode (mb 33) 93 = .ok (.goto 4, 3) := by decide +kernel
theorem s33_93 (d : Nat) (l0 : Value) (l1 : Value) (l2 : Value) (w0 : Value) (σ : Hs) : ru d 33 93 [l0, l1, l2] [w0] σ = ru d 33 97 [l0, l1, l2] [w0] σ := q_goto t33_93 (by decide +kernel)
theorem t33_96 : decode (mb 33) 96 = .ok (.iconst 0, 1) := by decide +kernel
theorem s33_96 (d : Nat) (l0 : Value) (l1 : Value) (l2 : Value) (σ : Hs) : ru d 33 96 [l0, l1, l2] [] σ = ru d 33 97 [l0, l1, l2] [.int 0] σ := q_iconst t33_96 (by decide +kernel)
theorem t33_97 : decode (mb 33) 97 = .ok (.ireturn, 1) := by decide +kernel
theorem s33_97 (d : Nat) (l0 : Value) (l1 : Value) (l2 : Value) (x : Int32) (σ : Hs) : ru d 33 97 [l0, l1, l2] [.int x] σ = some (some (.int x), σ) := q_ireti t33_97 mr33
theorem t33_98 : decode (mb 33) 98 = .ok (.iload_n 1, 1) := by decide +kernel
theorem s33_98 (d : Nat) (l0 : Value) (i1 : Int32) (l2 : Value) (σ : Hs) : ru d 33 98 [l0, .int i1, l2] [] σ = ru d 33 99 [l0, .int i1, l2] [.int i1] σ := q_iload_n t33_98 rfl
theorem t33_99 : decode (mb 33) 99 = .ok (.ifCond .eq 11, 3) := by decide +kernel
theorem s33_99 (d : Nat) (l0 : Value) (l1 : Value) (l2 : Value) (x : Int32) (σ : Hs) : ru d 33 99 [l0, l1, l2] [.int x] σ = if x = 0 then ru d 33 110 [l0, l1, l2] [] σ else ru d 33 102 [l0, l1, l2] [] σ := q_if_eq t33_99 (by decide +kernel)
theorem t33_102 : decode (mb 33) 102 = .ok (.iload_n 2, 1) := by decide +kernel
theorem s33_102 (d : Nat) (l0 : Value) (l1 : Value) (i2 : Int32) (σ : Hs) : ru d 33 102 [l0, l1, .int i2] [] σ = ru d 33 103 [l0, l1, .int i2] [.int i2] σ := q_iload_n t33_102 rfl
theorem t33_103 : decode (mb 33) 103 = .ok (.ifCond .eq 7, 3) := by decide +kernel
theorem s33_103 (d : Nat) (l0 : Value) (l1 : Value) (l2 : Value) (x : Int32) (σ : Hs) : ru d 33 103 [l0, l1, l2] [.int x] σ = if x = 0 then ru d 33 110 [l0, l1, l2] [] σ else ru d 33 106 [l0, l1, l2] [] σ := q_if_eq t33_103 (by decide +kernel)
theorem t33_106 : decode (mb 33) 106 = .ok (.iconst 1, 1) := by decide +kernel
theorem s33_106 (d : Nat) (l0 : Value) (l1 : Value) (l2 : Value) (σ : Hs) : ru d 33 106 [l0, l1, l2] [] σ = ru d 33 107 [l0, l1, l2] [.int 1] σ := q_iconst t33_106 (by decide +kernel)
theorem t33_107 : decode (mb 33) 107 = .ok (.goto 4, 3) := by decide +kernel
theorem s33_107 (d : Nat) (l0 : Value) (l1 : Value) (l2 : Value) (w0 : Value) (σ : Hs) : ru d 33 107 [l0, l1, l2] [w0] σ = ru d 33 111 [l0, l1, l2] [w0] σ := q_goto t33_107 (by decide +kernel)
theorem t33_110 : decode (mb 33) 110 = .ok (.iconst 0, 1) := by decide +kernel
theorem s33_110 (d : Nat) (l0 : Value) (l1 : Value) (l2 : Value) (σ : Hs) : ru d 33 110 [l0, l1, l2] [] σ = ru d 33 111 [l0, l1, l2] [.int 0] σ := q_iconst t33_110 (by decide +kernel)
theorem t33_111 : decode (mb 33) 111 = .ok (.ireturn, 1) := by decide +kernel
theorem s33_111 (d : Nat) (l0 : Value) (l1 : Value) (l2 : Value) (x : Int32) (σ : Hs) : ru d 33 111 [l0, l1, l2] [.int x] σ = some (some (.int x), σ) := q_ireti t33_111 mr33
theorem t33_112 : decode (mb 33) 112 = .ok (.iload_n 1, 1) := by decide +kernel
theorem s33_112 (d : Nat) (l0 : Value) (i1 : Int32) (l2 : Value) (σ : Hs) : ru d 33 112 [l0, .int i1, l2] [] σ = ru d 33 113 [l0, .int i1, l2] [.int i1] σ := q_iload_n t33_112 rfl
theorem t33_113 : decode (mb 33) 113 = .ok (.iload_n 2, 1) := by decide +kernel
theorem s33_113 (d : Nat) (l0 : Value) (l1 : Value) (i2 : Int32) (w0 : Value) (σ : Hs) : ru d 33 113 [l0, l1, .int i2] [w0] σ = ru d 33 114 [l0, l1, .int i2] [.int i2, w0] σ := q_iload_n t33_113 rfl
theorem t33_114 : decode (mb 33) 114 = .ok (.if_icmp .ge 7, 3) := by decide +kernel
theorem s33_114 (d : Nat) (l0 : Value) (l1 : Value) (l2 : Value) (x y : Int32) (σ : Hs) : ru d 33 114 [l0, l1, l2] [.int y, .int x] σ = if y ≤ x then ru d 33 121 [l0, l1, l2] [] σ else ru d 33 117 [l0, l1, l2] [] σ := q_ic_ge t33_114 (by decide +kernel)
theorem t33_117 : decode (mb 33) 117 = .ok (.iconst 1, 1) := by decide +kernel
theorem s33_117 (d : Nat) (l0 : Value) (l1 : Value) (l2 : Value) (σ : Hs) : ru d 33 117 [l0, l1, l2] [] σ = ru d 33 118 [l0, l1, l2] [.int 1] σ := q_iconst t33_117 (by decide +kernel)
theorem t33_118 : decode (mb 33) 118 = .ok (.goto 4, 3) := by decide +kernel
theorem s33_118 (d : Nat) (l0 : Value) (l1 : Value) (l2 : Value) (w0 : Value) (σ : Hs) : ru d 33 118 [l0, l1, l2] [w0] σ = ru d 33 122 [l0, l1, l2] [w0] σ := q_goto t33_118 (by decide +kernel)
theorem t33_121 : decode (mb 33) 121 = .ok (.iconst 0, 1) := by decide +kernel
theorem s33_121 (d : Nat) (l0 : Value) (l1 : Value) (l2 : Value) (σ : Hs) : ru d 33 121 [l0, l1, l2] [] σ = ru d 33 122 [l0, l1, l2] [.int 0] σ := q_iconst t33_121 (by decide +kernel)
theorem t33_122 : decode (mb 33) 122 = .ok (.ireturn, 1) := by decide +kernel
theorem s33_122 (d : Nat) (l0 : Value) (l1 : Value) (l2 : Value) (x : Int32) (σ : Hs) : ru d 33 122 [l0, l1, l2] [.int x] σ = some (some (.int x), σ) := q_ireti t33_122 mr33
theorem t33_123 : decode (mb 33) 123 = .ok (.iload_n 1, 1) := by decide +kernel
theorem s33_123 (d : Nat) (l0 : Value) (i1 : Int32) (l2 : Value) (σ : Hs) : ru d 33 123 [l0, .int i1, l2] [] σ = ru d 33 124 [l0, .int i1, l2] [.int i1] σ := q_iload_n t33_123 rfl
theorem t33_124 : decode (mb 33) 124 = .ok (.iload_n 2, 1) := by decide +kernel
theorem s33_124 (d : Nat) (l0 : Value) (l1 : Value) (i2 : Int32) (w0 : Value) (σ : Hs) : ru d 33 124 [l0, l1, .int i2] [w0] σ = ru d 33 125 [l0, l1, .int i2] [.int i2, w0] σ := q_iload_n t33_124 rfl
theorem t33_125 : decode (mb 33) 125 = .ok (.if_icmp .ne 7, 3) := by decide +kernel
theorem s33_125 (d : Nat) (l0 : Value) (l1 : Value) (l2 : Value) (x y : Int32) (σ : Hs) : ru d 33 125 [l0, l1, l2] [.int y, .int x] σ = if x = y then ru d 33 128 [l0, l1, l2] [] σ else ru d 33 132 [l0, l1, l2] [] σ := q_ic_ne t33_125 (by decide +kernel)
theorem t33_128 : decode (mb 33) 128 = .ok (.iconst 1, 1) := by decide +kernel
theorem s33_128 (d : Nat) (l0 : Value) (l1 : Value) (l2 : Value) (σ : Hs) : ru d 33 128 [l0, l1, l2] [] σ = ru d 33 129 [l0, l1, l2] [.int 1] σ := q_iconst t33_128 (by decide +kernel)
theorem t33_129 : decode (mb 33) 129 = .ok (.goto 4, 3) := by decide +kernel
theorem s33_129 (d : Nat) (l0 : Value) (l1 : Value) (l2 : Value) (w0 : Value) (σ : Hs) : ru d 33 129 [l0, l1, l2] [w0] σ = ru d 33 133 [l0, l1, l2] [w0] σ := q_goto t33_129 (by decide +kernel)
theorem t33_132 : decode (mb 33) 132 = .ok (.iconst 0, 1) := by decide +kernel
theorem s33_132 (d : Nat) (l0 : Value) (l1 : Value) (l2 : Value) (σ : Hs) : ru d 33 132 [l0, l1, l2] [] σ = ru d 33 133 [l0, l1, l2] [.int 0] σ := q_iconst t33_132 (by decide +kernel)
theorem t33_133 : decode (mb 33) 133 = .ok (.ireturn, 1) := by decide +kernel
theorem s33_133 (d : Nat) (l0 : Value) (l1 : Value) (l2 : Value) (x : Int32) (σ : Hs) : ru d 33 133 [l0, l1, l2] [.int x] σ = some (some (.int x), σ) := q_ireti t33_133 mr33
theorem t33_134 : decode (mb 33) 134 = .ok (.iload_n 1, 1) := by decide +kernel
theorem s33_134 (d : Nat) (l0 : Value) (i1 : Int32) (l2 : Value) (σ : Hs) : ru d 33 134 [l0, .int i1, l2] [] σ = ru d 33 135 [l0, .int i1, l2] [.int i1] σ := q_iload_n t33_134 rfl
theorem t33_135 : decode (mb 33) 135 = .ok (.iload_n 2, 1) := by decide +kernel
theorem s33_135 (d : Nat) (l0 : Value) (l1 : Value) (i2 : Int32) (w0 : Value) (σ : Hs) : ru d 33 135 [l0, l1, .int i2] [w0] σ = ru d 33 136 [l0, l1, .int i2] [.int i2, w0] σ := q_iload_n t33_135 rfl
theorem t33_136 : decode (mb 33) 136 = .ok (.if_icmp .le 7, 3) := by decide +kernel
theorem s33_136 (d : Nat) (l0 : Value) (l1 : Value) (l2 : Value) (x y : Int32) (σ : Hs) : ru d 33 136 [l0, l1, l2] [.int y, .int x] σ = if x ≤ y then ru d 33 143 [l0, l1, l2] [] σ else ru d 33 139 [l0, l1, l2] [] σ := q_ic_le t33_136 (by decide +kernel)
theorem t33_139 : decode (mb 33) 139 = .ok (.iconst 1, 1) := by decide +kernel
theorem s33_139 (d : Nat) (l0 : Value) (l1 : Value) (l2 : Value) (σ : Hs) : ru d 33 139 [l0, l1, l2] [] σ = ru d 33 140 [l0, l1, l2] [.int 1] σ := q_iconst t33_139 (by decide +kernel)
theorem t33_140 : decode (mb 33) 140 = .ok (.goto 4, 3) := by decide +kernel
theorem s33_140 (d : Nat) (l0 : Value) (l1 : Value) (l2 : Value) (w0 : Value) (σ : Hs) : ru d 33 140 [l0, l1, l2] [w0] σ = ru d 33 144 [l0, l1, l2] [w0] σ := q_goto t33_140 (by decide +kernel)
theorem t33_143 : decode (mb 33) 143 = .ok (.iconst 0, 1) := by decide +kernel
theorem s33_143 (d : Nat) (l0 : Value) (l1 : Value) (l2 : Value) (σ : Hs) : ru d 33 143 [l0, l1, l2] [] σ = ru d 33 144 [l0, l1, l2] [.int 0] σ := q_iconst t33_143 (by decide +kernel)
theorem t33_144 : decode (mb 33) 144 = .ok (.ireturn, 1) := by decide +kernel
theorem s33_144 (d : Nat) (l0 : Value) (l1 : Value) (l2 : Value) (x : Int32) (σ : Hs) : ru d 33 144 [l0, l1, l2] [.int x] σ = some (some (.int x), σ) := q_ireti t33_144 mr33
theorem t33_145 : decode (mb 33) 145 = .ok (.iload_n 1, 1) := by decide +kernel
theorem s33_145 (d : Nat) (l0 : Value) (i1 : Int32) (l2 : Value) (σ : Hs) : ru d 33 145 [l0, .int i1, l2] [] σ = ru d 33 146 [l0, .int i1, l2] [.int i1] σ := q_iload_n t33_145 rfl
theorem t33_146 : decode (mb 33) 146 = .ok (.iload_n 2, 1) := by decide +kernel
theorem s33_146 (d : Nat) (l0 : Value) (l1 : Value) (i2 : Int32) (w0 : Value) (σ : Hs) : ru d 33 146 [l0, l1, .int i2] [w0] σ = ru d 33 147 [l0, l1, .int i2] [.int i2, w0] σ := q_iload_n t33_146 rfl
theorem t33_147 : decode (mb 33) 147 = .ok (.iadd, 1) := by decide +kernel
theorem s33_147 (d : Nat) (l0 : Value) (l1 : Value) (l2 : Value) (x y : Int32) (σ : Hs) : ru d 33 147 [l0, l1, l2] [.int y, .int x] σ = ru d 33 148 [l0, l1, l2] [.int (x + y)] σ := q_iadd t33_147
theorem t33_148 : decode (mb 33) 148 = .ok (.ireturn, 1) := by decide +kernel
theorem s33_148 (d : Nat) (l0 : Value) (l1 : Value) (l2 : Value) (x : Int32) (σ : Hs) : ru d 33 148 [l0, l1, l2] [.int x] σ = some (some (.int x), σ) := q_ireti t33_148 mr33
theorem t33_149 : decode (mb 33) 149 = .ok (.iload_n 1, 1) := by decide +kernel
theorem s33_149 (d : Nat) (l0 : Value) (i1 : Int32) (l2 : Value) (σ : Hs) : ru d 33 149 [l0, .int i1, l2] [] σ = ru d 33 150 [l0, .int i1, l2] [.int i1] σ := q_iload_n t33_149 rfl
theorem t33_150 : decode (mb 33) 150 = .ok (.iload_n 2, 1) := by decide +kernel
theorem s33_150 (d : Nat) (l0 : Value) (l1 : Value) (i2 : Int32) (w0 : Value) (σ : Hs) : ru d 33 150 [l0, l1, .int i2] [w0] σ = ru d 33 151 [l0, l1, .int i2] [.int i2, w0] σ := q_iload_n t33_150 rfl
theorem t33_151 : decode (mb 33) 151 = .ok (.isub, 1) := by decide +kernel
theorem s33_151 (d : Nat) (l0 : Value) (l1 : Value) (l2 : Value) (x y : Int32) (σ : Hs) : ru d 33 151 [l0, l1, l2] [.int y, .int x] σ = ru d 33 152 [l0, l1, l2] [.int (x - y)] σ := q_isub t33_151
theorem t33_152 : decode (mb 33) 152 = .ok (.ireturn, 1) := by decide +kernel
theorem s33_152 (d : Nat) (l0 : Value) (l1 : Value) (l2 : Value) (x : Int32) (σ : Hs) : ru d 33 152 [l0, l1, l2] [.int x] σ = some (some (.int x), σ) := q_ireti t33_152 mr33
theorem t33_153 : decode (mb 33) 153 = .ok (.iload_n 1, 1) := by decide +kernel
theorem s33_153 (d : Nat) (l0 : Value) (i1 : Int32) (l2 : Value) (σ : Hs) : ru d 33 153 [l0, .int i1, l2] [] σ = ru d 33 154 [l0, .int i1, l2] [.int i1] σ := q_iload_n t33_153 rfl
theorem t33_154 : decode (mb 33) 154 = .ok (.iload_n 2, 1) := by decide +kernel
theorem s33_154 (d : Nat) (l0 : Value) (l1 : Value) (i2 : Int32) (w0 : Value) (σ : Hs) : ru d 33 154 [l0, l1, .int i2] [w0] σ = ru d 33 155 [l0, l1, .int i2] [.int i2, w0] σ := q_iload_n t33_154 rfl
theorem t33_155 : decode (mb 33) 155 = .ok (.imul, 1) := by decide +kernel
theorem s33_155 (d : Nat) (l0 : Value) (l1 : Value) (l2 : Value) (x y : Int32) (σ : Hs) : ru d 33 155 [l0, l1, l2] [.int y, .int x] σ = ru d 33 156 [l0, l1, l2] [.int (x * y)] σ := q_imul t33_155
theorem t33_156 : decode (mb 33) 156 = .ok (.ireturn, 1) := by decide +kernel
theorem s33_156 (d : Nat) (l0 : Value) (l1 : Value) (l2 : Value) (x : Int32) (σ : Hs) : ru d 33 156 [l0, l1, l2] [.int x] σ = some (some (.int x), σ) := q_ireti t33_156 mr33
theorem t33_157 : decode (mb 33) 157 = .ok (.iload_n 2, 1) := by decide +kernel
theorem s33_157 (d : Nat) (l0 : Value) (l1 : Value) (i2 : Int32) (σ : Hs) : ru d 33 157 [l0, l1, .int i2] [] σ = ru d 33 158 [l0, l1, .int i2] [.int i2] σ := q_iload_n t33_157 rfl
theorem t33_158 : decode (mb 33) 158 = .ok (.ifCond .ne 7, 3) := by decide +kernel
theorem s33_158 (d : Nat) (l0 : Value) (l1 : Value) (l2 : Value) (x : Int32) (σ : Hs) : ru d 33 158 [l0, l1, l2] [.int x] σ = if x = 0 then ru d 33 161 [l0, l1, l2] [] σ else ru d 33 165 [l0, l1, l2] [] σ := q_if_ne t33_158 (by decide +kernel)
theorem t33_161 : decode (mb 33) 161 = .ok (.iconst 0, 1) := by decide +kernel
theorem s33_161 (d : Nat) (l0 : Value) (l1 : Value) (l2 : Value) (σ : Hs) : ru d 33 161 [l0, l1, l2] [] σ = ru d 33 162 [l0, l1, l2] [.int 0] σ := q_iconst t33_161 (by decide +kernel)
theorem t33_162 : decode (mb 33) 162 = .ok (.goto 6, 3) := by decide +kernel
theorem s33_162 (d : Nat) (l0 : Value) (l1 : Value) (l2 : Value) (w0 : Value) (σ : Hs) : ru d 33 162 [l0, l1, l2] [w0] σ = ru d 33 168 [l0, l1, l2] [w0] σ := q_goto t33_162 (by decide +kernel)
theorem t33_165 : decode (mb 33) 165 = .ok (.iload_n 1, 1) := by decide +kernel
theorem s33_165 (d : Nat) (l0 : Value) (i1 : Int32) (l2 : Value) (σ : Hs) : ru d 33 165 [l0, .int i1, l2] [] σ = ru d 33 166 [l0, .int i1, l2] [.int i1] σ := q_iload_n t33_165 rfl
theorem t33_166 : decode (mb 33) 166 = .ok (.iload_n 2, 1) := by decide +kernel
theorem s33_166 (d : Nat) (l0 : Value) (l1 : Value) (i2 : Int32) (w0 : Value) (σ : Hs) : ru d 33 166 [l0, l1, .int i2] [w0] σ = ru d 33 167 [l0, l1, .int i2] [.int i2, w0] σ := q_iload_n t33_166 rfl
theorem t33_167 : decode (mb 33) 167 = .ok (.idiv, 1) := by decide +kernel
theorem s33_167 (d : Nat) (l0 : Value) (l1 : Value) (l2 : Value) (x y : Int32) (σ : Hs) : ru d 33 167 [l0, l1, l2] [.int y, .int x] σ = gd (¬ y = 0) (ru d 33 168 [l0, l1, l2] [.int (x / y)] σ) := q_idiv t33_167
theorem t33_168 : decode (mb 33) 168 = .ok (.ireturn, 1) := by decide +kernel
theorem s33_168 (d : Nat) (l0 : Value) (l1 : Value) (l2 : Value) (x : Int32) (σ : Hs) : ru d 33 168 [l0, l1, l2] [.int x] σ = some (some (.int x), σ) := q_ireti t33_168 mr33
theorem t33_169 : decode (mb 33) 169 = .ok (.iload_n 2, 1) := by decide +kernel
theorem s33_169 (d : Nat) (l0 : Value) (l1 : Value) (i2 : Int32) (σ : Hs) : ru d 33 169 [l0, l1, .int i2] [] σ = ru d 33 170 [l0, l1, .int i2] [.int i2] σ := q_iload_n t33_169 rfl
theorem t33_170 : decode (mb 33) 170 = .ok (.ifCond .ne 7, 3) := by decide +kernel
theorem s33_170 (d : Nat) (l0 : Value) (l1 : Value) (l2 : Value) (x : Int32) (σ : Hs) : ru d 33 170 [l0, l1, l2] [.int x] σ = if x = 0 then ru d 33 173 [l0, l1, l2] [] σ else ru d 33 177 [l0, l1, l2] [] σ := q_if_ne t33_170 (by decide +kernel)
theorem t33_173 : decode (mb 33) 173 = .ok (.iconst 0, 1) := by decide +kernel
theorem s33_173 (d : Nat) (l0 : Value) (l1 : Value) (l2 : Value) (σ : Hs) : ru d 33 173 [l0, l1, l2] [] σ = ru d 33 174 [l0, l1, l2] [.int 0] σ := q_iconst t33_173 (by decide +kernel)
theorem t33_174 : decode (mb 33) 174 = .ok (.goto 6, 3) := by decide +kernel
theorem s33_174 (d : Nat) (l0 : Value) (l1 : Value) (l2 : Value) (w0 : Value) (σ : Hs) : ru d 33 174 [l0, l1, l2] [w0] σ = ru d 33 180 [l0, l1, l2] [w0] σ := q_goto t33_174 (by decide +kernel)
theorem t33_177 : decode (mb 33) 177 = .ok (.iload_n 1, 1) := by decide +kernel
theorem s33_177 (d : Nat) (l0 : Value) (i1 : Int32) (l2 : Value) (σ : Hs) : ru d 33 177 [l0, .int i1, l2] [] σ = ru d 33 178 [l0, .int i1, l2] [.int i1] σ := q_iload_n t33_177 rfl
theorem t33_178 : decode (mb 33) 178 = .ok (.iload_n 2, 1) := by decide +kernel
theorem s33_178 (d : Nat) (l0 : Value) (l1 : Value) (i2 : Int32) (w0 : Value) (σ : Hs) : ru d 33 178 [l0, l1, .int i2] [w0] σ = ru d 33 179 [l0, l1, .int i2] [.int i2, w0] σ := q_iload_n t33_178 rfl
theorem t33_179 : decode (mb 33) 179 = .ok (.irem, 1) := by decide +kernel
theorem s33_179 (d : Nat) (l0 : Value) (l1 : Value) (l2 : Value) (x y : Int32) (σ : Hs) : ru d 33 179 [l0, l1, l2] [.int y, .int x] σ = gd (¬ y = 0) (ru d 33 180 [l0, l1, l2] [.int (x - x / y * y)] σ) := q_irem t33_179
theorem t33_180 : decode (mb 33) 180 = .ok (.ireturn, 1) := by decide +kernel
theorem s33_180 (d : Nat) (l0 : Value) (l1 : Value) (l2 : Value) (x : Int32) (σ : Hs) : ru d 33 180 [l0, l1, l2] [.int x] σ = some (some (.int x), σ) := q_ireti t33_180 mr33
theorem c33 (d : Nat) (x0 : Int32) (x1 : Int32) (x2 : Int32) (σ : Hs) : callD (d + 1) 33 [.int x0, .int x1, .int x2] σ = ru d 33 0 [.int x0, .int x1, .int x2] [] σ := callD_ru ml33 rfl rfl (Nat.le_of_ble_eq_true rfl)
-- 34: Reader.faultOf(LSmokyHeap$Row;I)I
theorem t34_0 : decode (mb 34) 0 = .ok (.aload_n 0, 1) := by decide +kernel
theorem s34_0 (d : Nat) (a0 : Nat) (l1 : Value) (l2 : Value) (σ : Hs) : ru d 34 0 [.ref a0, l1, l2] [] σ = ru d 34 1 [.ref a0, l1, l2] [.ref a0] σ := q_aload_n t34_0 rfl
theorem t34_1 : decode (mb 34) 1 = .ok (.aload_n 1, 1) := by decide +kernel
theorem s34_1 (d : Nat) (l0 : Value) (a1 : Nat) (l2 : Value) (w0 : Value) (σ : Hs) : ru d 34 1 [l0, .ref a1, l2] [w0] σ = ru d 34 2 [l0, .ref a1, l2] [.ref a1, w0] σ := q_aload_n t34_1 rfl
theorem t34_2 : decode (mb 34) 2 = .ok (.putfield 20, 3) := by decide +kernel
theorem s34_2_o70_22 (d : Nat) (l0 : Value) (l1 : Value) (l2 : Value) (σ : Hs) : ru d 34 2 [l0, l1, l2] [.ref 22, .ref 70] σ = ru d 34 5 [l0, l1, l2] [] (up2 σ 70 1 22) := q_putr t34_2 mo34 F2_20 (by decide +kernel) rfl (by decide +kernel) (by decide +kernel)
theorem t34_5 : decode (mb 34) 5 = .ok (.aload_n 0, 1) := by decide +kernel
theorem s34_5 (d : Nat) (a0 : Nat) (l1 : Value) (l2 : Value) (σ : Hs) : ru d 34 5 [.ref a0, l1, l2] [] σ = ru d 34 6 [.ref a0, l1, l2] [.ref a0] σ := q_aload_n t34_5 rfl
theorem t34_6 : decode (mb 34) 6 = .ok (.iload_n 2, 1) := by decide +kernel
theorem s34_6 (d : Nat) (l0 : Value) (l1 : Value) (i2 : Int32) (w0 : Value) (σ : Hs) : ru d 34 6 [l0, l1, .int i2] [w0] σ = ru d 34 7 [l0, l1, .int i2] [.int i2, w0] σ := q_iload_n t34_6 rfl
theorem t34_7 : decode (mb 34) 7 = .ok (.invokestatic 37, 3) := by decide +kernel
theorem s34_7 (d : Nat) (l0 : Value) (l1 : Value) (l2 : Value) (v0 : Value) (w0 : Nat) (σ : Hs) : ru d 34 7 [l0, l1, l2] [v0, .ref w0] σ = kont (callD d 35 [v0] σ) d 34 10 [l0, l1, l2] [.ref w0] := q_invs t34_7 mo34 (by decide +kernel) K2_37 mj35 (Nat.le_of_ble_eq_true rfl) rfl rfl (Nat.le_of_ble_eq_true rfl)
theorem t34_10 : decode (mb 34) 10 = .ok (.putfield 25, 3) := by decide +kernel
theorem s34_10_o70_111 (d : Nat) (l0 : Value) (l1 : Value) (l2 : Value) (σ : Hs) : ru d 34 10 [l0, l1, l2] [.ref 111, .ref 70] σ = ru d 34 13 [l0, l1, l2] [] (up2 σ 70 2 111) := q_putr t34_10 mo34 F2_25 (by decide +kernel) rfl (by decide +kernel) (by decide +kernel)
theorem s34_10_o70_112 (d : Nat) (l0 : Value) (l1 : Value) (l2 : Value) (σ : Hs) : ru d 34 10 [l0, l1, l2] [.ref 112, .ref 70] σ = ru d 34 13 [l0, l1, l2] [] (up2 σ 70 2 112) := q_putr t34_10 mo34 F2_25 (by decide +kernel) rfl (by decide +kernel) (by decide +kernel)
theorem s34_10_o70_113 (d : Nat) (l0 : Value) (l1 : Value) (l2 : Value) (σ : Hs) : ru d 34 10 [l0, l1, l2] [.ref 113, .ref 70] σ = ru d 34 13 [l0, l1, l2] [] (up2 σ 70 2 113) := q_putr t34_10 mo34 F2_25 (by decide +kernel) rfl (by decide +kernel) (by decide +kernel)
theorem t34_13 : decode (mb 34) 13 = .ok (.aload_n 0, 1) := by decide +kernel
theorem s34_13 (d : Nat) (a0 : Nat) (l1 : Value) (l2 : Value) (σ : Hs) : ru d 34 13 [.ref a0, l1, l2] [] σ = ru d 34 14 [.ref a0, l1, l2] [.ref a0] σ := q_aload_n t34_13 rfl
theorem t34_14 : decode (mb 34) 14 = .ok (.iconst 0, 1) := by decide +kernel
theorem s34_14 (d : Nat) (l0 : Value) (l1 : Value) (l2 : Value) (w0 : Value) (σ : Hs) : ru d 34 14 [l0, l1, l2] [w0] σ = ru d 34 15 [l0, l1, l2] [.int 0, w0] σ := q_iconst t34_14 (by decide +kernel)
theorem t34_15 : decode (mb 34) 15 = .ok (.putfield 29, 3) := by decide +kernel
theorem s34_15_o70 (d : Nat) (l0 : Value) (l1 : Value) (l2 : Value) (x : Int32) (σ : Hs) : ru d 34 15 [l0, l1, l2] [.int x, .ref 70] σ = ru d 34 18 [l0, l1, l2] [] (up2 σ 70 3 x) := q_puti t34_15 mo34 F2_29 (by decide +kernel) rfl rfl
theorem t34_18 : decode (mb 34) 18 = .ok (.aload_n 0, 1) := by decide +kernel
theorem s34_18 (d : Nat) (a0 : Nat) (l1 : Value) (l2 : Value) (σ : Hs) : ru d 34 18 [.ref a0, l1, l2] [] σ = ru d 34 19 [.ref a0, l1, l2] [.ref a0] σ := q_aload_n t34_18 rfl
theorem t34_19 : decode (mb 34) 19 = .ok (.iconst 0, 1) := by decide +kernel
theorem s34_19 (d : Nat) (l0 : Value) (l1 : Value) (l2 : Value) (w0 : Value) (σ : Hs) : ru d 34 19 [l0, l1, l2] [w0] σ = ru d 34 20 [l0, l1, l2] [.int 0, w0] σ := q_iconst t34_19 (by decide +kernel)
theorem t34_20 : decode (mb 34) 20 = .ok (.putfield 33, 3) := by decide +kernel
theorem s34_20_o70 (d : Nat) (l0 : Value) (l1 : Value) (l2 : Value) (x : Int32) (hx : isB x) (σ : Hs) : ru d 34 20 [l0, l1, l2] [.int x, .ref 70] σ = ru d 34 23 [l0, l1, l2] [] (up2 σ 70 4 x) := q_putz t34_20 mo34 F2_33 (by decide +kernel) rfl rfl hx
theorem t34_23 : decode (mb 34) 23 = .ok (.aload_n 0, 1) := by decide +kernel
theorem s34_23 (d : Nat) (a0 : Nat) (l1 : Value) (l2 : Value) (σ : Hs) : ru d 34 23 [.ref a0, l1, l2] [] σ = ru d 34 24 [.ref a0, l1, l2] [.ref a0] σ := q_aload_n t34_23 rfl
theorem t34_24 : decode (mb 34) 24 = .ok (.getfield 14, 3) := by decide +kernel
theorem s34_24_o70 (d : Nat) (l0 : Value) (l1 : Value) (l2 : Value) (σ : Hs) : ru d 34 24 [l0, l1, l2] [.ref 70] σ = ru d 34 27 [l0, l1, l2] [.ref 71] σ := q_getf t34_24 mo34 F2_14 rfl rfl
theorem t34_27 : decode (mb 34) 27 = .ok (.iconst 0, 1) := by decide +kernel
theorem s34_27 (d : Nat) (l0 : Value) (l1 : Value) (l2 : Value) (w0 : Value) (σ : Hs) : ru d 34 27 [l0, l1, l2] [w0] σ = ru d 34 28 [l0, l1, l2] [.int 0, w0] σ := q_iconst t34_27 (by decide +kernel)
theorem t34_28 : decode (mb 34) 28 = .ok (.putfield 41, 3) := by decide +kernel
theorem s34_28_o71 (d : Nat) (l0 : Value) (l1 : Value) (l2 : Value) (x : Int32) (σ : Hs) : ru d 34 28 [l0, l1, l2] [.int x, .ref 71] σ = ru d 34 31 [l0, l1, l2] [] (up2 σ 71 1 x) := q_puti t34_28 mo34 F2_41 (by decide +kernel) rfl rfl
theorem t34_31 : decode (mb 34) 31 = .ok (.aload_n 0, 1) := by decide +kernel
theorem s34_31 (d : Nat) (a0 : Nat) (l1 : Value) (l2 : Value) (σ : Hs) : ru d 34 31 [.ref a0, l1, l2] [] σ = ru d 34 32 [.ref a0, l1, l2] [.ref a0] σ := q_aload_n t34_31 rfl
theorem t34_32 : decode (mb 34) 32 = .ok (.iconst 0, 1) := by decide +kernel
theorem s34_32 (d : Nat) (l0 : Value) (l1 : Value) (l2 : Value) (w0 : Value) (σ : Hs) : ru d 34 32 [l0, l1, l2] [w0] σ = ru d 34 33 [l0, l1, l2] [.int 0, w0] σ := q_iconst t34_32 (by decide +kernel)
theorem t34_33 : decode (mb 34) 33 = .ok (.iconst 0, 1) := by decide +kernel
theorem s34_33 (d : Nat) (l0 : Value) (l1 : Value) (l2 : Value) (w0 w1 : Value) (σ : Hs) : ru d 34 33 [l0, l1, l2] [w0, w1] σ = ru d 34 34 [l0, l1, l2] [.int 0, w0, w1] σ := q_iconst t34_33 (by decide +kernel)
theorem t34_34 : decode (mb 34) 34 = .ok (.invokevirtual 44, 3) := by decide +kernel
theorem s34_34_o70 (d : Nat) (l0 : Value) (l1 : Value) (l2 : Value) (v1 v2 : Value) (σ : Hs) : ru d 34 34 [l0, l1, l2] [v2, v1, .ref 70] σ = kont (callD d 38 [.ref 70, v1, v2] σ) d 34 37 [l0, l1, l2] [] := q_invv t34_34 mo34 K2_44 mj38 rfl rfl rfl rfl (Nat.le_of_ble_eq_true rfl)
theorem t34_37 : decode (mb 34) 37 = .ok (.aload_n 0, 1) := by decide +kernel
theorem s34_37 (d : Nat) (a0 : Nat) (l1 : Value) (l2 : Value) (σ : Hs) : ru d 34 37 [.ref a0, l1, l2] [] σ = ru d 34 38 [.ref a0, l1, l2] [.ref a0] σ := q_aload_n t34_37 rfl
theorem t34_38 : decode (mb 34) 38 = .ok (.getfield 33, 3) := by decide +kernel
theorem s34_38_o70 (d : Nat) (l0 : Value) (l1 : Value) (l2 : Value) (σ : Hs) : ru d 34 38 [l0, l1, l2] [.ref 70] σ = ru d 34 41 [l0, l1, l2] [.int (σ 70 4)] σ := q_getf t34_38 mo34 F2_33 rfl rfl
theorem t34_41 : decode (mb 34) 41 = .ok (.ifCond .ne 17, 3) := by decide +kernel
theorem s34_41 (d : Nat) (l0 : Value) (l1 : Value) (l2 : Value) (x : Int32) (σ : Hs) : ru d 34 41 [l0, l1, l2] [.int x] σ = if x = 0 then ru d 34 44 [l0, l1, l2] [] σ else ru d 34 58 [l0, l1, l2] [] σ := q_if_ne t34_41 (by decide +kernel)
theorem t34_44 : decode (mb 34) 44 = .ok (.aload_n 0, 1) := by decide +kernel
theorem s34_44 (d : Nat) (a0 : Nat) (l1 : Value) (l2 : Value) (σ : Hs) : ru d 34 44 [.ref a0, l1, l2] [] σ = ru d 34 45 [.ref a0, l1, l2] [.ref a0] σ := q_aload_n t34_44 rfl
theorem t34_45 : decode (mb 34) 45 = .ok (.getfield 29, 3) := by decide +kernel
theorem s34_45_o70 (d : Nat) (l0 : Value) (l1 : Value) (l2 : Value) (σ : Hs) : ru d 34 45 [l0, l1, l2] [.ref 70] σ = ru d 34 48 [l0, l1, l2] [.int (σ 70 3)] σ := q_getf t34_45 mo34 F2_29 rfl rfl
theorem t34_48 : decode (mb 34) 48 = .ok (.aload_n 0, 1) := by decide +kernel
theorem s34_48 (d : Nat) (a0 : Nat) (l1 : Value) (l2 : Value) (w0 : Value) (σ : Hs) : ru d 34 48 [.ref a0, l1, l2] [w0] σ = ru d 34 49 [.ref a0, l1, l2] [.ref a0, w0] σ := q_aload_n t34_48 rfl
theorem t34_49 : decode (mb 34) 49 = .ok (.getfield 20, 3) := by decide +kernel
theorem s34_49_o70 (d : Nat) (l0 : Value) (l1 : Value) (l2 : Value) (w0 : Value) (σ : Hs) : ru d 34 49 [l0, l1, l2] [.ref 70, w0] σ = ru d 34 52 [l0, l1, l2] [.ref (σ 70 1).toNatClampNeg, w0] σ := q_getf t34_49 mo34 F2_20 rfl rfl
theorem t34_52 : decode (mb 34) 52 = .ok (.getfield 41, 3) := by decide +kernel
theorem s34_52_o22 (d : Nat) (l0 : Value) (l1 : Value) (l2 : Value) (w0 : Value) (σ : Hs) : ru d 34 52 [l0, l1, l2] [.ref 22, w0] σ = ru d 34 55 [l0, l1, l2] [.int (σ 22 1), w0] σ := q_getf t34_52 mo34 F2_41 rfl rfl
theorem t34_55 : decode (mb 34) 55 = .ok (.if_icmp .ge 10, 3) := by decide +kernel
theorem s34_55 (d : Nat) (l0 : Value) (l1 : Value) (l2 : Value) (x y : Int32) (σ : Hs) : ru d 34 55 [l0, l1, l2] [.int y, .int x] σ = if y ≤ x then ru d 34 65 [l0, l1, l2] [] σ else ru d 34 58 [l0, l1, l2] [] σ := q_ic_ge t34_55 (by decide +kernel)
theorem t34_58 : decode (mb 34) 58 = .ok (.aload_n 0, 1) := by decide +kernel
theorem s34_58 (d : Nat) (a0 : Nat) (l1 : Value) (l2 : Value) (σ : Hs) : ru d 34 58 [.ref a0, l1, l2] [] σ = ru d 34 59 [.ref a0, l1, l2] [.ref a0] σ := q_aload_n t34_58 rfl
theorem t34_59 : decode (mb 34) 59 = .ok (.getfield 29, 3) := by decide +kernel
theorem s34_59_o70 (d : Nat) (l0 : Value) (l1 : Value) (l2 : Value) (σ : Hs) : ru d 34 59 [l0, l1, l2] [.ref 70] σ = ru d 34 62 [l0, l1, l2] [.int (σ 70 3)] σ := q_getf t34_59 mo34 F2_29 rfl rfl
theorem t34_62 : decode (mb 34) 62 = .ok (.goto 4, 3) := by decide +kernel
theorem s34_62 (d : Nat) (l0 : Value) (l1 : Value) (l2 : Value) (w0 : Value) (σ : Hs) : ru d 34 62 [l0, l1, l2] [w0] σ = ru d 34 66 [l0, l1, l2] [w0] σ := q_goto t34_62 (by decide +kernel)
theorem t34_65 : decode (mb 34) 65 = .ok (.iconst (-1), 1) := by decide +kernel
theorem s34_65 (d : Nat) (l0 : Value) (l1 : Value) (l2 : Value) (σ : Hs) : ru d 34 65 [l0, l1, l2] [] σ = ru d 34 66 [l0, l1, l2] [.int (-1)] σ := q_iconst t34_65 (by decide +kernel)
theorem t34_66 : decode (mb 34) 66 = .ok (.ireturn, 1) := by decide +kernel
theorem s34_66 (d : Nat) (l0 : Value) (l1 : Value) (l2 : Value) (x : Int32) (σ : Hs) : ru d 34 66 [l0, l1, l2] [.int x] σ = some (some (.int x), σ) := q_ireti t34_66 mr34
theorem c34 (d : Nat) (x0 : Nat) (x1 : Nat) (x2 : Int32) (σ : Hs) : callD (d + 1) 34 [.ref x0, .ref x1, .int x2] σ = ru d 34 0 [.ref x0, .ref x1, .int x2] [] σ := callD_ru ml34 rfl rfl (Nat.le_of_ble_eq_true rfl)
-- 35: Reader.namesOf(I)Ljava/lang/String;
theorem t35_0 : decode (mb 35) 0 = .ok (.iload_n 0, 1) := by decide +kernel
theorem s35_0 (d : Nat) (i0 : Int32) (σ : Hs) : ru d 35 0 [.int i0] [] σ = ru d 35 1 [.int i0] [.int i0] σ := q_iload_n t35_0 rfl
theorem t35_1 : decode (mb 35) 1 = .ok (.lookupswitch 33 #[(0, 27), (1, 30)], 27) := by decide +kernel
theorem f35_1 (x : Int32) : tgt 1 (Op.lookupswitch.offset (#[(0, 27), (1, 30)] : Array (Int × Int)).toList 33 x.toInt) = some (if x = 0 then 28 else (if x = 1 then 31 else 34)) := by
  by_cases h0 : x = 0
  · subst h0; decide +kernel
  by_cases h1 : x = 1
  · subst h1; decide +kernel
  have e0 : ¬ x.toInt = 0 := fun h => h0 (Int32.toInt_inj.mp (h.trans (by decide +kernel)))
  have e1 : ¬ x.toInt = 1 := fun h => h1 (Int32.toInt_inj.mp (h.trans (by decide +kernel)))
  have g0 : ¬ (0 : Int) = x.toInt := fun h => e0 h.symm
  have g1 : ¬ (1 : Int) = x.toInt := fun h => e1 h.symm
  simp only [Op.lookupswitch.offset_cons, Op.lookupswitch.offset_nil, if_neg g0, if_neg h0, if_neg g1, if_neg h1]
  decide +kernel
theorem s35_1 (d : Nat) (l0 : Value) (x : Int32) (σ : Hs) : ru d 35 1 [l0] [.int x] σ = if x = 0 then ru d 35 28 [l0] [] σ else if x = 1 then ru d 35 31 [l0] [] σ else ru d 35 34 [l0] [] σ := by
  refine (q_lsw t35_1 (by decide +kernel) (fun x => (if x = 0 then 28 else (if x = 1 then 31 else 34))) (f35_1 x)).trans ?_
  by_cases h0 : x = 0
  · rw [if_pos h0, if_pos h0]
  rw [if_neg h0, if_neg h0]
  by_cases h1 : x = 1
  · rw [if_pos h1, if_pos h1]
  rw [if_neg h1, if_neg h1]
theorem t35_28 : decode (mb 35) 28 = .ok (.ldc 48, 2) := by decide +kernel
theorem s35_28 (d : Nat) (l0 : Value) (σ : Hs) : ru d 35 28 [l0] [] σ = ru d 35 30 [l0] [.ref 111] σ := q_ldc t35_28 mo35 C2_48
theorem t35_30 : decode (mb 35) 30 = .ok (.areturn, 1) := by decide +kernel
theorem s35_30 (d : Nat) (l0 : Value) (x : Nat) (σ : Hs) : ru d 35 30 [l0] [.ref x] σ = some (some (.ref x), σ) := q_aret t35_30 mr35
theorem t35_31 : decode (mb 35) 31 = .ok (.ldc 50, 2) := by decide +kernel
theorem s35_31 (d : Nat) (l0 : Value) (σ : Hs) : ru d 35 31 [l0] [] σ = ru d 35 33 [l0] [.ref 112] σ := q_ldc t35_31 mo35 C2_50
theorem t35_33 : decode (mb 35) 33 = .ok (.areturn, 1) := by decide +kernel
theorem s35_33 (d : Nat) (l0 : Value) (x : Nat) (σ : Hs) : ru d 35 33 [l0] [.ref x] σ = some (some (.ref x), σ) := q_aret t35_33 mr35
theorem t35_34 : decode (mb 35) 34 = .ok (.ldc 52, 2) := by decide +kernel
theorem s35_34 (d : Nat) (l0 : Value) (σ : Hs) : ru d 35 34 [l0] [] σ = ru d 35 36 [l0] [.ref 113] σ := q_ldc t35_34 mo35 C2_52
theorem t35_36 : decode (mb 35) 36 = .ok (.areturn, 1) := by decide +kernel
theorem s35_36 (d : Nat) (l0 : Value) (x : Nat) (σ : Hs) : ru d 35 36 [l0] [.ref x] σ = some (some (.ref x), σ) := q_aret t35_36 mr35
theorem c35 (d : Nat) (x0 : Int32) (σ : Hs) : callD (d + 1) 35 [.int x0] σ = ru d 35 0 [.int x0] [] σ := callD_ru ml35 rfl rfl (Nat.le_of_ble_eq_true rfl)
-- 36: Reader.signsOf(I)Ljava/lang/String;
theorem t36_0 : decode (mb 36) 0 = .ok (.iload_n 0, 1) := by decide +kernel
theorem s36_0 (d : Nat) (i0 : Int32) (σ : Hs) : ru d 36 0 [.int i0] [] σ = ru d 36 1 [.int i0] [.int i0] σ := q_iload_n t36_0 rfl
theorem t36_1 : decode (mb 36) 1 = .ok (.tableswitch 43 0 3 #[31, 34, 37, 40], 31) := by decide +kernel
theorem f36_1 (x : Int32) : (tsw 0 3 #[31, 34, 37, 40] 43 x.toInt).bind (tgt 1) = some (if x = 0 then 32 else (if x = 1 then 35 else (if x = 2 then 38 else (if x = 3 then 41 else 44)))) := by
  by_cases h0 : x = 0
  · subst h0; decide +kernel
  by_cases h1 : x = 1
  · subst h1; decide +kernel
  by_cases h2 : x = 2
  · subst h2; decide +kernel
  by_cases h3 : x = 3
  · subst h3; decide +kernel
  have e0 : ¬ x.toInt = 0 := fun h => h0 (Int32.toInt_inj.mp (h.trans (by decide +kernel)))
  have e1 : ¬ x.toInt = 1 := fun h => h1 (Int32.toInt_inj.mp (h.trans (by decide +kernel)))
  have e2 : ¬ x.toInt = 2 := fun h => h2 (Int32.toInt_inj.mp (h.trans (by decide +kernel)))
  have e3 : ¬ x.toInt = 3 := fun h => h3 (Int32.toInt_inj.mp (h.trans (by decide +kernel)))
  have e : x.toInt < 0 ∨ 3 < x.toInt := by omega
  unfold tsw
  rw [if_pos e, if_neg h0, if_neg h1, if_neg h2, if_neg h3]
  decide +kernel
theorem s36_1 (d : Nat) (l0 : Value) (x : Int32) (σ : Hs) : ru d 36 1 [l0] [.int x] σ = if x = 0 then ru d 36 32 [l0] [] σ else if x = 1 then ru d 36 35 [l0] [] σ else if x = 2 then ru d 36 38 [l0] [] σ else if x = 3 then ru d 36 41 [l0] [] σ else ru d 36 44 [l0] [] σ := by
  refine (q_tsw t36_1 (fun x => (if x = 0 then 32 else (if x = 1 then 35 else (if x = 2 then 38 else (if x = 3 then 41 else 44))))) (f36_1 x)).trans ?_
  by_cases h0 : x = 0
  · rw [if_pos h0, if_pos h0]
  rw [if_neg h0, if_neg h0]
  by_cases h1 : x = 1
  · rw [if_pos h1, if_pos h1]
  rw [if_neg h1, if_neg h1]
  by_cases h2 : x = 2
  · rw [if_pos h2, if_pos h2]
  rw [if_neg h2, if_neg h2]
  by_cases h3 : x = 3
  · rw [if_pos h3, if_pos h3]
  rw [if_neg h3, if_neg h3]
theorem t36_32 : decode (mb 36) 32 = .ok (.ldc 54, 2) := by decide +kernel
theorem s36_32 (d : Nat) (l0 : Value) (σ : Hs) : ru d 36 32 [l0] [] σ = ru d 36 34 [l0] [.ref 114] σ := q_ldc t36_32 mo36 C2_54
theorem t36_34 : decode (mb 36) 34 = .ok (.areturn, 1) := by decide +kernel
theorem s36_34 (d : Nat) (l0 : Value) (x : Nat) (σ : Hs) : ru d 36 34 [l0] [.ref x] σ = some (some (.ref x), σ) := q_aret t36_34 mr36
theorem t36_35 : decode (mb 36) 35 = .ok (.ldc 56, 2) := by decide +kernel
theorem s36_35 (d : Nat) (l0 : Value) (σ : Hs) : ru d 36 35 [l0] [] σ = ru d 36 37 [l0] [.ref 115] σ := q_ldc t36_35 mo36 C2_56
theorem t36_37 : decode (mb 36) 37 = .ok (.areturn, 1) := by decide +kernel
theorem s36_37 (d : Nat) (l0 : Value) (x : Nat) (σ : Hs) : ru d 36 37 [l0] [.ref x] σ = some (some (.ref x), σ) := q_aret t36_37 mr36
theorem t36_38 : decode (mb 36) 38 = .ok (.ldc 58, 2) := by decide +kernel
theorem s36_38 (d : Nat) (l0 : Value) (σ : Hs) : ru d 36 38 [l0] [] σ = ru d 36 40 [l0] [.ref 116] σ := q_ldc t36_38 mo36 C2_58
theorem t36_40 : decode (mb 36) 40 = .ok (.areturn, 1) := by decide +kernel
theorem s36_40 (d : Nat) (l0 : Value) (x : Nat) (σ : Hs) : ru d 36 40 [l0] [.ref x] σ = some (some (.ref x), σ) := q_aret t36_40 mr36
theorem t36_41 : decode (mb 36) 41 = .ok (.ldc 60, 2) := by decide +kernel
theorem s36_41 (d : Nat) (l0 : Value) (σ : Hs) : ru d 36 41 [l0] [] σ = ru d 36 43 [l0] [.ref 117] σ := q_ldc t36_41 mo36 C2_60
theorem t36_43 : decode (mb 36) 43 = .ok (.areturn, 1) := by decide +kernel
theorem s36_43 (d : Nat) (l0 : Value) (x : Nat) (σ : Hs) : ru d 36 43 [l0] [.ref x] σ = some (some (.ref x), σ) := q_aret t36_43 mr36
theorem t36_44 : decode (mb 36) 44 = .ok (.ldc 62, 2) := by decide +kernel
theorem s36_44 (d : Nat) (l0 : Value) (σ : Hs) : ru d 36 44 [l0] [] σ = ru d 36 46 [l0] [.ref 118] σ := q_ldc t36_44 mo36 C2_62
theorem t36_46 : decode (mb 36) 46 = .ok (.areturn, 1) := by decide +kernel
theorem s36_46 (d : Nat) (l0 : Value) (x : Nat) (σ : Hs) : ru d 36 46 [l0] [.ref x] σ = some (some (.ref x), σ) := q_aret t36_46 mr36
theorem c36 (d : Nat) (x0 : Int32) (σ : Hs) : callD (d + 1) 36 [.int x0] σ = ru d 36 0 [.int x0] [] σ := callD_ru ml36 rfl rfl (Nat.le_of_ble_eq_true rfl)
-- 37: Reader.next()C
theorem t37_0 : decode (mb 37) 0 = .ok (.aload_n 0, 1) := by decide +kernel
theorem s37_0 (d : Nat) (a0 : Nat) (σ : Hs) : ru d 37 0 [.ref a0] [] σ = ru d 37 1 [.ref a0] [.ref a0] σ := q_aload_n t37_0 rfl
theorem t37_1 : decode (mb 37) 1 = .ok (.getfield 20, 3) := by decide +kernel
theorem s37_1_o70 (d : Nat) (l0 : Value) (σ : Hs) : ru d 37 1 [l0] [.ref 70] σ = ru d 37 4 [l0] [.ref (σ 70 1).toNatClampNeg] σ := q_getf t37_1 mo37 F2_20 rfl rfl
theorem t37_4 : decode (mb 37) 4 = .ok (.aload_n 0, 1) := by decide +kernel
theorem s37_4 (d : Nat) (a0 : Nat) (w0 : Value) (σ : Hs) : ru d 37 4 [.ref a0] [w0] σ = ru d 37 5 [.ref a0] [.ref a0, w0] σ := q_aload_n t37_4 rfl
theorem t37_5 : decode (mb 37) 5 = .ok (.getfield 29, 3) := by decide +kernel
theorem s37_5_o70 (d : Nat) (l0 : Value) (w0 : Value) (σ : Hs) : ru d 37 5 [l0] [.ref 70, w0] σ = ru d 37 8 [l0] [.int (σ 70 3), w0] σ := q_getf t37_5 mo37 F2_29 rfl rfl
theorem t37_8 : decode (mb 37) 8 = .ok (.invokevirtual 64, 3) := by decide +kernel
theorem s37_8_o22 (d : Nat) (l0 : Value) (v1 : Value) (σ : Hs) : ru d 37 8 [l0] [v1, .ref 22] σ = kont (callD d 43 [.ref 22, v1] σ) d 37 11 [l0] [] := q_invv t37_8 mo37 K2_64 mj43 rfl rfl rfl rfl (Nat.le_of_ble_eq_true rfl)
theorem t37_11 : decode (mb 37) 11 = .ok (.ifCond .eq 19, 3) := by decide +kernel
theorem s37_11 (d : Nat) (l0 : Value) (x : Int32) (σ : Hs) : ru d 37 11 [l0] [.int x] σ = if x = 0 then ru d 37 30 [l0] [] σ else ru d 37 14 [l0] [] σ := q_if_eq t37_11 (by decide +kernel)
theorem t37_14 : decode (mb 37) 14 = .ok (.aload_n 0, 1) := by decide +kernel
theorem s37_14 (d : Nat) (a0 : Nat) (σ : Hs) : ru d 37 14 [.ref a0] [] σ = ru d 37 15 [.ref a0] [.ref a0] σ := q_aload_n t37_14 rfl
theorem t37_15 : decode (mb 37) 15 = .ok (.getfield 20, 3) := by decide +kernel
theorem s37_15_o70 (d : Nat) (l0 : Value) (σ : Hs) : ru d 37 15 [l0] [.ref 70] σ = ru d 37 18 [l0] [.ref (σ 70 1).toNatClampNeg] σ := q_getf t37_15 mo37 F2_20 rfl rfl
theorem t37_18 : decode (mb 37) 18 = .ok (.getfield 68, 3) := by decide +kernel
theorem s37_18_o22 (d : Nat) (l0 : Value) (σ : Hs) : ru d 37 18 [l0] [.ref 22] σ = ru d 37 21 [l0] [.ref 23] σ := q_getf t37_18 mo37 F2_68 rfl rfl
theorem t37_21 : decode (mb 37) 21 = .ok (.aload_n 0, 1) := by decide +kernel
theorem s37_21 (d : Nat) (a0 : Nat) (w0 : Value) (σ : Hs) : ru d 37 21 [.ref a0] [w0] σ = ru d 37 22 [.ref a0] [.ref a0, w0] σ := q_aload_n t37_21 rfl
theorem t37_22 : decode (mb 37) 22 = .ok (.getfield 29, 3) := by decide +kernel
theorem s37_22_o70 (d : Nat) (l0 : Value) (w0 : Value) (σ : Hs) : ru d 37 22 [l0] [.ref 70, w0] σ = ru d 37 25 [l0] [.int (σ 70 3), w0] σ := q_getf t37_22 mo37 F2_29 rfl rfl
theorem t37_25 : decode (mb 37) 25 = .ok (.iaload, 1) := by decide +kernel
theorem s37_25_o23 (d : Nat) (l0 : Value) (i : Int32) (σ : Hs) : ru d 37 25 [l0] [.int i, .ref 23] σ = gd (vp_in i 60) (ru d 37 26 [l0] [.int (σ 23 i.toNatClampNeg)] σ) := q_iald t37_25 rfl (by decide +kernel) rfl
theorem t37_26 : decode (mb 37) 26 = .ok (.i2c, 1) := by decide +kernel
theorem s37_26 (d : Nat) (l0 : Value) (x : Int32) (σ : Hs) : ru d 37 26 [l0] [.int x] σ = ru d 37 27 [l0] [.int (x.toUInt32 % 65536).toInt32] σ := q_i2c t37_26
theorem t37_27 : decode (mb 37) 27 = .ok (.goto 4, 3) := by decide +kernel
theorem s37_27 (d : Nat) (l0 : Value) (w0 : Value) (σ : Hs) : ru d 37 27 [l0] [w0] σ = ru d 37 31 [l0] [w0] σ := q_goto t37_27 (by decide +kernel)
theorem t37_30 : decode (mb 37) 30 = .ok (.iconst 0, 1) := by decide +kernel
theorem s37_30 (d : Nat) (l0 : Value) (σ : Hs) : ru d 37 30 [l0] [] σ = ru d 37 31 [l0] [.int 0] σ := q_iconst t37_30 (by decide +kernel)
theorem t37_31 : decode (mb 37) 31 = .ok (.ireturn, 1) := by decide +kernel
theorem s37_31 (d : Nat) (l0 : Value) (x : Int32) (hx : narrow .char (.int x) = .int x) (σ : Hs) : ru d 37 31 [l0] [.int x] σ = some (some (.int x), σ) := q_iretn t37_31 mr37 hx
theorem c37 (d : Nat) (x0 : Nat) (σ : Hs) : callD (d + 1) 37 [.ref x0] σ = ru d 37 0 [.ref x0] [] σ := callD_ru ml37 rfl rfl (Nat.le_of_ble_eq_true rfl)
-- 38: Reader.readLevel(II)V
theorem t38_0 : decode (mb 38) 0 = .ok (.iload_n 1, 1) := by decide +kernel
theorem s38_0 (d : Nat) (l0 : Value) (i1 : Int32) (l2 : Value) (l3 : Value) (l4 : Value) (l5 : Value) (σ : Hs) : ru d 38 0 [l0, .int i1, l2, l3, l4, l5] [] σ = ru d 38 1 [l0, .int i1, l2, l3, l4, l5] [.int i1] σ := q_iload_n t38_0 rfl
theorem t38_1 : decode (mb 38) 1 = .ok (.iconst 5, 1) := by decide +kernel
theorem s38_1 (d : Nat) (l0 : Value) (l1 : Value) (l2 : Value) (l3 : Value) (l4 : Value) (l5 : Value) (w0 : Value) (σ : Hs) : ru d 38 1 [l0, l1, l2, l3, l4, l5] [w0] σ = ru d 38 2 [l0, l1, l2, l3, l4, l5] [.int 5, w0] σ := q_iconst t38_1 (by decide +kernel)
theorem t38_2 : decode (mb 38) 2 = .ok (.if_icmp .lt 9, 3) := by decide +kernel
theorem s38_2 (d : Nat) (l0 : Value) (l1 : Value) (l2 : Value) (l3 : Value) (l4 : Value) (l5 : Value) (x y : Int32) (σ : Hs) : ru d 38 2 [l0, l1, l2, l3, l4, l5] [.int y, .int x] σ = if x < y then ru d 38 11 [l0, l1, l2, l3, l4, l5] [] σ else ru d 38 5 [l0, l1, l2, l3, l4, l5] [] σ := q_ic_lt t38_2 (by decide +kernel)
theorem t38_5 : decode (mb 38) 5 = .ok (.aload_n 0, 1) := by decide +kernel
theorem s38_5 (d : Nat) (a0 : Nat) (l1 : Value) (l2 : Value) (l3 : Value) (l4 : Value) (l5 : Value) (σ : Hs) : ru d 38 5 [.ref a0, l1, l2, l3, l4, l5] [] σ = ru d 38 6 [.ref a0, l1, l2, l3, l4, l5] [.ref a0] σ := q_aload_n t38_5 rfl
theorem t38_6 : decode (mb 38) 6 = .ok (.iload_n 2, 1) := by decide +kernel
theorem s38_6 (d : Nat) (l0 : Value) (l1 : Value) (i2 : Int32) (l3 : Value) (l4 : Value) (l5 : Value) (w0 : Value) (σ : Hs) : ru d 38 6 [l0, l1, .int i2, l3, l4, l5] [w0] σ = ru d 38 7 [l0, l1, .int i2, l3, l4, l5] [.int i2, w0] σ := q_iload_n t38_6 rfl
theorem t38_7 : decode (mb 38) 7 = .ok (.invokevirtual 72, 3) := by decide +kernel
theorem s38_7_o70 (d : Nat) (l0 : Value) (l1 : Value) (l2 : Value) (l3 : Value) (l4 : Value) (l5 : Value) (v1 : Value) (σ : Hs) : ru d 38 7 [l0, l1, l2, l3, l4, l5] [v1, .ref 70] σ = kont (callD d 39 [.ref 70, v1] σ) d 38 10 [l0, l1, l2, l3, l4, l5] [] := q_invv t38_7 mo38 K2_72 mj39 rfl rfl rfl rfl (Nat.le_of_ble_eq_true rfl)
theorem t38_10 : decode (mb 38) 10 = .ok (.return_, 1) := by decide +kernel
theorem s38_10 (d : Nat) (l0 : Value) (l1 : Value) (l2 : Value) (l3 : Value) (l4 : Value) (l5 : Value) (σ : Hs) : ru d 38 10 [l0, l1, l2, l3, l4, l5] [] σ = some (none, σ) := q_vret t38_10 mr38
theorem t38_11 : decode (mb 38) 11 = .ok (.aload_n 0, 1) := by decide +kernel
theorem s38_11 (d : Nat) (a0 : Nat) (l1 : Value) (l2 : Value) (l3 : Value) (l4 : Value) (l5 : Value) (σ : Hs) : ru d 38 11 [.ref a0, l1, l2, l3, l4, l5] [] σ = ru d 38 12 [.ref a0, l1, l2, l3, l4, l5] [.ref a0] σ := q_aload_n t38_11 rfl
theorem t38_12 : decode (mb 38) 12 = .ok (.iload_n 1, 1) := by decide +kernel
theorem s38_12 (d : Nat) (l0 : Value) (i1 : Int32) (l2 : Value) (l3 : Value) (l4 : Value) (l5 : Value) (w0 : Value) (σ : Hs) : ru d 38 12 [l0, .int i1, l2, l3, l4, l5] [w0] σ = ru d 38 13 [l0, .int i1, l2, l3, l4, l5] [.int i1, w0] σ := q_iload_n t38_12 rfl
theorem t38_13 : decode (mb 38) 13 = .ok (.iconst 1, 1) := by decide +kernel
theorem s38_13 (d : Nat) (l0 : Value) (l1 : Value) (l2 : Value) (l3 : Value) (l4 : Value) (l5 : Value) (w0 w1 : Value) (σ : Hs) : ru d 38 13 [l0, l1, l2, l3, l4, l5] [w0, w1] σ = ru d 38 14 [l0, l1, l2, l3, l4, l5] [.int 1, w0, w1] σ := q_iconst t38_13 (by decide +kernel)
theorem t38_14 : decode (mb 38) 14 = .ok (.iadd, 1) := by decide +kernel
theorem s38_14 (d : Nat) (l0 : Value) (l1 : Value) (l2 : Value) (l3 : Value) (l4 : Value) (l5 : Value) (x y : Int32) (w0 : Value) (σ : Hs) : ru d 38 14 [l0, l1, l2, l3, l4, l5] [.int y, .int x, w0] σ = ru d 38 15 [l0, l1, l2, l3, l4, l5] [.int (x + y), w0] σ := q_iadd t38_14
theorem t38_15 : decode (mb 38) 15 = .ok (.iload_n 2, 1) := by decide +kernel
theorem s38_15 (d : Nat) (l0 : Value) (l1 : Value) (i2 : Int32) (l3 : Value) (l4 : Value) (l5 : Value) (w0 w1 : Value) (σ : Hs) : ru d 38 15 [l0, l1, .int i2, l3, l4, l5] [w0, w1] σ = ru d 38 16 [l0, l1, .int i2, l3, l4, l5] [.int i2, w0, w1] σ := q_iload_n t38_15 rfl
theorem t38_16 : decode (mb 38) 16 = .ok (.invokevirtual 44, 3) := by decide +kernel
theorem s38_16_o70 (d : Nat) (l0 : Value) (l1 : Value) (l2 : Value) (l3 : Value) (l4 : Value) (l5 : Value) (v1 v2 : Value) (σ : Hs) : ru d 38 16 [l0, l1, l2, l3, l4, l5] [v2, v1, .ref 70] σ = kont (callD d 38 [.ref 70, v1, v2] σ) d 38 19 [l0, l1, l2, l3, l4, l5] [] := q_invv t38_16 mo38 K2_44 mj38 rfl rfl rfl rfl (Nat.le_of_ble_eq_true rfl)
theorem t38_19 : decode (mb 38) 19 = .ok (.iload_n 1, 1) := by decide +kernel
theorem s38_19 (d : Nat) (l0 : Value) (i1 : Int32) (l2 : Value) (l3 : Value) (l4 : Value) (l5 : Value) (σ : Hs) : ru d 38 19 [l0, .int i1, l2, l3, l4, l5] [] σ = ru d 38 20 [l0, .int i1, l2, l3, l4, l5] [.int i1] σ := q_iload_n t38_19 rfl
theorem t38_20 : decode (mb 38) 20 = .ok (.iconst 2, 1) := by decide +kernel
theorem s38_20 (d : Nat) (l0 : Value) (l1 : Value) (l2 : Value) (l3 : Value) (l4 : Value) (l5 : Value) (w0 : Value) (σ : Hs) : ru d 38 20 [l0, l1, l2, l3, l4, l5] [w0] σ = ru d 38 21 [l0, l1, l2, l3, l4, l5] [.int 2, w0] σ := q_iconst t38_20 (by decide +kernel)
theorem t38_21 : decode (mb 38) 21 = .ok (.if_icmp .ne 7, 3) := by decide +kernel
theorem s38_21 (d : Nat) (l0 : Value) (l1 : Value) (l2 : Value) (l3 : Value) (l4 : Value) (l5 : Value) (x y : Int32) (σ : Hs) : ru d 38 21 [l0, l1, l2, l3, l4, l5] [.int y, .int x] σ = if x = y then ru d 38 24 [l0, l1, l2, l3, l4, l5] [] σ else ru d 38 28 [l0, l1, l2, l3, l4, l5] [] σ := q_ic_ne t38_21 (by decide +kernel)
theorem t38_24 : decode (mb 38) 24 = .ok (.iconst 1, 1) := by decide +kernel
theorem s38_24 (d : Nat) (l0 : Value) (l1 : Value) (l2 : Value) (l3 : Value) (l4 : Value) (l5 : Value) (σ : Hs) : ru d 38 24 [l0, l1, l2, l3, l4, l5] [] σ = ru d 38 25 [l0, l1, l2, l3, l4, l5] [.int 1] σ := q_iconst t38_24 (by decide +kernel)
theorem t38_25 : decode (mb 38) 25 = .ok (.goto 5, 3) := by decide +kernel
theorem s38_25 (d : Nat) (l0 : Value) (l1 : Value) (l2 : Value) (l3 : Value) (l4 : Value) (l5 : Value) (w0 : Value) (σ : Hs) : ru d 38 25 [l0, l1, l2, l3, l4, l5] [w0] σ = ru d 38 30 [l0, l1, l2, l3, l4, l5] [w0] σ := q_goto t38_25 (by decide +kernel)
theorem t38_28 : decode (mb 38) 28 = .ok (.bipush 60, 2) := by decide +kernel
theorem s38_28 (d : Nat) (l0 : Value) (l1 : Value) (l2 : Value) (l3 : Value) (l4 : Value) (l5 : Value) (σ : Hs) : ru d 38 28 [l0, l1, l2, l3, l4, l5] [] σ = ru d 38 30 [l0, l1, l2, l3, l4, l5] [.int 60] σ := q_bipush t38_28 (by decide +kernel)
theorem t38_30 : decode (mb 38) 30 = .ok (.istore_n 3, 1) := by decide +kernel
theorem s38_30 (d : Nat) (l0 : Value) (l1 : Value) (i2 : Int32) (l3 : Value) (l4 : Value) (l5 : Value) (x : Int32) (σ : Hs) : ru d 38 30 [l0, l1, .int i2, l3, l4, l5] [.int x] σ = ru d 38 31 [l0, l1, .int i2, .int x, l4, l5] [] σ := q_istore_n t38_30 ⟨Nat.le_of_ble_eq_true rfl, rfl⟩ rfl
theorem t38_31 : decode (mb 38) 31 = .ok (.iconst 0, 1) := by decide +kernel
theorem s38_31 (d : Nat) (l0 : Value) (l1 : Value) (l2 : Value) (l3 : Value) (l4 : Value) (l5 : Value) (σ : Hs) : ru d 38 31 [l0, l1, l2, l3, l4, l5] [] σ = ru d 38 32 [l0, l1, l2, l3, l4, l5] [.int 0] σ := q_iconst t38_31 (by decide +kernel)
theorem t38_32 : decode (mb 38) 32 = .ok (.istore 4, 2) := by decide +kernel
theorem s38_32 (d : Nat) (l0 : Value) (l1 : Value) (l2 : Value) (i3 : Int32) (l4 : Value) (l5 : Value) (x : Int32) (σ : Hs) : ru d 38 32 [l0, l1, l2, .int i3, l4, l5] [.int x] σ = ru d 38 34 [l0, l1, l2, .int i3, .int x, l5] [] σ := q_istore t38_32 ⟨Nat.le_of_ble_eq_true rfl, rfl⟩ rfl
theorem t38_34 : decode (mb 38) 34 = .ok (.iload 4, 2) := by decide +kernel
theorem s38_34 (d : Nat) (l0 : Value) (l1 : Value) (l2 : Value) (l3 : Value) (i4 : Int32) (l5 : Value) (σ : Hs) : ru d 38 34 [l0, l1, l2, l3, .int i4, l5] [] σ = ru d 38 36 [l0, l1, l2, l3, .int i4, l5] [.int i4] σ := q_iload t38_34 rfl
theorem t38_36 : decode (mb 38) 36 = .ok (.iload_n 3, 1) := by decide +kernel
theorem s38_36 (d : Nat) (l0 : Value) (l1 : Value) (l2 : Value) (i3 : Int32) (l4 : Value) (l5 : Value) (w0 : Value) (σ : Hs) : ru d 38 36 [l0, l1, l2, .int i3, l4, l5] [w0] σ = ru d 38 37 [l0, l1, l2, .int i3, l4, l5] [.int i3, w0] σ := q_iload_n t38_36 rfl
theorem t38_37 : decode (mb 38) 37 = .ok (.if_icmp .ge 68, 3) := by decide +kernel
theorem s38_37 (d : Nat) (l0 : Value) (l1 : Value) (l2 : Value) (l3 : Value) (l4 : Value) (l5 : Value) (x y : Int32) (σ : Hs) : ru d 38 37 [l0, l1, l2, l3, l4, l5] [.int y, .int x] σ = if y ≤ x then ru d 38 105 [l0, l1, l2, l3, l4, l5] [] σ else ru d 38 40 [l0, l1, l2, l3, l4, l5] [] σ := q_ic_ge t38_37 (by decide +kernel)
theorem t38_40 : decode (mb 38) 40 = .ok (.aload_n 0, 1) := by decide +kernel
theorem s38_40 (d : Nat) (a0 : Nat) (l1 : Value) (l2 : Value) (l3 : Value) (l4 : Value) (l5 : Value) (σ : Hs) : ru d 38 40 [.ref a0, l1, l2, l3, l4, l5] [] σ = ru d 38 41 [.ref a0, l1, l2, l3, l4, l5] [.ref a0] σ := q_aload_n t38_40 rfl
theorem t38_41 : decode (mb 38) 41 = .ok (.getfield 33, 3) := by decide +kernel
theorem s38_41_o70 (d : Nat) (l0 : Value) (l1 : Value) (l2 : Value) (l3 : Value) (l4 : Value) (l5 : Value) (σ : Hs) : ru d 38 41 [l0, l1, l2, l3, l4, l5] [.ref 70] σ = ru d 38 44 [l0, l1, l2, l3, l4, l5] [.int (σ 70 4)] σ := q_getf t38_41 mo38 F2_33 rfl rfl
theorem t38_44 : decode (mb 38) 44 = .ok (.ifCond .ne 61, 3) := by decide +kernel
theorem s38_44 (d : Nat) (l0 : Value) (l1 : Value) (l2 : Value) (l3 : Value) (l4 : Value) (l5 : Value) (x : Int32) (σ : Hs) : ru d 38 44 [l0, l1, l2, l3, l4, l5] [.int x] σ = if x = 0 then ru d 38 47 [l0, l1, l2, l3, l4, l5] [] σ else ru d 38 105 [l0, l1, l2, l3, l4, l5] [] σ := q_if_ne t38_44 (by decide +kernel)
theorem t38_47 : decode (mb 38) 47 = .ok (.iload_n 1, 1) := by decide +kernel
theorem s38_47 (d : Nat) (l0 : Value) (i1 : Int32) (l2 : Value) (l3 : Value) (l4 : Value) (l5 : Value) (σ : Hs) : ru d 38 47 [l0, .int i1, l2, l3, l4, l5] [] σ = ru d 38 48 [l0, .int i1, l2, l3, l4, l5] [.int i1] σ := q_iload_n t38_47 rfl
theorem t38_48 : decode (mb 38) 48 = .ok (.invokestatic 75, 3) := by decide +kernel
theorem s38_48 (d : Nat) (l0 : Value) (l1 : Value) (l2 : Value) (l3 : Value) (l4 : Value) (l5 : Value) (v0 : Value) (σ : Hs) : ru d 38 48 [l0, l1, l2, l3, l4, l5] [v0] σ = kont (callD d 36 [v0] σ) d 38 51 [l0, l1, l2, l3, l4, l5] [] := q_invs t38_48 mo38 (by decide +kernel) K2_75 mj36 (Nat.le_of_ble_eq_true rfl) rfl rfl (Nat.le_of_ble_eq_true rfl)
theorem t38_51 : decode (mb 38) 51 = .ok (.aload_n 0, 1) := by decide +kernel
theorem s38_51 (d : Nat) (a0 : Nat) (l1 : Value) (l2 : Value) (l3 : Value) (l4 : Value) (l5 : Value) (w0 : Value) (σ : Hs) : ru d 38 51 [.ref a0, l1, l2, l3, l4, l5] [w0] σ = ru d 38 52 [.ref a0, l1, l2, l3, l4, l5] [.ref a0, w0] σ := q_aload_n t38_51 rfl
theorem t38_52 : decode (mb 38) 52 = .ok (.invokevirtual 78, 3) := by decide +kernel
theorem s38_52_o70 (d : Nat) (l0 : Value) (l1 : Value) (l2 : Value) (l3 : Value) (l4 : Value) (l5 : Value) (w0 : Nat) (σ : Hs) : ru d 38 52 [l0, l1, l2, l3, l4, l5] [.ref 70, .ref w0] σ = kont (callD d 37 [.ref 70] σ) d 38 55 [l0, l1, l2, l3, l4, l5] [.ref w0] := q_invv t38_52 mo38 K2_78 mj37 rfl rfl rfl rfl (Nat.le_of_ble_eq_true rfl)
theorem t38_55 : decode (mb 38) 55 = .ok (.invokevirtual 82, 3) := by decide +kernel
theorem s38_55_o114 (d : Nat) (l0 : Value) (l1 : Value) (l2 : Value) (l3 : Value) (l4 : Value) (l5 : Value) (v1 : Value) (σ : Hs) : ru d 38 55 [l0, l1, l2, l3, l4, l5] [v1, .ref 114] σ = kont (callD d 221 [.ref 114, v1] σ) d 38 58 [l0, l1, l2, l3, l4, l5] [] := q_invv t38_55 mo38 K2_82 mj221 rfl rfl rfl rfl (Nat.le_of_ble_eq_true rfl)
theorem s38_55_o115 (d : Nat) (l0 : Value) (l1 : Value) (l2 : Value) (l3 : Value) (l4 : Value) (l5 : Value) (v1 : Value) (σ : Hs) : ru d 38 55 [l0, l1, l2, l3, l4, l5] [v1, .ref 115] σ = kont (callD d 221 [.ref 115, v1] σ) d 38 58 [l0, l1, l2, l3, l4, l5] [] := q_invv t38_55 mo38 K2_82 mj221 rfl rfl rfl rfl (Nat.le_of_ble_eq_true rfl)
theorem s38_55_o116 (d : Nat) (l0 : Value) (l1 : Value) (l2 : Value) (l3 : Value) (l4 : Value) (l5 : Value) (v1 : Value) (σ : Hs) : ru d 38 55 [l0, l1, l2, l3, l4, l5] [v1, .ref 116] σ = kont (callD d 221 [.ref 116, v1] σ) d 38 58 [l0, l1, l2, l3, l4, l5] [] := q_invv t38_55 mo38 K2_82 mj221 rfl rfl rfl rfl (Nat.le_of_ble_eq_true rfl)
theorem s38_55_o117 (d : Nat) (l0 : Value) (l1 : Value) (l2 : Value) (l3 : Value) (l4 : Value) (l5 : Value) (v1 : Value) (σ : Hs) : ru d 38 55 [l0, l1, l2, l3, l4, l5] [v1, .ref 117] σ = kont (callD d 221 [.ref 117, v1] σ) d 38 58 [l0, l1, l2, l3, l4, l5] [] := q_invv t38_55 mo38 K2_82 mj221 rfl rfl rfl rfl (Nat.le_of_ble_eq_true rfl)
theorem s38_55_o118 (d : Nat) (l0 : Value) (l1 : Value) (l2 : Value) (l3 : Value) (l4 : Value) (l5 : Value) (v1 : Value) (σ : Hs) : ru d 38 55 [l0, l1, l2, l3, l4, l5] [v1, .ref 118] σ = kont (callD d 221 [.ref 118, v1] σ) d 38 58 [l0, l1, l2, l3, l4, l5] [] := q_invv t38_55 mo38 K2_82 mj221 rfl rfl rfl rfl (Nat.le_of_ble_eq_true rfl)
theorem t38_58 : decode (mb 38) 58 = .ok (.ifCond .lt 47, 3) := by decide +kernel
theorem s38_58 (d : Nat) (l0 : Value) (l1 : Value) (l2 : Value) (l3 : Value) (l4 : Value) (l5 : Value) (x : Int32) (σ : Hs) : ru d 38 58 [l0, l1, l2, l3, l4, l5] [.int x] σ = if x < 0 then ru d 38 105 [l0, l1, l2, l3, l4, l5] [] σ else ru d 38 61 [l0, l1, l2, l3, l4, l5] [] σ := q_if_lt t38_58 (by decide +kernel)
theorem t38_61 : decode (mb 38) 61 = .ok (.aload_n 0, 1) := by decide +kernel
theorem s38_61 (d : Nat) (a0 : Nat) (l1 : Value) (l2 : Value) (l3 : Value) (l4 : Value) (l5 : Value) (σ : Hs) : ru d 38 61 [.ref a0, l1, l2, l3, l4, l5] [] σ = ru d 38 62 [.ref a0, l1, l2, l3, l4, l5] [.ref a0] σ := q_aload_n t38_61 rfl
theorem t38_62 : decode (mb 38) 62 = .ok (.invokevirtual 78, 3) := by decide +kernel
theorem s38_62_o70 (d : Nat) (l0 : Value) (l1 : Value) (l2 : Value) (l3 : Value) (l4 : Value) (l5 : Value) (σ : Hs) : ru d 38 62 [l0, l1, l2, l3, l4, l5] [.ref 70] σ = kont (callD d 37 [.ref 70] σ) d 38 65 [l0, l1, l2, l3, l4, l5] [] := q_invv t38_62 mo38 K2_78 mj37 rfl rfl rfl rfl (Nat.le_of_ble_eq_true rfl)
theorem t38_65 : decode (mb 38) 65 = .ok (.istore 5, 2) := by decide +kernel
theorem s38_65 (d : Nat) (l0 : Value) (l1 : Value) (l2 : Value) (l3 : Value) (i4 : Int32) (l5 : Value) (x : Int32) (σ : Hs) : ru d 38 65 [l0, l1, l2, l3, .int i4, l5] [.int x] σ = ru d 38 67 [l0, l1, l2, l3, .int i4, .int x] [] σ := q_istore t38_65 ⟨Nat.le_of_ble_eq_true rfl, rfl⟩ rfl
theorem t38_67 : decode (mb 38) 67 = .ok (.aload_n 0, 1) := by decide +kernel
theorem s38_67 (d : Nat) (a0 : Nat) (l1 : Value) (l2 : Value) (l3 : Value) (l4 : Value) (l5 : Value) (σ : Hs) : ru d 38 67 [.ref a0, l1, l2, l3, l4, l5] [] σ = ru d 38 68 [.ref a0, l1, l2, l3, l4, l5] [.ref a0] σ := q_aload_n t38_67 rfl
theorem t38_68 : decode (mb 38) 68 = .ok (.dup, 1) := by decide +kernel
theorem s38_68 (d : Nat) (l0 : Value) (l1 : Value) (l2 : Value) (l3 : Value) (l4 : Value) (l5 : Value) (x : Nat) (σ : Hs) : ru d 38 68 [l0, l1, l2, l3, l4, l5] [.ref x] σ = ru d 38 69 [l0, l1, l2, l3, l4, l5] [.ref x, .ref x] σ := q_dup t38_68 rfl
theorem t38_69 : decode (mb 38) 69 = .ok (.getfield 29, 3) := by decide +kernel
theorem s38_69_o70 (d : Nat) (l0 : Value) (l1 : Value) (l2 : Value) (l3 : Value) (l4 : Value) (l5 : Value) (w0 : Value) (σ : Hs) : ru d 38 69 [l0, l1, l2, l3, l4, l5] [.ref 70, w0] σ = ru d 38 72 [l0, l1, l2, l3, l4, l5] [.int (σ 70 3), w0] σ := q_getf t38_69 mo38 F2_29 rfl rfl
theorem t38_72 : decode (mb 38) 72 = .ok (.iconst 1, 1) := by decide +kernel
theorem s38_72 (d : Nat) (l0 : Value) (l1 : Value) (l2 : Value) (l3 : Value) (l4 : Value) (l5 : Value) (w0 w1 : Value) (σ : Hs) : ru d 38 72 [l0, l1, l2, l3, l4, l5] [w0, w1] σ = ru d 38 73 [l0, l1, l2, l3, l4, l5] [.int 1, w0, w1] σ := q_iconst t38_72 (by decide +kernel)
theorem t38_73 : decode (mb 38) 73 = .ok (.iadd, 1) := by decide +kernel
theorem s38_73 (d : Nat) (l0 : Value) (l1 : Value) (l2 : Value) (l3 : Value) (l4 : Value) (l5 : Value) (x y : Int32) (w0 : Value) (σ : Hs) : ru d 38 73 [l0, l1, l2, l3, l4, l5] [.int y, .int x, w0] σ = ru d 38 74 [l0, l1, l2, l3, l4, l5] [.int (x + y), w0] σ := q_iadd t38_73
theorem t38_74 : decode (mb 38) 74 = .ok (.putfield 29, 3) := by decide +kernel
theorem s38_74_o70 (d : Nat) (l0 : Value) (l1 : Value) (l2 : Value) (l3 : Value) (l4 : Value) (l5 : Value) (x : Int32) (σ : Hs) : ru d 38 74 [l0, l1, l2, l3, l4, l5] [.int x, .ref 70] σ = ru d 38 77 [l0, l1, l2, l3, l4, l5] [] (up2 σ 70 3 x) := q_puti t38_74 mo38 F2_29 (by decide +kernel) rfl rfl
theorem t38_77 : decode (mb 38) 77 = .ok (.aload_n 0, 1) := by decide +kernel
theorem s38_77 (d : Nat) (a0 : Nat) (l1 : Value) (l2 : Value) (l3 : Value) (l4 : Value) (l5 : Value) (σ : Hs) : ru d 38 77 [.ref a0, l1, l2, l3, l4, l5] [] σ = ru d 38 78 [.ref a0, l1, l2, l3, l4, l5] [.ref a0] σ := q_aload_n t38_77 rfl
theorem t38_78 : decode (mb 38) 78 = .ok (.iload_n 1, 1) := by decide +kernel
theorem s38_78 (d : Nat) (l0 : Value) (i1 : Int32) (l2 : Value) (l3 : Value) (l4 : Value) (l5 : Value) (w0 : Value) (σ : Hs) : ru d 38 78 [l0, .int i1, l2, l3, l4, l5] [w0] σ = ru d 38 79 [l0, .int i1, l2, l3, l4, l5] [.int i1, w0] σ := q_iload_n t38_78 rfl
theorem t38_79 : decode (mb 38) 79 = .ok (.iconst 1, 1) := by decide +kernel
theorem s38_79 (d : Nat) (l0 : Value) (l1 : Value) (l2 : Value) (l3 : Value) (l4 : Value) (l5 : Value) (w0 w1 : Value) (σ : Hs) : ru d 38 79 [l0, l1, l2, l3, l4, l5] [w0, w1] σ = ru d 38 80 [l0, l1, l2, l3, l4, l5] [.int 1, w0, w1] σ := q_iconst t38_79 (by decide +kernel)
theorem t38_80 : decode (mb 38) 80 = .ok (.iadd, 1) := by decide +kernel
theorem s38_80 (d : Nat) (l0 : Value) (l1 : Value) (l2 : Value) (l3 : Value) (l4 : Value) (l5 : Value) (x y : Int32) (w0 : Value) (σ : Hs) : ru d 38 80 [l0, l1, l2, l3, l4, l5] [.int y, .int x, w0] σ = ru d 38 81 [l0, l1, l2, l3, l4, l5] [.int (x + y), w0] σ := q_iadd t38_80
theorem t38_81 : decode (mb 38) 81 = .ok (.iload_n 2, 1) := by decide +kernel
theorem s38_81 (d : Nat) (l0 : Value) (l1 : Value) (i2 : Int32) (l3 : Value) (l4 : Value) (l5 : Value) (w0 w1 : Value) (σ : Hs) : ru d 38 81 [l0, l1, .int i2, l3, l4, l5] [w0, w1] σ = ru d 38 82 [l0, l1, .int i2, l3, l4, l5] [.int i2, w0, w1] σ := q_iload_n t38_81 rfl
theorem t38_82 : decode (mb 38) 82 = .ok (.invokevirtual 44, 3) := by decide +kernel
theorem s38_82_o70 (d : Nat) (l0 : Value) (l1 : Value) (l2 : Value) (l3 : Value) (l4 : Value) (l5 : Value) (v1 v2 : Value) (σ : Hs) : ru d 38 82 [l0, l1, l2, l3, l4, l5] [v2, v1, .ref 70] σ = kont (callD d 38 [.ref 70, v1, v2] σ) d 38 85 [l0, l1, l2, l3, l4, l5] [] := q_invv t38_82 mo38 K2_44 mj38 rfl rfl rfl rfl (Nat.le_of_ble_eq_true rfl)
theorem t38_85 : decode (mb 38) 85 = .ok (.aload_n 0, 1) := by decide +kernel
theorem s38_85 (d : Nat) (a0 : Nat) (l1 : Value) (l2 : Value) (l3 : Value) (l4 : Value) (l5 : Value) (σ : Hs) : ru d 38 85 [.ref a0, l1, l2, l3, l4, l5] [] σ = ru d 38 86 [.ref a0, l1, l2, l3, l4, l5] [.ref a0] σ := q_aload_n t38_85 rfl
theorem t38_86 : decode (mb 38) 86 = .ok (.getfield 14, 3) := by decide +kernel
theorem s38_86_o70 (d : Nat) (l0 : Value) (l1 : Value) (l2 : Value) (l3 : Value) (l4 : Value) (l5 : Value) (σ : Hs) : ru d 38 86 [l0, l1, l2, l3, l4, l5] [.ref 70] σ = ru d 38 89 [l0, l1, l2, l3, l4, l5] [.ref 71] σ := q_getf t38_86 mo38 F2_14 rfl rfl
theorem t38_89 : decode (mb 38) 89 = .ok (.sipush 20000, 3) := by decide +kernel
theorem s38_89 (d : Nat) (l0 : Value) (l1 : Value) (l2 : Value) (l3 : Value) (l4 : Value) (l5 : Value) (w0 : Value) (σ : Hs) : ru d 38 89 [l0, l1, l2, l3, l4, l5] [w0] σ = ru d 38 92 [l0, l1, l2, l3, l4, l5] [.int 20000, w0] σ := q_sipush t38_89 (by decide +kernel)
theorem t38_92 : decode (mb 38) 92 = .ok (.iload 5, 2) := by decide +kernel
theorem s38_92 (d : Nat) (l0 : Value) (l1 : Value) (l2 : Value) (l3 : Value) (l4 : Value) (i5 : Int32) (w0 w1 : Value) (σ : Hs) : ru d 38 92 [l0, l1, l2, l3, l4, .int i5] [w0, w1] σ = ru d 38 94 [l0, l1, l2, l3, l4, .int i5] [.int i5, w0, w1] σ := q_iload t38_92 rfl
theorem t38_94 : decode (mb 38) 94 = .ok (.iadd, 1) := by decide +kernel
theorem s38_94 (d : Nat) (l0 : Value) (l1 : Value) (l2 : Value) (l3 : Value) (l4 : Value) (l5 : Value) (x y : Int32) (w0 : Value) (σ : Hs) : ru d 38 94 [l0, l1, l2, l3, l4, l5] [.int y, .int x, w0] σ = ru d 38 95 [l0, l1, l2, l3, l4, l5] [.int (x + y), w0] σ := q_iadd t38_94
theorem t38_95 : decode (mb 38) 95 = .ok (.invokevirtual 88, 3) := by decide +kernel
theorem s38_95_o71 (d : Nat) (l0 : Value) (l1 : Value) (l2 : Value) (l3 : Value) (l4 : Value) (l5 : Value) (v1 : Value) (σ : Hs) : ru d 38 95 [l0, l1, l2, l3, l4, l5] [v1, .ref 71] σ = kont (callD d 44 [.ref 71, v1] σ) d 38 98 [l0, l1, l2, l3, l4, l5] [] := q_invv t38_95 mo38 K2_88 mj44 rfl rfl rfl rfl (Nat.le_of_ble_eq_true rfl)
theorem t38_98 : decode (mb 38) 98 = .ok (.pop, 1) := by decide +kernel
theorem s38_98 (d : Nat) (l0 : Value) (l1 : Value) (l2 : Value) (l3 : Value) (l4 : Value) (l5 : Value) (x : Int32) (σ : Hs) : ru d 38 98 [l0, l1, l2, l3, l4, l5] [.int x] σ = ru d 38 99 [l0, l1, l2, l3, l4, l5] [] σ := q_pop t38_98 rfl
theorem t38_99 : decode (mb 38) 99 = .ok (.iinc 4 1, 3) := by decide +kernel
theorem s38_99 (d : Nat) (l0 : Value) (l1 : Value) (l2 : Value) (i3 : Int32) (i4 : Int32) (l5 : Value) (σ : Hs) : ru d 38 99 [l0, l1, l2, .int i3, .int i4, l5] [] σ = ru d 38 102 [l0, l1, l2, .int i3, .int (i4 + 1), l5] [] σ := q_iinc t38_99 ⟨Nat.le_of_ble_eq_true rfl, rfl⟩ rfl (by decide +kernel) rfl
theorem t38_102 : decode (mb 38) 102 = .ok (.goto (-68), 3) := by decide +kernel
theorem s38_102 (d : Nat) (l0 : Value) (l1 : Value) (l2 : Value) (l3 : Value) (l4 : Value) (l5 : Value) (σ : Hs) : ru d 38 102 [l0, l1, l2, l3, l4, l5] [] σ = ru d 38 34 [l0, l1, l2, l3, l4, l5] [] σ := q_goto t38_102 (by decide +kernel)
theorem t38_105 : decode (mb 38) 105 = .ok (.return_, 1) := by decide +kernel
theorem s38_105 (d : Nat) (l0 : Value) (l1 : Value) (l2 : Value) (l3 : Value) (l4 : Value) (l5 : Value) (σ : Hs) : ru d 38 105 [l0, l1, l2, l3, l4, l5] [] σ = some (none, σ) := q_vret t38_105 mr38
theorem c38 (d : Nat) (x0 : Nat) (x1 : Int32) (x2 : Int32) (σ : Hs) : callD (d + 1) 38 [.ref x0, .int x1, .int x2] σ = ru d 38 0 [.ref x0, .int x1, .int x2, uu, uu, uu] [] σ := callD_ru ml38 rfl rfl (Nat.le_of_ble_eq_true rfl)
-- 39: Reader.readUnit(I)V
theorem t39_0 : decode (mb 39) 0 = .ok (.aload_n 0, 1) := by decide +kernel
theorem s39_0 (d : Nat) (a0 : Nat) (l1 : Value) (l2 : Value) (l3 : Value) (σ : Hs) : ru d 39 0 [.ref a0, l1, l2, l3] [] σ = ru d 39 1 [.ref a0, l1, l2, l3] [.ref a0] σ := q_aload_n t39_0 rfl
theorem t39_1 : decode (mb 39) 1 = .ok (.invokevirtual 78, 3) := by decide +kernel
theorem s39_1_o70 (d : Nat) (l0 : Value) (l1 : Value) (l2 : Value) (l3 : Value) (σ : Hs) : ru d 39 1 [l0, l1, l2, l3] [.ref 70] σ = kont (callD d 37 [.ref 70] σ) d 39 4 [l0, l1, l2, l3] [] := q_invv t39_1 mo39 K2_78 mj37 rfl rfl rfl rfl (Nat.le_of_ble_eq_true rfl)
theorem t39_4 : decode (mb 39) 4 = .ok (.istore_n 2, 1) := by decide +kernel
theorem s39_4 (d : Nat) (l0 : Value) (i1 : Int32) (l2 : Value) (l3 : Value) (x : Int32) (σ : Hs) : ru d 39 4 [l0, .int i1, l2, l3] [.int x] σ = ru d 39 5 [l0, .int i1, .int x, l3] [] σ := q_istore_n t39_4 ⟨Nat.le_of_ble_eq_true rfl, rfl⟩ rfl
theorem t39_5 : decode (mb 39) 5 = .ok (.aload_n 0, 1) := by decide +kernel
theorem s39_5 (d : Nat) (a0 : Nat) (l1 : Value) (l2 : Value) (l3 : Value) (σ : Hs) : ru d 39 5 [.ref a0, l1, l2, l3] [] σ = ru d 39 6 [.ref a0, l1, l2, l3] [.ref a0] σ := q_aload_n t39_5 rfl
theorem t39_6 : decode (mb 39) 6 = .ok (.getfield 25, 3) := by decide +kernel
theorem s39_6_o70 (d : Nat) (l0 : Value) (l1 : Value) (l2 : Value) (l3 : Value) (σ : Hs) : ru d 39 6 [l0, l1, l2, l3] [.ref 70] σ = ru d 39 9 [l0, l1, l2, l3] [.ref (σ 70 2).toNatClampNeg] σ := q_getf t39_6 mo39 F2_25 rfl rfl
theorem t39_9 : decode (mb 39) 9 = .ok (.iload_n 2, 1) := by decide +kernel
theorem s39_9 (d : Nat) (l0 : Value) (l1 : Value) (i2 : Int32) (l3 : Value) (w0 : Value) (σ : Hs) : ru d 39 9 [l0, l1, .int i2, l3] [w0] σ = ru d 39 10 [l0, l1, .int i2, l3] [.int i2, w0] σ := q_iload_n t39_9 rfl
theorem t39_10 : decode (mb 39) 10 = .ok (.invokevirtual 82, 3) := by decide +kernel
theorem s39_10_o111 (d : Nat) (l0 : Value) (l1 : Value) (l2 : Value) (l3 : Value) (v1 : Value) (σ : Hs) : ru d 39 10 [l0, l1, l2, l3] [v1, .ref 111] σ = kont (callD d 221 [.ref 111, v1] σ) d 39 13 [l0, l1, l2, l3] [] := q_invv t39_10 mo39 K2_82 mj221 rfl rfl rfl rfl (Nat.le_of_ble_eq_true rfl)
theorem s39_10_o112 (d : Nat) (l0 : Value) (l1 : Value) (l2 : Value) (l3 : Value) (v1 : Value) (σ : Hs) : ru d 39 10 [l0, l1, l2, l3] [v1, .ref 112] σ = kont (callD d 221 [.ref 112, v1] σ) d 39 13 [l0, l1, l2, l3] [] := q_invv t39_10 mo39 K2_82 mj221 rfl rfl rfl rfl (Nat.le_of_ble_eq_true rfl)
theorem s39_10_o113 (d : Nat) (l0 : Value) (l1 : Value) (l2 : Value) (l3 : Value) (v1 : Value) (σ : Hs) : ru d 39 10 [l0, l1, l2, l3] [v1, .ref 113] σ = kont (callD d 221 [.ref 113, v1] σ) d 39 13 [l0, l1, l2, l3] [] := q_invv t39_10 mo39 K2_82 mj221 rfl rfl rfl rfl (Nat.le_of_ble_eq_true rfl)
theorem t39_13 : decode (mb 39) 13 = .ok (.istore_n 3, 1) := by decide +kernel
theorem s39_13 (d : Nat) (l0 : Value) (l1 : Value) (i2 : Int32) (l3 : Value) (x : Int32) (σ : Hs) : ru d 39 13 [l0, l1, .int i2, l3] [.int x] σ = ru d 39 14 [l0, l1, .int i2, .int x] [] σ := q_istore_n t39_13 ⟨Nat.le_of_ble_eq_true rfl, rfl⟩ rfl
theorem t39_14 : decode (mb 39) 14 = .ok (.iload_n 2, 1) := by decide +kernel
theorem s39_14 (d : Nat) (l0 : Value) (l1 : Value) (i2 : Int32) (l3 : Value) (σ : Hs) : ru d 39 14 [l0, l1, .int i2, l3] [] σ = ru d 39 15 [l0, l1, .int i2, l3] [.int i2] σ := q_iload_n t39_14 rfl
theorem t39_15 : decode (mb 39) 15 = .ok (.invokestatic 91, 3) := by decide +kernel
theorem s39_15 (d : Nat) (l0 : Value) (l1 : Value) (l2 : Value) (l3 : Value) (v0 : Value) (σ : Hs) : ru d 39 15 [l0, l1, l2, l3] [v0] σ = kont (callD d 42 [v0] σ) d 39 18 [l0, l1, l2, l3] [] := q_invs t39_15 mo39 (by decide +kernel) K2_91 mj42 (Nat.le_of_ble_eq_true rfl) rfl rfl (Nat.le_of_ble_eq_true rfl)
theorem t39_18 : decode (mb 39) 18 = .ok (.ifCond .eq 10, 3) := by decide +kernel
theorem s39_18 (d : Nat) (l0 : Value) (l1 : Value) (l2 : Value) (l3 : Value) (x : Int32) (σ : Hs) : ru d 39 18 [l0, l1, l2, l3] [.int x] σ = if x = 0 then ru d 39 28 [l0, l1, l2, l3] [] σ else ru d 39 21 [l0, l1, l2, l3] [] σ := q_if_eq t39_18 (by decide +kernel)
theorem t39_21 : decode (mb 39) 21 = .ok (.aload_n 0, 1) := by decide +kernel
theorem s39_21 (d : Nat) (a0 : Nat) (l1 : Value) (l2 : Value) (l3 : Value) (σ : Hs) : ru d 39 21 [.ref a0, l1, l2, l3] [] σ = ru d 39 22 [.ref a0, l1, l2, l3] [.ref a0] σ := q_aload_n t39_21 rfl
theorem t39_22 : decode (mb 39) 22 = .ok (.invokevirtual 95, 3) := by decide +kernel
theorem s39_22_o70 (d : Nat) (l0 : Value) (l1 : Value) (l2 : Value) (l3 : Value) (σ : Hs) : ru d 39 22 [l0, l1, l2, l3] [.ref 70] σ = kont (callD d 41 [.ref 70] σ) d 39 25 [l0, l1, l2, l3] [] := q_invv t39_22 mo39 K2_95 mj41 rfl rfl rfl rfl (Nat.le_of_ble_eq_true rfl)
theorem t39_25 : decode (mb 39) 25 = .ok (.goto 118, 3) := by decide +kernel
theorem s39_25 (d : Nat) (l0 : Value) (l1 : Value) (l2 : Value) (l3 : Value) (σ : Hs) : ru d 39 25 [l0, l1, l2, l3] [] σ = ru d 39 143 [l0, l1, l2, l3] [] σ := q_goto t39_25 (by decide +kernel)
theorem t39_28 : decode (mb 39) 28 = .ok (.iload_n 3, 1) := by decide +kernel
theorem s39_28 (d : Nat) (l0 : Value) (l1 : Value) (l2 : Value) (i3 : Int32) (σ : Hs) : ru d 39 28 [l0, l1, l2, .int i3] [] σ = ru d 39 29 [l0, l1, l2, .int i3] [.int i3] σ := q_iload_n t39_28 rfl
theorem t39_29 : decode (mb 39) 29 = .ok (.ifCond .lt 29, 3) := by decide +kernel
theorem s39_29 (d : Nat) (l0 : Value) (l1 : Value) (l2 : Value) (l3 : Value) (x : Int32) (σ : Hs) : ru d 39 29 [l0, l1, l2, l3] [.int x] σ = if x < 0 then ru d 39 58 [l0, l1, l2, l3] [] σ else ru d 39 32 [l0, l1, l2, l3] [] σ := q_if_lt t39_29 (by decide +kernel)
theorem t39_32 : decode (mb 39) 32 = .ok (.aload_n 0, 1) := by decide +kernel
theorem s39_32 (d : Nat) (a0 : Nat) (l1 : Value) (l2 : Value) (l3 : Value) (σ : Hs) : ru d 39 32 [.ref a0, l1, l2, l3] [] σ = ru d 39 33 [.ref a0, l1, l2, l3] [.ref a0] σ := q_aload_n t39_32 rfl
theorem t39_33 : decode (mb 39) 33 = .ok (.dup, 1) := by decide +kernel
theorem s39_33 (d : Nat) (l0 : Value) (l1 : Value) (l2 : Value) (l3 : Value) (x : Nat) (σ : Hs) : ru d 39 33 [l0, l1, l2, l3] [.ref x] σ = ru d 39 34 [l0, l1, l2, l3] [.ref x, .ref x] σ := q_dup t39_33 rfl
theorem t39_34 : decode (mb 39) 34 = .ok (.getfield 29, 3) := by decide +kernel
theorem s39_34_o70 (d : Nat) (l0 : Value) (l1 : Value) (l2 : Value) (l3 : Value) (w0 : Value) (σ : Hs) : ru d 39 34 [l0, l1, l2, l3] [.ref 70, w0] σ = ru d 39 37 [l0, l1, l2, l3] [.int (σ 70 3), w0] σ := q_getf t39_34 mo39 F2_29 rfl rfl
theorem t39_37 : decode (mb 39) 37 = .ok (.iconst 1, 1) := by decide +kernel
theorem s39_37 (d : Nat) (l0 : Value) (l1 : Value) (l2 : Value) (l3 : Value) (w0 w1 : Value) (σ : Hs) : ru d 39 37 [l0, l1, l2, l3] [w0, w1] σ = ru d 39 38 [l0, l1, l2, l3] [.int 1, w0, w1] σ := q_iconst t39_37 (by decide +kernel)
theorem t39_38 : decode (mb 39) 38 = .ok (.iadd, 1) := by decide +kernel
theorem s39_38 (d : Nat) (l0 : Value) (l1 : Value) (l2 : Value) (l3 : Value) (x y : Int32) (w0 : Value) (σ : Hs) : ru d 39 38 [l0, l1, l2, l3] [.int y, .int x, w0] σ = ru d 39 39 [l0, l1, l2, l3] [.int (x + y), w0] σ := q_iadd t39_38
theorem t39_39 : decode (mb 39) 39 = .ok (.putfield 29, 3) := by decide +kernel
theorem s39_39_o70 (d : Nat) (l0 : Value) (l1 : Value) (l2 : Value) (l3 : Value) (x : Int32) (σ : Hs) : ru d 39 39 [l0, l1, l2, l3] [.int x, .ref 70] σ = ru d 39 42 [l0, l1, l2, l3] [] (up2 σ 70 3 x) := q_puti t39_39 mo39 F2_29 (by decide +kernel) rfl rfl
theorem t39_42 : decode (mb 39) 42 = .ok (.aload_n 0, 1) := by decide +kernel
theorem s39_42 (d : Nat) (a0 : Nat) (l1 : Value) (l2 : Value) (l3 : Value) (σ : Hs) : ru d 39 42 [.ref a0, l1, l2, l3] [] σ = ru d 39 43 [.ref a0, l1, l2, l3] [.ref a0] σ := q_aload_n t39_42 rfl
theorem t39_43 : decode (mb 39) 43 = .ok (.getfield 14, 3) := by decide +kernel
theorem s39_43_o70 (d : Nat) (l0 : Value) (l1 : Value) (l2 : Value) (l3 : Value) (σ : Hs) : ru d 39 43 [l0, l1, l2, l3] [.ref 70] σ = ru d 39 46 [l0, l1, l2, l3] [.ref 71] σ := q_getf t39_43 mo39 F2_14 rfl rfl
theorem t39_46 : decode (mb 39) 46 = .ok (.sipush 10000, 3) := by decide +kernel
theorem s39_46 (d : Nat) (l0 : Value) (l1 : Value) (l2 : Value) (l3 : Value) (w0 : Value) (σ : Hs) : ru d 39 46 [l0, l1, l2, l3] [w0] σ = ru d 39 49 [l0, l1, l2, l3] [.int 10000, w0] σ := q_sipush t39_46 (by decide +kernel)
theorem t39_49 : decode (mb 39) 49 = .ok (.iload_n 3, 1) := by decide +kernel
theorem s39_49 (d : Nat) (l0 : Value) (l1 : Value) (l2 : Value) (i3 : Int32) (w0 w1 : Value) (σ : Hs) : ru d 39 49 [l0, l1, l2, .int i3] [w0, w1] σ = ru d 39 50 [l0, l1, l2, .int i3] [.int i3, w0, w1] σ := q_iload_n t39_49 rfl
theorem t39_50 : decode (mb 39) 50 = .ok (.iadd, 1) := by decide +kernel
theorem s39_50 (d : Nat) (l0 : Value) (l1 : Value) (l2 : Value) (l3 : Value) (x y : Int32) (w0 : Value) (σ : Hs) : ru d 39 50 [l0, l1, l2, l3] [.int y, .int x, w0] σ = ru d 39 51 [l0, l1, l2, l3] [.int (x + y), w0] σ := q_iadd t39_50
theorem t39_51 : decode (mb 39) 51 = .ok (.invokevirtual 88, 3) := by decide +kernel
theorem s39_51_o71 (d : Nat) (l0 : Value) (l1 : Value) (l2 : Value) (l3 : Value) (v1 : Value) (σ : Hs) : ru d 39 51 [l0, l1, l2, l3] [v1, .ref 71] σ = kont (callD d 44 [.ref 71, v1] σ) d 39 54 [l0, l1, l2, l3] [] := q_invv t39_51 mo39 K2_88 mj44 rfl rfl rfl rfl (Nat.le_of_ble_eq_true rfl)
theorem t39_54 : decode (mb 39) 54 = .ok (.pop, 1) := by decide +kernel
theorem s39_54 (d : Nat) (l0 : Value) (l1 : Value) (l2 : Value) (l3 : Value) (x : Int32) (σ : Hs) : ru d 39 54 [l0, l1, l2, l3] [.int x] σ = ru d 39 55 [l0, l1, l2, l3] [] σ := q_pop t39_54 rfl
theorem t39_55 : decode (mb 39) 55 = .ok (.goto 88, 3) := by decide +kernel
theorem s39_55 (d : Nat) (l0 : Value) (l1 : Value) (l2 : Value) (l3 : Value) (σ : Hs) : ru d 39 55 [l0, l1, l2, l3] [] σ = ru d 39 143 [l0, l1, l2, l3] [] σ := q_goto t39_55 (by decide +kernel)
theorem t39_58 : decode (mb 39) 58 = .ok (.iload_n 2, 1) := by decide +kernel
theorem s39_58 (d : Nat) (l0 : Value) (l1 : Value) (i2 : Int32) (l3 : Value) (σ : Hs) : ru d 39 58 [l0, l1, .int i2, l3] [] σ = ru d 39 59 [l0, l1, .int i2, l3] [.int i2] σ := q_iload_n t39_58 rfl
theorem t39_59 : decode (mb 39) 59 = .ok (.bipush 33, 2) := by decide +kernel
theorem s39_59 (d : Nat) (l0 : Value) (l1 : Value) (l2 : Value) (l3 : Value) (w0 : Value) (σ : Hs) : ru d 39 59 [l0, l1, l2, l3] [w0] σ = ru d 39 61 [l0, l1, l2, l3] [.int 33, w0] σ := q_bipush t39_59 (by decide +kernel)
theorem t39_61 : decode (mb 39) 61 = .ok (.if_icmp .ne 41, 3) := by decide +kernel
theorem s39_61 (d : Nat) (l0 : Value) (l1 : Value) (l2 : Value) (l3 : Value) (x y : Int32) (σ : Hs) : ru d 39 61 [l0, l1, l2, l3] [.int y, .int x] σ = if x = y then ru d 39 64 [l0, l1, l2, l3] [] σ else ru d 39 102 [l0, l1, l2, l3] [] σ := q_ic_ne t39_61 (by decide +kernel)
theorem t39_64 : decode (mb 39) 64 = .ok (.iload_n 1, 1) := by decide +kernel
theorem s39_64 (d : Nat) (l0 : Value) (i1 : Int32) (l2 : Value) (l3 : Value) (σ : Hs) : ru d 39 64 [l0, .int i1, l2, l3] [] σ = ru d 39 65 [l0, .int i1, l2, l3] [.int i1] σ := q_iload_n t39_64 rfl
theorem t39_65 : decode (mb 39) 65 = .ok (.iconst 5, 1) := by decide +kernel
theorem s39_65 (d : Nat) (l0 : Value) (l1 : Value) (l2 : Value) (l3 : Value) (w0 : Value) (σ : Hs) : ru d 39 65 [l0, l1, l2, l3] [w0] σ = ru d 39 66 [l0, l1, l2, l3] [.int 5, w0] σ := q_iconst t39_65 (by decide +kernel)
theorem t39_66 : decode (mb 39) 66 = .ok (.if_icmp .ge 36, 3) := by decide +kernel
theorem s39_66 (d : Nat) (l0 : Value) (l1 : Value) (l2 : Value) (l3 : Value) (x y : Int32) (σ : Hs) : ru d 39 66 [l0, l1, l2, l3] [.int y, .int x] σ = if y ≤ x then ru d 39 102 [l0, l1, l2, l3] [] σ else ru d 39 69 [l0, l1, l2, l3] [] σ := q_ic_ge t39_66 (by decide +kernel)
theorem t39_69 : decode (mb 39) 69 = .ok (.aload_n 0, 1) := by decide +kernel
theorem s39_69 (d : Nat) (a0 : Nat) (l1 : Value) (l2 : Value) (l3 : Value) (σ : Hs) : ru d 39 69 [.ref a0, l1, l2, l3] [] σ = ru d 39 70 [.ref a0, l1, l2, l3] [.ref a0] σ := q_aload_n t39_69 rfl
theorem t39_70 : decode (mb 39) 70 = .ok (.dup, 1) := by decide +kernel
theorem s39_70 (d : Nat) (l0 : Value) (l1 : Value) (l2 : Value) (l3 : Value) (x : Nat) (σ : Hs) : ru d 39 70 [l0, l1, l2, l3] [.ref x] σ = ru d 39 71 [l0, l1, l2, l3] [.ref x, .ref x] σ := q_dup t39_70 rfl
theorem t39_71 : decode (mb 39) 71 = .ok (.getfield 29, 3) := by decide +kernel
theorem s39_71_o70 (d : Nat) (l0 : Value) (l1 : Value) (l2 : Value) (l3 : Value) (w0 : Value) (σ : Hs) : ru d 39 71 [l0, l1, l2, l3] [.ref 70, w0] σ = ru d 39 74 [l0, l1, l2, l3] [.int (σ 70 3), w0] σ := q_getf t39_71 mo39 F2_29 rfl rfl
theorem t39_74 : decode (mb 39) 74 = .ok (.iconst 1, 1) := by decide +kernel
theorem s39_74 (d : Nat) (l0 : Value) (l1 : Value) (l2 : Value) (l3 : Value) (w0 w1 : Value) (σ : Hs) : ru d 39 74 [l0, l1, l2, l3] [w0, w1] σ = ru d 39 75 [l0, l1, l2, l3] [.int 1, w0, w1] σ := q_iconst t39_74 (by decide +kernel)
theorem t39_75 : decode (mb 39) 75 = .ok (.iadd, 1) := by decide +kernel
theorem s39_75 (d : Nat) (l0 : Value) (l1 : Value) (l2 : Value) (l3 : Value) (x y : Int32) (w0 : Value) (σ : Hs) : ru d 39 75 [l0, l1, l2, l3] [.int y, .int x, w0] σ = ru d 39 76 [l0, l1, l2, l3] [.int (x + y), w0] σ := q_iadd t39_75
theorem t39_76 : decode (mb 39) 76 = .ok (.putfield 29, 3) := by decide +kernel
theorem s39_76_o70 (d : Nat) (l0 : Value) (l1 : Value) (l2 : Value) (l3 : Value) (x : Int32) (σ : Hs) : ru d 39 76 [l0, l1, l2, l3] [.int x, .ref 70] σ = ru d 39 79 [l0, l1, l2, l3] [] (up2 σ 70 3 x) := q_puti t39_76 mo39 F2_29 (by decide +kernel) rfl rfl
theorem t39_79 : decode (mb 39) 79 = .ok (.aload_n 0, 1) := by decide +kernel
theorem s39_79 (d : Nat) (a0 : Nat) (l1 : Value) (l2 : Value) (l3 : Value) (σ : Hs) : ru d 39 79 [.ref a0, l1, l2, l3] [] σ = ru d 39 80 [.ref a0, l1, l2, l3] [.ref a0] σ := q_aload_n t39_79 rfl
theorem t39_80 : decode (mb 39) 80 = .ok (.iload_n 1, 1) := by decide +kernel
theorem s39_80 (d : Nat) (l0 : Value) (i1 : Int32) (l2 : Value) (l3 : Value) (w0 : Value) (σ : Hs) : ru d 39 80 [l0, .int i1, l2, l3] [w0] σ = ru d 39 81 [l0, .int i1, l2, l3] [.int i1, w0] σ := q_iload_n t39_80 rfl
theorem t39_81 : decode (mb 39) 81 = .ok (.iconst 1, 1) := by decide +kernel
theorem s39_81 (d : Nat) (l0 : Value) (l1 : Value) (l2 : Value) (l3 : Value) (w0 w1 : Value) (σ : Hs) : ru d 39 81 [l0, l1, l2, l3] [w0, w1] σ = ru d 39 82 [l0, l1, l2, l3] [.int 1, w0, w1] σ := q_iconst t39_81 (by decide +kernel)
theorem t39_82 : decode (mb 39) 82 = .ok (.iadd, 1) := by decide +kernel
theorem s39_82 (d : Nat) (l0 : Value) (l1 : Value) (l2 : Value) (l3 : Value) (x y : Int32) (w0 : Value) (σ : Hs) : ru d 39 82 [l0, l1, l2, l3] [.int y, .int x, w0] σ = ru d 39 83 [l0, l1, l2, l3] [.int (x + y), w0] σ := q_iadd t39_82
theorem t39_83 : decode (mb 39) 83 = .ok (.invokevirtual 72, 3) := by decide +kernel
theorem s39_83_o70 (d : Nat) (l0 : Value) (l1 : Value) (l2 : Value) (l3 : Value) (v1 : Value) (σ : Hs) : ru d 39 83 [l0, l1, l2, l3] [v1, .ref 70] σ = kont (callD d 39 [.ref 70, v1] σ) d 39 86 [l0, l1, l2, l3] [] := q_invv t39_83 mo39 K2_72 mj39 rfl rfl rfl rfl (Nat.le_of_ble_eq_true rfl)
theorem t39_86 : decode (mb 39) 86 = .ok (.aload_n 0, 1) := by decide +kernel
theorem s39_86 (d : Nat) (a0 : Nat) (l1 : Value) (l2 : Value) (l3 : Value) (σ : Hs) : ru d 39 86 [.ref a0, l1, l2, l3] [] σ = ru d 39 87 [.ref a0, l1, l2, l3] [.ref a0] σ := q_aload_n t39_86 rfl
theorem t39_87 : decode (mb 39) 87 = .ok (.getfield 14, 3) := by decide +kernel
theorem s39_87_o70 (d : Nat) (l0 : Value) (l1 : Value) (l2 : Value) (l3 : Value) (σ : Hs) : ru d 39 87 [l0, l1, l2, l3] [.ref 70] σ = ru d 39 90 [l0, l1, l2, l3] [.ref 71] σ := q_getf t39_87 mo39 F2_14 rfl rfl
theorem t39_90 : decode (mb 39) 90 = .ok (.sipush 20000, 3) := by decide +kernel
theorem s39_90 (d : Nat) (l0 : Value) (l1 : Value) (l2 : Value) (l3 : Value) (w0 : Value) (σ : Hs) : ru d 39 90 [l0, l1, l2, l3] [w0] σ = ru d 39 93 [l0, l1, l2, l3] [.int 20000, w0] σ := q_sipush t39_90 (by decide +kernel)
theorem t39_93 : decode (mb 39) 93 = .ok (.iload_n 2, 1) := by decide +kernel
theorem s39_93 (d : Nat) (l0 : Value) (l1 : Value) (i2 : Int32) (l3 : Value) (w0 w1 : Value) (σ : Hs) : ru d 39 93 [l0, l1, .int i2, l3] [w0, w1] σ = ru d 39 94 [l0, l1, .int i2, l3] [.int i2, w0, w1] σ := q_iload_n t39_93 rfl
theorem t39_94 : decode (mb 39) 94 = .ok (.iadd, 1) := by decide +kernel
theorem s39_94 (d : Nat) (l0 : Value) (l1 : Value) (l2 : Value) (l3 : Value) (x y : Int32) (w0 : Value) (σ : Hs) : ru d 39 94 [l0, l1, l2, l3] [.int y, .int x, w0] σ = ru d 39 95 [l0, l1, l2, l3] [.int (x + y), w0] σ := q_iadd t39_94
theorem t39_95 : decode (mb 39) 95 = .ok (.invokevirtual 88, 3) := by decide +kernel
theorem s39_95_o71 (d : Nat) (l0 : Value) (l1 : Value) (l2 : Value) (l3 : Value) (v1 : Value) (σ : Hs) : ru d 39 95 [l0, l1, l2, l3] [v1, .ref 71] σ = kont (callD d 44 [.ref 71, v1] σ) d 39 98 [l0, l1, l2, l3] [] := q_invv t39_95 mo39 K2_88 mj44 rfl rfl rfl rfl (Nat.le_of_ble_eq_true rfl)
theorem t39_98 : decode (mb 39) 98 = .ok (.pop, 1) := by decide +kernel
theorem s39_98 (d : Nat) (l0 : Value) (l1 : Value) (l2 : Value) (l3 : Value) (x : Int32) (σ : Hs) : ru d 39 98 [l0, l1, l2, l3] [.int x] σ = ru d 39 99 [l0, l1, l2, l3] [] σ := q_pop t39_98 rfl
theorem t39_99 : decode (mb 39) 99 = .ok (.goto 44, 3) := by decide +kernel
theorem s39_99 (d : Nat) (l0 : Value) (l1 : Value) (l2 : Value) (l3 : Value) (σ : Hs) : ru d 39 99 [l0, l1, l2, l3] [] σ = ru d 39 143 [l0, l1, l2, l3] [] σ := q_goto t39_99 (by decide +kernel)
theorem t39_102 : decode (mb 39) 102 = .ok (.iload_n 2, 1) := by decide +kernel
theorem s39_102 (d : Nat) (l0 : Value) (l1 : Value) (i2 : Int32) (l3 : Value) (σ : Hs) : ru d 39 102 [l0, l1, .int i2, l3] [] σ = ru d 39 103 [l0, l1, .int i2, l3] [.int i2] σ := q_iload_n t39_102 rfl
theorem t39_103 : decode (mb 39) 103 = .ok (.bipush 40, 2) := by decide +kernel
theorem s39_103 (d : Nat) (l0 : Value) (l1 : Value) (l2 : Value) (l3 : Value) (w0 : Value) (σ : Hs) : ru d 39 103 [l0, l1, l2, l3] [w0] σ = ru d 39 105 [l0, l1, l2, l3] [.int 40, w0] σ := q_bipush t39_103 (by decide +kernel)
theorem t39_105 : decode (mb 39) 105 = .ok (.if_icmp .ne 33, 3) := by decide +kernel
theorem s39_105 (d : Nat) (l0 : Value) (l1 : Value) (l2 : Value) (l3 : Value) (x y : Int32) (σ : Hs) : ru d 39 105 [l0, l1, l2, l3] [.int y, .int x] σ = if x = y then ru d 39 108 [l0, l1, l2, l3] [] σ else ru d 39 138 [l0, l1, l2, l3] [] σ := q_ic_ne t39_105 (by decide +kernel)
theorem t39_108 : decode (mb 39) 108 = .ok (.iload_n 1, 1) := by decide +kernel
theorem s39_108 (d : Nat) (l0 : Value) (i1 : Int32) (l2 : Value) (l3 : Value) (σ : Hs) : ru d 39 108 [l0, .int i1, l2, l3] [] σ = ru d 39 109 [l0, .int i1, l2, l3] [.int i1] σ := q_iload_n t39_108 rfl
theorem t39_109 : decode (mb 39) 109 = .ok (.iconst 5, 1) := by decide +kernel
theorem s39_109 (d : Nat) (l0 : Value) (l1 : Value) (l2 : Value) (l3 : Value) (w0 : Value) (σ : Hs) : ru d 39 109 [l0, l1, l2, l3] [w0] σ = ru d 39 110 [l0, l1, l2, l3] [.int 5, w0] σ := q_iconst t39_109 (by decide +kernel)
theorem t39_110 : decode (mb 39) 110 = .ok (.if_icmp .ge 28, 3) := by decide +kernel
theorem s39_110 (d : Nat) (l0 : Value) (l1 : Value) (l2 : Value) (l3 : Value) (x y : Int32) (σ : Hs) : ru d 39 110 [l0, l1, l2, l3] [.int y, .int x] σ = if y ≤ x then ru d 39 138 [l0, l1, l2, l3] [] σ else ru d 39 113 [l0, l1, l2, l3] [] σ := q_ic_ge t39_110 (by decide +kernel)
theorem t39_113 : decode (mb 39) 113 = .ok (.aload_n 0, 1) := by decide +kernel
theorem s39_113 (d : Nat) (a0 : Nat) (l1 : Value) (l2 : Value) (l3 : Value) (σ : Hs) : ru d 39 113 [.ref a0, l1, l2, l3] [] σ = ru d 39 114 [.ref a0, l1, l2, l3] [.ref a0] σ := q_aload_n t39_113 rfl
theorem t39_114 : decode (mb 39) 114 = .ok (.dup, 1) := by decide +kernel
theorem s39_114 (d : Nat) (l0 : Value) (l1 : Value) (l2 : Value) (l3 : Value) (x : Nat) (σ : Hs) : ru d 39 114 [l0, l1, l2, l3] [.ref x] σ = ru d 39 115 [l0, l1, l2, l3] [.ref x, .ref x] σ := q_dup t39_114 rfl
theorem t39_115 : decode (mb 39) 115 = .ok (.getfield 29, 3) := by decide +kernel
theorem s39_115_o70 (d : Nat) (l0 : Value) (l1 : Value) (l2 : Value) (l3 : Value) (w0 : Value) (σ : Hs) : ru d 39 115 [l0, l1, l2, l3] [.ref 70, w0] σ = ru d 39 118 [l0, l1, l2, l3] [.int (σ 70 3), w0] σ := q_getf t39_115 mo39 F2_29 rfl rfl
theorem t39_118 : decode (mb 39) 118 = .ok (.iconst 1, 1) := by decide +kernel
theorem s39_118 (d : Nat) (l0 : Value) (l1 : Value) (l2 : Value) (l3 : Value) (w0 w1 : Value) (σ : Hs) : ru d 39 118 [l0, l1, l2, l3] [w0, w1] σ = ru d 39 119 [l0, l1, l2, l3] [.int 1, w0, w1] σ := q_iconst t39_118 (by decide +kernel)
theorem t39_119 : decode (mb 39) 119 = .ok (.iadd, 1) := by decide +kernel
theorem s39_119 (d : Nat) (l0 : Value) (l1 : Value) (l2 : Value) (l3 : Value) (x y : Int32) (w0 : Value) (σ : Hs) : ru d 39 119 [l0, l1, l2, l3] [.int y, .int x, w0] σ = ru d 39 120 [l0, l1, l2, l3] [.int (x + y), w0] σ := q_iadd t39_119
theorem t39_120 : decode (mb 39) 120 = .ok (.putfield 29, 3) := by decide +kernel
theorem s39_120_o70 (d : Nat) (l0 : Value) (l1 : Value) (l2 : Value) (l3 : Value) (x : Int32) (σ : Hs) : ru d 39 120 [l0, l1, l2, l3] [.int x, .ref 70] σ = ru d 39 123 [l0, l1, l2, l3] [] (up2 σ 70 3 x) := q_puti t39_120 mo39 F2_29 (by decide +kernel) rfl rfl
theorem t39_123 : decode (mb 39) 123 = .ok (.aload_n 0, 1) := by decide +kernel
theorem s39_123 (d : Nat) (a0 : Nat) (l1 : Value) (l2 : Value) (l3 : Value) (σ : Hs) : ru d 39 123 [.ref a0, l1, l2, l3] [] σ = ru d 39 124 [.ref a0, l1, l2, l3] [.ref a0] σ := q_aload_n t39_123 rfl
theorem t39_124 : decode (mb 39) 124 = .ok (.iconst 0, 1) := by decide +kernel
theorem s39_124 (d : Nat) (l0 : Value) (l1 : Value) (l2 : Value) (l3 : Value) (w0 : Value) (σ : Hs) : ru d 39 124 [l0, l1, l2, l3] [w0] σ = ru d 39 125 [l0, l1, l2, l3] [.int 0, w0] σ := q_iconst t39_124 (by decide +kernel)
theorem t39_125 : decode (mb 39) 125 = .ok (.iload_n 1, 1) := by decide +kernel
theorem s39_125 (d : Nat) (l0 : Value) (i1 : Int32) (l2 : Value) (l3 : Value) (w0 w1 : Value) (σ : Hs) : ru d 39 125 [l0, .int i1, l2, l3] [w0, w1] σ = ru d 39 126 [l0, .int i1, l2, l3] [.int i1, w0, w1] σ := q_iload_n t39_125 rfl
theorem t39_126 : decode (mb 39) 126 = .ok (.iconst 1, 1) := by decide +kernel
theorem s39_126 (d : Nat) (l0 : Value) (l1 : Value) (l2 : Value) (l3 : Value) (w0 w1 w2 : Value) (σ : Hs) : ru d 39 126 [l0, l1, l2, l3] [w0, w1, w2] σ = ru d 39 127 [l0, l1, l2, l3] [.int 1, w0, w1, w2] σ := q_iconst t39_126 (by decide +kernel)
theorem t39_127 : decode (mb 39) 127 = .ok (.iadd, 1) := by decide +kernel
theorem s39_127 (d : Nat) (l0 : Value) (l1 : Value) (l2 : Value) (l3 : Value) (x y : Int32) (w0 w1 : Value) (σ : Hs) : ru d 39 127 [l0, l1, l2, l3] [.int y, .int x, w0, w1] σ = ru d 39 128 [l0, l1, l2, l3] [.int (x + y), w0, w1] σ := q_iadd t39_127
theorem t39_128 : decode (mb 39) 128 = .ok (.invokevirtual 44, 3) := by decide +kernel
theorem s39_128_o70 (d : Nat) (l0 : Value) (l1 : Value) (l2 : Value) (l3 : Value) (v1 v2 : Value) (σ : Hs) : ru d 39 128 [l0, l1, l2, l3] [v2, v1, .ref 70] σ = kont (callD d 38 [.ref 70, v1, v2] σ) d 39 131 [l0, l1, l2, l3] [] := q_invv t39_128 mo39 K2_44 mj38 rfl rfl rfl rfl (Nat.le_of_ble_eq_true rfl)
theorem t39_131 : decode (mb 39) 131 = .ok (.aload_n 0, 1) := by decide +kernel
theorem s39_131 (d : Nat) (a0 : Nat) (l1 : Value) (l2 : Value) (l3 : Value) (σ : Hs) : ru d 39 131 [.ref a0, l1, l2, l3] [] σ = ru d 39 132 [.ref a0, l1, l2, l3] [.ref a0] σ := q_aload_n t39_131 rfl
theorem t39_132 : decode (mb 39) 132 = .ok (.invokevirtual 98, 3) := by decide +kernel
theorem s39_132_o70 (d : Nat) (l0 : Value) (l1 : Value) (l2 : Value) (l3 : Value) (σ : Hs) : ru d 39 132 [l0, l1, l2, l3] [.ref 70] σ = kont (callD d 40 [.ref 70] σ) d 39 135 [l0, l1, l2, l3] [] := q_invv t39_132 mo39 K2_98 mj40 rfl rfl rfl rfl (Nat.le_of_ble_eq_true rfl)
theorem t39_135 : decode (mb 39) 135 = .ok (.goto 8, 3) := by decide +kernel
theorem s39_135 (d : Nat) (l0 : Value) (l1 : Value) (l2 : Value) (l3 : Value) (σ : Hs) : ru d 39 135 [l0, l1, l2, l3] [] σ = ru d 39 143 [l0, l1, l2, l3] [] σ := q_goto t39_135 (by decide +kernel)
theorem t39_138 : decode (mb 39) 138 = .ok (.aload_n 0, 1) := by decide +kernel
theorem s39_138 (d : Nat) (a0 : Nat) (l1 : Value) (l2 : Value) (l3 : Value) (σ : Hs) : ru d 39 138 [.ref a0, l1, l2, l3] [] σ = ru d 39 139 [.ref a0, l1, l2, l3] [.ref a0] σ := q_aload_n t39_138 rfl
theorem t39_139 : decode (mb 39) 139 = .ok (.iconst 1, 1) := by decide +kernel
theorem s39_139 (d : Nat) (l0 : Value) (l1 : Value) (l2 : Value) (l3 : Value) (w0 : Value) (σ : Hs) : ru d 39 139 [l0, l1, l2, l3] [w0] σ = ru d 39 140 [l0, l1, l2, l3] [.int 1, w0] σ := q_iconst t39_139 (by decide +kernel)
theorem t39_140 : decode (mb 39) 140 = .ok (.putfield 33, 3) := by decide +kernel
theorem s39_140_o70 (d : Nat) (l0 : Value) (l1 : Value) (l2 : Value) (l3 : Value) (x : Int32) (hx : isB x) (σ : Hs) : ru d 39 140 [l0, l1, l2, l3] [.int x, .ref 70] σ = ru d 39 143 [l0, l1, l2, l3] [] (up2 σ 70 4 x) := q_putz t39_140 mo39 F2_33 (by decide +kernel) rfl rfl hx
theorem t39_143 : decode (mb 39) 143 = .ok (.return_, 1) := by decide +kernel
theorem s39_143 (d : Nat) (l0 : Value) (l1 : Value) (l2 : Value) (l3 : Value) (σ : Hs) : ru d 39 143 [l0, l1, l2, l3] [] σ = some (none, σ) := q_vret t39_143 mr39
theorem c39 (d : Nat) (x0 : Nat) (x1 : Int32) (σ : Hs) : callD (d + 1) 39 [.ref x0, .int x1] σ = ru d 39 0 [.ref x0, .int x1, uu, uu] [] σ := callD_ru ml39 rfl rfl (Nat.le_of_ble_eq_true rfl)
-- 40: Reader.readClosing()V
theorem t40_0 : decode (mb 40) 0 = .ok (.aload_n 0, 1) := by decide +kernel
theorem s40_0 (d : Nat) (a0 : Nat) (σ : Hs) : ru d 40 0 [.ref a0] [] σ = ru d 40 1 [.ref a0] [.ref a0] σ := q_aload_n t40_0 rfl
theorem t40_1 : decode (mb 40) 1 = .ok (.getfield 33, 3) := by decide +kernel
theorem s40_1_o70 (d : Nat) (l0 : Value) (σ : Hs) : ru d 40 1 [l0] [.ref 70] σ = ru d 40 4 [l0] [.int (σ 70 4)] σ := q_getf t40_1 mo40 F2_33 rfl rfl
theorem t40_4 : decode (mb 40) 4 = .ok (.ifCond .eq 4, 3) := by decide +kernel
theorem s40_4 (d : Nat) (l0 : Value) (x : Int32) (σ : Hs) : ru d 40 4 [l0] [.int x] σ = if x = 0 then ru d 40 8 [l0] [] σ else ru d 40 7 [l0] [] σ := q_if_eq t40_4 (by decide +kernel)
theorem t40_7 : decode (mb 40) 7 = .ok (.return_, 1) := by decide +kernel
theorem s40_7 (d : Nat) (l0 : Value) (σ : Hs) : ru d 40 7 [l0] [] σ = some (none, σ) := q_vret t40_7 mr40
theorem t40_8 : decode (mb 40) 8 = .ok (.aload_n 0, 1) := by decide +kernel
theorem s40_8 (d : Nat) (a0 : Nat) (σ : Hs) : ru d 40 8 [.ref a0] [] σ = ru d 40 9 [.ref a0] [.ref a0] σ := q_aload_n t40_8 rfl
theorem t40_9 : decode (mb 40) 9 = .ok (.invokevirtual 78, 3) := by decide +kernel
theorem s40_9_o70 (d : Nat) (l0 : Value) (σ : Hs) : ru d 40 9 [l0] [.ref 70] σ = kont (callD d 37 [.ref 70] σ) d 40 12 [l0] [] := q_invv t40_9 mo40 K2_78 mj37 rfl rfl rfl rfl (Nat.le_of_ble_eq_true rfl)
theorem t40_12 : decode (mb 40) 12 = .ok (.bipush 41, 2) := by decide +kernel
theorem s40_12 (d : Nat) (l0 : Value) (w0 : Value) (σ : Hs) : ru d 40 12 [l0] [w0] σ = ru d 40 14 [l0] [.int 41, w0] σ := q_bipush t40_12 (by decide +kernel)
theorem t40_14 : decode (mb 40) 14 = .ok (.if_icmp .ne 16, 3) := by decide +kernel
theorem s40_14 (d : Nat) (l0 : Value) (x y : Int32) (σ : Hs) : ru d 40 14 [l0] [.int y, .int x] σ = if x = y then ru d 40 17 [l0] [] σ else ru d 40 30 [l0] [] σ := q_ic_ne t40_14 (by decide +kernel)
theorem t40_17 : decode (mb 40) 17 = .ok (.aload_n 0, 1) := by decide +kernel
theorem s40_17 (d : Nat) (a0 : Nat) (σ : Hs) : ru d 40 17 [.ref a0] [] σ = ru d 40 18 [.ref a0] [.ref a0] σ := q_aload_n t40_17 rfl
theorem t40_18 : decode (mb 40) 18 = .ok (.dup, 1) := by decide +kernel
theorem s40_18 (d : Nat) (l0 : Value) (x : Nat) (σ : Hs) : ru d 40 18 [l0] [.ref x] σ = ru d 40 19 [l0] [.ref x, .ref x] σ := q_dup t40_18 rfl
theorem t40_19 : decode (mb 40) 19 = .ok (.getfield 29, 3) := by decide +kernel
theorem s40_19_o70 (d : Nat) (l0 : Value) (w0 : Value) (σ : Hs) : ru d 40 19 [l0] [.ref 70, w0] σ = ru d 40 22 [l0] [.int (σ 70 3), w0] σ := q_getf t40_19 mo40 F2_29 rfl rfl
theorem t40_22 : decode (mb 40) 22 = .ok (.iconst 1, 1) := by decide +kernel
theorem s40_22 (d : Nat) (l0 : Value) (w0 w1 : Value) (σ : Hs) : ru d 40 22 [l0] [w0, w1] σ = ru d 40 23 [l0] [.int 1, w0, w1] σ := q_iconst t40_22 (by decide +kernel)
theorem t40_23 : decode (mb 40) 23 = .ok (.iadd, 1) := by decide +kernel
theorem s40_23 (d : Nat) (l0 : Value) (x y : Int32) (w0 : Value) (σ : Hs) : ru d 40 23 [l0] [.int y, .int x, w0] σ = ru d 40 24 [l0] [.int (x + y), w0] σ := q_iadd t40_23
theorem t40_24 : decode (mb 40) 24 = .ok (.putfield 29, 3) := by decide +kernel
theorem s40_24_o70 (d : Nat) (l0 : Value) (x : Int32) (σ : Hs) : ru d 40 24 [l0] [.int x, .ref 70] σ = ru d 40 27 [l0] [] (up2 σ 70 3 x) := q_puti t40_24 mo40 F2_29 (by decide +kernel) rfl rfl
theorem t40_27 : decode (mb 40) 27 = .ok (.goto 8, 3) := by decide +kernel
theorem s40_27 (d : Nat) (l0 : Value) (σ : Hs) : ru d 40 27 [l0] [] σ = ru d 40 35 [l0] [] σ := q_goto t40_27 (by decide +kernel)
theorem t40_30 : decode (mb 40) 30 = .ok (.aload_n 0, 1) := by decide +kernel
theorem s40_30 (d : Nat) (a0 : Nat) (σ : Hs) : ru d 40 30 [.ref a0] [] σ = ru d 40 31 [.ref a0] [.ref a0] σ := q_aload_n t40_30 rfl
theorem t40_31 : decode (mb 40) 31 = .ok (.iconst 1, 1) := by decide +kernel
theorem s40_31 (d : Nat) (l0 : Value) (w0 : Value) (σ : Hs) : ru d 40 31 [l0] [w0] σ = ru d 40 32 [l0] [.int 1, w0] σ := q_iconst t40_31 (by decide +kernel)
theorem t40_32 : decode (mb 40) 32 = .ok (.putfield 33, 3) := by decide +kernel
theorem s40_32_o70 (d : Nat) (l0 : Value) (x : Int32) (hx : isB x) (σ : Hs) : ru d 40 32 [l0] [.int x, .ref 70] σ = ru d 40 35 [l0] [] (up2 σ 70 4 x) := q_putz t40_32 mo40 F2_33 (by decide +kernel) rfl rfl hx
theorem t40_35 : decode (mb 40) 35 = .ok (.return_, 1) := by decide +kernel
theorem s40_35 (d : Nat) (l0 : Value) (σ : Hs) : ru d 40 35 [l0] [] σ = some (none, σ) := q_vret t40_35 mr40
theorem c40 (d : Nat) (x0 : Nat) (σ : Hs) : callD (d + 1) 40 [.ref x0] σ = ru d 40 0 [.ref x0] [] σ := callD_ru ml40 rfl rfl (Nat.le_of_ble_eq_true rfl)
-- 41: Reader.readNumber()V
theorem t41_0 : decode (mb 41) 0 = .ok (.iconst 0, 1) := by decide +kernel
theorem s41_0 (d : Nat) (l0 : Value) (l1 : Value) (l2 : Value) (σ : Hs) : ru d 41 0 [l0, l1, l2] [] σ = ru d 41 1 [l0, l1, l2] [.int 0] σ := q_iconst t41_0 (by decide +kernel)
theorem t41_1 : decode (mb 41) 1 = .ok (.istore_n 1, 1) := by decide +kernel
theorem s41_1 (d : Nat) (a0 : Nat) (l1 : Value) (l2 : Value) (x : Int32) (σ : Hs) : ru d 41 1 [.ref a0, l1, l2] [.int x] σ = ru d 41 2 [.ref a0, .int x, l2] [] σ := q_istore_n t41_1 ⟨Nat.le_of_ble_eq_true rfl, rfl⟩ rfl
theorem t41_2 : decode (mb 41) 2 = .ok (.iconst 0, 1) := by decide +kernel
theorem s41_2 (d : Nat) (l0 : Value) (l1 : Value) (l2 : Value) (σ : Hs) : ru d 41 2 [l0, l1, l2] [] σ = ru d 41 3 [l0, l1, l2] [.int 0] σ := q_iconst t41_2 (by decide +kernel)
theorem t41_3 : decode (mb 41) 3 = .ok (.istore_n 2, 1) := by decide +kernel
theorem s41_3 (d : Nat) (l0 : Value) (i1 : Int32) (l2 : Value) (x : Int32) (σ : Hs) : ru d 41 3 [l0, .int i1, l2] [.int x] σ = ru d 41 4 [l0, .int i1, .int x] [] σ := q_istore_n t41_3 ⟨Nat.le_of_ble_eq_true rfl, rfl⟩ rfl
theorem t41_4 : decode (mb 41) 4 = .ok (.iload_n 2, 1) := by decide +kernel
theorem s41_4 (d : Nat) (l0 : Value) (l1 : Value) (i2 : Int32) (σ : Hs) : ru d 41 4 [l0, l1, .int i2] [] σ = ru d 41 5 [l0, l1, .int i2] [.int i2] σ := q_iload_n t41_4 rfl
theorem t41_5 : decode (mb 41) 5 = .ok (.iconst 4, 1) := by decide +kernel
theorem s41_5 (d : Nat) (l0 : Value) (l1 : Value) (l2 : Value) (w0 : Value) (σ : Hs) : ru d 41 5 [l0, l1, l2] [w0] σ = ru d 41 6 [l0, l1, l2] [.int 4, w0] σ := q_iconst t41_5 (by decide +kernel)
theorem t41_6 : decode (mb 41) 6 = .ok (.if_icmp .ge 42, 3) := by decide +kernel
theorem s41_6 (d : Nat) (l0 : Value) (l1 : Value) (l2 : Value) (x y : Int32) (σ : Hs) : ru d 41 6 [l0, l1, l2] [.int y, .int x] σ = if y ≤ x then ru d 41 48 [l0, l1, l2] [] σ else ru d 41 9 [l0, l1, l2] [] σ := q_ic_ge t41_6 (by decide +kernel)
theorem t41_9 : decode (mb 41) 9 = .ok (.aload_n 0, 1) := by decide +kernel
theorem s41_9 (d : Nat) (a0 : Nat) (l1 : Value) (l2 : Value) (σ : Hs) : ru d 41 9 [.ref a0, l1, l2] [] σ = ru d 41 10 [.ref a0, l1, l2] [.ref a0] σ := q_aload_n t41_9 rfl
theorem t41_10 : decode (mb 41) 10 = .ok (.invokevirtual 78, 3) := by decide +kernel
theorem s41_10_o70 (d : Nat) (l0 : Value) (l1 : Value) (l2 : Value) (σ : Hs) : ru d 41 10 [l0, l1, l2] [.ref 70] σ = kont (callD d 37 [.ref 70] σ) d 41 13 [l0, l1, l2] [] := q_invv t41_10 mo41 K2_78 mj37 rfl rfl rfl rfl (Nat.le_of_ble_eq_true rfl)
theorem t41_13 : decode (mb 41) 13 = .ok (.invokestatic 91, 3) := by decide +kernel
theorem s41_13 (d : Nat) (l0 : Value) (l1 : Value) (l2 : Value) (v0 : Value) (σ : Hs) : ru d 41 13 [l0, l1, l2] [v0] σ = kont (callD d 42 [v0] σ) d 41 16 [l0, l1, l2] [] := q_invs t41_13 mo41 (by decide +kernel) K2_91 mj42 (Nat.le_of_ble_eq_true rfl) rfl rfl (Nat.le_of_ble_eq_true rfl)
theorem t41_16 : decode (mb 41) 16 = .ok (.ifCond .eq 32, 3) := by decide +kernel
theorem s41_16 (d : Nat) (l0 : Value) (l1 : Value) (l2 : Value) (x : Int32) (σ : Hs) : ru d 41 16 [l0, l1, l2] [.int x] σ = if x = 0 then ru d 41 48 [l0, l1, l2] [] σ else ru d 41 19 [l0, l1, l2] [] σ := q_if_eq t41_16 (by decide +kernel)
theorem t41_19 : decode (mb 41) 19 = .ok (.bipush 10, 2) := by decide +kernel
theorem s41_19 (d : Nat) (l0 : Value) (l1 : Value) (l2 : Value) (σ : Hs) : ru d 41 19 [l0, l1, l2] [] σ = ru d 41 21 [l0, l1, l2] [.int 10] σ := q_bipush t41_19 (by decide +kernel)
theorem t41_21 : decode (mb 41) 21 = .ok (.iload_n 1, 1) := by decide +kernel
theorem s41_21 (d : Nat) (l0 : Value) (i1 : Int32) (l2 : Value) (w0 : Value) (σ : Hs) : ru d 41 21 [l0, .int i1, l2] [w0] σ = ru d 41 22 [l0, .int i1, l2] [.int i1, w0] σ := q_iload_n t41_21 rfl
theorem t41_22 : decode (mb 41) 22 = .ok (.imul, 1) := by decide +kernel
theorem s41_22 (d : Nat) (l0 : Value) (l1 : Value) (l2 : Value) (x y : Int32) (σ : Hs) : ru d 41 22 [l0, l1, l2] [.int y, .int x] σ = ru d 41 23 [l0, l1, l2] [.int (x * y)] σ := q_imul t41_22
theorem t41_23 : decode (mb 41) 23 = .ok (.aload_n 0, 1) := by decide +kernel
theorem s41_23 (d : Nat) (a0 : Nat) (l1 : Value) (l2 : Value) (w0 : Value) (σ : Hs) : ru d 41 23 [.ref a0, l1, l2] [w0] σ = ru d 41 24 [.ref a0, l1, l2] [.ref a0, w0] σ := q_aload_n t41_23 rfl
theorem t41_24 : decode (mb 41) 24 = .ok (.invokevirtual 78, 3) := by decide +kernel
theorem s41_24_o70 (d : Nat) (l0 : Value) (l1 : Value) (l2 : Value) (w0 : Int32) (σ : Hs) : ru d 41 24 [l0, l1, l2] [.ref 70, .int w0] σ = kont (callD d 37 [.ref 70] σ) d 41 27 [l0, l1, l2] [.int w0] := q_invv t41_24 mo41 K2_78 mj37 rfl rfl rfl rfl (Nat.le_of_ble_eq_true rfl)
theorem t41_27 : decode (mb 41) 27 = .ok (.bipush 48, 2) := by decide +kernel
theorem s41_27 (d : Nat) (l0 : Value) (l1 : Value) (l2 : Value) (w0 w1 : Value) (σ : Hs) : ru d 41 27 [l0, l1, l2] [w0, w1] σ = ru d 41 29 [l0, l1, l2] [.int 48, w0, w1] σ := q_bipush t41_27 (by decide +kernel)
theorem t41_29 : decode (mb 41) 29 = .ok (.isub, 1) := by decide +kernel
theorem s41_29 (d : Nat) (l0 : Value) (l1 : Value) (l2 : Value) (x y : Int32) (w0 : Value) (σ : Hs) : ru d 41 29 [l0, l1, l2] [.int y, .int x, w0] σ = ru d 41 30 [l0, l1, l2] [.int (x - y), w0] σ := q_isub t41_29
theorem t41_30 : decode (mb 41) 30 = .ok (.iadd, 1) := by decide +kernel
theorem s41_30 (d : Nat) (l0 : Value) (l1 : Value) (l2 : Value) (x y : Int32) (σ : Hs) : ru d 41 30 [l0, l1, l2] [.int y, .int x] σ = ru d 41 31 [l0, l1, l2] [.int (x + y)] σ := q_iadd t41_30
theorem t41_31 : decode (mb 41) 31 = .ok (.istore_n 1, 1) := by decide +kernel
theorem s41_31 (d : Nat) (a0 : Nat) (l1 : Value) (l2 : Value) (x : Int32) (σ : Hs) : ru d 41 31 [.ref a0, l1, l2] [.int x] σ = ru d 41 32 [.ref a0, .int x, l2] [] σ := q_istore_n t41_31 ⟨Nat.le_of_ble_eq_true rfl, rfl⟩ rfl
theorem t41_32 : decode (mb 41) 32 = .ok (.aload_n 0, 1) := by decide +kernel
theorem s41_32 (d : Nat) (a0 : Nat) (l1 : Value) (l2 : Value) (σ : Hs) : ru d 41 32 [.ref a0, l1, l2] [] σ = ru d 41 33 [.ref a0, l1, l2] [.ref a0] σ := q_aload_n t41_32 rfl
theorem t41_33 : decode (mb 41) 33 = .ok (.dup, 1) := by decide +kernel
theorem s41_33 (d : Nat) (l0 : Value) (l1 : Value) (l2 : Value) (x : Nat) (σ : Hs) : ru d 41 33 [l0, l1, l2] [.ref x] σ = ru d 41 34 [l0, l1, l2] [.ref x, .ref x] σ := q_dup t41_33 rfl
theorem t41_34 : decode (mb 41) 34 = .ok (.getfield 29, 3) := by decide +kernel
theorem s41_34_o70 (d : Nat) (l0 : Value) (l1 : Value) (l2 : Value) (w0 : Value) (σ : Hs) : ru d 41 34 [l0, l1, l2] [.ref 70, w0] σ = ru d 41 37 [l0, l1, l2] [.int (σ 70 3), w0] σ := q_getf t41_34 mo41 F2_29 rfl rfl
theorem t41_37 : decode (mb 41) 37 = .ok (.iconst 1, 1) := by decide +kernel
theorem s41_37 (d : Nat) (l0 : Value) (l1 : Value) (l2 : Value) (w0 w1 : Value) (σ : Hs) : ru d 41 37 [l0, l1, l2] [w0, w1] σ = ru d 41 38 [l0, l1, l2] [.int 1, w0, w1] σ := q_iconst t41_37 (by decide +kernel)
theorem t41_38 : decode (mb 41) 38 = .ok (.iadd, 1) := by decide +kernel
theorem s41_38 (d : Nat) (l0 : Value) (l1 : Value) (l2 : Value) (x y : Int32) (w0 : Value) (σ : Hs) : ru d 41 38 [l0, l1, l2] [.int y, .int x, w0] σ = ru d 41 39 [l0, l1, l2] [.int (x + y), w0] σ := q_iadd t41_38
theorem t41_39 : decode (mb 41) 39 = .ok (.putfield 29, 3) := by decide +kernel
theorem s41_39_o70 (d : Nat) (l0 : Value) (l1 : Value) (l2 : Value) (x : Int32) (σ : Hs) : ru d 41 39 [l0, l1, l2] [.int x, .ref 70] σ = ru d 41 42 [l0, l1, l2] [] (up2 σ 70 3 x) := q_puti t41_39 mo41 F2_29 (by decide +kernel) rfl rfl
theorem t41_42 : decode (mb 41) 42 = .ok (.iinc 2 1, 3) := by decide +kernel
theorem s41_42 (d : Nat) (l0 : Value) (i1 : Int32) (i2 : Int32) (σ : Hs) : ru d 41 42 [l0, .int i1, .int i2] [] σ = ru d 41 45 [l0, .int i1, .int (i2 + 1)] [] σ := q_iinc t41_42 ⟨Nat.le_of_ble_eq_true rfl, rfl⟩ rfl (by decide +kernel) rfl
theorem t41_45 : decode (mb 41) 45 = .ok (.goto (-41), 3) := by decide +kernel
theorem s41_45 (d : Nat) (l0 : Value) (l1 : Value) (l2 : Value) (σ : Hs) : ru d 41 45 [l0, l1, l2] [] σ = ru d 41 4 [l0, l1, l2] [] σ := q_goto t41_45 (by decide +kernel)
theorem t41_48 : decode (mb 41) 48 = .ok (.aload_n 0, 1) := by decide +kernel
theorem s41_48 (d : Nat) (a0 : Nat) (l1 : Value) (l2 : Value) (σ : Hs) : ru d 41 48 [.ref a0, l1, l2] [] σ = ru d 41 49 [.ref a0, l1, l2] [.ref a0] σ := q_aload_n t41_48 rfl
theorem t41_49 : decode (mb 41) 49 = .ok (.getfield 14, 3) := by decide +kernel
theorem s41_49_o70 (d : Nat) (l0 : Value) (l1 : Value) (l2 : Value) (σ : Hs) : ru d 41 49 [l0, l1, l2] [.ref 70] σ = ru d 41 52 [l0, l1, l2] [.ref 71] σ := q_getf t41_49 mo41 F2_14 rfl rfl
theorem t41_52 : decode (mb 41) 52 = .ok (.iload_n 1, 1) := by decide +kernel
theorem s41_52 (d : Nat) (l0 : Value) (i1 : Int32) (l2 : Value) (w0 : Value) (σ : Hs) : ru d 41 52 [l0, .int i1, l2] [w0] σ = ru d 41 53 [l0, .int i1, l2] [.int i1, w0] σ := q_iload_n t41_52 rfl
theorem t41_53 : decode (mb 41) 53 = .ok (.invokevirtual 88, 3) := by decide +kernel
theorem s41_53_o71 (d : Nat) (l0 : Value) (l1 : Value) (l2 : Value) (v1 : Value) (σ : Hs) : ru d 41 53 [l0, l1, l2] [v1, .ref 71] σ = kont (callD d 44 [.ref 71, v1] σ) d 41 56 [l0, l1, l2] [] := q_invv t41_53 mo41 K2_88 mj44 rfl rfl rfl rfl (Nat.le_of_ble_eq_true rfl)
theorem t41_56 : decode (mb 41) 56 = .ok (.pop, 1) := by decide +kernel
theorem s41_56 (d : Nat) (l0 : Value) (l1 : Value) (l2 : Value) (x : Int32) (σ : Hs) : ru d 41 56 [l0, l1, l2] [.int x] σ = ru d 41 57 [l0, l1, l2] [] σ := q_pop t41_56 rfl
theorem t41_57 : decode (mb 41) 57 = .ok (.return_, 1) := by decide +kernel
theorem s41_57 (d : Nat) (l0 : Value) (l1 : Value) (l2 : Value) (σ : Hs) : ru d 41 57 [l0, l1, l2] [] σ = some (none, σ) := q_vret t41_57 mr41
theorem c41 (d : Nat) (x0 : Nat) (σ : Hs) : callD (d + 1) 41 [.ref x0] σ = ru d 41 0 [.ref x0, uu, uu] [] σ := callD_ru ml41 rfl rfl (Nat.le_of_ble_eq_true rfl)
-- 42: Reader.isDigit(C)Z
theorem t42_0 : decode (mb 42) 0 = .ok (.iload_n 0, 1) := by decide +kernel
theorem s42_0 (d : Nat) (i0 : Int32) (σ : Hs) : ru d 42 0 [.int i0] [] σ = ru d 42 1 [.int i0] [.int i0] σ := q_iload_n t42_0 rfl
theorem t42_1 : decode (mb 42) 1 = .ok (.bipush 48, 2) := by decide +kernel
theorem s42_1 (d : Nat) (l0 : Value) (w0 : Value) (σ : Hs) : ru d 42 1 [l0] [w0] σ = ru d 42 3 [l0] [.int 48, w0] σ := q_bipush t42_1 (by decide +kernel)
theorem t42_3 : decode (mb 42) 3 = .ok (.if_icmp .lt 13, 3) := by decide +kernel
theorem s42_3 (d : Nat) (l0 : Value) (x y : Int32) (σ : Hs) : ru d 42 3 [l0] [.int y, .int x] σ = if x < y then ru d 42 16 [l0] [] σ else ru d 42 6 [l0] [] σ := q_ic_lt t42_3 (by decide +kernel)
theorem t42_6 : decode (mb 42) 6 = .ok (.iload_n 0, 1) := by decide +kernel
theorem s42_6 (d : Nat) (i0 : Int32) (σ : Hs) : ru d 42 6 [.int i0] [] σ = ru d 42 7 [.int i0] [.int i0] σ := q_iload_n t42_6 rfl
theorem t42_7 : decode (mb 42) 7 = .ok (.bipush 57, 2) := by decide +kernel
theorem s42_7 (d : Nat) (l0 : Value) (w0 : Value) (σ : Hs) : ru d 42 7 [l0] [w0] σ = ru d 42 9 [l0] [.int 57, w0] σ := q_bipush t42_7 (by decide +kernel)
theorem t42_9 : decode (mb 42) 9 = .ok (.if_icmp .gt 7, 3) := by decide +kernel
theorem s42_9 (d : Nat) (l0 : Value) (x y : Int32) (σ : Hs) : ru d 42 9 [l0] [.int y, .int x] σ = if y < x then ru d 42 16 [l0] [] σ else ru d 42 12 [l0] [] σ := q_ic_gt t42_9 (by decide +kernel)
theorem t42_12 : decode (mb 42) 12 = .ok (.iconst 1, 1) := by decide +kernel
theorem s42_12 (d : Nat) (l0 : Value) (σ : Hs) : ru d 42 12 [l0] [] σ = ru d 42 13 [l0] [.int 1] σ := q_iconst t42_12 (by decide +kernel)
theorem t42_13 : decode (mb 42) 13 = .ok (.goto 4, 3) := by decide +kernel
theorem s42_13 (d : Nat) (l0 : Value) (w0 : Value) (σ : Hs) : ru d 42 13 [l0] [w0] σ = ru d 42 17 [l0] [w0] σ := q_goto t42_13 (by decide +kernel)
theorem t42_16 : decode (mb 42) 16 = .ok (.iconst 0, 1) := by decide +kernel
theorem s42_16 (d : Nat) (l0 : Value) (σ : Hs) : ru d 42 16 [l0] [] σ = ru d 42 17 [l0] [.int 0] σ := q_iconst t42_16 (by decide +kernel)
theorem t42_17 : decode (mb 42) 17 = .ok (.ireturn, 1) := by decide +kernel
theorem s42_17 (d : Nat) (l0 : Value) (x : Int32) (hx : isB x) (σ : Hs) : ru d 42 17 [l0] [.int x] σ = some (some (.int x), σ) := q_iretz t42_17 mr42 hx
theorem c42 (d : Nat) (x0 : Int32) (σ : Hs) : callD (d + 1) 42 [.int x0] σ = ru d 42 0 [.int x0] [] σ := callD_ru ml42 rfl rfl (Nat.le_of_ble_eq_true rfl)
-- 43: Row.has(I)Z
theorem t43_0 : decode (mb 43) 0 = .ok (.iload_n 1, 1) := by decide +kernel
theorem s43_0 (d : Nat) (l0 : Value) (i1 : Int32) (σ : Hs) : ru d 43 0 [l0, .int i1] [] σ = ru d 43 1 [l0, .int i1] [.int i1] σ := q_iload_n t43_0 rfl
theorem t43_1 : decode (mb 43) 1 = .ok (.ifCond .lt 24, 3) := by decide +kernel
theorem s43_1 (d : Nat) (l0 : Value) (l1 : Value) (x : Int32) (σ : Hs) : ru d 43 1 [l0, l1] [.int x] σ = if x < 0 then ru d 43 25 [l0, l1] [] σ else ru d 43 4 [l0, l1] [] σ := q_if_lt t43_1 (by decide +kernel)
theorem t43_4 : decode (mb 43) 4 = .ok (.iload_n 1, 1) := by decide +kernel
theorem s43_4 (d : Nat) (l0 : Value) (i1 : Int32) (σ : Hs) : ru d 43 4 [l0, .int i1] [] σ = ru d 43 5 [l0, .int i1] [.int i1] σ := q_iload_n t43_4 rfl
theorem t43_5 : decode (mb 43) 5 = .ok (.aload_n 0, 1) := by decide +kernel
theorem s43_5 (d : Nat) (a0 : Nat) (l1 : Value) (w0 : Value) (σ : Hs) : ru d 43 5 [.ref a0, l1] [w0] σ = ru d 43 6 [.ref a0, l1] [.ref a0, w0] σ := q_aload_n t43_5 rfl
theorem t43_6 : decode (mb 43) 6 = .ok (.getfield 19, 3) := by decide +kernel
theorem s43_6_o22 (d : Nat) (l0 : Value) (l1 : Value) (w0 : Value) (σ : Hs) : ru d 43 6 [l0, l1] [.ref 22, w0] σ = ru d 43 9 [l0, l1] [.int (σ 22 1), w0] σ := q_getf t43_6 mo43 F3_19 rfl rfl
theorem s43_6_o74 (d : Nat) (l0 : Value) (l1 : Value) (w0 : Value) (σ : Hs) : ru d 43 6 [l0, l1] [.ref 74, w0] σ = ru d 43 9 [l0, l1] [.int (σ 74 1), w0] σ := q_getf t43_6 mo43 F3_19 rfl rfl
theorem t43_9 : decode (mb 43) 9 = .ok (.if_icmp .ge 16, 3) := by decide +kernel
theorem s43_9 (d : Nat) (l0 : Value) (l1 : Value) (x y : Int32) (σ : Hs) : ru d 43 9 [l0, l1] [.int y, .int x] σ = if y ≤ x then ru d 43 25 [l0, l1] [] σ else ru d 43 12 [l0, l1] [] σ := q_ic_ge t43_9 (by decide +kernel)
theorem t43_12 : decode (mb 43) 12 = .ok (.iload_n 1, 1) := by decide +kernel
theorem s43_12 (d : Nat) (l0 : Value) (i1 : Int32) (σ : Hs) : ru d 43 12 [l0, .int i1] [] σ = ru d 43 13 [l0, .int i1] [.int i1] σ := q_iload_n t43_12 rfl
theorem t43_13 : decode (mb 43) 13 = .ok (.aload_n 0, 1) := by decide +kernel
theorem s43_13 (d : Nat) (a0 : Nat) (l1 : Value) (w0 : Value) (σ : Hs) : ru d 43 13 [.ref a0, l1] [w0] σ = ru d 43 14 [.ref a0, l1] [.ref a0, w0] σ := q_aload_n t43_13 rfl
theorem t43_14 : decode (mb 43) 14 = .ok (.getfield 13, 3) := by decide +kernel
theorem s43_14_o22 (d : Nat) (l0 : Value) (l1 : Value) (w0 : Value) (σ : Hs) : ru d 43 14 [l0, l1] [.ref 22, w0] σ = ru d 43 17 [l0, l1] [.ref 23, w0] σ := q_getf t43_14 mo43 F3_13 rfl rfl
theorem s43_14_o74 (d : Nat) (l0 : Value) (l1 : Value) (w0 : Value) (σ : Hs) : ru d 43 14 [l0, l1] [.ref 74, w0] σ = ru d 43 17 [l0, l1] [.ref 75, w0] σ := q_getf t43_14 mo43 F3_13 rfl rfl
theorem t43_17 : decode (mb 43) 17 = .ok (.arraylength, 1) := by decide +kernel
theorem s43_17_o23 (d : Nat) (l0 : Value) (l1 : Value) (w0 : Value) (σ : Hs) : ru d 43 17 [l0, l1] [.ref 23, w0] σ = ru d 43 18 [l0, l1] [.int 60, w0] σ := q_alei t43_17 (by decide +kernel) rfl (by decide +kernel)
theorem s43_17_o75 (d : Nat) (l0 : Value) (l1 : Value) (w0 : Value) (σ : Hs) : ru d 43 17 [l0, l1] [.ref 75, w0] σ = ru d 43 18 [l0, l1] [.int 30, w0] σ := q_alei t43_17 (by decide +kernel) rfl (by decide +kernel)
theorem t43_18 : decode (mb 43) 18 = .ok (.if_icmp .ge 7, 3) := by decide +kernel
theorem s43_18 (d : Nat) (l0 : Value) (l1 : Value) (x y : Int32) (σ : Hs) : ru d 43 18 [l0, l1] [.int y, .int x] σ = if y ≤ x then ru d 43 25 [l0, l1] [] σ else ru d 43 21 [l0, l1] [] σ := q_ic_ge t43_18 (by decide +kernel)
theorem t43_21 : decode (mb 43) 21 = .ok (.iconst 1, 1) := by decide +kernel
theorem s43_21 (d : Nat) (l0 : Value) (l1 : Value) (σ : Hs) : ru d 43 21 [l0, l1] [] σ = ru d 43 22 [l0, l1] [.int 1] σ := q_iconst t43_21 (by decide +kernel)
theorem t43_22 : decode (mb 43) 22 = .ok (.goto 4, 3) := by decide +kernel
theorem s43_22 (d : Nat) (l0 : Value) (l1 : Value) (w0 : Value) (σ : Hs) : ru d 43 22 [l0, l1] [w0] σ = ru d 43 26 [l0, l1] [w0] σ := q_goto t43_22 (by decide +kernel)
theorem t43_25 : decode (mb 43) 25 = .ok (.iconst 0, 1) := by decide +kernel
theorem s43_25 (d : Nat) (l0 : Value) (l1 : Value) (σ : Hs) : ru d 43 25 [l0, l1] [] σ = ru d 43 26 [l0, l1] [.int 0] σ := q_iconst t43_25 (by decide +kernel)
theorem t43_26 : decode (mb 43) 26 = .ok (.ireturn, 1) := by decide +kernel
theorem s43_26 (d : Nat) (l0 : Value) (l1 : Value) (x : Int32) (hx : isB x) (σ : Hs) : ru d 43 26 [l0, l1] [.int x] σ = some (some (.int x), σ) := q_iretz t43_26 mr43 hx
theorem c43 (d : Nat) (x0 : Nat) (x1 : Int32) (σ : Hs) : callD (d + 1) 43 [.ref x0, .int x1] σ = ru d 43 0 [.ref x0, .int x1] [] σ := callD_ru ml43 rfl rfl (Nat.le_of_ble_eq_true rfl)
-- 44: Row.add(I)Z
theorem t44_0 : decode (mb 44) 0 = .ok (.aload_n 0, 1) := by decide +kernel
theorem s44_0 (d : Nat) (a0 : Nat) (l1 : Value) (σ : Hs) : ru d 44 0 [.ref a0, l1] [] σ = ru d 44 1 [.ref a0, l1] [.ref a0] σ := q_aload_n t44_0 rfl
theorem t44_1 : decode (mb 44) 1 = .ok (.getfield 19, 3) := by decide +kernel
theorem s44_1_o22 (d : Nat) (l0 : Value) (l1 : Value) (σ : Hs) : ru d 44 1 [l0, l1] [.ref 22] σ = ru d 44 4 [l0, l1] [.int (σ 22 1)] σ := q_getf t44_1 mo44 F3_19 rfl rfl
theorem s44_1_o24 (d : Nat) (l0 : Value) (l1 : Value) (σ : Hs) : ru d 44 1 [l0, l1] [.ref 24] σ = ru d 44 4 [l0, l1] [.int (σ 24 1)] σ := q_getf t44_1 mo44 F3_19 rfl rfl
theorem s44_1_o26 (d : Nat) (l0 : Value) (l1 : Value) (σ : Hs) : ru d 44 1 [l0, l1] [.ref 26] σ = ru d 44 4 [l0, l1] [.int (σ 26 1)] σ := q_getf t44_1 mo44 F3_19 rfl rfl
theorem s44_1_o28 (d : Nat) (l0 : Value) (l1 : Value) (σ : Hs) : ru d 44 1 [l0, l1] [.ref 28] σ = ru d 44 4 [l0, l1] [.int (σ 28 1)] σ := q_getf t44_1 mo44 F3_19 rfl rfl
theorem s44_1_o71 (d : Nat) (l0 : Value) (l1 : Value) (σ : Hs) : ru d 44 1 [l0, l1] [.ref 71] σ = ru d 44 4 [l0, l1] [.int (σ 71 1)] σ := q_getf t44_1 mo44 F3_19 rfl rfl
theorem s44_1_o74 (d : Nat) (l0 : Value) (l1 : Value) (σ : Hs) : ru d 44 1 [l0, l1] [.ref 74] σ = ru d 44 4 [l0, l1] [.int (σ 74 1)] σ := q_getf t44_1 mo44 F3_19 rfl rfl
theorem t44_4 : decode (mb 44) 4 = .ok (.ifCond .lt 15, 3) := by decide +kernel
theorem s44_4 (d : Nat) (l0 : Value) (l1 : Value) (x : Int32) (σ : Hs) : ru d 44 4 [l0, l1] [.int x] σ = if x < 0 then ru d 44 19 [l0, l1] [] σ else ru d 44 7 [l0, l1] [] σ := q_if_lt t44_4 (by decide +kernel)
theorem t44_7 : decode (mb 44) 7 = .ok (.aload_n 0, 1) := by decide +kernel
theorem s44_7 (d : Nat) (a0 : Nat) (l1 : Value) (σ : Hs) : ru d 44 7 [.ref a0, l1] [] σ = ru d 44 8 [.ref a0, l1] [.ref a0] σ := q_aload_n t44_7 rfl
theorem t44_8 : decode (mb 44) 8 = .ok (.getfield 19, 3) := by decide +kernel
theorem s44_8_o22 (d : Nat) (l0 : Value) (l1 : Value) (σ : Hs) : ru d 44 8 [l0, l1] [.ref 22] σ = ru d 44 11 [l0, l1] [.int (σ 22 1)] σ := q_getf t44_8 mo44 F3_19 rfl rfl
theorem s44_8_o24 (d : Nat) (l0 : Value) (l1 : Value) (σ : Hs) : ru d 44 8 [l0, l1] [.ref 24] σ = ru d 44 11 [l0, l1] [.int (σ 24 1)] σ := q_getf t44_8 mo44 F3_19 rfl rfl
theorem s44_8_o26 (d : Nat) (l0 : Value) (l1 : Value) (σ : Hs) : ru d 44 8 [l0, l1] [.ref 26] σ = ru d 44 11 [l0, l1] [.int (σ 26 1)] σ := q_getf t44_8 mo44 F3_19 rfl rfl
theorem s44_8_o28 (d : Nat) (l0 : Value) (l1 : Value) (σ : Hs) : ru d 44 8 [l0, l1] [.ref 28] σ = ru d 44 11 [l0, l1] [.int (σ 28 1)] σ := q_getf t44_8 mo44 F3_19 rfl rfl
theorem s44_8_o71 (d : Nat) (l0 : Value) (l1 : Value) (σ : Hs) : ru d 44 8 [l0, l1] [.ref 71] σ = ru d 44 11 [l0, l1] [.int (σ 71 1)] σ := q_getf t44_8 mo44 F3_19 rfl rfl
theorem s44_8_o74 (d : Nat) (l0 : Value) (l1 : Value) (σ : Hs) : ru d 44 8 [l0, l1] [.ref 74] σ = ru d 44 11 [l0, l1] [.int (σ 74 1)] σ := q_getf t44_8 mo44 F3_19 rfl rfl
theorem t44_11 : decode (mb 44) 11 = .ok (.aload_n 0, 1) := by decide +kernel
theorem s44_11 (d : Nat) (a0 : Nat) (l1 : Value) (w0 : Value) (σ : Hs) : ru d 44 11 [.ref a0, l1] [w0] σ = ru d 44 12 [.ref a0, l1] [.ref a0, w0] σ := q_aload_n t44_11 rfl
theorem t44_12 : decode (mb 44) 12 = .ok (.getfield 13, 3) := by decide +kernel
theorem s44_12_o22 (d : Nat) (l0 : Value) (l1 : Value) (w0 : Value) (σ : Hs) : ru d 44 12 [l0, l1] [.ref 22, w0] σ = ru d 44 15 [l0, l1] [.ref 23, w0] σ := q_getf t44_12 mo44 F3_13 rfl rfl
theorem s44_12_o24 (d : Nat) (l0 : Value) (l1 : Value) (w0 : Value) (σ : Hs) : ru d 44 12 [l0, l1] [.ref 24, w0] σ = ru d 44 15 [l0, l1] [.ref 25, w0] σ := q_getf t44_12 mo44 F3_13 rfl rfl
theorem s44_12_o26 (d : Nat) (l0 : Value) (l1 : Value) (w0 : Value) (σ : Hs) : ru d 44 12 [l0, l1] [.ref 26, w0] σ = ru d 44 15 [l0, l1] [.ref 27, w0] σ := q_getf t44_12 mo44 F3_13 rfl rfl
theorem s44_12_o28 (d : Nat) (l0 : Value) (l1 : Value) (w0 : Value) (σ : Hs) : ru d 44 12 [l0, l1] [.ref 28, w0] σ = ru d 44 15 [l0, l1] [.ref 29, w0] σ := q_getf t44_12 mo44 F3_13 rfl rfl
theorem s44_12_o71 (d : Nat) (l0 : Value) (l1 : Value) (w0 : Value) (σ : Hs) : ru d 44 12 [l0, l1] [.ref 71, w0] σ = ru d 44 15 [l0, l1] [.ref 72, w0] σ := q_getf t44_12 mo44 F3_13 rfl rfl
theorem s44_12_o74 (d : Nat) (l0 : Value) (l1 : Value) (w0 : Value) (σ : Hs) : ru d 44 12 [l0, l1] [.ref 74, w0] σ = ru d 44 15 [l0, l1] [.ref 75, w0] σ := q_getf t44_12 mo44 F3_13 rfl rfl
theorem t44_15 : decode (mb 44) 15 = .ok (.arraylength, 1) := by decide +kernel
theorem s44_15_o23 (d : Nat) (l0 : Value) (l1 : Value) (w0 : Value) (σ : Hs) : ru d 44 15 [l0, l1] [.ref 23, w0] σ = ru d 44 16 [l0, l1] [.int 60, w0] σ := q_alei t44_15 (by decide +kernel) rfl (by decide +kernel)
theorem s44_15_o25 (d : Nat) (l0 : Value) (l1 : Value) (w0 : Value) (σ : Hs) : ru d 44 15 [l0, l1] [.ref 25, w0] σ = ru d 44 16 [l0, l1] [.int 12, w0] σ := q_alei t44_15 (by decide +kernel) rfl (by decide +kernel)
theorem s44_15_o27 (d : Nat) (l0 : Value) (l1 : Value) (w0 : Value) (σ : Hs) : ru d 44 15 [l0, l1] [.ref 27, w0] σ = ru d 44 16 [l0, l1] [.int 12, w0] σ := q_alei t44_15 (by decide +kernel) rfl (by decide +kernel)
theorem s44_15_o29 (d : Nat) (l0 : Value) (l1 : Value) (w0 : Value) (σ : Hs) : ru d 44 15 [l0, l1] [.ref 29, w0] σ = ru d 44 16 [l0, l1] [.int 24, w0] σ := q_alei t44_15 (by decide +kernel) rfl (by decide +kernel)
theorem s44_15_o72 (d : Nat) (l0 : Value) (l1 : Value) (w0 : Value) (σ : Hs) : ru d 44 15 [l0, l1] [.ref 72, w0] σ = ru d 44 16 [l0, l1] [.int 60, w0] σ := q_alei t44_15 (by decide +kernel) rfl (by decide +kernel)
theorem s44_15_o75 (d : Nat) (l0 : Value) (l1 : Value) (w0 : Value) (σ : Hs) : ru d 44 15 [l0, l1] [.ref 75, w0] σ = ru d 44 16 [l0, l1] [.int 30, w0] σ := q_alei t44_15 (by decide +kernel) rfl (by decide +kernel)
theorem t44_16 : decode (mb 44) 16 = .ok (.if_icmp .lt 5, 3) := by decide +kernel
theorem s44_16 (d : Nat) (l0 : Value) (l1 : Value) (x y : Int32) (σ : Hs) : ru d 44 16 [l0, l1] [.int y, .int x] σ = if x < y then ru d 44 21 [l0, l1] [] σ else ru d 44 19 [l0, l1] [] σ := q_ic_lt t44_16 (by decide +kernel)
theorem t44_19 : decode (mb 44) 19 = .ok (.iconst 0, 1) := by decide +kernel
theorem s44_19 (d : Nat) (l0 : Value) (l1 : Value) (σ : Hs) : ru d 44 19 [l0, l1] [] σ = ru d 44 20 [l0, l1] [.int 0] σ := q_iconst t44_19 (by decide +kernel)
theorem t44_20 : decode (mb 44) 20 = .ok (.ireturn, 1) := by decide +kernel
theorem s44_20 (d : Nat) (l0 : Value) (l1 : Value) (x : Int32) (hx : isB x) (σ : Hs) : ru d 44 20 [l0, l1] [.int x] σ = some (some (.int x), σ) := q_iretz t44_20 mr44 hx
theorem t44_21 : decode (mb 44) 21 = .ok (.aload_n 0, 1) := by decide +kernel
theorem s44_21 (d : Nat) (a0 : Nat) (l1 : Value) (σ : Hs) : ru d 44 21 [.ref a0, l1] [] σ = ru d 44 22 [.ref a0, l1] [.ref a0] σ := q_aload_n t44_21 rfl
theorem t44_22 : decode (mb 44) 22 = .ok (.getfield 13, 3) := by decide +kernel
theorem s44_22_o22 (d : Nat) (l0 : Value) (l1 : Value) (σ : Hs) : ru d 44 22 [l0, l1] [.ref 22] σ = ru d 44 25 [l0, l1] [.ref 23] σ := q_getf t44_22 mo44 F3_13 rfl rfl
theorem s44_22_o24 (d : Nat) (l0 : Value) (l1 : Value) (σ : Hs) : ru d 44 22 [l0, l1] [.ref 24] σ = ru d 44 25 [l0, l1] [.ref 25] σ := q_getf t44_22 mo44 F3_13 rfl rfl
theorem s44_22_o26 (d : Nat) (l0 : Value) (l1 : Value) (σ : Hs) : ru d 44 22 [l0, l1] [.ref 26] σ = ru d 44 25 [l0, l1] [.ref 27] σ := q_getf t44_22 mo44 F3_13 rfl rfl
theorem s44_22_o28 (d : Nat) (l0 : Value) (l1 : Value) (σ : Hs) : ru d 44 22 [l0, l1] [.ref 28] σ = ru d 44 25 [l0, l1] [.ref 29] σ := q_getf t44_22 mo44 F3_13 rfl rfl
theorem s44_22_o71 (d : Nat) (l0 : Value) (l1 : Value) (σ : Hs) : ru d 44 22 [l0, l1] [.ref 71] σ = ru d 44 25 [l0, l1] [.ref 72] σ := q_getf t44_22 mo44 F3_13 rfl rfl
theorem s44_22_o74 (d : Nat) (l0 : Value) (l1 : Value) (σ : Hs) : ru d 44 22 [l0, l1] [.ref 74] σ = ru d 44 25 [l0, l1] [.ref 75] σ := q_getf t44_22 mo44 F3_13 rfl rfl
theorem t44_25 : decode (mb 44) 25 = .ok (.aload_n 0, 1) := by decide +kernel
theorem s44_25 (d : Nat) (a0 : Nat) (l1 : Value) (w0 : Value) (σ : Hs) : ru d 44 25 [.ref a0, l1] [w0] σ = ru d 44 26 [.ref a0, l1] [.ref a0, w0] σ := q_aload_n t44_25 rfl
theorem t44_26 : decode (mb 44) 26 = .ok (.getfield 19, 3) := by decide +kernel
theorem s44_26_o22 (d : Nat) (l0 : Value) (l1 : Value) (w0 : Value) (σ : Hs) : ru d 44 26 [l0, l1] [.ref 22, w0] σ = ru d 44 29 [l0, l1] [.int (σ 22 1), w0] σ := q_getf t44_26 mo44 F3_19 rfl rfl
theorem s44_26_o24 (d : Nat) (l0 : Value) (l1 : Value) (w0 : Value) (σ : Hs) : ru d 44 26 [l0, l1] [.ref 24, w0] σ = ru d 44 29 [l0, l1] [.int (σ 24 1), w0] σ := q_getf t44_26 mo44 F3_19 rfl rfl
theorem s44_26_o26 (d : Nat) (l0 : Value) (l1 : Value) (w0 : Value) (σ : Hs) : ru d 44 26 [l0, l1] [.ref 26, w0] σ = ru d 44 29 [l0, l1] [.int (σ 26 1), w0] σ := q_getf t44_26 mo44 F3_19 rfl rfl
theorem s44_26_o28 (d : Nat) (l0 : Value) (l1 : Value) (w0 : Value) (σ : Hs) : ru d 44 26 [l0, l1] [.ref 28, w0] σ = ru d 44 29 [l0, l1] [.int (σ 28 1), w0] σ := q_getf t44_26 mo44 F3_19 rfl rfl
theorem s44_26_o71 (d : Nat) (l0 : Value) (l1 : Value) (w0 : Value) (σ : Hs) : ru d 44 26 [l0, l1] [.ref 71, w0] σ = ru d 44 29 [l0, l1] [.int (σ 71 1), w0] σ := q_getf t44_26 mo44 F3_19 rfl rfl
theorem s44_26_o74 (d : Nat) (l0 : Value) (l1 : Value) (w0 : Value) (σ : Hs) : ru d 44 26 [l0, l1] [.ref 74, w0] σ = ru d 44 29 [l0, l1] [.int (σ 74 1), w0] σ := q_getf t44_26 mo44 F3_19 rfl rfl
theorem t44_29 : decode (mb 44) 29 = .ok (.iload_n 1, 1) := by decide +kernel
theorem s44_29 (d : Nat) (l0 : Value) (i1 : Int32) (w0 w1 : Value) (σ : Hs) : ru d 44 29 [l0, .int i1] [w0, w1] σ = ru d 44 30 [l0, .int i1] [.int i1, w0, w1] σ := q_iload_n t44_29 rfl
theorem t44_30 : decode (mb 44) 30 = .ok (.iastore, 1) := by decide +kernel
theorem s44_30_o23 (d : Nat) (l0 : Value) (l1 : Value) (i x : Int32) (σ : Hs) : ru d 44 30 [l0, l1] [.int x, .int i, .ref 23] σ = gd (vp_in i 60) (ru d 44 31 [l0, l1] [] (up2 σ 23 i.toNatClampNeg x)) := q_iast t44_30 (by decide +kernel) rfl rfl
theorem s44_30_o25 (d : Nat) (l0 : Value) (l1 : Value) (i x : Int32) (σ : Hs) : ru d 44 30 [l0, l1] [.int x, .int i, .ref 25] σ = gd (vp_in i 12) (ru d 44 31 [l0, l1] [] (up2 σ 25 i.toNatClampNeg x)) := q_iast t44_30 (by decide +kernel) rfl rfl
theorem s44_30_o27 (d : Nat) (l0 : Value) (l1 : Value) (i x : Int32) (σ : Hs) : ru d 44 30 [l0, l1] [.int x, .int i, .ref 27] σ = gd (vp_in i 12) (ru d 44 31 [l0, l1] [] (up2 σ 27 i.toNatClampNeg x)) := q_iast t44_30 (by decide +kernel) rfl rfl
theorem s44_30_o29 (d : Nat) (l0 : Value) (l1 : Value) (i x : Int32) (σ : Hs) : ru d 44 30 [l0, l1] [.int x, .int i, .ref 29] σ = gd (vp_in i 24) (ru d 44 31 [l0, l1] [] (up2 σ 29 i.toNatClampNeg x)) := q_iast t44_30 (by decide +kernel) rfl rfl
theorem s44_30_o72 (d : Nat) (l0 : Value) (l1 : Value) (i x : Int32) (σ : Hs) : ru d 44 30 [l0, l1] [.int x, .int i, .ref 72] σ = gd (vp_in i 60) (ru d 44 31 [l0, l1] [] (up2 σ 72 i.toNatClampNeg x)) := q_iast t44_30 (by decide +kernel) rfl rfl
theorem s44_30_o75 (d : Nat) (l0 : Value) (l1 : Value) (i x : Int32) (σ : Hs) : ru d 44 30 [l0, l1] [.int x, .int i, .ref 75] σ = gd (vp_in i 30) (ru d 44 31 [l0, l1] [] (up2 σ 75 i.toNatClampNeg x)) := q_iast t44_30 (by decide +kernel) rfl rfl
theorem t44_31 : decode (mb 44) 31 = .ok (.aload_n 0, 1) := by decide +kernel
theorem s44_31 (d : Nat) (a0 : Nat) (l1 : Value) (σ : Hs) : ru d 44 31 [.ref a0, l1] [] σ = ru d 44 32 [.ref a0, l1] [.ref a0] σ := q_aload_n t44_31 rfl
theorem t44_32 : decode (mb 44) 32 = .ok (.dup, 1) := by decide +kernel
theorem s44_32 (d : Nat) (l0 : Value) (l1 : Value) (x : Nat) (σ : Hs) : ru d 44 32 [l0, l1] [.ref x] σ = ru d 44 33 [l0, l1] [.ref x, .ref x] σ := q_dup t44_32 rfl
theorem t44_33 : decode (mb 44) 33 = .ok (.getfield 19, 3) := by decide +kernel
theorem s44_33_o22 (d : Nat) (l0 : Value) (l1 : Value) (w0 : Value) (σ : Hs) : ru d 44 33 [l0, l1] [.ref 22, w0] σ = ru d 44 36 [l0, l1] [.int (σ 22 1), w0] σ := q_getf t44_33 mo44 F3_19 rfl rfl
theorem s44_33_o24 (d : Nat) (l0 : Value) (l1 : Value) (w0 : Value) (σ : Hs) : ru d 44 33 [l0, l1] [.ref 24, w0] σ = ru d 44 36 [l0, l1] [.int (σ 24 1), w0] σ := q_getf t44_33 mo44 F3_19 rfl rfl
theorem s44_33_o26 (d : Nat) (l0 : Value) (l1 : Value) (w0 : Value) (σ : Hs) : ru d 44 33 [l0, l1] [.ref 26, w0] σ = ru d 44 36 [l0, l1] [.int (σ 26 1), w0] σ := q_getf t44_33 mo44 F3_19 rfl rfl
theorem s44_33_o28 (d : Nat) (l0 : Value) (l1 : Value) (w0 : Value) (σ : Hs) : ru d 44 33 [l0, l1] [.ref 28, w0] σ = ru d 44 36 [l0, l1] [.int (σ 28 1), w0] σ := q_getf t44_33 mo44 F3_19 rfl rfl
theorem s44_33_o71 (d : Nat) (l0 : Value) (l1 : Value) (w0 : Value) (σ : Hs) : ru d 44 33 [l0, l1] [.ref 71, w0] σ = ru d 44 36 [l0, l1] [.int (σ 71 1), w0] σ := q_getf t44_33 mo44 F3_19 rfl rfl
theorem s44_33_o74 (d : Nat) (l0 : Value) (l1 : Value) (w0 : Value) (σ : Hs) : ru d 44 33 [l0, l1] [.ref 74, w0] σ = ru d 44 36 [l0, l1] [.int (σ 74 1), w0] σ := q_getf t44_33 mo44 F3_19 rfl rfl
theorem t44_36 : decode (mb 44) 36 = .ok (.iconst 1, 1) := by decide +kernel
theorem s44_36 (d : Nat) (l0 : Value) (l1 : Value) (w0 w1 : Value) (σ : Hs) : ru d 44 36 [l0, l1] [w0, w1] σ = ru d 44 37 [l0, l1] [.int 1, w0, w1] σ := q_iconst t44_36 (by decide +kernel)
theorem t44_37 : decode (mb 44) 37 = .ok (.iadd, 1) := by decide +kernel
theorem s44_37 (d : Nat) (l0 : Value) (l1 : Value) (x y : Int32) (w0 : Value) (σ : Hs) : ru d 44 37 [l0, l1] [.int y, .int x, w0] σ = ru d 44 38 [l0, l1] [.int (x + y), w0] σ := q_iadd t44_37
theorem t44_38 : decode (mb 44) 38 = .ok (.putfield 19, 3) := by decide +kernel
theorem s44_38_o22 (d : Nat) (l0 : Value) (l1 : Value) (x : Int32) (σ : Hs) : ru d 44 38 [l0, l1] [.int x, .ref 22] σ = ru d 44 41 [l0, l1] [] (up2 σ 22 1 x) := q_puti t44_38 mo44 F3_19 (by decide +kernel) rfl rfl
theorem s44_38_o24 (d : Nat) (l0 : Value) (l1 : Value) (x : Int32) (σ : Hs) : ru d 44 38 [l0, l1] [.int x, .ref 24] σ = ru d 44 41 [l0, l1] [] (up2 σ 24 1 x) := q_puti t44_38 mo44 F3_19 (by decide +kernel) rfl rfl
theorem s44_38_o26 (d : Nat) (l0 : Value) (l1 : Value) (x : Int32) (σ : Hs) : ru d 44 38 [l0, l1] [.int x, .ref 26] σ = ru d 44 41 [l0, l1] [] (up2 σ 26 1 x) := q_puti t44_38 mo44 F3_19 (by decide +kernel) rfl rfl
theorem s44_38_o28 (d : Nat) (l0 : Value) (l1 : Value) (x : Int32) (σ : Hs) : ru d 44 38 [l0, l1] [.int x, .ref 28] σ = ru d 44 41 [l0, l1] [] (up2 σ 28 1 x) := q_puti t44_38 mo44 F3_19 (by decide +kernel) rfl rfl
theorem s44_38_o71 (d : Nat) (l0 : Value) (l1 : Value) (x : Int32) (σ : Hs) : ru d 44 38 [l0, l1] [.int x, .ref 71] σ = ru d 44 41 [l0, l1] [] (up2 σ 71 1 x) := q_puti t44_38 mo44 F3_19 (by decide +kernel) rfl rfl
theorem s44_38_o74 (d : Nat) (l0 : Value) (l1 : Value) (x : Int32) (σ : Hs) : ru d 44 38 [l0, l1] [.int x, .ref 74] σ = ru d 44 41 [l0, l1] [] (up2 σ 74 1 x) := q_puti t44_38 mo44 F3_19 (by decide +kernel) rfl rfl
theorem t44_41 : decode (mb 44) 41 = .ok (.iconst 1, 1) := by decide +kernel
theorem s44_41 (d : Nat) (l0 : Value) (l1 : Value) (σ : Hs) : ru d 44 41 [l0, l1] [] σ = ru d 44 42 [l0, l1] [.int 1] σ := q_iconst t44_41 (by decide +kernel)
theorem t44_42 : decode (mb 44) 42 = .ok (.ireturn, 1) := by decide +kernel
theorem s44_42 (d : Nat) (l0 : Value) (l1 : Value) (x : Int32) (hx : isB x) (σ : Hs) : ru d 44 42 [l0, l1] [.int x] σ = some (some (.int x), σ) := q_iretz t44_42 mr44 hx
theorem c44 (d : Nat) (x0 : Nat) (x1 : Int32) (σ : Hs) : callD (d + 1) 44 [.ref x0, .int x1] σ = ru d 44 0 [.ref x0, .int x1] [] σ := callD_ru ml44 rfl rfl (Nat.le_of_ble_eq_true rfl)
-- 45: Row.copyFrom(LSmokyHeap$Row;)V
theorem t45_0 : decode (mb 45) 0 = .ok (.aload_n 0, 1) := by decide +kernel
theorem s45_0 (d : Nat) (a0 : Nat) (l1 : Value) (l2 : Value) (σ : Hs) : ru d 45 0 [.ref a0, l1, l2] [] σ = ru d 45 1 [.ref a0, l1, l2] [.ref a0] σ := q_aload_n t45_0 rfl
theorem t45_1 : decode (mb 45) 1 = .ok (.aload_n 1, 1) := by decide +kernel
theorem s45_1 (d : Nat) (l0 : Value) (a1 : Nat) (l2 : Value) (w0 : Value) (σ : Hs) : ru d 45 1 [l0, .ref a1, l2] [w0] σ = ru d 45 2 [l0, .ref a1, l2] [.ref a1, w0] σ := q_aload_n t45_1 rfl
theorem t45_2 : decode (mb 45) 2 = .ok (.getfield 19, 3) := by decide +kernel
theorem s45_2_o16 (d : Nat) (l0 : Value) (l1 : Value) (l2 : Value) (w0 : Value) (σ : Hs) : ru d 45 2 [l0, l1, l2] [.ref 16, w0] σ = ru d 45 5 [l0, l1, l2] [.int (σ 16 1), w0] σ := q_getf t45_2 mo45 F3_19 rfl rfl
theorem s45_2_o18 (d : Nat) (l0 : Value) (l1 : Value) (l2 : Value) (w0 : Value) (σ : Hs) : ru d 45 2 [l0, l1, l2] [.ref 18, w0] σ = ru d 45 5 [l0, l1, l2] [.int (σ 18 1), w0] σ := q_getf t45_2 mo45 F3_19 rfl rfl
theorem s45_2_o20 (d : Nat) (l0 : Value) (l1 : Value) (l2 : Value) (w0 : Value) (σ : Hs) : ru d 45 2 [l0, l1, l2] [.ref 20, w0] σ = ru d 45 5 [l0, l1, l2] [.int (σ 20 1), w0] σ := q_getf t45_2 mo45 F3_19 rfl rfl
theorem s45_2_o22 (d : Nat) (l0 : Value) (l1 : Value) (l2 : Value) (w0 : Value) (σ : Hs) : ru d 45 2 [l0, l1, l2] [.ref 22, w0] σ = ru d 45 5 [l0, l1, l2] [.int (σ 22 1), w0] σ := q_getf t45_2 mo45 F3_19 rfl rfl
theorem s45_2_o24 (d : Nat) (l0 : Value) (l1 : Value) (l2 : Value) (w0 : Value) (σ : Hs) : ru d 45 2 [l0, l1, l2] [.ref 24, w0] σ = ru d 45 5 [l0, l1, l2] [.int (σ 24 1), w0] σ := q_getf t45_2 mo45 F3_19 rfl rfl
theorem s45_2_o26 (d : Nat) (l0 : Value) (l1 : Value) (l2 : Value) (w0 : Value) (σ : Hs) : ru d 45 2 [l0, l1, l2] [.ref 26, w0] σ = ru d 45 5 [l0, l1, l2] [.int (σ 26 1), w0] σ := q_getf t45_2 mo45 F3_19 rfl rfl
theorem s45_2_o28 (d : Nat) (l0 : Value) (l1 : Value) (l2 : Value) (w0 : Value) (σ : Hs) : ru d 45 2 [l0, l1, l2] [.ref 28, w0] σ = ru d 45 5 [l0, l1, l2] [.int (σ 28 1), w0] σ := q_getf t45_2 mo45 F3_19 rfl rfl
theorem s45_2_o45 (d : Nat) (l0 : Value) (l1 : Value) (l2 : Value) (w0 : Value) (σ : Hs) : ru d 45 2 [l0, l1, l2] [.ref 45, w0] σ = ru d 45 5 [l0, l1, l2] [.int (σ 45 1), w0] σ := q_getf t45_2 mo45 F3_19 rfl rfl
theorem s45_2_o47 (d : Nat) (l0 : Value) (l1 : Value) (l2 : Value) (w0 : Value) (σ : Hs) : ru d 45 2 [l0, l1, l2] [.ref 47, w0] σ = ru d 45 5 [l0, l1, l2] [.int (σ 47 1), w0] σ := q_getf t45_2 mo45 F3_19 rfl rfl
theorem s45_2_o49 (d : Nat) (l0 : Value) (l1 : Value) (l2 : Value) (w0 : Value) (σ : Hs) : ru d 45 2 [l0, l1, l2] [.ref 49, w0] σ = ru d 45 5 [l0, l1, l2] [.int (σ 49 1), w0] σ := q_getf t45_2 mo45 F3_19 rfl rfl
theorem s45_2_o51 (d : Nat) (l0 : Value) (l1 : Value) (l2 : Value) (w0 : Value) (σ : Hs) : ru d 45 2 [l0, l1, l2] [.ref 51, w0] σ = ru d 45 5 [l0, l1, l2] [.int (σ 51 1), w0] σ := q_getf t45_2 mo45 F3_19 rfl rfl
theorem s45_2_o53 (d : Nat) (l0 : Value) (l1 : Value) (l2 : Value) (w0 : Value) (σ : Hs) : ru d 45 2 [l0, l1, l2] [.ref 53, w0] σ = ru d 45 5 [l0, l1, l2] [.int (σ 53 1), w0] σ := q_getf t45_2 mo45 F3_19 rfl rfl
theorem s45_2_o55 (d : Nat) (l0 : Value) (l1 : Value) (l2 : Value) (w0 : Value) (σ : Hs) : ru d 45 2 [l0, l1, l2] [.ref 55, w0] σ = ru d 45 5 [l0, l1, l2] [.int (σ 55 1), w0] σ := q_getf t45_2 mo45 F3_19 rfl rfl
theorem s45_2_o57 (d : Nat) (l0 : Value) (l1 : Value) (l2 : Value) (w0 : Value) (σ : Hs) : ru d 45 2 [l0, l1, l2] [.ref 57, w0] σ = ru d 45 5 [l0, l1, l2] [.int (σ 57 1), w0] σ := q_getf t45_2 mo45 F3_19 rfl rfl
theorem s45_2_o71 (d : Nat) (l0 : Value) (l1 : Value) (l2 : Value) (w0 : Value) (σ : Hs) : ru d 45 2 [l0, l1, l2] [.ref 71, w0] σ = ru d 45 5 [l0, l1, l2] [.int (σ 71 1), w0] σ := q_getf t45_2 mo45 F3_19 rfl rfl
theorem t45_5 : decode (mb 45) 5 = .ok (.aload_n 0, 1) := by decide +kernel
theorem s45_5 (d : Nat) (a0 : Nat) (l1 : Value) (l2 : Value) (w0 w1 : Value) (σ : Hs) : ru d 45 5 [.ref a0, l1, l2] [w0, w1] σ = ru d 45 6 [.ref a0, l1, l2] [.ref a0, w0, w1] σ := q_aload_n t45_5 rfl
theorem t45_6 : decode (mb 45) 6 = .ok (.getfield 13, 3) := by decide +kernel
theorem s45_6_o16 (d : Nat) (l0 : Value) (l1 : Value) (l2 : Value) (w0 w1 : Value) (σ : Hs) : ru d 45 6 [l0, l1, l2] [.ref 16, w0, w1] σ = ru d 45 9 [l0, l1, l2] [.ref 17, w0, w1] σ := q_getf t45_6 mo45 F3_13 rfl rfl
theorem s45_6_o18 (d : Nat) (l0 : Value) (l1 : Value) (l2 : Value) (w0 w1 : Value) (σ : Hs) : ru d 45 6 [l0, l1, l2] [.ref 18, w0, w1] σ = ru d 45 9 [l0, l1, l2] [.ref 19, w0, w1] σ := q_getf t45_6 mo45 F3_13 rfl rfl
theorem s45_6_o20 (d : Nat) (l0 : Value) (l1 : Value) (l2 : Value) (w0 w1 : Value) (σ : Hs) : ru d 45 6 [l0, l1, l2] [.ref 20, w0, w1] σ = ru d 45 9 [l0, l1, l2] [.ref 21, w0, w1] σ := q_getf t45_6 mo45 F3_13 rfl rfl
theorem s45_6_o22 (d : Nat) (l0 : Value) (l1 : Value) (l2 : Value) (w0 w1 : Value) (σ : Hs) : ru d 45 6 [l0, l1, l2] [.ref 22, w0, w1] σ = ru d 45 9 [l0, l1, l2] [.ref 23, w0, w1] σ := q_getf t45_6 mo45 F3_13 rfl rfl
theorem s45_6_o24 (d : Nat) (l0 : Value) (l1 : Value) (l2 : Value) (w0 w1 : Value) (σ : Hs) : ru d 45 6 [l0, l1, l2] [.ref 24, w0, w1] σ = ru d 45 9 [l0, l1, l2] [.ref 25, w0, w1] σ := q_getf t45_6 mo45 F3_13 rfl rfl
theorem s45_6_o26 (d : Nat) (l0 : Value) (l1 : Value) (l2 : Value) (w0 w1 : Value) (σ : Hs) : ru d 45 6 [l0, l1, l2] [.ref 26, w0, w1] σ = ru d 45 9 [l0, l1, l2] [.ref 27, w0, w1] σ := q_getf t45_6 mo45 F3_13 rfl rfl
theorem s45_6_o28 (d : Nat) (l0 : Value) (l1 : Value) (l2 : Value) (w0 w1 : Value) (σ : Hs) : ru d 45 6 [l0, l1, l2] [.ref 28, w0, w1] σ = ru d 45 9 [l0, l1, l2] [.ref 29, w0, w1] σ := q_getf t45_6 mo45 F3_13 rfl rfl
theorem s45_6_o45 (d : Nat) (l0 : Value) (l1 : Value) (l2 : Value) (w0 w1 : Value) (σ : Hs) : ru d 45 6 [l0, l1, l2] [.ref 45, w0, w1] σ = ru d 45 9 [l0, l1, l2] [.ref 46, w0, w1] σ := q_getf t45_6 mo45 F3_13 rfl rfl
theorem s45_6_o47 (d : Nat) (l0 : Value) (l1 : Value) (l2 : Value) (w0 w1 : Value) (σ : Hs) : ru d 45 6 [l0, l1, l2] [.ref 47, w0, w1] σ = ru d 45 9 [l0, l1, l2] [.ref 48, w0, w1] σ := q_getf t45_6 mo45 F3_13 rfl rfl
theorem s45_6_o49 (d : Nat) (l0 : Value) (l1 : Value) (l2 : Value) (w0 w1 : Value) (σ : Hs) : ru d 45 6 [l0, l1, l2] [.ref 49, w0, w1] σ = ru d 45 9 [l0, l1, l2] [.ref 50, w0, w1] σ := q_getf t45_6 mo45 F3_13 rfl rfl
theorem s45_6_o51 (d : Nat) (l0 : Value) (l1 : Value) (l2 : Value) (w0 w1 : Value) (σ : Hs) : ru d 45 6 [l0, l1, l2] [.ref 51, w0, w1] σ = ru d 45 9 [l0, l1, l2] [.ref 52, w0, w1] σ := q_getf t45_6 mo45 F3_13 rfl rfl
theorem s45_6_o53 (d : Nat) (l0 : Value) (l1 : Value) (l2 : Value) (w0 w1 : Value) (σ : Hs) : ru d 45 6 [l0, l1, l2] [.ref 53, w0, w1] σ = ru d 45 9 [l0, l1, l2] [.ref 54, w0, w1] σ := q_getf t45_6 mo45 F3_13 rfl rfl
theorem s45_6_o55 (d : Nat) (l0 : Value) (l1 : Value) (l2 : Value) (w0 w1 : Value) (σ : Hs) : ru d 45 6 [l0, l1, l2] [.ref 55, w0, w1] σ = ru d 45 9 [l0, l1, l2] [.ref 56, w0, w1] σ := q_getf t45_6 mo45 F3_13 rfl rfl
theorem s45_6_o57 (d : Nat) (l0 : Value) (l1 : Value) (l2 : Value) (w0 w1 : Value) (σ : Hs) : ru d 45 6 [l0, l1, l2] [.ref 57, w0, w1] σ = ru d 45 9 [l0, l1, l2] [.ref 58, w0, w1] σ := q_getf t45_6 mo45 F3_13 rfl rfl
theorem t45_9 : decode (mb 45) 9 = .ok (.arraylength, 1) := by decide +kernel
theorem s45_9_o17 (d : Nat) (l0 : Value) (l1 : Value) (l2 : Value) (w0 w1 : Value) (σ : Hs) : ru d 45 9 [l0, l1, l2] [.ref 17, w0, w1] σ = ru d 45 10 [l0, l1, l2] [.int 60, w0, w1] σ := q_alei t45_9 (by decide +kernel) rfl (by decide +kernel)
theorem s45_9_o19 (d : Nat) (l0 : Value) (l1 : Value) (l2 : Value) (w0 w1 : Value) (σ : Hs) : ru d 45 9 [l0, l1, l2] [.ref 19, w0, w1] σ = ru d 45 10 [l0, l1, l2] [.int 60, w0, w1] σ := q_alei t45_9 (by decide +kernel) rfl (by decide +kernel)
theorem s45_9_o21 (d : Nat) (l0 : Value) (l1 : Value) (l2 : Value) (w0 w1 : Value) (σ : Hs) : ru d 45 9 [l0, l1, l2] [.ref 21, w0, w1] σ = ru d 45 10 [l0, l1, l2] [.int 60, w0, w1] σ := q_alei t45_9 (by decide +kernel) rfl (by decide +kernel)
theorem s45_9_o23 (d : Nat) (l0 : Value) (l1 : Value) (l2 : Value) (w0 w1 : Value) (σ : Hs) : ru d 45 9 [l0, l1, l2] [.ref 23, w0, w1] σ = ru d 45 10 [l0, l1, l2] [.int 60, w0, w1] σ := q_alei t45_9 (by decide +kernel) rfl (by decide +kernel)
theorem s45_9_o25 (d : Nat) (l0 : Value) (l1 : Value) (l2 : Value) (w0 w1 : Value) (σ : Hs) : ru d 45 9 [l0, l1, l2] [.ref 25, w0, w1] σ = ru d 45 10 [l0, l1, l2] [.int 12, w0, w1] σ := q_alei t45_9 (by decide +kernel) rfl (by decide +kernel)
theorem s45_9_o27 (d : Nat) (l0 : Value) (l1 : Value) (l2 : Value) (w0 w1 : Value) (σ : Hs) : ru d 45 9 [l0, l1, l2] [.ref 27, w0, w1] σ = ru d 45 10 [l0, l1, l2] [.int 12, w0, w1] σ := q_alei t45_9 (by decide +kernel) rfl (by decide +kernel)
theorem s45_9_o29 (d : Nat) (l0 : Value) (l1 : Value) (l2 : Value) (w0 w1 : Value) (σ : Hs) : ru d 45 9 [l0, l1, l2] [.ref 29, w0, w1] σ = ru d 45 10 [l0, l1, l2] [.int 24, w0, w1] σ := q_alei t45_9 (by decide +kernel) rfl (by decide +kernel)
theorem s45_9_o46 (d : Nat) (l0 : Value) (l1 : Value) (l2 : Value) (w0 w1 : Value) (σ : Hs) : ru d 45 9 [l0, l1, l2] [.ref 46, w0, w1] σ = ru d 45 10 [l0, l1, l2] [.int 60, w0, w1] σ := q_alei t45_9 (by decide +kernel) rfl (by decide +kernel)
theorem s45_9_o48 (d : Nat) (l0 : Value) (l1 : Value) (l2 : Value) (w0 w1 : Value) (σ : Hs) : ru d 45 9 [l0, l1, l2] [.ref 48, w0, w1] σ = ru d 45 10 [l0, l1, l2] [.int 60, w0, w1] σ := q_alei t45_9 (by decide +kernel) rfl (by decide +kernel)
theorem s45_9_o50 (d : Nat) (l0 : Value) (l1 : Value) (l2 : Value) (w0 w1 : Value) (σ : Hs) : ru d 45 9 [l0, l1, l2] [.ref 50, w0, w1] σ = ru d 45 10 [l0, l1, l2] [.int 60, w0, w1] σ := q_alei t45_9 (by decide +kernel) rfl (by decide +kernel)
theorem s45_9_o52 (d : Nat) (l0 : Value) (l1 : Value) (l2 : Value) (w0 w1 : Value) (σ : Hs) : ru d 45 9 [l0, l1, l2] [.ref 52, w0, w1] σ = ru d 45 10 [l0, l1, l2] [.int 60, w0, w1] σ := q_alei t45_9 (by decide +kernel) rfl (by decide +kernel)
theorem s45_9_o54 (d : Nat) (l0 : Value) (l1 : Value) (l2 : Value) (w0 w1 : Value) (σ : Hs) : ru d 45 9 [l0, l1, l2] [.ref 54, w0, w1] σ = ru d 45 10 [l0, l1, l2] [.int 12, w0, w1] σ := q_alei t45_9 (by decide +kernel) rfl (by decide +kernel)
theorem s45_9_o56 (d : Nat) (l0 : Value) (l1 : Value) (l2 : Value) (w0 w1 : Value) (σ : Hs) : ru d 45 9 [l0, l1, l2] [.ref 56, w0, w1] σ = ru d 45 10 [l0, l1, l2] [.int 12, w0, w1] σ := q_alei t45_9 (by decide +kernel) rfl (by decide +kernel)
theorem s45_9_o58 (d : Nat) (l0 : Value) (l1 : Value) (l2 : Value) (w0 w1 : Value) (σ : Hs) : ru d 45 9 [l0, l1, l2] [.ref 58, w0, w1] σ = ru d 45 10 [l0, l1, l2] [.int 24, w0, w1] σ := q_alei t45_9 (by decide +kernel) rfl (by decide +kernel)
theorem t45_10 : decode (mb 45) 10 = .ok (.invokestatic 23, 3) := by decide +kernel
theorem s45_10 (d : Nat) (l0 : Value) (l1 : Value) (l2 : Value) (x y : Int32) (w0 : Nat) (σ : Hs) : ru d 45 10 [l0, l1, l2] [.int y, .int x, .ref w0] σ = ru d 45 13 [l0, l1, l2] [.int (jmin x y), .ref w0] σ := q_mi t45_10 mo45 (by decide +kernel) (by decide +kernel) (by decide +kernel) (Nat.le_of_ble_eq_true rfl)
theorem t45_13 : decode (mb 45) 13 = .ok (.putfield 19, 3) := by decide +kernel
theorem s45_13_o16 (d : Nat) (l0 : Value) (l1 : Value) (l2 : Value) (x : Int32) (σ : Hs) : ru d 45 13 [l0, l1, l2] [.int x, .ref 16] σ = ru d 45 16 [l0, l1, l2] [] (up2 σ 16 1 x) := q_puti t45_13 mo45 F3_19 (by decide +kernel) rfl rfl
theorem s45_13_o18 (d : Nat) (l0 : Value) (l1 : Value) (l2 : Value) (x : Int32) (σ : Hs) : ru d 45 13 [l0, l1, l2] [.int x, .ref 18] σ = ru d 45 16 [l0, l1, l2] [] (up2 σ 18 1 x) := q_puti t45_13 mo45 F3_19 (by decide +kernel) rfl rfl
theorem s45_13_o20 (d : Nat) (l0 : Value) (l1 : Value) (l2 : Value) (x : Int32) (σ : Hs) : ru d 45 13 [l0, l1, l2] [.int x, .ref 20] σ = ru d 45 16 [l0, l1, l2] [] (up2 σ 20 1 x) := q_puti t45_13 mo45 F3_19 (by decide +kernel) rfl rfl
theorem s45_13_o22 (d : Nat) (l0 : Value) (l1 : Value) (l2 : Value) (x : Int32) (σ : Hs) : ru d 45 13 [l0, l1, l2] [.int x, .ref 22] σ = ru d 45 16 [l0, l1, l2] [] (up2 σ 22 1 x) := q_puti t45_13 mo45 F3_19 (by decide +kernel) rfl rfl
theorem s45_13_o24 (d : Nat) (l0 : Value) (l1 : Value) (l2 : Value) (x : Int32) (σ : Hs) : ru d 45 13 [l0, l1, l2] [.int x, .ref 24] σ = ru d 45 16 [l0, l1, l2] [] (up2 σ 24 1 x) := q_puti t45_13 mo45 F3_19 (by decide +kernel) rfl rfl
theorem s45_13_o26 (d : Nat) (l0 : Value) (l1 : Value) (l2 : Value) (x : Int32) (σ : Hs) : ru d 45 13 [l0, l1, l2] [.int x, .ref 26] σ = ru d 45 16 [l0, l1, l2] [] (up2 σ 26 1 x) := q_puti t45_13 mo45 F3_19 (by decide +kernel) rfl rfl
theorem s45_13_o28 (d : Nat) (l0 : Value) (l1 : Value) (l2 : Value) (x : Int32) (σ : Hs) : ru d 45 13 [l0, l1, l2] [.int x, .ref 28] σ = ru d 45 16 [l0, l1, l2] [] (up2 σ 28 1 x) := q_puti t45_13 mo45 F3_19 (by decide +kernel) rfl rfl
theorem s45_13_o45 (d : Nat) (l0 : Value) (l1 : Value) (l2 : Value) (x : Int32) (σ : Hs) : ru d 45 13 [l0, l1, l2] [.int x, .ref 45] σ = ru d 45 16 [l0, l1, l2] [] (up2 σ 45 1 x) := q_puti t45_13 mo45 F3_19 (by decide +kernel) rfl rfl
theorem s45_13_o47 (d : Nat) (l0 : Value) (l1 : Value) (l2 : Value) (x : Int32) (σ : Hs) : ru d 45 13 [l0, l1, l2] [.int x, .ref 47] σ = ru d 45 16 [l0, l1, l2] [] (up2 σ 47 1 x) := q_puti t45_13 mo45 F3_19 (by decide +kernel) rfl rfl
theorem s45_13_o49 (d : Nat) (l0 : Value) (l1 : Value) (l2 : Value) (x : Int32) (σ : Hs) : ru d 45 13 [l0, l1, l2] [.int x, .ref 49] σ = ru d 45 16 [l0, l1, l2] [] (up2 σ 49 1 x) := q_puti t45_13 mo45 F3_19 (by decide +kernel) rfl rfl
theorem s45_13_o51 (d : Nat) (l0 : Value) (l1 : Value) (l2 : Value) (x : Int32) (σ : Hs) : ru d 45 13 [l0, l1, l2] [.int x, .ref 51] σ = ru d 45 16 [l0, l1, l2] [] (up2 σ 51 1 x) := q_puti t45_13 mo45 F3_19 (by decide +kernel) rfl rfl
theorem s45_13_o53 (d : Nat) (l0 : Value) (l1 : Value) (l2 : Value) (x : Int32) (σ : Hs) : ru d 45 13 [l0, l1, l2] [.int x, .ref 53] σ = ru d 45 16 [l0, l1, l2] [] (up2 σ 53 1 x) := q_puti t45_13 mo45 F3_19 (by decide +kernel) rfl rfl
theorem s45_13_o55 (d : Nat) (l0 : Value) (l1 : Value) (l2 : Value) (x : Int32) (σ : Hs) : ru d 45 13 [l0, l1, l2] [.int x, .ref 55] σ = ru d 45 16 [l0, l1, l2] [] (up2 σ 55 1 x) := q_puti t45_13 mo45 F3_19 (by decide +kernel) rfl rfl
theorem s45_13_o57 (d : Nat) (l0 : Value) (l1 : Value) (l2 : Value) (x : Int32) (σ : Hs) : ru d 45 13 [l0, l1, l2] [.int x, .ref 57] σ = ru d 45 16 [l0, l1, l2] [] (up2 σ 57 1 x) := q_puti t45_13 mo45 F3_19 (by decide +kernel) rfl rfl
theorem t45_16 : decode (mb 45) 16 = .ok (.iconst 0, 1) := by decide +kernel
theorem s45_16 (d : Nat) (l0 : Value) (l1 : Value) (l2 : Value) (σ : Hs) : ru d 45 16 [l0, l1, l2] [] σ = ru d 45 17 [l0, l1, l2] [.int 0] σ := q_iconst t45_16 (by decide +kernel)
theorem t45_17 : decode (mb 45) 17 = .ok (.istore_n 2, 1) := by decide +kernel
theorem s45_17 (d : Nat) (l0 : Value) (a1 : Nat) (l2 : Value) (x : Int32) (σ : Hs) : ru d 45 17 [l0, .ref a1, l2] [.int x] σ = ru d 45 18 [l0, .ref a1, .int x] [] σ := q_istore_n t45_17 ⟨Nat.le_of_ble_eq_true rfl, rfl⟩ rfl
theorem t45_18 : decode (mb 45) 18 = .ok (.iload_n 2, 1) := by decide +kernel
theorem s45_18 (d : Nat) (l0 : Value) (l1 : Value) (i2 : Int32) (σ : Hs) : ru d 45 18 [l0, l1, .int i2] [] σ = ru d 45 19 [l0, l1, .int i2] [.int i2] σ := q_iload_n t45_18 rfl
theorem t45_19 : decode (mb 45) 19 = .ok (.aload_n 0, 1) := by decide +kernel
theorem s45_19 (d : Nat) (a0 : Nat) (l1 : Value) (l2 : Value) (w0 : Value) (σ : Hs) : ru d 45 19 [.ref a0, l1, l2] [w0] σ = ru d 45 20 [.ref a0, l1, l2] [.ref a0, w0] σ := q_aload_n t45_19 rfl
theorem t45_20 : decode (mb 45) 20 = .ok (.getfield 19, 3) := by decide +kernel
theorem s45_20_o16 (d : Nat) (l0 : Value) (l1 : Value) (l2 : Value) (w0 : Value) (σ : Hs) : ru d 45 20 [l0, l1, l2] [.ref 16, w0] σ = ru d 45 23 [l0, l1, l2] [.int (σ 16 1), w0] σ := q_getf t45_20 mo45 F3_19 rfl rfl
theorem s45_20_o18 (d : Nat) (l0 : Value) (l1 : Value) (l2 : Value) (w0 : Value) (σ : Hs) : ru d 45 20 [l0, l1, l2] [.ref 18, w0] σ = ru d 45 23 [l0, l1, l2] [.int (σ 18 1), w0] σ := q_getf t45_20 mo45 F3_19 rfl rfl
theorem s45_20_o20 (d : Nat) (l0 : Value) (l1 : Value) (l2 : Value) (w0 : Value) (σ : Hs) : ru d 45 20 [l0, l1, l2] [.ref 20, w0] σ = ru d 45 23 [l0, l1, l2] [.int (σ 20 1), w0] σ := q_getf t45_20 mo45 F3_19 rfl rfl
theorem s45_20_o22 (d : Nat) (l0 : Value) (l1 : Value) (l2 : Value) (w0 : Value) (σ : Hs) : ru d 45 20 [l0, l1, l2] [.ref 22, w0] σ = ru d 45 23 [l0, l1, l2] [.int (σ 22 1), w0] σ := q_getf t45_20 mo45 F3_19 rfl rfl
theorem s45_20_o24 (d : Nat) (l0 : Value) (l1 : Value) (l2 : Value) (w0 : Value) (σ : Hs) : ru d 45 20 [l0, l1, l2] [.ref 24, w0] σ = ru d 45 23 [l0, l1, l2] [.int (σ 24 1), w0] σ := q_getf t45_20 mo45 F3_19 rfl rfl
theorem s45_20_o26 (d : Nat) (l0 : Value) (l1 : Value) (l2 : Value) (w0 : Value) (σ : Hs) : ru d 45 20 [l0, l1, l2] [.ref 26, w0] σ = ru d 45 23 [l0, l1, l2] [.int (σ 26 1), w0] σ := q_getf t45_20 mo45 F3_19 rfl rfl
theorem s45_20_o28 (d : Nat) (l0 : Value) (l1 : Value) (l2 : Value) (w0 : Value) (σ : Hs) : ru d 45 20 [l0, l1, l2] [.ref 28, w0] σ = ru d 45 23 [l0, l1, l2] [.int (σ 28 1), w0] σ := q_getf t45_20 mo45 F3_19 rfl rfl
theorem s45_20_o45 (d : Nat) (l0 : Value) (l1 : Value) (l2 : Value) (w0 : Value) (σ : Hs) : ru d 45 20 [l0, l1, l2] [.ref 45, w0] σ = ru d 45 23 [l0, l1, l2] [.int (σ 45 1), w0] σ := q_getf t45_20 mo45 F3_19 rfl rfl
theorem s45_20_o47 (d : Nat) (l0 : Value) (l1 : Value) (l2 : Value) (w0 : Value) (σ : Hs) : ru d 45 20 [l0, l1, l2] [.ref 47, w0] σ = ru d 45 23 [l0, l1, l2] [.int (σ 47 1), w0] σ := q_getf t45_20 mo45 F3_19 rfl rfl
theorem s45_20_o49 (d : Nat) (l0 : Value) (l1 : Value) (l2 : Value) (w0 : Value) (σ : Hs) : ru d 45 20 [l0, l1, l2] [.ref 49, w0] σ = ru d 45 23 [l0, l1, l2] [.int (σ 49 1), w0] σ := q_getf t45_20 mo45 F3_19 rfl rfl
theorem s45_20_o51 (d : Nat) (l0 : Value) (l1 : Value) (l2 : Value) (w0 : Value) (σ : Hs) : ru d 45 20 [l0, l1, l2] [.ref 51, w0] σ = ru d 45 23 [l0, l1, l2] [.int (σ 51 1), w0] σ := q_getf t45_20 mo45 F3_19 rfl rfl
theorem s45_20_o53 (d : Nat) (l0 : Value) (l1 : Value) (l2 : Value) (w0 : Value) (σ : Hs) : ru d 45 20 [l0, l1, l2] [.ref 53, w0] σ = ru d 45 23 [l0, l1, l2] [.int (σ 53 1), w0] σ := q_getf t45_20 mo45 F3_19 rfl rfl
theorem s45_20_o55 (d : Nat) (l0 : Value) (l1 : Value) (l2 : Value) (w0 : Value) (σ : Hs) : ru d 45 20 [l0, l1, l2] [.ref 55, w0] σ = ru d 45 23 [l0, l1, l2] [.int (σ 55 1), w0] σ := q_getf t45_20 mo45 F3_19 rfl rfl
theorem s45_20_o57 (d : Nat) (l0 : Value) (l1 : Value) (l2 : Value) (w0 : Value) (σ : Hs) : ru d 45 20 [l0, l1, l2] [.ref 57, w0] σ = ru d 45 23 [l0, l1, l2] [.int (σ 57 1), w0] σ := q_getf t45_20 mo45 F3_19 rfl rfl
theorem t45_23 : decode (mb 45) 23 = .ok (.if_icmp .ge 21, 3) := by decide +kernel
theorem s45_23 (d : Nat) (l0 : Value) (l1 : Value) (l2 : Value) (x y : Int32) (σ : Hs) : ru d 45 23 [l0, l1, l2] [.int y, .int x] σ = if y ≤ x then ru d 45 44 [l0, l1, l2] [] σ else ru d 45 26 [l0, l1, l2] [] σ := q_ic_ge t45_23 (by decide +kernel)
theorem t45_26 : decode (mb 45) 26 = .ok (.aload_n 0, 1) := by decide +kernel
theorem s45_26 (d : Nat) (a0 : Nat) (l1 : Value) (l2 : Value) (σ : Hs) : ru d 45 26 [.ref a0, l1, l2] [] σ = ru d 45 27 [.ref a0, l1, l2] [.ref a0] σ := q_aload_n t45_26 rfl
theorem t45_27 : decode (mb 45) 27 = .ok (.getfield 13, 3) := by decide +kernel
theorem s45_27_o16 (d : Nat) (l0 : Value) (l1 : Value) (l2 : Value) (σ : Hs) : ru d 45 27 [l0, l1, l2] [.ref 16] σ = ru d 45 30 [l0, l1, l2] [.ref 17] σ := q_getf t45_27 mo45 F3_13 rfl rfl
theorem s45_27_o18 (d : Nat) (l0 : Value) (l1 : Value) (l2 : Value) (σ : Hs) : ru d 45 27 [l0, l1, l2] [.ref 18] σ = ru d 45 30 [l0, l1, l2] [.ref 19] σ := q_getf t45_27 mo45 F3_13 rfl rfl
theorem s45_27_o20 (d : Nat) (l0 : Value) (l1 : Value) (l2 : Value) (σ : Hs) : ru d 45 27 [l0, l1, l2] [.ref 20] σ = ru d 45 30 [l0, l1, l2] [.ref 21] σ := q_getf t45_27 mo45 F3_13 rfl rfl
theorem s45_27_o22 (d : Nat) (l0 : Value) (l1 : Value) (l2 : Value) (σ : Hs) : ru d 45 27 [l0, l1, l2] [.ref 22] σ = ru d 45 30 [l0, l1, l2] [.ref 23] σ := q_getf t45_27 mo45 F3_13 rfl rfl
theorem s45_27_o24 (d : Nat) (l0 : Value) (l1 : Value) (l2 : Value) (σ : Hs) : ru d 45 27 [l0, l1, l2] [.ref 24] σ = ru d 45 30 [l0, l1, l2] [.ref 25] σ := q_getf t45_27 mo45 F3_13 rfl rfl
theorem s45_27_o26 (d : Nat) (l0 : Value) (l1 : Value) (l2 : Value) (σ : Hs) : ru d 45 27 [l0, l1, l2] [.ref 26] σ = ru d 45 30 [l0, l1, l2] [.ref 27] σ := q_getf t45_27 mo45 F3_13 rfl rfl
theorem s45_27_o28 (d : Nat) (l0 : Value) (l1 : Value) (l2 : Value) (σ : Hs) : ru d 45 27 [l0, l1, l2] [.ref 28] σ = ru d 45 30 [l0, l1, l2] [.ref 29] σ := q_getf t45_27 mo45 F3_13 rfl rfl
theorem s45_27_o45 (d : Nat) (l0 : Value) (l1 : Value) (l2 : Value) (σ : Hs) : ru d 45 27 [l0, l1, l2] [.ref 45] σ = ru d 45 30 [l0, l1, l2] [.ref 46] σ := q_getf t45_27 mo45 F3_13 rfl rfl
theorem s45_27_o47 (d : Nat) (l0 : Value) (l1 : Value) (l2 : Value) (σ : Hs) : ru d 45 27 [l0, l1, l2] [.ref 47] σ = ru d 45 30 [l0, l1, l2] [.ref 48] σ := q_getf t45_27 mo45 F3_13 rfl rfl
theorem s45_27_o49 (d : Nat) (l0 : Value) (l1 : Value) (l2 : Value) (σ : Hs) : ru d 45 27 [l0, l1, l2] [.ref 49] σ = ru d 45 30 [l0, l1, l2] [.ref 50] σ := q_getf t45_27 mo45 F3_13 rfl rfl
theorem s45_27_o51 (d : Nat) (l0 : Value) (l1 : Value) (l2 : Value) (σ : Hs) : ru d 45 27 [l0, l1, l2] [.ref 51] σ = ru d 45 30 [l0, l1, l2] [.ref 52] σ := q_getf t45_27 mo45 F3_13 rfl rfl
theorem s45_27_o53 (d : Nat) (l0 : Value) (l1 : Value) (l2 : Value) (σ : Hs) : ru d 45 27 [l0, l1, l2] [.ref 53] σ = ru d 45 30 [l0, l1, l2] [.ref 54] σ := q_getf t45_27 mo45 F3_13 rfl rfl
theorem s45_27_o55 (d : Nat) (l0 : Value) (l1 : Value) (l2 : Value) (σ : Hs) : ru d 45 27 [l0, l1, l2] [.ref 55] σ = ru d 45 30 [l0, l1, l2] [.ref 56] σ := q_getf t45_27 mo45 F3_13 rfl rfl
theorem s45_27_o57 (d : Nat) (l0 : Value) (l1 : Value) (l2 : Value) (σ : Hs) : ru d 45 27 [l0, l1, l2] [.ref 57] σ = ru d 45 30 [l0, l1, l2] [.ref 58] σ := q_getf t45_27 mo45 F3_13 rfl rfl
theorem t45_30 : decode (mb 45) 30 = .ok (.iload_n 2, 1) := by decide +kernel
theorem s45_30 (d : Nat) (l0 : Value) (l1 : Value) (i2 : Int32) (w0 : Value) (σ : Hs) : ru d 45 30 [l0, l1, .int i2] [w0] σ = ru d 45 31 [l0, l1, .int i2] [.int i2, w0] σ := q_iload_n t45_30 rfl
theorem t45_31 : decode (mb 45) 31 = .ok (.aload_n 1, 1) := by decide +kernel
theorem s45_31 (d : Nat) (l0 : Value) (a1 : Nat) (l2 : Value) (w0 w1 : Value) (σ : Hs) : ru d 45 31 [l0, .ref a1, l2] [w0, w1] σ = ru d 45 32 [l0, .ref a1, l2] [.ref a1, w0, w1] σ := q_aload_n t45_31 rfl
theorem t45_32 : decode (mb 45) 32 = .ok (.getfield 13, 3) := by decide +kernel
theorem s45_32_o16 (d : Nat) (l0 : Value) (l1 : Value) (l2 : Value) (w0 w1 : Value) (σ : Hs) : ru d 45 32 [l0, l1, l2] [.ref 16, w0, w1] σ = ru d 45 35 [l0, l1, l2] [.ref 17, w0, w1] σ := q_getf t45_32 mo45 F3_13 rfl rfl
theorem s45_32_o18 (d : Nat) (l0 : Value) (l1 : Value) (l2 : Value) (w0 w1 : Value) (σ : Hs) : ru d 45 32 [l0, l1, l2] [.ref 18, w0, w1] σ = ru d 45 35 [l0, l1, l2] [.ref 19, w0, w1] σ := q_getf t45_32 mo45 F3_13 rfl rfl
theorem s45_32_o20 (d : Nat) (l0 : Value) (l1 : Value) (l2 : Value) (w0 w1 : Value) (σ : Hs) : ru d 45 32 [l0, l1, l2] [.ref 20, w0, w1] σ = ru d 45 35 [l0, l1, l2] [.ref 21, w0, w1] σ := q_getf t45_32 mo45 F3_13 rfl rfl
theorem s45_32_o22 (d : Nat) (l0 : Value) (l1 : Value) (l2 : Value) (w0 w1 : Value) (σ : Hs) : ru d 45 32 [l0, l1, l2] [.ref 22, w0, w1] σ = ru d 45 35 [l0, l1, l2] [.ref 23, w0, w1] σ := q_getf t45_32 mo45 F3_13 rfl rfl
theorem s45_32_o24 (d : Nat) (l0 : Value) (l1 : Value) (l2 : Value) (w0 w1 : Value) (σ : Hs) : ru d 45 32 [l0, l1, l2] [.ref 24, w0, w1] σ = ru d 45 35 [l0, l1, l2] [.ref 25, w0, w1] σ := q_getf t45_32 mo45 F3_13 rfl rfl
theorem s45_32_o26 (d : Nat) (l0 : Value) (l1 : Value) (l2 : Value) (w0 w1 : Value) (σ : Hs) : ru d 45 32 [l0, l1, l2] [.ref 26, w0, w1] σ = ru d 45 35 [l0, l1, l2] [.ref 27, w0, w1] σ := q_getf t45_32 mo45 F3_13 rfl rfl
theorem s45_32_o28 (d : Nat) (l0 : Value) (l1 : Value) (l2 : Value) (w0 w1 : Value) (σ : Hs) : ru d 45 32 [l0, l1, l2] [.ref 28, w0, w1] σ = ru d 45 35 [l0, l1, l2] [.ref 29, w0, w1] σ := q_getf t45_32 mo45 F3_13 rfl rfl
theorem s45_32_o45 (d : Nat) (l0 : Value) (l1 : Value) (l2 : Value) (w0 w1 : Value) (σ : Hs) : ru d 45 32 [l0, l1, l2] [.ref 45, w0, w1] σ = ru d 45 35 [l0, l1, l2] [.ref 46, w0, w1] σ := q_getf t45_32 mo45 F3_13 rfl rfl
theorem s45_32_o47 (d : Nat) (l0 : Value) (l1 : Value) (l2 : Value) (w0 w1 : Value) (σ : Hs) : ru d 45 32 [l0, l1, l2] [.ref 47, w0, w1] σ = ru d 45 35 [l0, l1, l2] [.ref 48, w0, w1] σ := q_getf t45_32 mo45 F3_13 rfl rfl
theorem s45_32_o49 (d : Nat) (l0 : Value) (l1 : Value) (l2 : Value) (w0 w1 : Value) (σ : Hs) : ru d 45 32 [l0, l1, l2] [.ref 49, w0, w1] σ = ru d 45 35 [l0, l1, l2] [.ref 50, w0, w1] σ := q_getf t45_32 mo45 F3_13 rfl rfl
theorem s45_32_o51 (d : Nat) (l0 : Value) (l1 : Value) (l2 : Value) (w0 w1 : Value) (σ : Hs) : ru d 45 32 [l0, l1, l2] [.ref 51, w0, w1] σ = ru d 45 35 [l0, l1, l2] [.ref 52, w0, w1] σ := q_getf t45_32 mo45 F3_13 rfl rfl
theorem s45_32_o53 (d : Nat) (l0 : Value) (l1 : Value) (l2 : Value) (w0 w1 : Value) (σ : Hs) : ru d 45 32 [l0, l1, l2] [.ref 53, w0, w1] σ = ru d 45 35 [l0, l1, l2] [.ref 54, w0, w1] σ := q_getf t45_32 mo45 F3_13 rfl rfl
theorem s45_32_o55 (d : Nat) (l0 : Value) (l1 : Value) (l2 : Value) (w0 w1 : Value) (σ : Hs) : ru d 45 32 [l0, l1, l2] [.ref 55, w0, w1] σ = ru d 45 35 [l0, l1, l2] [.ref 56, w0, w1] σ := q_getf t45_32 mo45 F3_13 rfl rfl
theorem s45_32_o57 (d : Nat) (l0 : Value) (l1 : Value) (l2 : Value) (w0 w1 : Value) (σ : Hs) : ru d 45 32 [l0, l1, l2] [.ref 57, w0, w1] σ = ru d 45 35 [l0, l1, l2] [.ref 58, w0, w1] σ := q_getf t45_32 mo45 F3_13 rfl rfl
theorem s45_32_o71 (d : Nat) (l0 : Value) (l1 : Value) (l2 : Value) (w0 w1 : Value) (σ : Hs) : ru d 45 32 [l0, l1, l2] [.ref 71, w0, w1] σ = ru d 45 35 [l0, l1, l2] [.ref 72, w0, w1] σ := q_getf t45_32 mo45 F3_13 rfl rfl
theorem t45_35 : decode (mb 45) 35 = .ok (.iload_n 2, 1) := by decide +kernel
theorem s45_35 (d : Nat) (l0 : Value) (l1 : Value) (i2 : Int32) (w0 w1 w2 : Value) (σ : Hs) : ru d 45 35 [l0, l1, .int i2] [w0, w1, w2] σ = ru d 45 36 [l0, l1, .int i2] [.int i2, w0, w1, w2] σ := q_iload_n t45_35 rfl
theorem t45_36 : decode (mb 45) 36 = .ok (.iaload, 1) := by decide +kernel
theorem s45_36_o17 (d : Nat) (l0 : Value) (l1 : Value) (l2 : Value) (i : Int32) (w0 w1 : Value) (σ : Hs) : ru d 45 36 [l0, l1, l2] [.int i, .ref 17, w0, w1] σ = gd (vp_in i 60) (ru d 45 37 [l0, l1, l2] [.int (σ 17 i.toNatClampNeg), w0, w1] σ) := q_iald t45_36 rfl (by decide +kernel) rfl
theorem s45_36_o19 (d : Nat) (l0 : Value) (l1 : Value) (l2 : Value) (i : Int32) (w0 w1 : Value) (σ : Hs) : ru d 45 36 [l0, l1, l2] [.int i, .ref 19, w0, w1] σ = gd (vp_in i 60) (ru d 45 37 [l0, l1, l2] [.int (σ 19 i.toNatClampNeg), w0, w1] σ) := q_iald t45_36 rfl (by decide +kernel) rfl
theorem s45_36_o21 (d : Nat) (l0 : Value) (l1 : Value) (l2 : Value) (i : Int32) (w0 w1 : Value) (σ : Hs) : ru d 45 36 [l0, l1, l2] [.int i, .ref 21, w0, w1] σ = gd (vp_in i 60) (ru d 45 37 [l0, l1, l2] [.int (σ 21 i.toNatClampNeg), w0, w1] σ) := q_iald t45_36 rfl (by decide +kernel) rfl
theorem s45_36_o23 (d : Nat) (l0 : Value) (l1 : Value) (l2 : Value) (i : Int32) (w0 w1 : Value) (σ : Hs) : ru d 45 36 [l0, l1, l2] [.int i, .ref 23, w0, w1] σ = gd (vp_in i 60) (ru d 45 37 [l0, l1, l2] [.int (σ 23 i.toNatClampNeg), w0, w1] σ) := q_iald t45_36 rfl (by decide +kernel) rfl
theorem s45_36_o25 (d : Nat) (l0 : Value) (l1 : Value) (l2 : Value) (i : Int32) (w0 w1 : Value) (σ : Hs) : ru d 45 36 [l0, l1, l2] [.int i, .ref 25, w0, w1] σ = gd (vp_in i 12) (ru d 45 37 [l0, l1, l2] [.int (σ 25 i.toNatClampNeg), w0, w1] σ) := q_iald t45_36 rfl (by decide +kernel) rfl
theorem s45_36_o27 (d : Nat) (l0 : Value) (l1 : Value) (l2 : Value) (i : Int32) (w0 w1 : Value) (σ : Hs) : ru d 45 36 [l0, l1, l2] [.int i, .ref 27, w0, w1] σ = gd (vp_in i 12) (ru d 45 37 [l0, l1, l2] [.int (σ 27 i.toNatClampNeg), w0, w1] σ) := q_iald t45_36 rfl (by decide +kernel) rfl
theorem s45_36_o29 (d : Nat) (l0 : Value) (l1 : Value) (l2 : Value) (i : Int32) (w0 w1 : Value) (σ : Hs) : ru d 45 36 [l0, l1, l2] [.int i, .ref 29, w0, w1] σ = gd (vp_in i 24) (ru d 45 37 [l0, l1, l2] [.int (σ 29 i.toNatClampNeg), w0, w1] σ) := q_iald t45_36 rfl (by decide +kernel) rfl
theorem s45_36_o46 (d : Nat) (l0 : Value) (l1 : Value) (l2 : Value) (i : Int32) (w0 w1 : Value) (σ : Hs) : ru d 45 36 [l0, l1, l2] [.int i, .ref 46, w0, w1] σ = gd (vp_in i 60) (ru d 45 37 [l0, l1, l2] [.int (σ 46 i.toNatClampNeg), w0, w1] σ) := q_iald t45_36 rfl (by decide +kernel) rfl
theorem s45_36_o48 (d : Nat) (l0 : Value) (l1 : Value) (l2 : Value) (i : Int32) (w0 w1 : Value) (σ : Hs) : ru d 45 36 [l0, l1, l2] [.int i, .ref 48, w0, w1] σ = gd (vp_in i 60) (ru d 45 37 [l0, l1, l2] [.int (σ 48 i.toNatClampNeg), w0, w1] σ) := q_iald t45_36 rfl (by decide +kernel) rfl
theorem s45_36_o50 (d : Nat) (l0 : Value) (l1 : Value) (l2 : Value) (i : Int32) (w0 w1 : Value) (σ : Hs) : ru d 45 36 [l0, l1, l2] [.int i, .ref 50, w0, w1] σ = gd (vp_in i 60) (ru d 45 37 [l0, l1, l2] [.int (σ 50 i.toNatClampNeg), w0, w1] σ) := q_iald t45_36 rfl (by decide +kernel) rfl
theorem s45_36_o52 (d : Nat) (l0 : Value) (l1 : Value) (l2 : Value) (i : Int32) (w0 w1 : Value) (σ : Hs) : ru d 45 36 [l0, l1, l2] [.int i, .ref 52, w0, w1] σ = gd (vp_in i 60) (ru d 45 37 [l0, l1, l2] [.int (σ 52 i.toNatClampNeg), w0, w1] σ) := q_iald t45_36 rfl (by decide +kernel) rfl
theorem s45_36_o54 (d : Nat) (l0 : Value) (l1 : Value) (l2 : Value) (i : Int32) (w0 w1 : Value) (σ : Hs) : ru d 45 36 [l0, l1, l2] [.int i, .ref 54, w0, w1] σ = gd (vp_in i 12) (ru d 45 37 [l0, l1, l2] [.int (σ 54 i.toNatClampNeg), w0, w1] σ) := q_iald t45_36 rfl (by decide +kernel) rfl
theorem s45_36_o56 (d : Nat) (l0 : Value) (l1 : Value) (l2 : Value) (i : Int32) (w0 w1 : Value) (σ : Hs) : ru d 45 36 [l0, l1, l2] [.int i, .ref 56, w0, w1] σ = gd (vp_in i 12) (ru d 45 37 [l0, l1, l2] [.int (σ 56 i.toNatClampNeg), w0, w1] σ) := q_iald t45_36 rfl (by decide +kernel) rfl
theorem s45_36_o58 (d : Nat) (l0 : Value) (l1 : Value) (l2 : Value) (i : Int32) (w0 w1 : Value) (σ : Hs) : ru d 45 36 [l0, l1, l2] [.int i, .ref 58, w0, w1] σ = gd (vp_in i 24) (ru d 45 37 [l0, l1, l2] [.int (σ 58 i.toNatClampNeg), w0, w1] σ) := q_iald t45_36 rfl (by decide +kernel) rfl
theorem s45_36_o72 (d : Nat) (l0 : Value) (l1 : Value) (l2 : Value) (i : Int32) (w0 w1 : Value) (σ : Hs) : ru d 45 36 [l0, l1, l2] [.int i, .ref 72, w0, w1] σ = gd (vp_in i 60) (ru d 45 37 [l0, l1, l2] [.int (σ 72 i.toNatClampNeg), w0, w1] σ) := q_iald t45_36 rfl (by decide +kernel) rfl
theorem t45_37 : decode (mb 45) 37 = .ok (.iastore, 1) := by decide +kernel
theorem s45_37_o17 (d : Nat) (l0 : Value) (l1 : Value) (l2 : Value) (i x : Int32) (σ : Hs) : ru d 45 37 [l0, l1, l2] [.int x, .int i, .ref 17] σ = gd (vp_in i 60) (ru d 45 38 [l0, l1, l2] [] (up2 σ 17 i.toNatClampNeg x)) := q_iast t45_37 (by decide +kernel) rfl rfl
theorem s45_37_o19 (d : Nat) (l0 : Value) (l1 : Value) (l2 : Value) (i x : Int32) (σ : Hs) : ru d 45 37 [l0, l1, l2] [.int x, .int i, .ref 19] σ = gd (vp_in i 60) (ru d 45 38 [l0, l1, l2] [] (up2 σ 19 i.toNatClampNeg x)) := q_iast t45_37 (by decide +kernel) rfl rfl
theorem s45_37_o21 (d : Nat) (l0 : Value) (l1 : Value) (l2 : Value) (i x : Int32) (σ : Hs) : ru d 45 37 [l0, l1, l2] [.int x, .int i, .ref 21] σ = gd (vp_in i 60) (ru d 45 38 [l0, l1, l2] [] (up2 σ 21 i.toNatClampNeg x)) := q_iast t45_37 (by decide +kernel) rfl rfl
theorem s45_37_o23 (d : Nat) (l0 : Value) (l1 : Value) (l2 : Value) (i x : Int32) (σ : Hs) : ru d 45 37 [l0, l1, l2] [.int x, .int i, .ref 23] σ = gd (vp_in i 60) (ru d 45 38 [l0, l1, l2] [] (up2 σ 23 i.toNatClampNeg x)) := q_iast t45_37 (by decide +kernel) rfl rfl
theorem s45_37_o25 (d : Nat) (l0 : Value) (l1 : Value) (l2 : Value) (i x : Int32) (σ : Hs) : ru d 45 37 [l0, l1, l2] [.int x, .int i, .ref 25] σ = gd (vp_in i 12) (ru d 45 38 [l0, l1, l2] [] (up2 σ 25 i.toNatClampNeg x)) := q_iast t45_37 (by decide +kernel) rfl rfl
theorem s45_37_o27 (d : Nat) (l0 : Value) (l1 : Value) (l2 : Value) (i x : Int32) (σ : Hs) : ru d 45 37 [l0, l1, l2] [.int x, .int i, .ref 27] σ = gd (vp_in i 12) (ru d 45 38 [l0, l1, l2] [] (up2 σ 27 i.toNatClampNeg x)) := q_iast t45_37 (by decide +kernel) rfl rfl
theorem s45_37_o29 (d : Nat) (l0 : Value) (l1 : Value) (l2 : Value) (i x : Int32) (σ : Hs) : ru d 45 37 [l0, l1, l2] [.int x, .int i, .ref 29] σ = gd (vp_in i 24) (ru d 45 38 [l0, l1, l2] [] (up2 σ 29 i.toNatClampNeg x)) := q_iast t45_37 (by decide +kernel) rfl rfl
theorem s45_37_o46 (d : Nat) (l0 : Value) (l1 : Value) (l2 : Value) (i x : Int32) (σ : Hs) : ru d 45 37 [l0, l1, l2] [.int x, .int i, .ref 46] σ = gd (vp_in i 60) (ru d 45 38 [l0, l1, l2] [] (up2 σ 46 i.toNatClampNeg x)) := q_iast t45_37 (by decide +kernel) rfl rfl
theorem s45_37_o48 (d : Nat) (l0 : Value) (l1 : Value) (l2 : Value) (i x : Int32) (σ : Hs) : ru d 45 37 [l0, l1, l2] [.int x, .int i, .ref 48] σ = gd (vp_in i 60) (ru d 45 38 [l0, l1, l2] [] (up2 σ 48 i.toNatClampNeg x)) := q_iast t45_37 (by decide +kernel) rfl rfl
theorem s45_37_o50 (d : Nat) (l0 : Value) (l1 : Value) (l2 : Value) (i x : Int32) (σ : Hs) : ru d 45 37 [l0, l1, l2] [.int x, .int i, .ref 50] σ = gd (vp_in i 60) (ru d 45 38 [l0, l1, l2] [] (up2 σ 50 i.toNatClampNeg x)) := q_iast t45_37 (by decide +kernel) rfl rfl
theorem s45_37_o52 (d : Nat) (l0 : Value) (l1 : Value) (l2 : Value) (i x : Int32) (σ : Hs) : ru d 45 37 [l0, l1, l2] [.int x, .int i, .ref 52] σ = gd (vp_in i 60) (ru d 45 38 [l0, l1, l2] [] (up2 σ 52 i.toNatClampNeg x)) := q_iast t45_37 (by decide +kernel) rfl rfl
theorem s45_37_o54 (d : Nat) (l0 : Value) (l1 : Value) (l2 : Value) (i x : Int32) (σ : Hs) : ru d 45 37 [l0, l1, l2] [.int x, .int i, .ref 54] σ = gd (vp_in i 12) (ru d 45 38 [l0, l1, l2] [] (up2 σ 54 i.toNatClampNeg x)) := q_iast t45_37 (by decide +kernel) rfl rfl
theorem s45_37_o56 (d : Nat) (l0 : Value) (l1 : Value) (l2 : Value) (i x : Int32) (σ : Hs) : ru d 45 37 [l0, l1, l2] [.int x, .int i, .ref 56] σ = gd (vp_in i 12) (ru d 45 38 [l0, l1, l2] [] (up2 σ 56 i.toNatClampNeg x)) := q_iast t45_37 (by decide +kernel) rfl rfl
theorem s45_37_o58 (d : Nat) (l0 : Value) (l1 : Value) (l2 : Value) (i x : Int32) (σ : Hs) : ru d 45 37 [l0, l1, l2] [.int x, .int i, .ref 58] σ = gd (vp_in i 24) (ru d 45 38 [l0, l1, l2] [] (up2 σ 58 i.toNatClampNeg x)) := q_iast t45_37 (by decide +kernel) rfl rfl
theorem t45_38 : decode (mb 45) 38 = .ok (.iinc 2 1, 3) := by decide +kernel
theorem s45_38 (d : Nat) (l0 : Value) (a1 : Nat) (i2 : Int32) (σ : Hs) : ru d 45 38 [l0, .ref a1, .int i2] [] σ = ru d 45 41 [l0, .ref a1, .int (i2 + 1)] [] σ := q_iinc t45_38 ⟨Nat.le_of_ble_eq_true rfl, rfl⟩ rfl (by decide +kernel) rfl
theorem t45_41 : decode (mb 45) 41 = .ok (.goto (-23), 3) := by decide +kernel
theorem s45_41 (d : Nat) (l0 : Value) (l1 : Value) (l2 : Value) (σ : Hs) : ru d 45 41 [l0, l1, l2] [] σ = ru d 45 18 [l0, l1, l2] [] σ := q_goto t45_41 (by decide +kernel)
theorem t45_44 : decode (mb 45) 44 = .ok (.return_, 1) := by decide +kernel
theorem s45_44 (d : Nat) (l0 : Value) (l1 : Value) (l2 : Value) (σ : Hs) : ru d 45 44 [l0, l1, l2] [] σ = some (none, σ) := q_vret t45_44 mr45
theorem c45 (d : Nat) (x0 : Nat) (x1 : Nat) (σ : Hs) : callD (d + 1) 45 [.ref x0, .ref x1] σ = ru d 45 0 [.ref x0, .ref x1, uu] [] σ := callD_ru ml45 rfl rfl (Nat.le_of_ble_eq_true rfl)
-- 46: Sheet.isMissing()Z
theorem t46_0 : decode (mb 46) 0 = .ok (.aload_n 0, 1) := by decide +kernel
theorem s46_0 (d : Nat) (a0 : Nat) (σ : Hs) : ru d 46 0 [.ref a0] [] σ = ru d 46 1 [.ref a0] [.ref a0] σ := q_aload_n t46_0 rfl
theorem t46_1 : decode (mb 46) 1 = .ok (.getfield 15, 3) := by decide +kernel
theorem s46_1_o77 (d : Nat) (l0 : Value) (σ : Hs) : ru d 46 1 [l0] [.ref 77] σ = ru d 46 4 [l0] [.int (σ 77 1)] σ := q_getf t46_1 mo46 F4_15 rfl rfl
theorem s46_1_o79 (d : Nat) (l0 : Value) (σ : Hs) : ru d 46 1 [l0] [.ref 79] σ = ru d 46 4 [l0] [.int (σ 79 1)] σ := q_getf t46_1 mo46 F4_15 rfl rfl
theorem s46_1_o81 (d : Nat) (l0 : Value) (σ : Hs) : ru d 46 1 [l0] [.ref 81] σ = ru d 46 4 [l0] [.int (σ 81 1)] σ := q_getf t46_1 mo46 F4_15 rfl rfl
theorem s46_1_o83 (d : Nat) (l0 : Value) (σ : Hs) : ru d 46 1 [l0] [.ref 83] σ = ru d 46 4 [l0] [.int (σ 83 1)] σ := q_getf t46_1 mo46 F4_15 rfl rfl
theorem t46_4 : decode (mb 46) 4 = .ok (.ifCond .ne 7, 3) := by decide +kernel
theorem s46_4 (d : Nat) (l0 : Value) (x : Int32) (σ : Hs) : ru d 46 4 [l0] [.int x] σ = if x = 0 then ru d 46 7 [l0] [] σ else ru d 46 11 [l0] [] σ := q_if_ne t46_4 (by decide +kernel)
theorem t46_7 : decode (mb 46) 7 = .ok (.iconst 1, 1) := by decide +kernel
theorem s46_7 (d : Nat) (l0 : Value) (σ : Hs) : ru d 46 7 [l0] [] σ = ru d 46 8 [l0] [.int 1] σ := q_iconst t46_7 (by decide +kernel)
theorem t46_8 : decode (mb 46) 8 = .ok (.goto 4, 3) := by decide +kernel
theorem s46_8 (d : Nat) (l0 : Value) (w0 : Value) (σ : Hs) : ru d 46 8 [l0] [w0] σ = ru d 46 12 [l0] [w0] σ := q_goto t46_8 (by decide +kernel)
theorem t46_11 : decode (mb 46) 11 = .ok (.iconst 0, 1) := by decide +kernel
theorem s46_11 (d : Nat) (l0 : Value) (σ : Hs) : ru d 46 11 [l0] [] σ = ru d 46 12 [l0] [.int 0] σ := q_iconst t46_11 (by decide +kernel)
theorem t46_12 : decode (mb 46) 12 = .ok (.ireturn, 1) := by decide +kernel
theorem s46_12 (d : Nat) (l0 : Value) (x : Int32) (hx : isB x) (σ : Hs) : ru d 46 12 [l0] [.int x] σ = some (some (.int x), σ) := q_iretz t46_12 mr46 hx
theorem c46 (d : Nat) (x0 : Nat) (σ : Hs) : callD (d + 1) 46 [.ref x0] σ = ru d 46 0 [.ref x0] [] σ := callD_ru ml46 rfl rfl (Nat.le_of_ble_eq_true rfl)
-- 47: Sheet.begin(II)V
theorem t47_0 : decode (mb 47) 0 = .ok (.aload_n 0, 1) := by decide +kernel
theorem s47_0 (d : Nat) (a0 : Nat) (l1 : Value) (l2 : Value) (l3 : Value) (σ : Hs) : ru d 47 0 [.ref a0, l1, l2, l3] [] σ = ru d 47 1 [.ref a0, l1, l2, l3] [.ref a0] σ := q_aload_n t47_0 rfl
theorem t47_1 : decode (mb 47) 1 = .ok (.iload_n 1, 1) := by decide +kernel
theorem s47_1 (d : Nat) (l0 : Value) (i1 : Int32) (l2 : Value) (l3 : Value) (w0 : Value) (σ : Hs) : ru d 47 1 [l0, .int i1, l2, l3] [w0] σ = ru d 47 2 [l0, .int i1, l2, l3] [.int i1, w0] σ := q_iload_n t47_1 rfl
theorem t47_2 : decode (mb 47) 2 = .ok (.putfield 15, 3) := by decide +kernel
theorem s47_2_o77 (d : Nat) (l0 : Value) (l1 : Value) (l2 : Value) (l3 : Value) (x : Int32) (σ : Hs) : ru d 47 2 [l0, l1, l2, l3] [.int x, .ref 77] σ = ru d 47 5 [l0, l1, l2, l3] [] (up2 σ 77 1 x) := q_puti t47_2 mo47 F4_15 (by decide +kernel) rfl rfl
theorem s47_2_o79 (d : Nat) (l0 : Value) (l1 : Value) (l2 : Value) (l3 : Value) (x : Int32) (σ : Hs) : ru d 47 2 [l0, l1, l2, l3] [.int x, .ref 79] σ = ru d 47 5 [l0, l1, l2, l3] [] (up2 σ 79 1 x) := q_puti t47_2 mo47 F4_15 (by decide +kernel) rfl rfl
theorem s47_2_o81 (d : Nat) (l0 : Value) (l1 : Value) (l2 : Value) (l3 : Value) (x : Int32) (σ : Hs) : ru d 47 2 [l0, l1, l2, l3] [.int x, .ref 81] σ = ru d 47 5 [l0, l1, l2, l3] [] (up2 σ 81 1 x) := q_puti t47_2 mo47 F4_15 (by decide +kernel) rfl rfl
theorem s47_2_o83 (d : Nat) (l0 : Value) (l1 : Value) (l2 : Value) (l3 : Value) (x : Int32) (σ : Hs) : ru d 47 2 [l0, l1, l2, l3] [.int x, .ref 83] σ = ru d 47 5 [l0, l1, l2, l3] [] (up2 σ 83 1 x) := q_puti t47_2 mo47 F4_15 (by decide +kernel) rfl rfl
theorem t47_5 : decode (mb 47) 5 = .ok (.aload_n 0, 1) := by decide +kernel
theorem s47_5 (d : Nat) (a0 : Nat) (l1 : Value) (l2 : Value) (l3 : Value) (σ : Hs) : ru d 47 5 [.ref a0, l1, l2, l3] [] σ = ru d 47 6 [.ref a0, l1, l2, l3] [.ref a0] σ := q_aload_n t47_5 rfl
theorem t47_6 : decode (mb 47) 6 = .ok (.iload_n 2, 1) := by decide +kernel
theorem s47_6 (d : Nat) (l0 : Value) (l1 : Value) (i2 : Int32) (l3 : Value) (w0 : Value) (σ : Hs) : ru d 47 6 [l0, l1, .int i2, l3] [w0] σ = ru d 47 7 [l0, l1, .int i2, l3] [.int i2, w0] σ := q_iload_n t47_6 rfl
theorem t47_7 : decode (mb 47) 7 = .ok (.bipush 24, 2) := by decide +kernel
theorem s47_7 (d : Nat) (l0 : Value) (l1 : Value) (l2 : Value) (l3 : Value) (w0 w1 : Value) (σ : Hs) : ru d 47 7 [l0, l1, l2, l3] [w0, w1] σ = ru d 47 9 [l0, l1, l2, l3] [.int 24, w0, w1] σ := q_bipush t47_7 (by decide +kernel)
theorem t47_9 : decode (mb 47) 9 = .ok (.invokestatic 22, 3) := by decide +kernel
theorem s47_9 (d : Nat) (l0 : Value) (l1 : Value) (l2 : Value) (l3 : Value) (x y : Int32) (w0 : Nat) (σ : Hs) : ru d 47 9 [l0, l1, l2, l3] [.int y, .int x, .ref w0] σ = ru d 47 12 [l0, l1, l2, l3] [.int (jmin x y), .ref w0] σ := q_mi t47_9 mo47 (by decide +kernel) (by decide +kernel) (by decide +kernel) (Nat.le_of_ble_eq_true rfl)
theorem t47_12 : decode (mb 47) 12 = .ok (.putfield 19, 3) := by decide +kernel
theorem s47_12_o77 (d : Nat) (l0 : Value) (l1 : Value) (l2 : Value) (l3 : Value) (x : Int32) (σ : Hs) : ru d 47 12 [l0, l1, l2, l3] [.int x, .ref 77] σ = ru d 47 15 [l0, l1, l2, l3] [] (up2 σ 77 2 x) := q_puti t47_12 mo47 F4_19 (by decide +kernel) rfl rfl
theorem s47_12_o79 (d : Nat) (l0 : Value) (l1 : Value) (l2 : Value) (l3 : Value) (x : Int32) (σ : Hs) : ru d 47 12 [l0, l1, l2, l3] [.int x, .ref 79] σ = ru d 47 15 [l0, l1, l2, l3] [] (up2 σ 79 2 x) := q_puti t47_12 mo47 F4_19 (by decide +kernel) rfl rfl
theorem s47_12_o81 (d : Nat) (l0 : Value) (l1 : Value) (l2 : Value) (l3 : Value) (x : Int32) (σ : Hs) : ru d 47 12 [l0, l1, l2, l3] [.int x, .ref 81] σ = ru d 47 15 [l0, l1, l2, l3] [] (up2 σ 81 2 x) := q_puti t47_12 mo47 F4_19 (by decide +kernel) rfl rfl
theorem s47_12_o83 (d : Nat) (l0 : Value) (l1 : Value) (l2 : Value) (l3 : Value) (x : Int32) (σ : Hs) : ru d 47 12 [l0, l1, l2, l3] [.int x, .ref 83] σ = ru d 47 15 [l0, l1, l2, l3] [] (up2 σ 83 2 x) := q_puti t47_12 mo47 F4_19 (by decide +kernel) rfl rfl
theorem t47_15 : decode (mb 47) 15 = .ok (.iconst 0, 1) := by decide +kernel
theorem s47_15 (d : Nat) (l0 : Value) (l1 : Value) (l2 : Value) (l3 : Value) (σ : Hs) : ru d 47 15 [l0, l1, l2, l3] [] σ = ru d 47 16 [l0, l1, l2, l3] [.int 0] σ := q_iconst t47_15 (by decide +kernel)
theorem t47_16 : decode (mb 47) 16 = .ok (.istore_n 3, 1) := by decide +kernel
theorem s47_16 (d : Nat) (l0 : Value) (l1 : Value) (i2 : Int32) (l3 : Value) (x : Int32) (σ : Hs) : ru d 47 16 [l0, l1, .int i2, l3] [.int x] σ = ru d 47 17 [l0, l1, .int i2, .int x] [] σ := q_istore_n t47_16 ⟨Nat.le_of_ble_eq_true rfl, rfl⟩ rfl
theorem t47_17 : decode (mb 47) 17 = .ok (.iload_n 3, 1) := by decide +kernel
theorem s47_17 (d : Nat) (l0 : Value) (l1 : Value) (l2 : Value) (i3 : Int32) (σ : Hs) : ru d 47 17 [l0, l1, l2, .int i3] [] σ = ru d 47 18 [l0, l1, l2, .int i3] [.int i3] σ := q_iload_n t47_17 rfl
theorem t47_18 : decode (mb 47) 18 = .ok (.bipush 24, 2) := by decide +kernel
theorem s47_18 (d : Nat) (l0 : Value) (l1 : Value) (l2 : Value) (l3 : Value) (w0 : Value) (σ : Hs) : ru d 47 18 [l0, l1, l2, l3] [w0] σ = ru d 47 20 [l0, l1, l2, l3] [.int 24, w0] σ := q_bipush t47_18 (by decide +kernel)
theorem t47_20 : decode (mb 47) 20 = .ok (.if_icmp .ge 16, 3) := by decide +kernel
theorem s47_20 (d : Nat) (l0 : Value) (l1 : Value) (l2 : Value) (l3 : Value) (x y : Int32) (σ : Hs) : ru d 47 20 [l0, l1, l2, l3] [.int y, .int x] σ = if y ≤ x then ru d 47 36 [l0, l1, l2, l3] [] σ else ru d 47 23 [l0, l1, l2, l3] [] σ := q_ic_ge t47_20 (by decide +kernel)
theorem t47_23 : decode (mb 47) 23 = .ok (.aload_n 0, 1) := by decide +kernel
theorem s47_23 (d : Nat) (a0 : Nat) (l1 : Value) (l2 : Value) (l3 : Value) (σ : Hs) : ru d 47 23 [.ref a0, l1, l2, l3] [] σ = ru d 47 24 [.ref a0, l1, l2, l3] [.ref a0] σ := q_aload_n t47_23 rfl
theorem t47_24 : decode (mb 47) 24 = .ok (.getfield 9, 3) := by decide +kernel
theorem s47_24_o77 (d : Nat) (l0 : Value) (l1 : Value) (l2 : Value) (l3 : Value) (σ : Hs) : ru d 47 24 [l0, l1, l2, l3] [.ref 77] σ = ru d 47 27 [l0, l1, l2, l3] [.ref 78] σ := q_getf t47_24 mo47 F4_9 rfl rfl
theorem s47_24_o79 (d : Nat) (l0 : Value) (l1 : Value) (l2 : Value) (l3 : Value) (σ : Hs) : ru d 47 24 [l0, l1, l2, l3] [.ref 79] σ = ru d 47 27 [l0, l1, l2, l3] [.ref 80] σ := q_getf t47_24 mo47 F4_9 rfl rfl
theorem s47_24_o81 (d : Nat) (l0 : Value) (l1 : Value) (l2 : Value) (l3 : Value) (σ : Hs) : ru d 47 24 [l0, l1, l2, l3] [.ref 81] σ = ru d 47 27 [l0, l1, l2, l3] [.ref 82] σ := q_getf t47_24 mo47 F4_9 rfl rfl
theorem s47_24_o83 (d : Nat) (l0 : Value) (l1 : Value) (l2 : Value) (l3 : Value) (σ : Hs) : ru d 47 24 [l0, l1, l2, l3] [.ref 83] σ = ru d 47 27 [l0, l1, l2, l3] [.ref 84] σ := q_getf t47_24 mo47 F4_9 rfl rfl
theorem t47_27 : decode (mb 47) 27 = .ok (.iload_n 3, 1) := by decide +kernel
theorem s47_27 (d : Nat) (l0 : Value) (l1 : Value) (l2 : Value) (i3 : Int32) (w0 : Value) (σ : Hs) : ru d 47 27 [l0, l1, l2, .int i3] [w0] σ = ru d 47 28 [l0, l1, l2, .int i3] [.int i3, w0] σ := q_iload_n t47_27 rfl
theorem t47_28 : decode (mb 47) 28 = .ok (.iconst 0, 1) := by decide +kernel
theorem s47_28 (d : Nat) (l0 : Value) (l1 : Value) (l2 : Value) (l3 : Value) (w0 w1 : Value) (σ : Hs) : ru d 47 28 [l0, l1, l2, l3] [w0, w1] σ = ru d 47 29 [l0, l1, l2, l3] [.int 0, w0, w1] σ := q_iconst t47_28 (by decide +kernel)
theorem t47_29 : decode (mb 47) 29 = .ok (.iastore, 1) := by decide +kernel
theorem s47_29_o78 (d : Nat) (l0 : Value) (l1 : Value) (l2 : Value) (l3 : Value) (i x : Int32) (σ : Hs) : ru d 47 29 [l0, l1, l2, l3] [.int x, .int i, .ref 78] σ = gd (vp_in i 24) (ru d 47 30 [l0, l1, l2, l3] [] (up2 σ 78 i.toNatClampNeg x)) := q_iast t47_29 (by decide +kernel) rfl rfl
theorem s47_29_o80 (d : Nat) (l0 : Value) (l1 : Value) (l2 : Value) (l3 : Value) (i x : Int32) (σ : Hs) : ru d 47 29 [l0, l1, l2, l3] [.int x, .int i, .ref 80] σ = gd (vp_in i 24) (ru d 47 30 [l0, l1, l2, l3] [] (up2 σ 80 i.toNatClampNeg x)) := q_iast t47_29 (by decide +kernel) rfl rfl
theorem s47_29_o82 (d : Nat) (l0 : Value) (l1 : Value) (l2 : Value) (l3 : Value) (i x : Int32) (σ : Hs) : ru d 47 29 [l0, l1, l2, l3] [.int x, .int i, .ref 82] σ = gd (vp_in i 24) (ru d 47 30 [l0, l1, l2, l3] [] (up2 σ 82 i.toNatClampNeg x)) := q_iast t47_29 (by decide +kernel) rfl rfl
theorem s47_29_o84 (d : Nat) (l0 : Value) (l1 : Value) (l2 : Value) (l3 : Value) (i x : Int32) (σ : Hs) : ru d 47 29 [l0, l1, l2, l3] [.int x, .int i, .ref 84] σ = gd (vp_in i 24) (ru d 47 30 [l0, l1, l2, l3] [] (up2 σ 84 i.toNatClampNeg x)) := q_iast t47_29 (by decide +kernel) rfl rfl
theorem t47_30 : decode (mb 47) 30 = .ok (.iinc 3 1, 3) := by decide +kernel
theorem s47_30 (d : Nat) (l0 : Value) (l1 : Value) (i2 : Int32) (i3 : Int32) (σ : Hs) : ru d 47 30 [l0, l1, .int i2, .int i3] [] σ = ru d 47 33 [l0, l1, .int i2, .int (i3 + 1)] [] σ := q_iinc t47_30 ⟨Nat.le_of_ble_eq_true rfl, rfl⟩ rfl (by decide +kernel) rfl
theorem t47_33 : decode (mb 47) 33 = .ok (.goto (-16), 3) := by decide +kernel
theorem s47_33 (d : Nat) (l0 : Value) (l1 : Value) (l2 : Value) (l3 : Value) (σ : Hs) : ru d 47 33 [l0, l1, l2, l3] [] σ = ru d 47 17 [l0, l1, l2, l3] [] σ := q_goto t47_33 (by decide +kernel)
theorem t47_36 : decode (mb 47) 36 = .ok (.return_, 1) := by decide +kernel
theorem s47_36 (d : Nat) (l0 : Value) (l1 : Value) (l2 : Value) (l3 : Value) (σ : Hs) : ru d 47 36 [l0, l1, l2, l3] [] σ = some (none, σ) := q_vret t47_36 mr47
theorem c47 (d : Nat) (x0 : Nat) (x1 : Int32) (x2 : Int32) (σ : Hs) : callD (d + 1) 47 [.ref x0, .int x1, .int x2] σ = ru d 47 0 [.ref x0, .int x1, .int x2, uu] [] σ := callD_ru ml47 rfl rfl (Nat.le_of_ble_eq_true rfl)
-- 48: Sheet.stand(II)Z
theorem t48_0 : decode (mb 48) 0 = .ok (.iload_n 1, 1) := by decide +kernel
theorem s48_0 (d : Nat) (l0 : Value) (i1 : Int32) (l2 : Value) (σ : Hs) : ru d 48 0 [l0, .int i1, l2] [] σ = ru d 48 1 [l0, .int i1, l2] [.int i1] σ := q_iload_n t48_0 rfl
theorem t48_1 : decode (mb 48) 1 = .ok (.ifCond .lt 29, 3) := by decide +kernel
theorem s48_1 (d : Nat) (l0 : Value) (l1 : Value) (l2 : Value) (x : Int32) (σ : Hs) : ru d 48 1 [l0, l1, l2] [.int x] σ = if x < 0 then ru d 48 30 [l0, l1, l2] [] σ else ru d 48 4 [l0, l1, l2] [] σ := q_if_lt t48_1 (by decide +kernel)
theorem t48_4 : decode (mb 48) 4 = .ok (.iload_n 2, 1) := by decide +kernel
theorem s48_4 (d : Nat) (l0 : Value) (l1 : Value) (i2 : Int32) (σ : Hs) : ru d 48 4 [l0, l1, .int i2] [] σ = ru d 48 5 [l0, l1, .int i2] [.int i2] σ := q_iload_n t48_4 rfl
theorem t48_5 : decode (mb 48) 5 = .ok (.ifCond .lt 25, 3) := by decide +kernel
theorem s48_5 (d : Nat) (l0 : Value) (l1 : Value) (l2 : Value) (x : Int32) (σ : Hs) : ru d 48 5 [l0, l1, l2] [.int x] σ = if x < 0 then ru d 48 30 [l0, l1, l2] [] σ else ru d 48 8 [l0, l1, l2] [] σ := q_if_lt t48_5 (by decide +kernel)
theorem t48_8 : decode (mb 48) 8 = .ok (.iload_n 2, 1) := by decide +kernel
theorem s48_8 (d : Nat) (l0 : Value) (l1 : Value) (i2 : Int32) (σ : Hs) : ru d 48 8 [l0, l1, .int i2] [] σ = ru d 48 9 [l0, l1, .int i2] [.int i2] σ := q_iload_n t48_8 rfl
theorem t48_9 : decode (mb 48) 9 = .ok (.aload_n 0, 1) := by decide +kernel
theorem s48_9 (d : Nat) (a0 : Nat) (l1 : Value) (l2 : Value) (w0 : Value) (σ : Hs) : ru d 48 9 [.ref a0, l1, l2] [w0] σ = ru d 48 10 [.ref a0, l1, l2] [.ref a0, w0] σ := q_aload_n t48_9 rfl
theorem t48_10 : decode (mb 48) 10 = .ok (.getfield 19, 3) := by decide +kernel
theorem s48_10_o77 (d : Nat) (l0 : Value) (l1 : Value) (l2 : Value) (w0 : Value) (σ : Hs) : ru d 48 10 [l0, l1, l2] [.ref 77, w0] σ = ru d 48 13 [l0, l1, l2] [.int (σ 77 2), w0] σ := q_getf t48_10 mo48 F4_19 rfl rfl
theorem s48_10_o79 (d : Nat) (l0 : Value) (l1 : Value) (l2 : Value) (w0 : Value) (σ : Hs) : ru d 48 10 [l0, l1, l2] [.ref 79, w0] σ = ru d 48 13 [l0, l1, l2] [.int (σ 79 2), w0] σ := q_getf t48_10 mo48 F4_19 rfl rfl
theorem s48_10_o81 (d : Nat) (l0 : Value) (l1 : Value) (l2 : Value) (w0 : Value) (σ : Hs) : ru d 48 10 [l0, l1, l2] [.ref 81, w0] σ = ru d 48 13 [l0, l1, l2] [.int (σ 81 2), w0] σ := q_getf t48_10 mo48 F4_19 rfl rfl
theorem s48_10_o83 (d : Nat) (l0 : Value) (l1 : Value) (l2 : Value) (w0 : Value) (σ : Hs) : ru d 48 10 [l0, l1, l2] [.ref 83, w0] σ = ru d 48 13 [l0, l1, l2] [.int (σ 83 2), w0] σ := q_getf t48_10 mo48 F4_19 rfl rfl
theorem t48_13 : decode (mb 48) 13 = .ok (.if_icmp .gt 17, 3) := by decide +kernel
theorem s48_13 (d : Nat) (l0 : Value) (l1 : Value) (l2 : Value) (x y : Int32) (σ : Hs) : ru d 48 13 [l0, l1, l2] [.int y, .int x] σ = if y < x then ru d 48 30 [l0, l1, l2] [] σ else ru d 48 16 [l0, l1, l2] [] σ := q_ic_gt t48_13 (by decide +kernel)
theorem t48_16 : decode (mb 48) 16 = .ok (.iload_n 1, 1) := by decide +kernel
theorem s48_16 (d : Nat) (l0 : Value) (i1 : Int32) (l2 : Value) (σ : Hs) : ru d 48 16 [l0, .int i1, l2] [] σ = ru d 48 17 [l0, .int i1, l2] [.int i1] σ := q_iload_n t48_16 rfl
theorem t48_17 : decode (mb 48) 17 = .ok (.aload_n 0, 1) := by decide +kernel
theorem s48_17 (d : Nat) (a0 : Nat) (l1 : Value) (l2 : Value) (w0 : Value) (σ : Hs) : ru d 48 17 [.ref a0, l1, l2] [w0] σ = ru d 48 18 [.ref a0, l1, l2] [.ref a0, w0] σ := q_aload_n t48_17 rfl
theorem t48_18 : decode (mb 48) 18 = .ok (.getfield 19, 3) := by decide +kernel
theorem s48_18_o77 (d : Nat) (l0 : Value) (l1 : Value) (l2 : Value) (w0 : Value) (σ : Hs) : ru d 48 18 [l0, l1, l2] [.ref 77, w0] σ = ru d 48 21 [l0, l1, l2] [.int (σ 77 2), w0] σ := q_getf t48_18 mo48 F4_19 rfl rfl
theorem s48_18_o79 (d : Nat) (l0 : Value) (l1 : Value) (l2 : Value) (w0 : Value) (σ : Hs) : ru d 48 18 [l0, l1, l2] [.ref 79, w0] σ = ru d 48 21 [l0, l1, l2] [.int (σ 79 2), w0] σ := q_getf t48_18 mo48 F4_19 rfl rfl
theorem s48_18_o81 (d : Nat) (l0 : Value) (l1 : Value) (l2 : Value) (w0 : Value) (σ : Hs) : ru d 48 18 [l0, l1, l2] [.ref 81, w0] σ = ru d 48 21 [l0, l1, l2] [.int (σ 81 2), w0] σ := q_getf t48_18 mo48 F4_19 rfl rfl
theorem s48_18_o83 (d : Nat) (l0 : Value) (l1 : Value) (l2 : Value) (w0 : Value) (σ : Hs) : ru d 48 18 [l0, l1, l2] [.ref 83, w0] σ = ru d 48 21 [l0, l1, l2] [.int (σ 83 2), w0] σ := q_getf t48_18 mo48 F4_19 rfl rfl
theorem t48_21 : decode (mb 48) 21 = .ok (.iload_n 2, 1) := by decide +kernel
theorem s48_21 (d : Nat) (l0 : Value) (l1 : Value) (i2 : Int32) (w0 w1 : Value) (σ : Hs) : ru d 48 21 [l0, l1, .int i2] [w0, w1] σ = ru d 48 22 [l0, l1, .int i2] [.int i2, w0, w1] σ := q_iload_n t48_21 rfl
theorem t48_22 : decode (mb 48) 22 = .ok (.isub, 1) := by decide +kernel
theorem s48_22 (d : Nat) (l0 : Value) (l1 : Value) (l2 : Value) (x y : Int32) (w0 : Value) (σ : Hs) : ru d 48 22 [l0, l1, l2] [.int y, .int x, w0] σ = ru d 48 23 [l0, l1, l2] [.int (x - y), w0] σ := q_isub t48_22
theorem t48_23 : decode (mb 48) 23 = .ok (.if_icmp .gt 7, 3) := by decide +kernel
theorem s48_23 (d : Nat) (l0 : Value) (l1 : Value) (l2 : Value) (x y : Int32) (σ : Hs) : ru d 48 23 [l0, l1, l2] [.int y, .int x] σ = if y < x then ru d 48 30 [l0, l1, l2] [] σ else ru d 48 26 [l0, l1, l2] [] σ := q_ic_gt t48_23 (by decide +kernel)
theorem t48_26 : decode (mb 48) 26 = .ok (.iconst 1, 1) := by decide +kernel
theorem s48_26 (d : Nat) (l0 : Value) (l1 : Value) (l2 : Value) (σ : Hs) : ru d 48 26 [l0, l1, l2] [] σ = ru d 48 27 [l0, l1, l2] [.int 1] σ := q_iconst t48_26 (by decide +kernel)
theorem t48_27 : decode (mb 48) 27 = .ok (.goto 4, 3) := by decide +kernel
theorem s48_27 (d : Nat) (l0 : Value) (l1 : Value) (l2 : Value) (w0 : Value) (σ : Hs) : ru d 48 27 [l0, l1, l2] [w0] σ = ru d 48 31 [l0, l1, l2] [w0] σ := q_goto t48_27 (by decide +kernel)
theorem t48_30 : decode (mb 48) 30 = .ok (.iconst 0, 1) := by decide +kernel
theorem s48_30 (d : Nat) (l0 : Value) (l1 : Value) (l2 : Value) (σ : Hs) : ru d 48 30 [l0, l1, l2] [] σ = ru d 48 31 [l0, l1, l2] [.int 0] σ := q_iconst t48_30 (by decide +kernel)
theorem t48_31 : decode (mb 48) 31 = .ok (.ireturn, 1) := by decide +kernel
theorem s48_31 (d : Nat) (l0 : Value) (l1 : Value) (l2 : Value) (x : Int32) (hx : isB x) (σ : Hs) : ru d 48 31 [l0, l1, l2] [.int x] σ = some (some (.int x), σ) := q_iretz t48_31 mr48 hx
theorem c48 (d : Nat) (x0 : Nat) (x1 : Int32) (x2 : Int32) (σ : Hs) : callD (d + 1) 48 [.ref x0, .int x1, .int x2] σ = ru d 48 0 [.ref x0, .int x1, .int x2] [] σ := callD_ru ml48 rfl rfl (Nat.le_of_ble_eq_true rfl)
-- 49: Sheet.write(II)V
theorem t49_0 : decode (mb 49) 0 = .ok (.aload_n 0, 1) := by decide +kernel
theorem s49_0 (d : Nat) (a0 : Nat) (l1 : Value) (l2 : Value) (σ : Hs) : ru d 49 0 [.ref a0, l1, l2] [] σ = ru d 49 1 [.ref a0, l1, l2] [.ref a0] σ := q_aload_n t49_0 rfl
theorem t49_1 : decode (mb 49) 1 = .ok (.getfield 9, 3) := by decide +kernel
theorem s49_1_o77 (d : Nat) (l0 : Value) (l1 : Value) (l2 : Value) (σ : Hs) : ru d 49 1 [l0, l1, l2] [.ref 77] σ = ru d 49 4 [l0, l1, l2] [.ref 78] σ := q_getf t49_1 mo49 F4_9 rfl rfl
theorem s49_1_o79 (d : Nat) (l0 : Value) (l1 : Value) (l2 : Value) (σ : Hs) : ru d 49 1 [l0, l1, l2] [.ref 79] σ = ru d 49 4 [l0, l1, l2] [.ref 80] σ := q_getf t49_1 mo49 F4_9 rfl rfl
theorem s49_1_o81 (d : Nat) (l0 : Value) (l1 : Value) (l2 : Value) (σ : Hs) : ru d 49 1 [l0, l1, l2] [.ref 81] σ = ru d 49 4 [l0, l1, l2] [.ref 82] σ := q_getf t49_1 mo49 F4_9 rfl rfl
theorem s49_1_o83 (d : Nat) (l0 : Value) (l1 : Value) (l2 : Value) (σ : Hs) : ru d 49 1 [l0, l1, l2] [.ref 83] σ = ru d 49 4 [l0, l1, l2] [.ref 84] σ := q_getf t49_1 mo49 F4_9 rfl rfl
theorem t49_4 : decode (mb 49) 4 = .ok (.iload_n 1, 1) := by decide +kernel
theorem s49_4 (d : Nat) (l0 : Value) (i1 : Int32) (l2 : Value) (w0 : Value) (σ : Hs) : ru d 49 4 [l0, .int i1, l2] [w0] σ = ru d 49 5 [l0, .int i1, l2] [.int i1, w0] σ := q_iload_n t49_4 rfl
theorem t49_5 : decode (mb 49) 5 = .ok (.aload_n 0, 1) := by decide +kernel
theorem s49_5 (d : Nat) (a0 : Nat) (l1 : Value) (l2 : Value) (w0 w1 : Value) (σ : Hs) : ru d 49 5 [.ref a0, l1, l2] [w0, w1] σ = ru d 49 6 [.ref a0, l1, l2] [.ref a0, w0, w1] σ := q_aload_n t49_5 rfl
theorem t49_6 : decode (mb 49) 6 = .ok (.getfield 15, 3) := by decide +kernel
theorem s49_6_o77 (d : Nat) (l0 : Value) (l1 : Value) (l2 : Value) (w0 w1 : Value) (σ : Hs) : ru d 49 6 [l0, l1, l2] [.ref 77, w0, w1] σ = ru d 49 9 [l0, l1, l2] [.int (σ 77 1), w0, w1] σ := q_getf t49_6 mo49 F4_15 rfl rfl
theorem s49_6_o79 (d : Nat) (l0 : Value) (l1 : Value) (l2 : Value) (w0 w1 : Value) (σ : Hs) : ru d 49 6 [l0, l1, l2] [.ref 79, w0, w1] σ = ru d 49 9 [l0, l1, l2] [.int (σ 79 1), w0, w1] σ := q_getf t49_6 mo49 F4_15 rfl rfl
theorem s49_6_o81 (d : Nat) (l0 : Value) (l1 : Value) (l2 : Value) (w0 w1 : Value) (σ : Hs) : ru d 49 6 [l0, l1, l2] [.ref 81, w0, w1] σ = ru d 49 9 [l0, l1, l2] [.int (σ 81 1), w0, w1] σ := q_getf t49_6 mo49 F4_15 rfl rfl
theorem s49_6_o83 (d : Nat) (l0 : Value) (l1 : Value) (l2 : Value) (w0 w1 : Value) (σ : Hs) : ru d 49 6 [l0, l1, l2] [.ref 83, w0, w1] σ = ru d 49 9 [l0, l1, l2] [.int (σ 83 1), w0, w1] σ := q_getf t49_6 mo49 F4_15 rfl rfl
theorem t49_9 : decode (mb 49) 9 = .ok (.bipush 8, 2) := by decide +kernel
theorem s49_9 (d : Nat) (l0 : Value) (l1 : Value) (l2 : Value) (w0 w1 w2 : Value) (σ : Hs) : ru d 49 9 [l0, l1, l2] [w0, w1, w2] σ = ru d 49 11 [l0, l1, l2] [.int 8, w0, w1, w2] σ := q_bipush t49_9 (by decide +kernel)
theorem t49_11 : decode (mb 49) 11 = .ok (.if_icmp .ne 8, 3) := by decide +kernel
theorem s49_11 (d : Nat) (l0 : Value) (l1 : Value) (l2 : Value) (x y : Int32) (w0 w1 : Value) (σ : Hs) : ru d 49 11 [l0, l1, l2] [.int y, .int x, w0, w1] σ = if x = y then ru d 49 14 [l0, l1, l2] [w0, w1] σ else ru d 49 19 [l0, l1, l2] [w0, w1] σ := q_ic_ne t49_11 (by decide +kernel)
theorem t49_14 : decode (mb 49) 14 = .ok (.iload_n 2, 1) := by decide +kernel
theorem s49_14 (d : Nat) (l0 : Value) (l1 : Value) (i2 : Int32) (w0 w1 : Value) (σ : Hs) : ru d 49 14 [l0, l1, .int i2] [w0, w1] σ = ru d 49 15 [l0, l1, .int i2] [.int i2, w0, w1] σ := q_iload_n t49_14 rfl
theorem t49_15 : decode (mb 49) 15 = .ok (.i2b, 1) := by decide +kernel
theorem s49_15 (d : Nat) (l0 : Value) (l1 : Value) (l2 : Value) (x : Int32) (w0 w1 : Value) (σ : Hs) : ru d 49 15 [l0, l1, l2] [.int x, w0, w1] σ = ru d 49 16 [l0, l1, l2] [.int x.toInt8.toInt32, w0, w1] σ := q_i2b t49_15
theorem t49_16 : decode (mb 49) 16 = .ok (.goto 18, 3) := by decide +kernel
theorem s49_16 (d : Nat) (l0 : Value) (l1 : Value) (l2 : Value) (w0 w1 w2 : Value) (σ : Hs) : ru d 49 16 [l0, l1, l2] [w0, w1, w2] σ = ru d 49 34 [l0, l1, l2] [w0, w1, w2] σ := q_goto t49_16 (by decide +kernel)
theorem t49_19 : decode (mb 49) 19 = .ok (.aload_n 0, 1) := by decide +kernel
theorem s49_19 (d : Nat) (a0 : Nat) (l1 : Value) (l2 : Value) (w0 w1 : Value) (σ : Hs) : ru d 49 19 [.ref a0, l1, l2] [w0, w1] σ = ru d 49 20 [.ref a0, l1, l2] [.ref a0, w0, w1] σ := q_aload_n t49_19 rfl
theorem t49_20 : decode (mb 49) 20 = .ok (.getfield 15, 3) := by decide +kernel
theorem s49_20_o77 (d : Nat) (l0 : Value) (l1 : Value) (l2 : Value) (w0 w1 : Value) (σ : Hs) : ru d 49 20 [l0, l1, l2] [.ref 77, w0, w1] σ = ru d 49 23 [l0, l1, l2] [.int (σ 77 1), w0, w1] σ := q_getf t49_20 mo49 F4_15 rfl rfl
theorem s49_20_o79 (d : Nat) (l0 : Value) (l1 : Value) (l2 : Value) (w0 w1 : Value) (σ : Hs) : ru d 49 20 [l0, l1, l2] [.ref 79, w0, w1] σ = ru d 49 23 [l0, l1, l2] [.int (σ 79 1), w0, w1] σ := q_getf t49_20 mo49 F4_15 rfl rfl
theorem s49_20_o81 (d : Nat) (l0 : Value) (l1 : Value) (l2 : Value) (w0 w1 : Value) (σ : Hs) : ru d 49 20 [l0, l1, l2] [.ref 81, w0, w1] σ = ru d 49 23 [l0, l1, l2] [.int (σ 81 1), w0, w1] σ := q_getf t49_20 mo49 F4_15 rfl rfl
theorem s49_20_o83 (d : Nat) (l0 : Value) (l1 : Value) (l2 : Value) (w0 w1 : Value) (σ : Hs) : ru d 49 20 [l0, l1, l2] [.ref 83, w0, w1] σ = ru d 49 23 [l0, l1, l2] [.int (σ 83 1), w0, w1] σ := q_getf t49_20 mo49 F4_15 rfl rfl
theorem t49_23 : decode (mb 49) 23 = .ok (.bipush 16, 2) := by decide +kernel
theorem s49_23 (d : Nat) (l0 : Value) (l1 : Value) (l2 : Value) (w0 w1 w2 : Value) (σ : Hs) : ru d 49 23 [l0, l1, l2] [w0, w1, w2] σ = ru d 49 25 [l0, l1, l2] [.int 16, w0, w1, w2] σ := q_bipush t49_23 (by decide +kernel)
theorem t49_25 : decode (mb 49) 25 = .ok (.if_icmp .ne 8, 3) := by decide +kernel
theorem s49_25 (d : Nat) (l0 : Value) (l1 : Value) (l2 : Value) (x y : Int32) (w0 w1 : Value) (σ : Hs) : ru d 49 25 [l0, l1, l2] [.int y, .int x, w0, w1] σ = if x = y then ru d 49 28 [l0, l1, l2] [w0, w1] σ else ru d 49 33 [l0, l1, l2] [w0, w1] σ := q_ic_ne t49_25 (by decide +kernel)
theorem t49_28 : decode (mb 49) 28 = .ok (.iload_n 2, 1) := by decide +kernel
theorem s49_28 (d : Nat) (l0 : Value) (l1 : Value) (i2 : Int32) (w0 w1 : Value) (σ : Hs) : ru d 49 28 [l0, l1, .int i2] [w0, w1] σ = ru d 49 29 [l0, l1, .int i2] [.int i2, w0, w1] σ := q_iload_n t49_28 rfl
theorem t49_29 : decode (mb 49) 29 = .ok (.i2s, 1) := by decide +kernel
theorem s49_29 (d : Nat) (l0 : Value) (l1 : Value) (l2 : Value) (x : Int32) (w0 w1 : Value) (σ : Hs) : ru d 49 29 [l0, l1, l2] [.int x, w0, w1] σ = ru d 49 30 [l0, l1, l2] [.int x.toInt16.toInt32, w0, w1] σ := q_i2s t49_29
theorem t49_30 : decode (mb 49) 30 = .ok (.goto 4, 3) := by decide +kernel
theorem s49_30 (d : Nat) (l0 : Value) (l1 : Value) (l2 : Value) (w0 w1 w2 : Value) (σ : Hs) : ru d 49 30 [l0, l1, l2] [w0, w1, w2] σ = ru d 49 34 [l0, l1, l2] [w0, w1, w2] σ := q_goto t49_30 (by decide +kernel)
theorem t49_33 : decode (mb 49) 33 = .ok (.iload_n 2, 1) := by decide +kernel
theorem s49_33 (d : Nat) (l0 : Value) (l1 : Value) (i2 : Int32) (w0 w1 : Value) (σ : Hs) : ru d 49 33 [l0, l1, .int i2] [w0, w1] σ = ru d 49 34 [l0, l1, .int i2] [.int i2, w0, w1] σ := q_iload_n t49_33 rfl
theorem t49_34 : decode (mb 49) 34 = .ok (.iastore, 1) := by decide +kernel
theorem s49_34_o78 (d : Nat) (l0 : Value) (l1 : Value) (l2 : Value) (i x : Int32) (σ : Hs) : ru d 49 34 [l0, l1, l2] [.int x, .int i, .ref 78] σ = gd (vp_in i 24) (ru d 49 35 [l0, l1, l2] [] (up2 σ 78 i.toNatClampNeg x)) := q_iast t49_34 (by decide +kernel) rfl rfl
theorem s49_34_o80 (d : Nat) (l0 : Value) (l1 : Value) (l2 : Value) (i x : Int32) (σ : Hs) : ru d 49 34 [l0, l1, l2] [.int x, .int i, .ref 80] σ = gd (vp_in i 24) (ru d 49 35 [l0, l1, l2] [] (up2 σ 80 i.toNatClampNeg x)) := q_iast t49_34 (by decide +kernel) rfl rfl
theorem s49_34_o82 (d : Nat) (l0 : Value) (l1 : Value) (l2 : Value) (i x : Int32) (σ : Hs) : ru d 49 34 [l0, l1, l2] [.int x, .int i, .ref 82] σ = gd (vp_in i 24) (ru d 49 35 [l0, l1, l2] [] (up2 σ 82 i.toNatClampNeg x)) := q_iast t49_34 (by decide +kernel) rfl rfl
theorem s49_34_o84 (d : Nat) (l0 : Value) (l1 : Value) (l2 : Value) (i x : Int32) (σ : Hs) : ru d 49 34 [l0, l1, l2] [.int x, .int i, .ref 84] σ = gd (vp_in i 24) (ru d 49 35 [l0, l1, l2] [] (up2 σ 84 i.toNatClampNeg x)) := q_iast t49_34 (by decide +kernel) rfl rfl
theorem t49_35 : decode (mb 49) 35 = .ok (.return_, 1) := by decide +kernel
theorem s49_35 (d : Nat) (l0 : Value) (l1 : Value) (l2 : Value) (σ : Hs) : ru d 49 35 [l0, l1, l2] [] σ = some (none, σ) := q_vret t49_35 mr49
theorem c49 (d : Nat) (x0 : Nat) (x1 : Int32) (x2 : Int32) (σ : Hs) : callD (d + 1) 49 [.ref x0, .int x1, .int x2] σ = ru d 49 0 [.ref x0, .int x1, .int x2] [] σ := callD_ru ml49 rfl rfl (Nat.le_of_ble_eq_true rfl)
