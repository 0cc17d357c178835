-- 33: Laws.work(IIIII)I
theorem t33_0 : decode (mb 33) 0 = .ok (.iconst 0, 1) := by decide +kernel
theorem s33_0 (d : Nat) (l0 : Value) (l1 : Value) (l2 : Value) (l3 : Value) (l4 : Value) (l5 : Value) (l6 : Value) (l7 : Value) (l8 : Value) (l9 : Value) (σ : Hs) : ru d 33 0 [l0, l1, l2, l3, l4, l5, l6, l7, l8, l9] [] σ = ru d 33 1 [l0, l1, l2, l3, l4, l5, l6, l7, l8, l9] [.int 0] σ := q_iconst t33_0 (by decide +kernel)
theorem t33_1 : decode (mb 33) 1 = .ok (.istore 6, 2) := by decide +kernel
theorem s33_1 (d : Nat) (l0 : Value) (l1 : Value) (l2 : Value) (l3 : Value) (l4 : Value) (i5 : Int32) (l6 : Value) (l7 : Value) (l8 : Value) (l9 : Value) (x : Int32) (σ : Hs) : ru d 33 1 [l0, l1, l2, l3, l4, .int i5, l6, l7, l8, l9] [.int x] σ = ru d 33 3 [l0, l1, l2, l3, l4, .int i5, .int x, l7, l8, l9] [] σ := q_istore t33_1 ⟨Nat.le_of_ble_eq_true rfl, rfl⟩ rfl
theorem t33_3 : decode (mb 33) 3 = .ok (.aload_n 0, 1) := by decide +kernel
theorem s33_3 (d : Nat) (a0 : Nat) (l1 : Value) (l2 : Value) (l3 : Value) (l4 : Value) (l5 : Value) (l6 : Value) (l7 : Value) (l8 : Value) (l9 : Value) (σ : Hs) : ru d 33 3 [.ref a0, l1, l2, l3, l4, l5, l6, l7, l8, l9] [] σ = ru d 33 4 [.ref a0, l1, l2, l3, l4, l5, l6, l7, l8, l9] [.ref a0] σ := q_aload_n t33_3 rfl
theorem t33_4 : decode (mb 33) 4 = .ok (.getfield 11, 3) := by decide +kernel
theorem s33_4_o13 (d : Nat) (l0 : Value) (l1 : Value) (l2 : Value) (l3 : Value) (l4 : Value) (l5 : Value) (l6 : Value) (l7 : Value) (l8 : Value) (l9 : Value) (σ : Hs) : ru d 33 4 [l0, l1, l2, l3, l4, l5, l6, l7, l8, l9] [.ref 13] σ = ru d 33 7 [l0, l1, l2, l3, l4, l5, l6, l7, l8, l9] [.ref 14] σ := q_getf t33_4 mo33 F1_11 rfl rfl
theorem t33_7 : decode (mb 33) 7 = .ok (.iload_n 1, 1) := by decide +kernel
theorem s33_7 (d : Nat) (l0 : Value) (i1 : Int32) (l2 : Value) (l3 : Value) (l4 : Value) (l5 : Value) (l6 : Value) (l7 : Value) (l8 : Value) (l9 : Value) (w0 : Value) (σ : Hs) : ru d 33 7 [l0, .int i1, l2, l3, l4, l5, l6, l7, l8, l9] [w0] σ = ru d 33 8 [l0, .int i1, l2, l3, l4, l5, l6, l7, l8, l9] [.int i1, w0] σ := q_iload_n t33_7 rfl
theorem t33_8 : decode (mb 33) 8 = .ok (.aaload, 1) := by decide +kernel
theorem s33_8_o14 (d : Nat) (l0 : Value) (l1 : Value) (l2 : Value) (l3 : Value) (l4 : Value) (l5 : Value) (l6 : Value) (l7 : Value) (l8 : Value) (l9 : Value) (i : Int32) (σ : Hs) : ru d 33 8 [l0, l1, l2, l3, l4, l5, l6, l7, l8, l9] [.int i, .ref 14] σ = gd (vp_in i 3) (ru d 33 9 [l0, l1, l2, l3, l4, l5, l6, l7, l8, l9] [.ref (cr 14 i.toNatClampNeg)] σ) := q_aald t33_8 (by decide +kernel) (by decide +kernel) rfl
theorem t33_9 : decode (mb 33) 9 = .ok (.astore 7, 2) := by decide +kernel
theorem s33_9 (d : Nat) (l0 : Value) (l1 : Value) (l2 : Value) (l3 : Value) (l4 : Value) (l5 : Value) (i6 : Int32) (l7 : Value) (l8 : Value) (l9 : Value) (x : Nat) (σ : Hs) : ru d 33 9 [l0, l1, l2, l3, l4, l5, .int i6, l7, l8, l9] [.ref x] σ = ru d 33 11 [l0, l1, l2, l3, l4, l5, .int i6, .ref x, l8, l9] [] σ := q_astore t33_9 ⟨Nat.le_of_ble_eq_true rfl, rfl⟩ rfl
theorem t33_11 : decode (mb 33) 11 = .ok (.iconst 0, 1) := by decide +kernel
theorem s33_11 (d : Nat) (l0 : Value) (l1 : Value) (l2 : Value) (l3 : Value) (l4 : Value) (l5 : Value) (l6 : Value) (l7 : Value) (l8 : Value) (l9 : Value) (σ : Hs) : ru d 33 11 [l0, l1, l2, l3, l4, l5, l6, l7, l8, l9] [] σ = ru d 33 12 [l0, l1, l2, l3, l4, l5, l6, l7, l8, l9] [.int 0] σ := q_iconst t33_11 (by decide +kernel)
theorem t33_12 : decode (mb 33) 12 = .ok (.istore 8, 2) := by decide +kernel
theorem s33_12 (d : Nat) (l0 : Value) (l1 : Value) (l2 : Value) (l3 : Value) (l4 : Value) (l5 : Value) (l6 : Value) (a7 : Nat) (l8 : Value) (l9 : Value) (x : Int32) (σ : Hs) : ru d 33 12 [l0, l1, l2, l3, l4, l5, l6, .ref a7, l8, l9] [.int x] σ = ru d 33 14 [l0, l1, l2, l3, l4, l5, l6, .ref a7, .int x, l9] [] σ := q_istore t33_12 ⟨Nat.le_of_ble_eq_true rfl, rfl⟩ rfl
theorem t33_14 : decode (mb 33) 14 = .ok (.iload 8, 2) := by decide +kernel
theorem s33_14 (d : Nat) (l0 : Value) (l1 : Value) (l2 : Value) (l3 : Value) (l4 : Value) (l5 : Value) (l6 : Value) (l7 : Value) (i8 : Int32) (l9 : Value) (σ : Hs) : ru d 33 14 [l0, l1, l2, l3, l4, l5, l6, l7, .int i8, l9] [] σ = ru d 33 16 [l0, l1, l2, l3, l4, l5, l6, l7, .int i8, l9] [.int i8] σ := q_iload t33_14 rfl
theorem t33_16 : decode (mb 33) 16 = .ok (.aload 7, 2) := by decide +kernel
theorem s33_16 (d : Nat) (l0 : Value) (l1 : Value) (l2 : Value) (l3 : Value) (l4 : Value) (l5 : Value) (l6 : Value) (a7 : Nat) (l8 : Value) (l9 : Value) (w0 : Value) (σ : Hs) : ru d 33 16 [l0, l1, l2, l3, l4, l5, l6, .ref a7, l8, l9] [w0] σ = ru d 33 18 [l0, l1, l2, l3, l4, l5, l6, .ref a7, l8, l9] [.ref a7, w0] σ := q_aload t33_16 rfl
theorem t33_18 : decode (mb 33) 18 = .ok (.getfield 24, 3) := by decide +kernel
theorem s33_18_o16 (d : Nat) (l0 : Value) (l1 : Value) (l2 : Value) (l3 : Value) (l4 : Value) (l5 : Value) (l6 : Value) (l7 : Value) (l8 : Value) (l9 : Value) (w0 : Value) (σ : Hs) : ru d 33 18 [l0, l1, l2, l3, l4, l5, l6, l7, l8, l9] [.ref 16, w0] σ = ru d 33 21 [l0, l1, l2, l3, l4, l5, l6, l7, l8, l9] [.int (σ 16 1), w0] σ := q_getf t33_18 mo33 F1_24 rfl rfl
theorem s33_18_o18 (d : Nat) (l0 : Value) (l1 : Value) (l2 : Value) (l3 : Value) (l4 : Value) (l5 : Value) (l6 : Value) (l7 : Value) (l8 : Value) (l9 : Value) (w0 : Value) (σ : Hs) : ru d 33 18 [l0, l1, l2, l3, l4, l5, l6, l7, l8, l9] [.ref 18, w0] σ = ru d 33 21 [l0, l1, l2, l3, l4, l5, l6, l7, l8, l9] [.int (σ 18 1), w0] σ := q_getf t33_18 mo33 F1_24 rfl rfl
theorem s33_18_o20 (d : Nat) (l0 : Value) (l1 : Value) (l2 : Value) (l3 : Value) (l4 : Value) (l5 : Value) (l6 : Value) (l7 : Value) (l8 : Value) (l9 : Value) (w0 : Value) (σ : Hs) : ru d 33 18 [l0, l1, l2, l3, l4, l5, l6, l7, l8, l9] [.ref 20, w0] σ = ru d 33 21 [l0, l1, l2, l3, l4, l5, l6, l7, l8, l9] [.int (σ 20 1), w0] σ := q_getf t33_18 mo33 F1_24 rfl rfl
theorem t33_21 : decode (mb 33) 21 = .ok (.if_icmp .ge 220, 3) := by decide +kernel
theorem s33_21 (d : Nat) (l0 : Value) (l1 : Value) (l2 : Value) (l3 : Value) (l4 : Value) (l5 : Value) (l6 : Value) (l7 : Value) (l8 : Value) (l9 : Value) (x y : Int32) (σ : Hs) : ru d 33 21 [l0, l1, l2, l3, l4, l5, l6, l7, l8, l9] [.int y, .int x] σ = if y ≤ x then ru d 33 241 [l0, l1, l2, l3, l4, l5, l6, l7, l8, l9] [] σ else ru d 33 24 [l0, l1, l2, l3, l4, l5, l6, l7, l8, l9] [] σ := q_ic_ge t33_21 (by decide +kernel)
theorem t33_24 : decode (mb 33) 24 = .ok (.aload 7, 2) := by decide +kernel
theorem s33_24 (d : Nat) (l0 : Value) (l1 : Value) (l2 : Value) (l3 : Value) (l4 : Value) (l5 : Value) (l6 : Value) (a7 : Nat) (l8 : Value) (l9 : Value) (σ : Hs) : ru d 33 24 [l0, l1, l2, l3, l4, l5, l6, .ref a7, l8, l9] [] σ = ru d 33 26 [l0, l1, l2, l3, l4, l5, l6, .ref a7, l8, l9] [.ref a7] σ := q_aload t33_24 rfl
theorem t33_26 : decode (mb 33) 26 = .ok (.getfield 32, 3) := by decide +kernel
theorem s33_26_o16 (d : Nat) (l0 : Value) (l1 : Value) (l2 : Value) (l3 : Value) (l4 : Value) (l5 : Value) (l6 : Value) (l7 : Value) (l8 : Value) (l9 : Value) (σ : Hs) : ru d 33 26 [l0, l1, l2, l3, l4, l5, l6, l7, l8, l9] [.ref 16] σ = ru d 33 29 [l0, l1, l2, l3, l4, l5, l6, l7, l8, l9] [.ref 17] σ := q_getf t33_26 mo33 F1_32 rfl rfl
theorem s33_26_o18 (d : Nat) (l0 : Value) (l1 : Value) (l2 : Value) (l3 : Value) (l4 : Value) (l5 : Value) (l6 : Value) (l7 : Value) (l8 : Value) (l9 : Value) (σ : Hs) : ru d 33 26 [l0, l1, l2, l3, l4, l5, l6, l7, l8, l9] [.ref 18] σ = ru d 33 29 [l0, l1, l2, l3, l4, l5, l6, l7, l8, l9] [.ref 19] σ := q_getf t33_26 mo33 F1_32 rfl rfl
theorem s33_26_o20 (d : Nat) (l0 : Value) (l1 : Value) (l2 : Value) (l3 : Value) (l4 : Value) (l5 : Value) (l6 : Value) (l7 : Value) (l8 : Value) (l9 : Value) (σ : Hs) : ru d 33 26 [l0, l1, l2, l3, l4, l5, l6, l7, l8, l9] [.ref 20] σ = ru d 33 29 [l0, l1, l2, l3, l4, l5, l6, l7, l8, l9] [.ref 21] σ := q_getf t33_26 mo33 F1_32 rfl rfl
theorem t33_29 : decode (mb 33) 29 = .ok (.iload 8, 2) := by decide +kernel
theorem s33_29 (d : Nat) (l0 : Value) (l1 : Value) (l2 : Value) (l3 : Value) (l4 : Value) (l5 : Value) (l6 : Value) (l7 : Value) (i8 : Int32) (l9 : Value) (w0 : Value) (σ : Hs) : ru d 33 29 [l0, l1, l2, l3, l4, l5, l6, l7, .int i8, l9] [w0] σ = ru d 33 31 [l0, l1, l2, l3, l4, l5, l6, l7, .int i8, l9] [.int i8, w0] σ := q_iload t33_29 rfl
theorem t33_31 : decode (mb 33) 31 = .ok (.iaload, 1) := by decide +kernel
theorem s33_31_o17 (d : Nat) (l0 : Value) (l1 : Value) (l2 : Value) (l3 : Value) (l4 : Value) (l5 : Value) (l6 : Value) (l7 : Value) (l8 : Value) (l9 : Value) (i : Int32) (σ : Hs) : ru d 33 31 [l0, l1, l2, l3, l4, l5, l6, l7, l8, l9] [.int i, .ref 17] σ = gd (vp_in i 60) (ru d 33 32 [l0, l1, l2, l3, l4, l5, l6, l7, l8, l9] [.int (σ 17 i.toNatClampNeg)] σ) := q_iald t33_31 rfl (by decide +kernel) rfl
theorem s33_31_o19 (d : Nat) (l0 : Value) (l1 : Value) (l2 : Value) (l3 : Value) (l4 : Value) (l5 : Value) (l6 : Value) (l7 : Value) (l8 : Value) (l9 : Value) (i : Int32) (σ : Hs) : ru d 33 31 [l0, l1, l2, l3, l4, l5, l6, l7, l8, l9] [.int i, .ref 19] σ = gd (vp_in i 60) (ru d 33 32 [l0, l1, l2, l3, l4, l5, l6, l7, l8, l9] [.int (σ 19 i.toNatClampNeg)] σ) := q_iald t33_31 rfl (by decide +kernel) rfl
theorem s33_31_o21 (d : Nat) (l0 : Value) (l1 : Value) (l2 : Value) (l3 : Value) (l4 : Value) (l5 : Value) (l6 : Value) (l7 : Value) (l8 : Value) (l9 : Value) (i : Int32) (σ : Hs) : ru d 33 31 [l0, l1, l2, l3, l4, l5, l6, l7, l8, l9] [.int i, .ref 21] σ = gd (vp_in i 60) (ru d 33 32 [l0, l1, l2, l3, l4, l5, l6, l7, l8, l9] [.int (σ 21 i.toNatClampNeg)] σ) := q_iald t33_31 rfl (by decide +kernel) rfl
theorem t33_32 : decode (mb 33) 32 = .ok (.istore 9, 2) := by decide +kernel
theorem s33_32 (d : Nat) (l0 : Value) (l1 : Value) (l2 : Value) (l3 : Value) (l4 : Value) (l5 : Value) (l6 : Value) (l7 : Value) (i8 : Int32) (l9 : Value) (x : Int32) (σ : Hs) : ru d 33 32 [l0, l1, l2, l3, l4, l5, l6, l7, .int i8, l9] [.int x] σ = ru d 33 34 [l0, l1, l2, l3, l4, l5, l6, l7, .int i8, .int x] [] σ := q_istore t33_32 ⟨Nat.le_of_ble_eq_true rfl, rfl⟩ rfl
theorem t33_34 : decode (mb 33) 34 = .ok (.iload 9, 2) := by decide +kernel
theorem s33_34 (d : Nat) (l0 : Value) (l1 : Value) (l2 : Value) (l3 : Value) (l4 : Value) (l5 : Value) (l6 : Value) (l7 : Value) (l8 : Value) (i9 : Int32) (σ : Hs) : ru d 33 34 [l0, l1, l2, l3, l4, l5, l6, l7, l8, .int i9] [] σ = ru d 33 36 [l0, l1, l2, l3, l4, l5, l6, l7, l8, .int i9] [.int i9] σ := q_iload t33_34 rfl
theorem t33_36 : decode (mb 33) 36 = .ok (.sipush 20000, 3) := by decide +kernel
theorem s33_36 (d : Nat) (l0 : Value) (l1 : Value) (l2 : Value) (l3 : Value) (l4 : Value) (l5 : Value) (l6 : Value) (l7 : Value) (l8 : Value) (l9 : Value) (w0 : Value) (σ : Hs) : ru d 33 36 [l0, l1, l2, l3, l4, l5, l6, l7, l8, l9] [w0] σ = ru d 33 39 [l0, l1, l2, l3, l4, l5, l6, l7, l8, l9] [.int 20000, w0] σ := q_sipush t33_36 (by decide +kernel)
theorem t33_39 : decode (mb 33) 39 = .ok (.if_icmp .ge 106, 3) := by decide +kernel
theorem s33_39 (d : Nat) (l0 : Value) (l1 : Value) (l2 : Value) (l3 : Value) (l4 : Value) (l5 : Value) (l6 : Value) (l7 : Value) (l8 : Value) (l9 : Value) (x y : Int32) (σ : Hs) : ru d 33 39 [l0, l1, l2, l3, l4, l5, l6, l7, l8, l9] [.int y, .int x] σ = if y ≤ x then ru d 33 145 [l0, l1, l2, l3, l4, l5, l6, l7, l8, l9] [] σ else ru d 33 42 [l0, l1, l2, l3, l4, l5, l6, l7, l8, l9] [] σ := q_ic_ge t33_39 (by decide +kernel)
theorem t33_42 : decode (mb 33) 42 = .ok (.iload 6, 2) := by decide +kernel
theorem s33_42 (d : Nat) (l0 : Value) (l1 : Value) (l2 : Value) (l3 : Value) (l4 : Value) (l5 : Value) (i6 : Int32) (l7 : Value) (l8 : Value) (l9 : Value) (σ : Hs) : ru d 33 42 [l0, l1, l2, l3, l4, l5, .int i6, l7, l8, l9] [] σ = ru d 33 44 [l0, l1, l2, l3, l4, l5, .int i6, l7, l8, l9] [.int i6] σ := q_iload t33_42 rfl
theorem t33_44 : decode (mb 33) 44 = .ok (.bipush 60, 2) := by decide +kernel
theorem s33_44 (d : Nat) (l0 : Value) (l1 : Value) (l2 : Value) (l3 : Value) (l4 : Value) (l5 : Value) (l6 : Value) (l7 : Value) (l8 : Value) (l9 : Value) (w0 : Value) (σ : Hs) : ru d 33 44 [l0, l1, l2, l3, l4, l5, l6, l7, l8, l9] [w0] σ = ru d 33 46 [l0, l1, l2, l3, l4, l5, l6, l7, l8, l9] [.int 60, w0] σ := q_bipush t33_44 (by decide +kernel)
theorem t33_46 : decode (mb 33) 46 = .ok (.if_icmp .lt 5, 3) := by decide +kernel
theorem s33_46 (d : Nat) (l0 : Value) (l1 : Value) (l2 : Value) (l3 : Value) (l4 : Value) (l5 : Value) (l6 : Value) (l7 : Value) (l8 : Value) (l9 : Value) (x y : Int32) (σ : Hs) : ru d 33 46 [l0, l1, l2, l3, l4, l5, l6, l7, l8, l9] [.int y, .int x] σ = if x < y then ru d 33 51 [l0, l1, l2, l3, l4, l5, l6, l7, l8, l9] [] σ else ru d 33 49 [l0, l1, l2, l3, l4, l5, l6, l7, l8, l9] [] σ := q_ic_lt t33_46 (by decide +kernel)
theorem t33_49 : decode (mb 33) 49 = .ok (.iconst 0, 1) := by decide +kernel
theorem s33_49 (d : Nat) (l0 : Value) (l1 : Value) (l2 : Value) (l3 : Value) (l4 : Value) (l5 : Value) (l6 : Value) (l7 : Value) (l8 : Value) (l9 : Value) (σ : Hs) : ru d 33 49 [l0, l1, l2, l3, l4, l5, l6, l7, l8, l9] [] σ = ru d 33 50 [l0, l1, l2, l3, l4, l5, l6, l7, l8, l9] [.int 0] σ := q_iconst t33_49 (by decide +kernel)
theorem t33_50 : decode (mb 33) 50 = .ok (.ireturn, 1) := by decide +kernel
theorem s33_50 (d : Nat) (l0 : Value) (l1 : Value) (l2 : Value) (l3 : Value) (l4 : Value) (l5 : Value) (l6 : Value) (l7 : Value) (l8 : Value) (l9 : Value) (x : Int32) (σ : Hs) : ru d 33 50 [l0, l1, l2, l3, l4, l5, l6, l7, l8, l9] [.int x] σ = some (some (.int x), σ) := q_ireti t33_50 mr33
theorem t33_51 : decode (mb 33) 51 = .ok (.iload 9, 2) := by decide +kernel
theorem s33_51 (d : Nat) (l0 : Value) (l1 : Value) (l2 : Value) (l3 : Value) (l4 : Value) (l5 : Value) (l6 : Value) (l7 : Value) (l8 : Value) (i9 : Int32) (σ : Hs) : ru d 33 51 [l0, l1, l2, l3, l4, l5, l6, l7, l8, .int i9] [] σ = ru d 33 53 [l0, l1, l2, l3, l4, l5, l6, l7, l8, .int i9] [.int i9] σ := q_iload t33_51 rfl
theorem t33_53 : decode (mb 33) 53 = .ok (.tableswitch 77 10000 10003 #[31, 42, 53, 65], 31) := by decide +kernel
theorem f33_53 (x : Int32) : (tsw 10000 10003 #[31, 42, 53, 65] 77 x.toInt).bind (tgt 53) = some (if x = 10000 then 84 else (if x = 10001 then 95 else (if x = 10002 then 106 else (if x = 10003 then 118 else 130)))) := by
  by_cases h0 : x = 10000
  · subst h0; decide +kernel
  by_cases h1 : x = 10001
  · subst h1; decide +kernel
  by_cases h2 : x = 10002
  · subst h2; decide +kernel
  by_cases h3 : x = 10003
  · subst h3; decide +kernel
  have e0 : ¬ x.toInt = 10000 := fun h => h0 (Int32.toInt_inj.mp (h.trans (by decide +kernel)))
  have e1 : ¬ x.toInt = 10001 := fun h => h1 (Int32.toInt_inj.mp (h.trans (by decide +kernel)))
  have e2 : ¬ x.toInt = 10002 := fun h => h2 (Int32.toInt_inj.mp (h.trans (by decide +kernel)))
  have e3 : ¬ x.toInt = 10003 := fun h => h3 (Int32.toInt_inj.mp (h.trans (by decide +kernel)))
  have e : x.toInt < 10000 ∨ 10003 < x.toInt := by omega
  unfold tsw
  rw [if_pos e, if_neg h0, if_neg h1, if_neg h2, if_neg h3]
  decide +kernel
theorem s33_53 (d : Nat) (l0 : Value) (l1 : Value) (l2 : Value) (l3 : Value) (l4 : Value) (l5 : Value) (l6 : Value) (l7 : Value) (l8 : Value) (l9 : Value) (x : Int32) (σ : Hs) : ru d 33 53 [l0, l1, l2, l3, l4, l5, l6, l7, l8, l9] [.int x] σ = if x = 10000 then ru d 33 84 [l0, l1, l2, l3, l4, l5, l6, l7, l8, l9] [] σ else if x = 10001 then ru d 33 95 [l0, l1, l2, l3, l4, l5, l6, l7, l8, l9] [] σ else if x = 10002 then ru d 33 106 [l0, l1, l2, l3, l4, l5, l6, l7, l8, l9] [] σ else if x = 10003 then ru d 33 118 [l0, l1, l2, l3, l4, l5, l6, l7, l8, l9] [] σ else ru d 33 130 [l0, l1, l2, l3, l4, l5, l6, l7, l8, l9] [] σ := by
  refine (q_tsw t33_53 (fun x => (if x = 10000 then 84 else (if x = 10001 then 95 else (if x = 10002 then 106 else (if x = 10003 then 118 else 130))))) (f33_53 x)).trans ?_
  by_cases h0 : x = 10000
  · rw [if_pos h0, if_pos h0]
  rw [if_neg h0, if_neg h0]
  by_cases h1 : x = 10001
  · rw [if_pos h1, if_pos h1]
  rw [if_neg h1, if_neg h1]
  by_cases h2 : x = 10002
  · rw [if_pos h2, if_pos h2]
  rw [if_neg h2, if_neg h2]
  by_cases h3 : x = 10003
  · rw [if_pos h3, if_pos h3]
  rw [if_neg h3, if_neg h3]
theorem t33_84 : decode (mb 33) 84 = .ok (.aload_n 0, 1) := by decide +kernel
theorem s33_84 (d : Nat) (a0 : Nat) (l1 : Value) (l2 : Value) (l3 : Value) (l4 : Value) (l5 : Value) (l6 : Value) (l7 : Value) (l8 : Value) (l9 : Value) (σ : Hs) : ru d 33 84 [.ref a0, l1, l2, l3, l4, l5, l6, l7, l8, l9] [] σ = ru d 33 85 [.ref a0, l1, l2, l3, l4, l5, l6, l7, l8, l9] [.ref a0] σ := q_aload_n t33_84 rfl
theorem t33_85 : decode (mb 33) 85 = .ok (.getfield 17, 3) := by decide +kernel
theorem s33_85_o13 (d : Nat) (l0 : Value) (l1 : Value) (l2 : Value) (l3 : Value) (l4 : Value) (l5 : Value) (l6 : Value) (l7 : Value) (l8 : Value) (l9 : Value) (σ : Hs) : ru d 33 85 [l0, l1, l2, l3, l4, l5, l6, l7, l8, l9] [.ref 13] σ = ru d 33 88 [l0, l1, l2, l3, l4, l5, l6, l7, l8, l9] [.ref 15] σ := q_getf t33_85 mo33 F1_17 rfl rfl
theorem t33_88 : decode (mb 33) 88 = .ok (.iload 6, 2) := by decide +kernel
theorem s33_88 (d : Nat) (l0 : Value) (l1 : Value) (l2 : Value) (l3 : Value) (l4 : Value) (l5 : Value) (i6 : Int32) (l7 : Value) (l8 : Value) (l9 : Value) (w0 : Value) (σ : Hs) : ru d 33 88 [l0, l1, l2, l3, l4, l5, .int i6, l7, l8, l9] [w0] σ = ru d 33 90 [l0, l1, l2, l3, l4, l5, .int i6, l7, l8, l9] [.int i6, w0] σ := q_iload t33_88 rfl
theorem t33_90 : decode (mb 33) 90 = .ok (.iload_n 2, 1) := by decide +kernel
theorem s33_90 (d : Nat) (l0 : Value) (l1 : Value) (i2 : Int32) (l3 : Value) (l4 : Value) (l5 : Value) (l6 : Value) (l7 : Value) (l8 : Value) (l9 : Value) (w0 w1 : Value) (σ : Hs) : ru d 33 90 [l0, l1, .int i2, l3, l4, l5, l6, l7, l8, l9] [w0, w1] σ = ru d 33 91 [l0, l1, .int i2, l3, l4, l5, l6, l7, l8, l9] [.int i2, w0, w1] σ := q_iload_n t33_90 rfl
theorem t33_91 : decode (mb 33) 91 = .ok (.iastore, 1) := by decide +kernel
theorem s33_91_o15 (d : Nat) (l0 : Value) (l1 : Value) (l2 : Value) (l3 : Value) (l4 : Value) (l5 : Value) (l6 : Value) (l7 : Value) (l8 : Value) (l9 : Value) (i x : Int32) (σ : Hs) : ru d 33 91 [l0, l1, l2, l3, l4, l5, l6, l7, l8, l9] [.int x, .int i, .ref 15] σ = gd (vp_in i 60) (ru d 33 92 [l0, l1, l2, l3, l4, l5, l6, l7, l8, l9] [] (up2 σ 15 i.toNatClampNeg x)) := q_iast t33_91 (by decide +kernel) rfl rfl
theorem t33_92 : decode (mb 33) 92 = .ok (.goto 47, 3) := by decide +kernel
theorem s33_92 (d : Nat) (l0 : Value) (l1 : Value) (l2 : Value) (l3 : Value) (l4 : Value) (l5 : Value) (l6 : Value) (l7 : Value) (l8 : Value) (l9 : Value) (σ : Hs) : ru d 33 92 [l0, l1, l2, l3, l4, l5, l6, l7, l8, l9] [] σ = ru d 33 139 [l0, l1, l2, l3, l4, l5, l6, l7, l8, l9] [] σ := q_goto t33_92 (by decide +kernel)
theorem t33_95 : decode (mb 33) 95 = .ok (.aload_n 0, 1) := by decide +kernel
theorem s33_95 (d : Nat) (a0 : Nat) (l1 : Value) (l2 : Value) (l3 : Value) (l4 : Value) (l5 : Value) (l6 : Value) (l7 : Value) (l8 : Value) (l9 : Value) (σ : Hs) : ru d 33 95 [.ref a0, l1, l2, l3, l4, l5, l6, l7, l8, l9] [] σ = ru d 33 96 [.ref a0, l1, l2, l3, l4, l5, l6, l7, l8, l9] [.ref a0] σ := q_aload_n t33_95 rfl
theorem t33_96 : decode (mb 33) 96 = .ok (.getfield 17, 3) := by decide +kernel
theorem s33_96_o13 (d : Nat) (l0 : Value) (l1 : Value) (l2 : Value) (l3 : Value) (l4 : Value) (l5 : Value) (l6 : Value) (l7 : Value) (l8 : Value) (l9 : Value) (σ : Hs) : ru d 33 96 [l0, l1, l2, l3, l4, l5, l6, l7, l8, l9] [.ref 13] σ = ru d 33 99 [l0, l1, l2, l3, l4, l5, l6, l7, l8, l9] [.ref 15] σ := q_getf t33_96 mo33 F1_17 rfl rfl
theorem t33_99 : decode (mb 33) 99 = .ok (.iload 6, 2) := by decide +kernel
theorem s33_99 (d : Nat) (l0 : Value) (l1 : Value) (l2 : Value) (l3 : Value) (l4 : Value) (l5 : Value) (i6 : Int32) (l7 : Value) (l8 : Value) (l9 : Value) (w0 : Value) (σ : Hs) : ru d 33 99 [l0, l1, l2, l3, l4, l5, .int i6, l7, l8, l9] [w0] σ = ru d 33 101 [l0, l1, l2, l3, l4, l5, .int i6, l7, l8, l9] [.int i6, w0] σ := q_iload t33_99 rfl
theorem t33_101 : decode (mb 33) 101 = .ok (.iload_n 3, 1) := by decide +kernel
theorem s33_101 (d : Nat) (l0 : Value) (l1 : Value) (l2 : Value) (i3 : Int32) (l4 : Value) (l5 : Value) (l6 : Value) (l7 : Value) (l8 : Value) (l9 : Value) (w0 w1 : Value) (σ : Hs) : ru d 33 101 [l0, l1, l2, .int i3, l4, l5, l6, l7, l8, l9] [w0, w1] σ = ru d 33 102 [l0, l1, l2, .int i3, l4, l5, l6, l7, l8, l9] [.int i3, w0, w1] σ := q_iload_n t33_101 rfl
theorem t33_102 : decode (mb 33) 102 = .ok (.iastore, 1) := by decide +kernel
theorem s33_102_o15 (d : Nat) (l0 : Value) (l1 : Value) (l2 : Value) (l3 : Value) (l4 : Value) (l5 : Value) (l6 : Value) (l7 : Value) (l8 : Value) (l9 : Value) (i x : Int32) (σ : Hs) : ru d 33 102 [l0, l1, l2, l3, l4, l5, l6, l7, l8, l9] [.int x, .int i, .ref 15] σ = gd (vp_in i 60) (ru d 33 103 [l0, l1, l2, l3, l4, l5, l6, l7, l8, l9] [] (up2 σ 15 i.toNatClampNeg x)) := q_iast t33_102 (by decide +kernel) rfl rfl
theorem t33_103 : decode (mb 33) 103 = .ok (.goto 36, 3) := by decide +kernel
theorem s33_103 (d : Nat) (l0 : Value) (l1 : Value) (l2 : Value) (l3 : Value) (l4 : Value) (l5 : Value) (l6 : Value) (l7 : Value) (l8 : Value) (l9 : Value) (σ : Hs) : ru d 33 103 [l0, l1, l2, l3, l4, l5, l6, l7, l8, l9] [] σ = ru d 33 139 [l0, l1, l2, l3, l4, l5, l6, l7, l8, l9] [] σ := q_goto t33_103 (by decide +kernel)
theorem t33_106 : decode (mb 33) 106 = .ok (.aload_n 0, 1) := by decide +kernel
theorem s33_106 (d : Nat) (a0 : Nat) (l1 : Value) (l2 : Value) (l3 : Value) (l4 : Value) (l5 : Value) (l6 : Value) (l7 : Value) (l8 : Value) (l9 : Value) (σ : Hs) : ru d 33 106 [.ref a0, l1, l2, l3, l4, l5, l6, l7, l8, l9] [] σ = ru d 33 107 [.ref a0, l1, l2, l3, l4, l5, l6, l7, l8, l9] [.ref a0] σ := q_aload_n t33_106 rfl
theorem t33_107 : decode (mb 33) 107 = .ok (.getfield 17, 3) := by decide +kernel
theorem s33_107_o13 (d : Nat) (l0 : Value) (l1 : Value) (l2 : Value) (l3 : Value) (l4 : Value) (l5 : Value) (l6 : Value) (l7 : Value) (l8 : Value) (l9 : Value) (σ : Hs) : ru d 33 107 [l0, l1, l2, l3, l4, l5, l6, l7, l8, l9] [.ref 13] σ = ru d 33 110 [l0, l1, l2, l3, l4, l5, l6, l7, l8, l9] [.ref 15] σ := q_getf t33_107 mo33 F1_17 rfl rfl
theorem t33_110 : decode (mb 33) 110 = .ok (.iload 6, 2) := by decide +kernel
theorem s33_110 (d : Nat) (l0 : Value) (l1 : Value) (l2 : Value) (l3 : Value) (l4 : Value) (l5 : Value) (i6 : Int32) (l7 : Value) (l8 : Value) (l9 : Value) (w0 : Value) (σ : Hs) : ru d 33 110 [l0, l1, l2, l3, l4, l5, .int i6, l7, l8, l9] [w0] σ = ru d 33 112 [l0, l1, l2, l3, l4, l5, .int i6, l7, l8, l9] [.int i6, w0] σ := q_iload t33_110 rfl
theorem t33_112 : decode (mb 33) 112 = .ok (.iload 4, 2) := by decide +kernel
theorem s33_112 (d : Nat) (l0 : Value) (l1 : Value) (l2 : Value) (l3 : Value) (i4 : Int32) (l5 : Value) (l6 : Value) (l7 : Value) (l8 : Value) (l9 : Value) (w0 w1 : Value) (σ : Hs) : ru d 33 112 [l0, l1, l2, l3, .int i4, l5, l6, l7, l8, l9] [w0, w1] σ = ru d 33 114 [l0, l1, l2, l3, .int i4, l5, l6, l7, l8, l9] [.int i4, w0, w1] σ := q_iload t33_112 rfl
theorem t33_114 : decode (mb 33) 114 = .ok (.iastore, 1) := by decide +kernel
theorem s33_114_o15 (d : Nat) (l0 : Value) (l1 : Value) (l2 : Value) (l3 : Value) (l4 : Value) (l5 : Value) (l6 : Value) (l7 : Value) (l8 : Value) (l9 : Value) (i x : Int32) (σ : Hs) : ru d 33 114 [l0, l1, l2, l3, l4, l5, l6, l7, l8, l9] [.int x, .int i, .ref 15] σ = gd (vp_in i 60) (ru d 33 115 [l0, l1, l2, l3, l4, l5, l6, l7, l8, l9] [] (up2 σ 15 i.toNatClampNeg x)) := q_iast t33_114 (by decide +kernel) rfl rfl
theorem t33_115 : decode (mb 33) 115 = .ok (.goto 24, 3) := by decide +kernel
theorem s33_115 (d : Nat) (l0 : Value) (l1 : Value) (l2 : Value) (l3 : Value) (l4 : Value) (l5 : Value) (l6 : Value) (l7 : Value) (l8 : Value) (l9 : Value) (σ : Hs) : ru d 33 115 [l0, l1, l2, l3, l4, l5, l6, l7, l8, l9] [] σ = ru d 33 139 [l0, l1, l2, l3, l4, l5, l6, l7, l8, l9] [] σ := q_goto t33_115 (by decide +kernel)
theorem t33_118 : decode (mb 33) 118 = .ok (.aload_n 0, 1) := by decide +kernel
theorem s33_118 (d : Nat) (a0 : Nat) (l1 : Value) (l2 : Value) (l3 : Value) (l4 : Value) (l5 : Value) (l6 : Value) (l7 : Value) (l8 : Value) (l9 : Value) (σ : Hs) : ru d 33 118 [.ref a0, l1, l2, l3, l4, l5, l6, l7, l8, l9] [] σ = ru d 33 119 [.ref a0, l1, l2, l3, l4, l5, l6, l7, l8, l9] [.ref a0] σ := q_aload_n t33_118 rfl
theorem t33_119 : decode (mb 33) 119 = .ok (.getfield 17, 3) := by decide +kernel
theorem s33_119_o13 (d : Nat) (l0 : Value) (l1 : Value) (l2 : Value) (l3 : Value) (l4 : Value) (l5 : Value) (l6 : Value) (l7 : Value) (l8 : Value) (l9 : Value) (σ : Hs) : ru d 33 119 [l0, l1, l2, l3, l4, l5, l6, l7, l8, l9] [.ref 13] σ = ru d 33 122 [l0, l1, l2, l3, l4, l5, l6, l7, l8, l9] [.ref 15] σ := q_getf t33_119 mo33 F1_17 rfl rfl
theorem t33_122 : decode (mb 33) 122 = .ok (.iload 6, 2) := by decide +kernel
theorem s33_122 (d : Nat) (l0 : Value) (l1 : Value) (l2 : Value) (l3 : Value) (l4 : Value) (l5 : Value) (i6 : Int32) (l7 : Value) (l8 : Value) (l9 : Value) (w0 : Value) (σ : Hs) : ru d 33 122 [l0, l1, l2, l3, l4, l5, .int i6, l7, l8, l9] [w0] σ = ru d 33 124 [l0, l1, l2, l3, l4, l5, .int i6, l7, l8, l9] [.int i6, w0] σ := q_iload t33_122 rfl
theorem t33_124 : decode (mb 33) 124 = .ok (.iload 5, 2) := by decide +kernel
theorem s33_124 (d : Nat) (l0 : Value) (l1 : Value) (l2 : Value) (l3 : Value) (l4 : Value) (i5 : Int32) (l6 : Value) (l7 : Value) (l8 : Value) (l9 : Value) (w0 w1 : Value) (σ : Hs) : ru d 33 124 [l0, l1, l2, l3, l4, .int i5, l6, l7, l8, l9] [w0, w1] σ = ru d 33 126 [l0, l1, l2, l3, l4, .int i5, l6, l7, l8, l9] [.int i5, w0, w1] σ := q_iload t33_124 rfl
theorem t33_126 : decode (mb 33) 126 = .ok (.iastore, 1) := by decide +kernel
theorem s33_126_o15 (d : Nat) (l0 : Value) (l1 : Value) (l2 : Value) (l3 : Value) (l4 : Value) (l5 : Value) (l6 : Value) (l7 : Value) (l8 : Value) (l9 : Value) (i x : Int32) (σ : Hs) : ru d 33 126 [l0, l1, l2, l3, l4, l5, l6, l7, l8, l9] [.int x, .int i, .ref 15] σ = gd (vp_in i 60) (ru d 33 127 [l0, l1, l2, l3, l4, l5, l6, l7, l8, l9] [] (up2 σ 15 i.toNatClampNeg x)) := q_iast t33_126 (by decide +kernel) rfl rfl
theorem t33_127 : decode (mb 33) 127 = .ok (.goto 12, 3) := by decide +kernel
theorem s33_127 (d : Nat) (l0 : Value) (l1 : Value) (l2 : Value) (l3 : Value) (l4 : Value) (l5 : Value) (l6 : Value) (l7 : Value) (l8 : Value) (l9 : Value) (σ : Hs) : ru d 33 127 [l0, l1, l2, l3, l4, l5, l6, l7, l8, l9] [] σ = ru d 33 139 [l0, l1, l2, l3, l4, l5, l6, l7, l8, l9] [] σ := q_goto t33_127 (by decide +kernel)
theorem t33_130 : decode (mb 33) 130 = .ok (.aload_n 0, 1) := by decide +kernel
theorem s33_130 (d : Nat) (a0 : Nat) (l1 : Value) (l2 : Value) (l3 : Value) (l4 : Value) (l5 : Value) (l6 : Value) (l7 : Value) (l8 : Value) (l9 : Value) (σ : Hs) : ru d 33 130 [.ref a0, l1, l2, l3, l4, l5, l6, l7, l8, l9] [] σ = ru d 33 131 [.ref a0, l1, l2, l3, l4, l5, l6, l7, l8, l9] [.ref a0] σ := q_aload_n t33_130 rfl
theorem t33_131 : decode (mb 33) 131 = .ok (.getfield 17, 3) := by decide +kernel
theorem s33_131_o13 (d : Nat) (l0 : Value) (l1 : Value) (l2 : Value) (l3 : Value) (l4 : Value) (l5 : Value) (l6 : Value) (l7 : Value) (l8 : Value) (l9 : Value) (σ : Hs) : ru d 33 131 [l0, l1, l2, l3, l4, l5, l6, l7, l8, l9] [.ref 13] σ = ru d 33 134 [l0, l1, l2, l3, l4, l5, l6, l7, l8, l9] [.ref 15] σ := q_getf t33_131 mo33 F1_17 rfl rfl
theorem t33_134 : decode (mb 33) 134 = .ok (.iload 6, 2) := by decide +kernel
theorem s33_134 (d : Nat) (l0 : Value) (l1 : Value) (l2 : Value) (l3 : Value) (l4 : Value) (l5 : Value) (i6 : Int32) (l7 : Value) (l8 : Value) (l9 : Value) (w0 : Value) (σ : Hs) : ru d 33 134 [l0, l1, l2, l3, l4, l5, .int i6, l7, l8, l9] [w0] σ = ru d 33 136 [l0, l1, l2, l3, l4, l5, .int i6, l7, l8, l9] [.int i6, w0] σ := q_iload t33_134 rfl
theorem t33_136 : decode (mb 33) 136 = .ok (.iload 9, 2) := by decide +kernel
theorem s33_136 (d : Nat) (l0 : Value) (l1 : Value) (l2 : Value) (l3 : Value) (l4 : Value) (l5 : Value) (l6 : Value) (l7 : Value) (l8 : Value) (i9 : Int32) (w0 w1 : Value) (σ : Hs) : ru d 33 136 [l0, l1, l2, l3, l4, l5, l6, l7, l8, .int i9] [w0, w1] σ = ru d 33 138 [l0, l1, l2, l3, l4, l5, l6, l7, l8, .int i9] [.int i9, w0, w1] σ := q_iload t33_136 rfl
theorem t33_138 : decode (mb 33) 138 = .ok (.iastore, 1) := by decide +kernel
theorem s33_138_o15 (d : Nat) (l0 : Value) (l1 : Value) (l2 : Value) (l3 : Value) (l4 : Value) (l5 : Value) (l6 : Value) (l7 : Value) (l8 : Value) (l9 : Value) (i x : Int32) (σ : Hs) : ru d 33 138 [l0, l1, l2, l3, l4, l5, l6, l7, l8, l9] [.int x, .int i, .ref 15] σ = gd (vp_in i 60) (ru d 33 139 [l0, l1, l2, l3, l4, l5, l6, l7, l8, l9] [] (up2 σ 15 i.toNatClampNeg x)) := q_iast t33_138 (by decide +kernel) rfl rfl
theorem t33_139 : decode (mb 33) 139 = .ok (.iinc 6 1, 3) := by decide +kernel
theorem s33_139 (d : Nat) (l0 : Value) (l1 : Value) (l2 : Value) (l3 : Value) (l4 : Value) (i5 : Int32) (i6 : Int32) (l7 : Value) (l8 : Value) (l9 : Value) (σ : Hs) : ru d 33 139 [l0, l1, l2, l3, l4, .int i5, .int i6, l7, l8, l9] [] σ = ru d 33 142 [l0, l1, l2, l3, l4, .int i5, .int (i6 + 1), l7, l8, l9] [] σ := q_iinc t33_139 ⟨Nat.le_of_ble_eq_true rfl, rfl⟩ rfl (by decide +kernel) rfl
theorem t33_142 : decode (mb 33) 142 = .ok (.goto 93, 3) := by decide +kernel
theorem s33_142 (d : Nat) (l0 : Value) (l1 : Value) (l2 : Value) (l3 : Value) (l4 : Value) (l5 : Value) (l6 : Value) (l7 : Value) (l8 : Value) (l9 : Value) (σ : Hs) : ru d 33 142 [l0, l1, l2, l3, l4, l5, l6, l7, l8, l9] [] σ = ru d 33 235 [l0, l1, l2, l3, l4, l5, l6, l7, l8, l9] [] σ := q_goto t33_142 (by decide +kernel)
theorem t33_145 : decode (mb 33) 145 = .ok (.iload 9, 2) := by decide +kernel
theorem s33_145 (d : Nat) (l0 : Value) (l1 : Value) (l2 : Value) (l3 : Value) (l4 : Value) (l5 : Value) (l6 : Value) (l7 : Value) (l8 : Value) (i9 : Int32) (σ : Hs) : ru d 33 145 [l0, l1, l2, l3, l4, l5, l6, l7, l8, .int i9] [] σ = ru d 33 147 [l0, l1, l2, l3, l4, l5, l6, l7, l8, .int i9] [.int i9] σ := q_iload t33_145 rfl
theorem t33_147 : decode (mb 33) 147 = .ok (.sipush 20033, 3) := by decide +kernel
theorem s33_147 (d : Nat) (l0 : Value) (l1 : Value) (l2 : Value) (l3 : Value) (l4 : Value) (l5 : Value) (l6 : Value) (l7 : Value) (l8 : Value) (l9 : Value) (w0 : Value) (σ : Hs) : ru d 33 147 [l0, l1, l2, l3, l4, l5, l6, l7, l8, l9] [w0] σ = ru d 33 150 [l0, l1, l2, l3, l4, l5, l6, l7, l8, l9] [.int 20033, w0] σ := q_sipush t33_147 (by decide +kernel)
theorem t33_150 : decode (mb 33) 150 = .ok (.if_icmp .ne 40, 3) := by decide +kernel
theorem s33_150 (d : Nat) (l0 : Value) (l1 : Value) (l2 : Value) (l3 : Value) (l4 : Value) (l5 : Value) (l6 : Value) (l7 : Value) (l8 : Value) (l9 : Value) (x y : Int32) (σ : Hs) : ru d 33 150 [l0, l1, l2, l3, l4, l5, l6, l7, l8, l9] [.int y, .int x] σ = if x = y then ru d 33 153 [l0, l1, l2, l3, l4, l5, l6, l7, l8, l9] [] σ else ru d 33 190 [l0, l1, l2, l3, l4, l5, l6, l7, l8, l9] [] σ := q_ic_ne t33_150 (by decide +kernel)
theorem t33_153 : decode (mb 33) 153 = .ok (.iload 6, 2) := by decide +kernel
theorem s33_153 (d : Nat) (l0 : Value) (l1 : Value) (l2 : Value) (l3 : Value) (l4 : Value) (l5 : Value) (i6 : Int32) (l7 : Value) (l8 : Value) (l9 : Value) (σ : Hs) : ru d 33 153 [l0, l1, l2, l3, l4, l5, .int i6, l7, l8, l9] [] σ = ru d 33 155 [l0, l1, l2, l3, l4, l5, .int i6, l7, l8, l9] [.int i6] σ := q_iload t33_153 rfl
theorem t33_155 : decode (mb 33) 155 = .ok (.iconst 1, 1) := by decide +kernel
theorem s33_155 (d : Nat) (l0 : Value) (l1 : Value) (l2 : Value) (l3 : Value) (l4 : Value) (l5 : Value) (l6 : Value) (l7 : Value) (l8 : Value) (l9 : Value) (w0 : Value) (σ : Hs) : ru d 33 155 [l0, l1, l2, l3, l4, l5, l6, l7, l8, l9] [w0] σ = ru d 33 156 [l0, l1, l2, l3, l4, l5, l6, l7, l8, l9] [.int 1, w0] σ := q_iconst t33_155 (by decide +kernel)
theorem t33_156 : decode (mb 33) 156 = .ok (.if_icmp .ge 5, 3) := by decide +kernel
theorem s33_156 (d : Nat) (l0 : Value) (l1 : Value) (l2 : Value) (l3 : Value) (l4 : Value) (l5 : Value) (l6 : Value) (l7 : Value) (l8 : Value) (l9 : Value) (x y : Int32) (σ : Hs) : ru d 33 156 [l0, l1, l2, l3, l4, l5, l6, l7, l8, l9] [.int y, .int x] σ = if y ≤ x then ru d 33 161 [l0, l1, l2, l3, l4, l5, l6, l7, l8, l9] [] σ else ru d 33 159 [l0, l1, l2, l3, l4, l5, l6, l7, l8, l9] [] σ := q_ic_ge t33_156 (by decide +kernel)
theorem t33_159 : decode (mb 33) 159 = .ok (.iconst 0, 1) := by decide +kernel
theorem s33_159 (d : Nat) (l0 : Value) (l1 : Value) (l2 : Value) (l3 : Value) (l4 : Value) (l5 : Value) (l6 : Value) (l7 : Value) (l8 : Value) (l9 : Value) (σ : Hs) : ru d 33 159 [l0, l1, l2, l3, l4, l5, l6, l7, l8, l9] [] σ = ru d 33 160 [l0, l1, l2, l3, l4, l5, l6, l7, l8, l9] [.int 0] σ := q_iconst t33_159 (by decide +kernel)
theorem t33_160 : decode (mb 33) 160 = .ok (.ireturn, 1) := by decide +kernel
theorem s33_160 (d : Nat) (l0 : Value) (l1 : Value) (l2 : Value) (l3 : Value) (l4 : Value) (l5 : Value) (l6 : Value) (l7 : Value) (l8 : Value) (l9 : Value) (x : Int32) (σ : Hs) : ru d 33 160 [l0, l1, l2, l3, l4, l5, l6, l7, l8, l9] [.int x] σ = some (some (.int x), σ) := q_ireti t33_160 mr33
theorem t33_161 : decode (mb 33) 161 = .ok (.aload_n 0, 1) := by decide +kernel
theorem s33_161 (d : Nat) (a0 : Nat) (l1 : Value) (l2 : Value) (l3 : Value) (l4 : Value) (l5 : Value) (l6 : Value) (l7 : Value) (l8 : Value) (l9 : Value) (σ : Hs) : ru d 33 161 [.ref a0, l1, l2, l3, l4, l5, l6, l7, l8, l9] [] σ = ru d 33 162 [.ref a0, l1, l2, l3, l4, l5, l6, l7, l8, l9] [.ref a0] σ := q_aload_n t33_161 rfl
theorem t33_162 : decode (mb 33) 162 = .ok (.getfield 17, 3) := by decide +kernel
theorem s33_162_o13 (d : Nat) (l0 : Value) (l1 : Value) (l2 : Value) (l3 : Value) (l4 : Value) (l5 : Value) (l6 : Value) (l7 : Value) (l8 : Value) (l9 : Value) (σ : Hs) : ru d 33 162 [l0, l1, l2, l3, l4, l5, l6, l7, l8, l9] [.ref 13] σ = ru d 33 165 [l0, l1, l2, l3, l4, l5, l6, l7, l8, l9] [.ref 15] σ := q_getf t33_162 mo33 F1_17 rfl rfl
theorem t33_165 : decode (mb 33) 165 = .ok (.iload 6, 2) := by decide +kernel
theorem s33_165 (d : Nat) (l0 : Value) (l1 : Value) (l2 : Value) (l3 : Value) (l4 : Value) (l5 : Value) (i6 : Int32) (l7 : Value) (l8 : Value) (l9 : Value) (w0 : Value) (σ : Hs) : ru d 33 165 [l0, l1, l2, l3, l4, l5, .int i6, l7, l8, l9] [w0] σ = ru d 33 167 [l0, l1, l2, l3, l4, l5, .int i6, l7, l8, l9] [.int i6, w0] σ := q_iload t33_165 rfl
theorem t33_167 : decode (mb 33) 167 = .ok (.iconst 1, 1) := by decide +kernel
theorem s33_167 (d : Nat) (l0 : Value) (l1 : Value) (l2 : Value) (l3 : Value) (l4 : Value) (l5 : Value) (l6 : Value) (l7 : Value) (l8 : Value) (l9 : Value) (w0 w1 : Value) (σ : Hs) : ru d 33 167 [l0, l1, l2, l3, l4, l5, l6, l7, l8, l9] [w0, w1] σ = ru d 33 168 [l0, l1, l2, l3, l4, l5, l6, l7, l8, l9] [.int 1, w0, w1] σ := q_iconst t33_167 (by decide +kernel)
theorem t33_168 : decode (mb 33) 168 = .ok (.isub, 1) := by decide +kernel
theorem s33_168 (d : Nat) (l0 : Value) (l1 : Value) (l2 : Value) (l3 : Value) (l4 : Value) (l5 : Value) (l6 : Value) (l7 : Value) (l8 : Value) (l9 : Value) (x y : Int32) (w0 : Value) (σ : Hs) : ru d 33 168 [l0, l1, l2, l3, l4, l5, l6, l7, l8, l9] [.int y, .int x, w0] σ = ru d 33 169 [l0, l1, l2, l3, l4, l5, l6, l7, l8, l9] [.int (x - y), w0] σ := q_isub t33_168
theorem t33_169 : decode (mb 33) 169 = .ok (.aload_n 0, 1) := by decide +kernel
theorem s33_169 (d : Nat) (a0 : Nat) (l1 : Value) (l2 : Value) (l3 : Value) (l4 : Value) (l5 : Value) (l6 : Value) (l7 : Value) (l8 : Value) (l9 : Value) (w0 w1 : Value) (σ : Hs) : ru d 33 169 [.ref a0, l1, l2, l3, l4, l5, l6, l7, l8, l9] [w0, w1] σ = ru d 33 170 [.ref a0, l1, l2, l3, l4, l5, l6, l7, l8, l9] [.ref a0, w0, w1] σ := q_aload_n t33_169 rfl
theorem t33_170 : decode (mb 33) 170 = .ok (.getfield 17, 3) := by decide +kernel
theorem s33_170_o13 (d : Nat) (l0 : Value) (l1 : Value) (l2 : Value) (l3 : Value) (l4 : Value) (l5 : Value) (l6 : Value) (l7 : Value) (l8 : Value) (l9 : Value) (w0 w1 : Value) (σ : Hs) : ru d 33 170 [l0, l1, l2, l3, l4, l5, l6, l7, l8, l9] [.ref 13, w0, w1] σ = ru d 33 173 [l0, l1, l2, l3, l4, l5, l6, l7, l8, l9] [.ref 15, w0, w1] σ := q_getf t33_170 mo33 F1_17 rfl rfl
theorem t33_173 : decode (mb 33) 173 = .ok (.iload 6, 2) := by decide +kernel
theorem s33_173 (d : Nat) (l0 : Value) (l1 : Value) (l2 : Value) (l3 : Value) (l4 : Value) (l5 : Value) (i6 : Int32) (l7 : Value) (l8 : Value) (l9 : Value) (w0 w1 w2 : Value) (σ : Hs) : ru d 33 173 [l0, l1, l2, l3, l4, l5, .int i6, l7, l8, l9] [w0, w1, w2] σ = ru d 33 175 [l0, l1, l2, l3, l4, l5, .int i6, l7, l8, l9] [.int i6, w0, w1, w2] σ := q_iload t33_173 rfl
theorem t33_175 : decode (mb 33) 175 = .ok (.iconst 1, 1) := by decide +kernel
theorem s33_175 (d : Nat) (l0 : Value) (l1 : Value) (l2 : Value) (l3 : Value) (l4 : Value) (l5 : Value) (l6 : Value) (l7 : Value) (l8 : Value) (l9 : Value) (w0 w1 w2 w3 : Value) (σ : Hs) : ru d 33 175 [l0, l1, l2, l3, l4, l5, l6, l7, l8, l9] [w0, w1, w2, w3] σ = ru d 33 176 [l0, l1, l2, l3, l4, l5, l6, l7, l8, l9] [.int 1, w0, w1, w2, w3] σ := q_iconst t33_175 (by decide +kernel)
theorem t33_176 : decode (mb 33) 176 = .ok (.isub, 1) := by decide +kernel
theorem s33_176 (d : Nat) (l0 : Value) (l1 : Value) (l2 : Value) (l3 : Value) (l4 : Value) (l5 : Value) (l6 : Value) (l7 : Value) (l8 : Value) (l9 : Value) (x y : Int32) (w0 w1 w2 : Value) (σ : Hs) : ru d 33 176 [l0, l1, l2, l3, l4, l5, l6, l7, l8, l9] [.int y, .int x, w0, w1, w2] σ = ru d 33 177 [l0, l1, l2, l3, l4, l5, l6, l7, l8, l9] [.int (x - y), w0, w1, w2] σ := q_isub t33_176
theorem t33_177 : decode (mb 33) 177 = .ok (.iaload, 1) := by decide +kernel
theorem s33_177_o15 (d : Nat) (l0 : Value) (l1 : Value) (l2 : Value) (l3 : Value) (l4 : Value) (l5 : Value) (l6 : Value) (l7 : Value) (l8 : Value) (l9 : Value) (i : Int32) (w0 w1 : Value) (σ : Hs) : ru d 33 177 [l0, l1, l2, l3, l4, l5, l6, l7, l8, l9] [.int i, .ref 15, w0, w1] σ = gd (vp_in i 60) (ru d 33 178 [l0, l1, l2, l3, l4, l5, l6, l7, l8, l9] [.int (σ 15 i.toNatClampNeg), w0, w1] σ) := q_iald t33_177 rfl (by decide +kernel) rfl
theorem t33_178 : decode (mb 33) 178 = .ok (.ifCond .ne 7, 3) := by decide +kernel
theorem s33_178 (d : Nat) (l0 : Value) (l1 : Value) (l2 : Value) (l3 : Value) (l4 : Value) (l5 : Value) (l6 : Value) (l7 : Value) (l8 : Value) (l9 : Value) (x : Int32) (w0 w1 : Value) (σ : Hs) : ru d 33 178 [l0, l1, l2, l3, l4, l5, l6, l7, l8, l9] [.int x, w0, w1] σ = if x = 0 then ru d 33 181 [l0, l1, l2, l3, l4, l5, l6, l7, l8, l9] [w0, w1] σ else ru d 33 185 [l0, l1, l2, l3, l4, l5, l6, l7, l8, l9] [w0, w1] σ := q_if_ne t33_178 (by decide +kernel)
theorem t33_181 : decode (mb 33) 181 = .ok (.iconst 1, 1) := by decide +kernel
theorem s33_181 (d : Nat) (l0 : Value) (l1 : Value) (l2 : Value) (l3 : Value) (l4 : Value) (l5 : Value) (l6 : Value) (l7 : Value) (l8 : Value) (l9 : Value) (w0 w1 : Value) (σ : Hs) : ru d 33 181 [l0, l1, l2, l3, l4, l5, l6, l7, l8, l9] [w0, w1] σ = ru d 33 182 [l0, l1, l2, l3, l4, l5, l6, l7, l8, l9] [.int 1, w0, w1] σ := q_iconst t33_181 (by decide +kernel)
theorem t33_182 : decode (mb 33) 182 = .ok (.goto 4, 3) := by decide +kernel
theorem s33_182 (d : Nat) (l0 : Value) (l1 : Value) (l2 : Value) (l3 : Value) (l4 : Value) (l5 : Value) (l6 : Value) (l7 : Value) (l8 : Value) (l9 : Value) (w0 w1 w2 : Value) (σ : Hs) : ru d 33 182 [l0, l1, l2, l3, l4, l5, l6, l7, l8, l9] [w0, w1, w2] σ = ru d 33 186 [l0, l1, l2, l3, l4, l5, l6, l7, l8, l9] [w0, w1, w2] σ := q_goto t33_182 (by decide +kernel)
theorem t33_185 : decode (mb 33) 185 = .ok (.iconst 0, 1) := by decide +kernel
theorem s33_185 (d : Nat) (l0 : Value) (l1 : Value) (l2 : Value) (l3 : Value) (l4 : Value) (l5 : Value) (l6 : Value) (l7 : Value) (l8 : Value) (l9 : Value) (w0 w1 : Value) (σ : Hs) : ru d 33 185 [l0, l1, l2, l3, l4, l5, l6, l7, l8, l9] [w0, w1] σ = ru d 33 186 [l0, l1, l2, l3, l4, l5, l6, l7, l8, l9] [.int 0, w0, w1] σ := q_iconst t33_185 (by decide +kernel)
theorem t33_186 : decode (mb 33) 186 = .ok (.iastore, 1) := by decide +kernel
theorem s33_186_o15 (d : Nat) (l0 : Value) (l1 : Value) (l2 : Value) (l3 : Value) (l4 : Value) (l5 : Value) (l6 : Value) (l7 : Value) (l8 : Value) (l9 : Value) (i x : Int32) (σ : Hs) : ru d 33 186 [l0, l1, l2, l3, l4, l5, l6, l7, l8, l9] [.int x, .int i, .ref 15] σ = gd (vp_in i 60) (ru d 33 187 [l0, l1, l2, l3, l4, l5, l6, l7, l8, l9] [] (up2 σ 15 i.toNatClampNeg x)) := q_iast t33_186 (by decide +kernel) rfl rfl
theorem t33_187 : decode (mb 33) 187 = .ok (.goto 48, 3) := by decide +kernel
theorem s33_187 (d : Nat) (l0 : Value) (l1 : Value) (l2 : Value) (l3 : Value) (l4 : Value) (l5 : Value) (l6 : Value) (l7 : Value) (l8 : Value) (l9 : Value) (σ : Hs) : ru d 33 187 [l0, l1, l2, l3, l4, l5, l6, l7, l8, l9] [] σ = ru d 33 235 [l0, l1, l2, l3, l4, l5, l6, l7, l8, l9] [] σ := q_goto t33_187 (by decide +kernel)
theorem t33_190 : decode (mb 33) 190 = .ok (.iload 6, 2) := by decide +kernel
theorem s33_190 (d : Nat) (l0 : Value) (l1 : Value) (l2 : Value) (l3 : Value) (l4 : Value) (l5 : Value) (i6 : Int32) (l7 : Value) (l8 : Value) (l9 : Value) (σ : Hs) : ru d 33 190 [l0, l1, l2, l3, l4, l5, .int i6, l7, l8, l9] [] σ = ru d 33 192 [l0, l1, l2, l3, l4, l5, .int i6, l7, l8, l9] [.int i6] σ := q_iload t33_190 rfl
theorem t33_192 : decode (mb 33) 192 = .ok (.iconst 2, 1) := by decide +kernel
theorem s33_192 (d : Nat) (l0 : Value) (l1 : Value) (l2 : Value) (l3 : Value) (l4 : Value) (l5 : Value) (l6 : Value) (l7 : Value) (l8 : Value) (l9 : Value) (w0 : Value) (σ : Hs) : ru d 33 192 [l0, l1, l2, l3, l4, l5, l6, l7, l8, l9] [w0] σ = ru d 33 193 [l0, l1, l2, l3, l4, l5, l6, l7, l8, l9] [.int 2, w0] σ := q_iconst t33_192 (by decide +kernel)
theorem t33_193 : decode (mb 33) 193 = .ok (.if_icmp .ge 5, 3) := by decide +kernel
theorem s33_193 (d : Nat) (l0 : Value) (l1 : Value) (l2 : Value) (l3 : Value) (l4 : Value) (l5 : Value) (l6 : Value) (l7 : Value) (l8 : Value) (l9 : Value) (x y : Int32) (σ : Hs) : ru d 33 193 [l0, l1, l2, l3, l4, l5, l6, l7, l8, l9] [.int y, .int x] σ = if y ≤ x then ru d 33 198 [l0, l1, l2, l3, l4, l5, l6, l7, l8, l9] [] σ else ru d 33 196 [l0, l1, l2, l3, l4, l5, l6, l7, l8, l9] [] σ := q_ic_ge t33_193 (by decide +kernel)
theorem t33_196 : decode (mb 33) 196 = .ok (.iconst 0, 1) := by decide +kernel
theorem s33_196 (d : Nat) (l0 : Value) (l1 : Value) (l2 : Value) (l3 : Value) (l4 : Value) (l5 : Value) (l6 : Value) (l7 : Value) (l8 : Value) (l9 : Value) (σ : Hs) : ru d 33 196 [l0, l1, l2, l3, l4, l5, l6, l7, l8, l9] [] σ = ru d 33 197 [l0, l1, l2, l3, l4, l5, l6, l7, l8, l9] [.int 0] σ := q_iconst t33_196 (by decide +kernel)
theorem t33_197 : decode (mb 33) 197 = .ok (.ireturn, 1) := by decide +kernel
theorem s33_197 (d : Nat) (l0 : Value) (l1 : Value) (l2 : Value) (l3 : Value) (l4 : Value) (l5 : Value) (l6 : Value) (l7 : Value) (l8 : Value) (l9 : Value) (x : Int32) (σ : Hs) : ru d 33 197 [l0, l1, l2, l3, l4, l5, l6, l7, l8, l9] [.int x] σ = some (some (.int x), σ) := q_ireti t33_197 mr33
theorem t33_198 : decode (mb 33) 198 = .ok (.iinc 6 (-1), 3) := by decide +kernel
theorem s33_198 (d : Nat) (l0 : Value) (l1 : Value) (l2 : Value) (l3 : Value) (l4 : Value) (i5 : Int32) (i6 : Int32) (l7 : Value) (l8 : Value) (l9 : Value) (σ : Hs) : ru d 33 198 [l0, l1, l2, l3, l4, .int i5, .int i6, l7, l8, l9] [] σ = ru d 33 201 [l0, l1, l2, l3, l4, .int i5, .int (i6 + (-1)), l7, l8, l9] [] σ := q_iinc t33_198 ⟨Nat.le_of_ble_eq_true rfl, rfl⟩ rfl (by decide +kernel) rfl
theorem t33_201 : decode (mb 33) 201 = .ok (.aload_n 0, 1) := by decide +kernel
theorem s33_201 (d : Nat) (a0 : Nat) (l1 : Value) (l2 : Value) (l3 : Value) (l4 : Value) (l5 : Value) (l6 : Value) (l7 : Value) (l8 : Value) (l9 : Value) (σ : Hs) : ru d 33 201 [.ref a0, l1, l2, l3, l4, l5, l6, l7, l8, l9] [] σ = ru d 33 202 [.ref a0, l1, l2, l3, l4, l5, l6, l7, l8, l9] [.ref a0] σ := q_aload_n t33_201 rfl
theorem t33_202 : decode (mb 33) 202 = .ok (.getfield 17, 3) := by decide +kernel
theorem s33_202_o13 (d : Nat) (l0 : Value) (l1 : Value) (l2 : Value) (l3 : Value) (l4 : Value) (l5 : Value) (l6 : Value) (l7 : Value) (l8 : Value) (l9 : Value) (σ : Hs) : ru d 33 202 [l0, l1, l2, l3, l4, l5, l6, l7, l8, l9] [.ref 13] σ = ru d 33 205 [l0, l1, l2, l3, l4, l5, l6, l7, l8, l9] [.ref 15] σ := q_getf t33_202 mo33 F1_17 rfl rfl
theorem t33_205 : decode (mb 33) 205 = .ok (.iload 6, 2) := by decide +kernel
theorem s33_205 (d : Nat) (l0 : Value) (l1 : Value) (l2 : Value) (l3 : Value) (l4 : Value) (l5 : Value) (i6 : Int32) (l7 : Value) (l8 : Value) (l9 : Value) (w0 : Value) (σ : Hs) : ru d 33 205 [l0, l1, l2, l3, l4, l5, .int i6, l7, l8, l9] [w0] σ = ru d 33 207 [l0, l1, l2, l3, l4, l5, .int i6, l7, l8, l9] [.int i6, w0] σ := q_iload t33_205 rfl
theorem t33_207 : decode (mb 33) 207 = .ok (.iconst 1, 1) := by decide +kernel
theorem s33_207 (d : Nat) (l0 : Value) (l1 : Value) (l2 : Value) (l3 : Value) (l4 : Value) (l5 : Value) (l6 : Value) (l7 : Value) (l8 : Value) (l9 : Value) (w0 w1 : Value) (σ : Hs) : ru d 33 207 [l0, l1, l2, l3, l4, l5, l6, l7, l8, l9] [w0, w1] σ = ru d 33 208 [l0, l1, l2, l3, l4, l5, l6, l7, l8, l9] [.int 1, w0, w1] σ := q_iconst t33_207 (by decide +kernel)
theorem t33_208 : decode (mb 33) 208 = .ok (.isub, 1) := by decide +kernel
theorem s33_208 (d : Nat) (l0 : Value) (l1 : Value) (l2 : Value) (l3 : Value) (l4 : Value) (l5 : Value) (l6 : Value) (l7 : Value) (l8 : Value) (l9 : Value) (x y : Int32) (w0 : Value) (σ : Hs) : ru d 33 208 [l0, l1, l2, l3, l4, l5, l6, l7, l8, l9] [.int y, .int x, w0] σ = ru d 33 209 [l0, l1, l2, l3, l4, l5, l6, l7, l8, l9] [.int (x - y), w0] σ := q_isub t33_208
theorem t33_209 : decode (mb 33) 209 = .ok (.iload 9, 2) := by decide +kernel
theorem s33_209 (d : Nat) (l0 : Value) (l1 : Value) (l2 : Value) (l3 : Value) (l4 : Value) (l5 : Value) (l6 : Value) (l7 : Value) (l8 : Value) (i9 : Int32) (w0 w1 : Value) (σ : Hs) : ru d 33 209 [l0, l1, l2, l3, l4, l5, l6, l7, l8, .int i9] [w0, w1] σ = ru d 33 211 [l0, l1, l2, l3, l4, l5, l6, l7, l8, .int i9] [.int i9, w0, w1] σ := q_iload t33_209 rfl
theorem t33_211 : decode (mb 33) 211 = .ok (.sipush 20000, 3) := by decide +kernel
theorem s33_211 (d : Nat) (l0 : Value) (l1 : Value) (l2 : Value) (l3 : Value) (l4 : Value) (l5 : Value) (l6 : Value) (l7 : Value) (l8 : Value) (l9 : Value) (w0 w1 w2 : Value) (σ : Hs) : ru d 33 211 [l0, l1, l2, l3, l4, l5, l6, l7, l8, l9] [w0, w1, w2] σ = ru d 33 214 [l0, l1, l2, l3, l4, l5, l6, l7, l8, l9] [.int 20000, w0, w1, w2] σ := q_sipush t33_211 (by decide +kernel)
theorem t33_214 : decode (mb 33) 214 = .ok (.isub, 1) := by decide +kernel
theorem s33_214 (d : Nat) (l0 : Value) (l1 : Value) (l2 : Value) (l3 : Value) (l4 : Value) (l5 : Value) (l6 : Value) (l7 : Value) (l8 : Value) (l9 : Value) (x y : Int32) (w0 w1 : Value) (σ : Hs) : ru d 33 214 [l0, l1, l2, l3, l4, l5, l6, l7, l8, l9] [.int y, .int x, w0, w1] σ = ru d 33 215 [l0, l1, l2, l3, l4, l5, l6, l7, l8, l9] [.int (x - y), w0, w1] σ := q_isub t33_214
theorem t33_215 : decode (mb 33) 215 = .ok (.aload_n 0, 1) := by decide +kernel
theorem s33_215 (d : Nat) (a0 : Nat) (l1 : Value) (l2 : Value) (l3 : Value) (l4 : Value) (l5 : Value) (l6 : Value) (l7 : Value) (l8 : Value) (l9 : Value) (w0 w1 w2 : Value) (σ : Hs) : ru d 33 215 [.ref a0, l1, l2, l3, l4, l5, l6, l7, l8, l9] [w0, w1, w2] σ = ru d 33 216 [.ref a0, l1, l2, l3, l4, l5, l6, l7, l8, l9] [.ref a0, w0, w1, w2] σ := q_aload_n t33_215 rfl
theorem t33_216 : decode (mb 33) 216 = .ok (.getfield 17, 3) := by decide +kernel
theorem s33_216_o13 (d : Nat) (l0 : Value) (l1 : Value) (l2 : Value) (l3 : Value) (l4 : Value) (l5 : Value) (l6 : Value) (l7 : Value) (l8 : Value) (l9 : Value) (w0 w1 w2 : Value) (σ : Hs) : ru d 33 216 [l0, l1, l2, l3, l4, l5, l6, l7, l8, l9] [.ref 13, w0, w1, w2] σ = ru d 33 219 [l0, l1, l2, l3, l4, l5, l6, l7, l8, l9] [.ref 15, w0, w1, w2] σ := q_getf t33_216 mo33 F1_17 rfl rfl
theorem t33_219 : decode (mb 33) 219 = .ok (.iload 6, 2) := by decide +kernel
theorem s33_219 (d : Nat) (l0 : Value) (l1 : Value) (l2 : Value) (l3 : Value) (l4 : Value) (l5 : Value) (i6 : Int32) (l7 : Value) (l8 : Value) (l9 : Value) (w0 w1 w2 w3 : Value) (σ : Hs) : ru d 33 219 [l0, l1, l2, l3, l4, l5, .int i6, l7, l8, l9] [w0, w1, w2, w3] σ = ru d 33 221 [l0, l1, l2, l3, l4, l5, .int i6, l7, l8, l9] [.int i6, w0, w1, w2, w3] σ := q_iload t33_219 rfl
theorem t33_221 : decode (mb 33) 221 = .ok (.iconst 1, 1) := by decide +kernel
theorem s33_221 (d : Nat) (l0 : Value) (l1 : Value) (l2 : Value) (l3 : Value) (l4 : Value) (l5 : Value) (l6 : Value) (l7 : Value) (l8 : Value) (l9 : Value) (w0 w1 w2 w3 w4 : Value) (σ : Hs) : ru d 33 221 [l0, l1, l2, l3, l4, l5, l6, l7, l8, l9] [w0, w1, w2, w3, w4] σ = ru d 33 222 [l0, l1, l2, l3, l4, l5, l6, l7, l8, l9] [.int 1, w0, w1, w2, w3, w4] σ := q_iconst t33_221 (by decide +kernel)
theorem t33_222 : decode (mb 33) 222 = .ok (.isub, 1) := by decide +kernel
theorem s33_222 (d : Nat) (l0 : Value) (l1 : Value) (l2 : Value) (l3 : Value) (l4 : Value) (l5 : Value) (l6 : Value) (l7 : Value) (l8 : Value) (l9 : Value) (x y : Int32) (w0 w1 w2 w3 : Value) (σ : Hs) : ru d 33 222 [l0, l1, l2, l3, l4, l5, l6, l7, l8, l9] [.int y, .int x, w0, w1, w2, w3] σ = ru d 33 223 [l0, l1, l2, l3, l4, l5, l6, l7, l8, l9] [.int (x - y), w0, w1, w2, w3] σ := q_isub t33_222
theorem t33_223 : decode (mb 33) 223 = .ok (.iaload, 1) := by decide +kernel
theorem s33_223_o15 (d : Nat) (l0 : Value) (l1 : Value) (l2 : Value) (l3 : Value) (l4 : Value) (l5 : Value) (l6 : Value) (l7 : Value) (l8 : Value) (l9 : Value) (i : Int32) (w0 w1 w2 : Value) (σ : Hs) : ru d 33 223 [l0, l1, l2, l3, l4, l5, l6, l7, l8, l9] [.int i, .ref 15, w0, w1, w2] σ = gd (vp_in i 60) (ru d 33 224 [l0, l1, l2, l3, l4, l5, l6, l7, l8, l9] [.int (σ 15 i.toNatClampNeg), w0, w1, w2] σ) := q_iald t33_223 rfl (by decide +kernel) rfl
theorem t33_224 : decode (mb 33) 224 = .ok (.aload_n 0, 1) := by decide +kernel
theorem s33_224 (d : Nat) (a0 : Nat) (l1 : Value) (l2 : Value) (l3 : Value) (l4 : Value) (l5 : Value) (l6 : Value) (l7 : Value) (l8 : Value) (l9 : Value) (w0 w1 w2 w3 : Value) (σ : Hs) : ru d 33 224 [.ref a0, l1, l2, l3, l4, l5, l6, l7, l8, l9] [w0, w1, w2, w3] σ = ru d 33 225 [.ref a0, l1, l2, l3, l4, l5, l6, l7, l8, l9] [.ref a0, w0, w1, w2, w3] σ := q_aload_n t33_224 rfl
theorem t33_225 : decode (mb 33) 225 = .ok (.getfield 17, 3) := by decide +kernel
theorem s33_225_o13 (d : Nat) (l0 : Value) (l1 : Value) (l2 : Value) (l3 : Value) (l4 : Value) (l5 : Value) (l6 : Value) (l7 : Value) (l8 : Value) (l9 : Value) (w0 w1 w2 w3 : Value) (σ : Hs) : ru d 33 225 [l0, l1, l2, l3, l4, l5, l6, l7, l8, l9] [.ref 13, w0, w1, w2, w3] σ = ru d 33 228 [l0, l1, l2, l3, l4, l5, l6, l7, l8, l9] [.ref 15, w0, w1, w2, w3] σ := q_getf t33_225 mo33 F1_17 rfl rfl
theorem t33_228 : decode (mb 33) 228 = .ok (.iload 6, 2) := by decide +kernel
theorem s33_228 (d : Nat) (l0 : Value) (l1 : Value) (l2 : Value) (l3 : Value) (l4 : Value) (l5 : Value) (i6 : Int32) (l7 : Value) (l8 : Value) (l9 : Value) (w0 w1 w2 w3 w4 : Value) (σ : Hs) : ru d 33 228 [l0, l1, l2, l3, l4, l5, .int i6, l7, l8, l9] [w0, w1, w2, w3, w4] σ = ru d 33 230 [l0, l1, l2, l3, l4, l5, .int i6, l7, l8, l9] [.int i6, w0, w1, w2, w3, w4] σ := q_iload t33_228 rfl
theorem t33_230 : decode (mb 33) 230 = .ok (.iaload, 1) := by decide +kernel
theorem s33_230_o15 (d : Nat) (l0 : Value) (l1 : Value) (l2 : Value) (l3 : Value) (l4 : Value) (l5 : Value) (l6 : Value) (l7 : Value) (l8 : Value) (l9 : Value) (i : Int32) (w0 w1 w2 w3 : Value) (σ : Hs) : ru d 33 230 [l0, l1, l2, l3, l4, l5, l6, l7, l8, l9] [.int i, .ref 15, w0, w1, w2, w3] σ = gd (vp_in i 60) (ru d 33 231 [l0, l1, l2, l3, l4, l5, l6, l7, l8, l9] [.int (σ 15 i.toNatClampNeg), w0, w1, w2, w3] σ) := q_iald t33_230 rfl (by decide +kernel) rfl
theorem t33_231 : decode (mb 33) 231 = .ok (.invokestatic 35, 3) := by decide +kernel
theorem s33_231 (d : Nat) (l0 : Value) (l1 : Value) (l2 : Value) (l3 : Value) (l4 : Value) (l5 : Value) (l6 : Value) (l7 : Value) (l8 : Value) (l9 : Value) (v0 v1 v2 : Value) (w0 : Int32) (w1 : Nat) (σ : Hs) : ru d 33 231 [l0, l1, l2, l3, l4, l5, l6, l7, l8, l9] [v2, v1, v0, .int w0, .ref w1] σ = kont (callD d 34 [v0, v1, v2] σ) d 33 234 [l0, l1, l2, l3, l4, l5, l6, l7, l8, l9] [.int w0, .ref w1] := q_invs t33_231 mo33 (by decide +kernel) K1_35 mj34 (Nat.le_of_ble_eq_true rfl) rfl rfl (Nat.le_of_ble_eq_true rfl)
theorem t33_234 : decode (mb 33) 234 = .ok (.iastore, 1) := by decide +kernel
theorem s33_234_o15 (d : Nat) (l0 : Value) (l1 : Value) (l2 : Value) (l3 : Value) (l4 : Value) (l5 : Value) (l6 : Value) (l7 : Value) (l8 : Value) (l9 : Value) (i x : Int32) (σ : Hs) : ru d 33 234 [l0, l1, l2, l3, l4, l5, l6, l7, l8, l9] [.int x, .int i, .ref 15] σ = gd (vp_in i 60) (ru d 33 235 [l0, l1, l2, l3, l4, l5, l6, l7, l8, l9] [] (up2 σ 15 i.toNatClampNeg x)) := q_iast t33_234 (by decide +kernel) rfl rfl
theorem t33_235 : decode (mb 33) 235 = .ok (.iinc 8 1, 3) := by decide +kernel
theorem s33_235 (d : Nat) (l0 : Value) (l1 : Value) (l2 : Value) (l3 : Value) (l4 : Value) (l5 : Value) (l6 : Value) (a7 : Nat) (i8 : Int32) (l9 : Value) (σ : Hs) : ru d 33 235 [l0, l1, l2, l3, l4, l5, l6, .ref a7, .int i8, l9] [] σ = ru d 33 238 [l0, l1, l2, l3, l4, l5, l6, .ref a7, .int (i8 + 1), l9] [] σ := q_iinc t33_235 ⟨Nat.le_of_ble_eq_true rfl, rfl⟩ rfl (by decide +kernel) rfl
theorem t33_238 : decode (mb 33) 238 = .ok (.goto (-224), 3) := by decide +kernel
theorem s33_238 (d : Nat) (l0 : Value) (l1 : Value) (l2 : Value) (l3 : Value) (l4 : Value) (l5 : Value) (l6 : Value) (l7 : Value) (l8 : Value) (l9 : Value) (σ : Hs) : ru d 33 238 [l0, l1, l2, l3, l4, l5, l6, l7, l8, l9] [] σ = ru d 33 14 [l0, l1, l2, l3, l4, l5, l6, l7, l8, l9] [] σ := q_goto t33_238 (by decide +kernel)
theorem t33_241 : decode (mb 33) 241 = .ok (.iload 6, 2) := by decide +kernel
theorem s33_241 (d : Nat) (l0 : Value) (l1 : Value) (l2 : Value) (l3 : Value) (l4 : Value) (l5 : Value) (i6 : Int32) (l7 : Value) (l8 : Value) (l9 : Value) (σ : Hs) : ru d 33 241 [l0, l1, l2, l3, l4, l5, .int i6, l7, l8, l9] [] σ = ru d 33 243 [l0, l1, l2, l3, l4, l5, .int i6, l7, l8, l9] [.int i6] σ := q_iload t33_241 rfl
theorem t33_243 : decode (mb 33) 243 = .ok (.ifCond .le 15, 3) := by decide +kernel
theorem s33_243 (d : Nat) (l0 : Value) (l1 : Value) (l2 : Value) (l3 : Value) (l4 : Value) (l5 : Value) (l6 : Value) (l7 : Value) (l8 : Value) (l9 : Value) (x : Int32) (σ : Hs) : ru d 33 243 [l0, l1, l2, l3, l4, l5, l6, l7, l8, l9] [.int x] σ = if x ≤ 0 then ru d 33 258 [l0, l1, l2, l3, l4, l5, l6, l7, l8, l9] [] σ else ru d 33 246 [l0, l1, l2, l3, l4, l5, l6, l7, l8, l9] [] σ := q_if_le t33_243 (by decide +kernel)
theorem t33_246 : decode (mb 33) 246 = .ok (.aload_n 0, 1) := by decide +kernel
theorem s33_246 (d : Nat) (a0 : Nat) (l1 : Value) (l2 : Value) (l3 : Value) (l4 : Value) (l5 : Value) (l6 : Value) (l7 : Value) (l8 : Value) (l9 : Value) (σ : Hs) : ru d 33 246 [.ref a0, l1, l2, l3, l4, l5, l6, l7, l8, l9] [] σ = ru d 33 247 [.ref a0, l1, l2, l3, l4, l5, l6, l7, l8, l9] [.ref a0] σ := q_aload_n t33_246 rfl
theorem t33_247 : decode (mb 33) 247 = .ok (.getfield 17, 3) := by decide +kernel
theorem s33_247_o13 (d : Nat) (l0 : Value) (l1 : Value) (l2 : Value) (l3 : Value) (l4 : Value) (l5 : Value) (l6 : Value) (l7 : Value) (l8 : Value) (l9 : Value) (σ : Hs) : ru d 33 247 [l0, l1, l2, l3, l4, l5, l6, l7, l8, l9] [.ref 13] σ = ru d 33 250 [l0, l1, l2, l3, l4, l5, l6, l7, l8, l9] [.ref 15] σ := q_getf t33_247 mo33 F1_17 rfl rfl
theorem t33_250 : decode (mb 33) 250 = .ok (.iload 6, 2) := by decide +kernel
theorem s33_250 (d : Nat) (l0 : Value) (l1 : Value) (l2 : Value) (l3 : Value) (l4 : Value) (l5 : Value) (i6 : Int32) (l7 : Value) (l8 : Value) (l9 : Value) (w0 : Value) (σ : Hs) : ru d 33 250 [l0, l1, l2, l3, l4, l5, .int i6, l7, l8, l9] [w0] σ = ru d 33 252 [l0, l1, l2, l3, l4, l5, .int i6, l7, l8, l9] [.int i6, w0] σ := q_iload t33_250 rfl
theorem t33_252 : decode (mb 33) 252 = .ok (.iconst 1, 1) := by decide +kernel
theorem s33_252 (d : Nat) (l0 : Value) (l1 : Value) (l2 : Value) (l3 : Value) (l4 : Value) (l5 : Value) (l6 : Value) (l7 : Value) (l8 : Value) (l9 : Value) (w0 w1 : Value) (σ : Hs) : ru d 33 252 [l0, l1, l2, l3, l4, l5, l6, l7, l8, l9] [w0, w1] σ = ru d 33 253 [l0, l1, l2, l3, l4, l5, l6, l7, l8, l9] [.int 1, w0, w1] σ := q_iconst t33_252 (by decide +kernel)
theorem t33_253 : decode (mb 33) 253 = .ok (.isub, 1) := by decide +kernel
theorem s33_253 (d : Nat) (l0 : Value) (l1 : Value) (l2 : Value) (l3 : Value) (l4 : Value) (l5 : Value) (l6 : Value) (l7 : Value) (l8 : Value) (l9 : Value) (x y : Int32) (w0 : Value) (σ : Hs) : ru d 33 253 [l0, l1, l2, l3, l4, l5, l6, l7, l8, l9] [.int y, .int x, w0] σ = ru d 33 254 [l0, l1, l2, l3, l4, l5, l6, l7, l8, l9] [.int (x - y), w0] σ := q_isub t33_253
theorem t33_254 : decode (mb 33) 254 = .ok (.iaload, 1) := by decide +kernel
theorem s33_254_o15 (d : Nat) (l0 : Value) (l1 : Value) (l2 : Value) (l3 : Value) (l4 : Value) (l5 : Value) (l6 : Value) (l7 : Value) (l8 : Value) (l9 : Value) (i : Int32) (σ : Hs) : ru d 33 254 [l0, l1, l2, l3, l4, l5, l6, l7, l8, l9] [.int i, .ref 15] σ = gd (vp_in i 60) (ru d 33 255 [l0, l1, l2, l3, l4, l5, l6, l7, l8, l9] [.int (σ 15 i.toNatClampNeg)] σ) := q_iald t33_254 rfl (by decide +kernel) rfl
theorem t33_255 : decode (mb 33) 255 = .ok (.goto 4, 3) := by decide +kernel
theorem s33_255 (d : Nat) (l0 : Value) (l1 : Value) (l2 : Value) (l3 : Value) (l4 : Value) (l5 : Value) (l6 : Value) (l7 : Value) (l8 : Value) (l9 : Value) (w0 : Value) (σ : Hs) : ru d 33 255 [l0, l1, l2, l3, l4, l5, l6, l7, l8, l9] [w0] σ = ru d 33 259 [l0, l1, l2, l3, l4, l5, l6, l7, l8, l9] [w0] σ := q_goto t33_255 (by decide +kernel)
theorem t33_258 : decode (mb 33) 258 = .ok (.iconst 0, 1) := by decide +kernel
theorem s33_258 (d : Nat) (l0 : Value) (l1 : Value) (l2 : Value) (l3 : Value) (l4 : Value) (l5 : Value) (l6 : Value) (l7 : Value) (l8 : Value) (l9 : Value) (σ : Hs) : ru d 33 258 [l0, l1, l2, l3, l4, l5, l6, l7, l8, l9] [] σ = ru d 33 259 [l0, l1, l2, l3, l4, l5, l6, l7, l8, l9] [.int 0] σ := q_iconst t33_258 (by decide +kernel)
theorem t33_259 : decode (mb 33) 259 = .ok (.ireturn, 1) := by decide +kernel
theorem s33_259 (d : Nat) (l0 : Value) (l1 : Value) (l2 : Value) (l3 : Value) (l4 : Value) (l5 : Value) (l6 : Value) (l7 : Value) (l8 : Value) (l9 : Value) (x : Int32) (σ : Hs) : ru d 33 259 [l0, l1, l2, l3, l4, l5, l6, l7, l8, l9] [.int x] σ = some (some (.int x), σ) := q_ireti t33_259 mr33
theorem c33 (d : Nat) (x0 : Nat) (x1 : Int32) (x2 : Int32) (x3 : Int32) (x4 : Int32) (x5 : Int32) (σ : Hs) : callD (d + 1) 33 [.ref x0, .int x1, .int x2, .int x3, .int x4, .int x5] σ = ru d 33 0 [.ref x0, .int x1, .int x2, .int x3, .int x4, .int x5, uu, uu, uu, uu] [] σ := callD_ru ml33 rfl rfl (Nat.le_of_ble_eq_true rfl)
-- 34: Laws.joined(III)I
theorem t34_0 : decode (mb 34) 0 = .ok (.iload_n 0, 1) := by decide +kernel
theorem s34_0 (d : Nat) (i0 : Int32) (l1 : Value) (l2 : Value) (σ : Hs) : ru d 34 0 [.int i0, l1, l2] [] σ = ru d 34 1 [.int i0, l1, l2] [.int i0] σ := q_iload_n t34_0 rfl
theorem t34_1 : decode (mb 34) 1 = .ok (.lookupswitch 168 #[(38, 97), (42, 152), (43, 144), (45, 148), (47, 156), (60, 111), (61, 122), (62, 133), (124, 83)], 83) := by decide +kernel
theorem f34_1 (x : Int32) : tgt 1 (Op.lookupswitch.offset (#[(38, 97), (42, 152), (43, 144), (45, 148), (47, 156), (60, 111), (61, 122), (62, 133), (124, 83)] : Array (Int × Int)).toList 168 x.toInt) = some (if x = 38 then 98 else (if x = 42 then 153 else (if x = 43 then 145 else (if x = 45 then 149 else (if x = 47 then 157 else (if x = 60 then 112 else (if x = 61 then 123 else (if x = 62 then 134 else (if x = 124 then 84 else 169))))))))) := by
  by_cases h0 : x = 38
  · subst h0; decide +kernel
  by_cases h1 : x = 42
  · subst h1; decide +kernel
  by_cases h2 : x = 43
  · subst h2; decide +kernel
  by_cases h3 : x = 45
  · subst h3; decide +kernel
  by_cases h4 : x = 47
  · subst h4; decide +kernel
  by_cases h5 : x = 60
  · subst h5; decide +kernel
  by_cases h6 : x = 61
  · subst h6; decide +kernel
  by_cases h7 : x = 62
  · subst h7; decide +kernel
  by_cases h8 : x = 124
  · subst h8; decide +kernel
  have e0 : ¬ x.toInt = 38 := fun h => h0 (Int32.toInt_inj.mp (h.trans (by decide +kernel)))
  have e1 : ¬ x.toInt = 42 := fun h => h1 (Int32.toInt_inj.mp (h.trans (by decide +kernel)))
  have e2 : ¬ x.toInt = 43 := fun h => h2 (Int32.toInt_inj.mp (h.trans (by decide +kernel)))
  have e3 : ¬ x.toInt = 45 := fun h => h3 (Int32.toInt_inj.mp (h.trans (by decide +kernel)))
  have e4 : ¬ x.toInt = 47 := fun h => h4 (Int32.toInt_inj.mp (h.trans (by decide +kernel)))
  have e5 : ¬ x.toInt = 60 := fun h => h5 (Int32.toInt_inj.mp (h.trans (by decide +kernel)))
  have e6 : ¬ x.toInt = 61 := fun h => h6 (Int32.toInt_inj.mp (h.trans (by decide +kernel)))
  have e7 : ¬ x.toInt = 62 := fun h => h7 (Int32.toInt_inj.mp (h.trans (by decide +kernel)))
  have e8 : ¬ x.toInt = 124 := fun h => h8 (Int32.toInt_inj.mp (h.trans (by decide +kernel)))
  have g0 : ¬ (38 : Int) = x.toInt := fun h => e0 h.symm
  have g1 : ¬ (42 : Int) = x.toInt := fun h => e1 h.symm
  have g2 : ¬ (43 : Int) = x.toInt := fun h => e2 h.symm
  have g3 : ¬ (45 : Int) = x.toInt := fun h => e3 h.symm
  have g4 : ¬ (47 : Int) = x.toInt := fun h => e4 h.symm
  have g5 : ¬ (60 : Int) = x.toInt := fun h => e5 h.symm
  have g6 : ¬ (61 : Int) = x.toInt := fun h => e6 h.symm
  have g7 : ¬ (62 : Int) = x.toInt := fun h => e7 h.symm
  have g8 : ¬ (124 : Int) = x.toInt := fun h => e8 h.symm
  simp only [Op.lookupswitch.offset_cons, Op.lookupswitch.offset_nil, if_neg g0, if_neg h0, if_neg g1, if_neg h1, if_neg g2, if_neg h2, if_neg g3, if_neg h3, if_neg g4, if_neg h4, if_neg g5, if_neg h5, if_neg g6, if_neg h6, if_neg g7, if_neg h7, if_neg g8, if_neg h8]
  decide +kernel
theorem s34_1 (d : Nat) (l0 : Value) (l1 : Value) (l2 : Value) (x : Int32) (σ : Hs) : ru d 34 1 [l0, l1, l2] [.int x] σ = if x = 38 then ru d 34 98 [l0, l1, l2] [] σ else if x = 42 then ru d 34 153 [l0, l1, l2] [] σ else if x = 43 then ru d 34 145 [l0, l1, l2] [] σ else if x = 45 then ru d 34 149 [l0, l1, l2] [] σ else if x = 47 then ru d 34 157 [l0, l1, l2] [] σ else if x = 60 then ru d 34 112 [l0, l1, l2] [] σ else if x = 61 then ru d 34 123 [l0, l1, l2] [] σ else if x = 62 then ru d 34 134 [l0, l1, l2] [] σ else if x = 124 then ru d 34 84 [l0, l1, l2] [] σ else ru d 34 169 [l0, l1, l2] [] σ := by
  refine (q_lsw t34_1 (by decide +kernel) (fun x => (if x = 38 then 98 else (if x = 42 then 153 else (if x = 43 then 145 else (if x = 45 then 149 else (if x = 47 then 157 else (if x = 60 then 112 else (if x = 61 then 123 else (if x = 62 then 134 else (if x = 124 then 84 else 169)))))))))) (f34_1 x)).trans ?_
  by_cases h0 : x = 38
  · rw [if_pos h0, if_pos h0]
  rw [if_neg h0, if_neg h0]
  by_cases h1 : x = 42
  · rw [if_pos h1, if_pos h1]
  rw [if_neg h1, if_neg h1]
  by_cases h2 : x = 43
  · rw [if_pos h2, if_pos h2]
  rw [if_neg h2, if_neg h2]
  by_cases h3 : x = 45
  · rw [if_pos h3, if_pos h3]
  rw [if_neg h3, if_neg h3]
  by_cases h4 : x = 47
  · rw [if_pos h4, if_pos h4]
  rw [if_neg h4, if_neg h4]
  by_cases h5 : x = 60
  · rw [if_pos h5, if_pos h5]
  rw [if_neg h5, if_neg h5]
  by_cases h6 : x = 61
  · rw [if_pos h6, if_pos h6]
  rw [if_neg h6, if_neg h6]
  by_cases h7 : x = 62
  · rw [if_pos h7, if_pos h7]
  rw [if_neg h7, if_neg h7]
  by_cases h8 : x = 124
  · rw [if_pos h8, if_pos h8]
  rw [if_neg h8, if_neg h8]
theorem t34_84 : decode (mb 34) 84 = .ok (.iload_n 1, 1) := by decide +kernel
theorem s34_84 (d : Nat) (l0 : Value) (i1 : Int32) (l2 : Value) (σ : Hs) : ru d 34 84 [l0, .int i1, l2] [] σ = ru d 34 85 [l0, .int i1, l2] [.int i1] σ := q_iload_n t34_84 rfl
theorem t34_85 : decode (mb 34) 85 = .ok (.ifCond .ne 7, 3) := by decide +kernel
theorem s34_85 (d : Nat) (l0 : Value) (l1 : Value) (l2 : Value) (x : Int32) (σ : Hs) : ru d 34 85 [l0, l1, l2] [.int x] σ = if x = 0 then ru d 34 88 [l0, l1, l2] [] σ else ru d 34 92 [l0, l1, l2] [] σ := q_if_ne t34_85 (by decide +kernel)
theorem t34_88 : decode (mb 34) 88 = .ok (.iload_n 2, 1) := by decide +kernel
theorem s34_88 (d : Nat) (l0 : Value) (l1 : Value) (i2 : Int32) (σ : Hs) : ru d 34 88 [l0, l1, .int i2] [] σ = ru d 34 89 [l0, l1, .int i2] [.int i2] σ := q_iload_n t34_88 rfl
theorem t34_89 : decode (mb 34) 89 = .ok (.ifCond .eq 7, 3) := by decide +kernel
theorem s34_89 (d : Nat) (l0 : Value) (l1 : Value) (l2 : Value) (x : Int32) (σ : Hs) : ru d 34 89 [l0, l1, l2] [.int x] σ = if x = 0 then ru d 34 96 [l0, l1, l2] [] σ else ru d 34 92 [l0, l1, l2] [] σ := q_if_eq t34_89 (by decide +kernel)
theorem t34_92 : decode (mb 34) 92 = .ok (.iconst 1, 1) := by decide +kernel
theorem s34_92 (d : Nat) (l0 : Value) (l1 : Value) (l2 : Value) (σ : Hs) : ru d 34 92 [l0, l1, l2] [] σ = ru d 34 93 [l0, l1, l2] [.int 1] σ := q_iconst t34_92 (by decide +kernel)
theorem t34_93 : decode (mb 34) 93 = .ok (.goto 4, 3) := by decide +kernel
theorem s34_93 (d : Nat) (l0 : Value) (l1 : Value) (l2 : Value) (w0 : Value) (σ : Hs) : ru d 34 93 [l0, l1, l2] [w0] σ = ru d 34 97 [l0, l1, l2] [w0] σ := q_goto t34_93 (by decide +kernel)
theorem t34_96 : decode (mb 34) 96 = .ok (.iconst 0, 1) := by decide +kernel
theorem s34_96 (d : Nat) (l0 : Value) (l1 : Value) (l2 : Value) (σ : Hs) : ru d 34 96 [l0, l1, l2] [] σ = ru d 34 97 [l0, l1, l2] [.int 0] σ := q_iconst t34_96 (by decide +kernel)
theorem t34_97 : decode (mb 34) 97 = .ok (.ireturn, 1) := by decide +kernel
theorem s34_97 (d : Nat) (l0 : Value) (l1 : Value) (l2 : Value) (x : Int32) (σ : Hs) : ru d 34 97 [l0, l1, l2] [.int x] σ = some (some (.int x), σ) := q_ireti t34_97 mr34
theorem t34_98 : decode (mb 34) 98 = .ok (.iload_n 1, 1) := by decide +kernel
theorem s34_98 (d : Nat) (l0 : Value) (i1 : Int32) (l2 : Value) (σ : Hs) : ru d 34 98 [l0, .int i1, l2] [] σ = ru d 34 99 [l0, .int i1, l2] [.int i1] σ := q_iload_n t34_98 rfl
theorem t34_99 : decode (mb 34) 99 = .ok (.ifCond .eq 11, 3) := by decide +kernel
theorem s34_99 (d : Nat) (l0 : Value) (l1 : Value) (l2 : Value) (x : Int32) (σ : Hs) : ru d 34 99 [l0, l1, l2] [.int x] σ = if x = 0 then ru d 34 110 [l0, l1, l2] [] σ else ru d 34 102 [l0, l1, l2] [] σ := q_if_eq t34_99 (by decide +kernel)
theorem t34_102 : decode (mb 34) 102 = .ok (.iload_n 2, 1) := by decide +kernel
theorem s34_102 (d : Nat) (l0 : Value) (l1 : Value) (i2 : Int32) (σ : Hs) : ru d 34 102 [l0, l1, .int i2] [] σ = ru d 34 103 [l0, l1, .int i2] [.int i2] σ := q_iload_n t34_102 rfl
theorem t34_103 : decode (mb 34) 103 = .ok (.ifCond .eq 7, 3) := by decide +kernel
theorem s34_103 (d : Nat) (l0 : Value) (l1 : Value) (l2 : Value) (x : Int32) (σ : Hs) : ru d 34 103 [l0, l1, l2] [.int x] σ = if x = 0 then ru d 34 110 [l0, l1, l2] [] σ else ru d 34 106 [l0, l1, l2] [] σ := q_if_eq t34_103 (by decide +kernel)
theorem t34_106 : decode (mb 34) 106 = .ok (.iconst 1, 1) := by decide +kernel
theorem s34_106 (d : Nat) (l0 : Value) (l1 : Value) (l2 : Value) (σ : Hs) : ru d 34 106 [l0, l1, l2] [] σ = ru d 34 107 [l0, l1, l2] [.int 1] σ := q_iconst t34_106 (by decide +kernel)
theorem t34_107 : decode (mb 34) 107 = .ok (.goto 4, 3) := by decide +kernel
theorem s34_107 (d : Nat) (l0 : Value) (l1 : Value) (l2 : Value) (w0 : Value) (σ : Hs) : ru d 34 107 [l0, l1, l2] [w0] σ = ru d 34 111 [l0, l1, l2] [w0] σ := q_goto t34_107 (by decide +kernel)
theorem t34_110 : decode (mb 34) 110 = .ok (.iconst 0, 1) := by decide +kernel
theorem s34_110 (d : Nat) (l0 : Value) (l1 : Value) (l2 : Value) (σ : Hs) : ru d 34 110 [l0, l1, l2] [] σ = ru d 34 111 [l0, l1, l2] [.int 0] σ := q_iconst t34_110 (by decide +kernel)
theorem t34_111 : decode (mb 34) 111 = .ok (.ireturn, 1) := by decide +kernel
theorem s34_111 (d : Nat) (l0 : Value) (l1 : Value) (l2 : Value) (x : Int32) (σ : Hs) : ru d 34 111 [l0, l1, l2] [.int x] σ = some (some (.int x), σ) := q_ireti t34_111 mr34
theorem t34_112 : decode (mb 34) 112 = .ok (.iload_n 1, 1) := by decide +kernel
theorem s34_112 (d : Nat) (l0 : Value) (i1 : Int32) (l2 : Value) (σ : Hs) : ru d 34 112 [l0, .int i1, l2] [] σ = ru d 34 113 [l0, .int i1, l2] [.int i1] σ := q_iload_n t34_112 rfl
theorem t34_113 : decode (mb 34) 113 = .ok (.iload_n 2, 1) := by decide +kernel
theorem s34_113 (d : Nat) (l0 : Value) (l1 : Value) (i2 : Int32) (w0 : Value) (σ : Hs) : ru d 34 113 [l0, l1, .int i2] [w0] σ = ru d 34 114 [l0, l1, .int i2] [.int i2, w0] σ := q_iload_n t34_113 rfl
theorem t34_114 : decode (mb 34) 114 = .ok (.if_icmp .ge 7, 3) := by decide +kernel
theorem s34_114 (d : Nat) (l0 : Value) (l1 : Value) (l2 : Value) (x y : Int32) (σ : Hs) : ru d 34 114 [l0, l1, l2] [.int y, .int x] σ = if y ≤ x then ru d 34 121 [l0, l1, l2] [] σ else ru d 34 117 [l0, l1, l2] [] σ := q_ic_ge t34_114 (by decide +kernel)
theorem t34_117 : decode (mb 34) 117 = .ok (.iconst 1, 1) := by decide +kernel
theorem s34_117 (d : Nat) (l0 : Value) (l1 : Value) (l2 : Value) (σ : Hs) : ru d 34 117 [l0, l1, l2] [] σ = ru d 34 118 [l0, l1, l2] [.int 1] σ := q_iconst t34_117 (by decide +kernel)
theorem t34_118 : decode (mb 34) 118 = .ok (.goto 4, 3) := by decide +kernel
theorem s34_118 (d : Nat) (l0 : Value) (l1 : Value) (l2 : Value) (w0 : Value) (σ : Hs) : ru d 34 118 [l0, l1, l2] [w0] σ = ru d 34 122 [l0, l1, l2] [w0] σ := q_goto t34_118 (by decide +kernel)
theorem t34_121 : decode (mb 34) 121 = .ok (.iconst 0, 1) := by decide +kernel
theorem s34_121 (d : Nat) (l0 : Value) (l1 : Value) (l2 : Value) (σ : Hs) : ru d 34 121 [l0, l1, l2] [] σ = ru d 34 122 [l0, l1, l2] [.int 0] σ := q_iconst t34_121 (by decide +kernel)
theorem t34_122 : decode (mb 34) 122 = .ok (.ireturn, 1) := by decide +kernel
theorem s34_122 (d : Nat) (l0 : Value) (l1 : Value) (l2 : Value) (x : Int32) (σ : Hs) : ru d 34 122 [l0, l1, l2] [.int x] σ = some (some (.int x), σ) := q_ireti t34_122 mr34
theorem t34_123 : decode (mb 34) 123 = .ok (.iload_n 1, 1) := by decide +kernel
theorem s34_123 (d : Nat) (l0 : Value) (i1 : Int32) (l2 : Value) (σ : Hs) : ru d 34 123 [l0, .int i1, l2] [] σ = ru d 34 124 [l0, .int i1, l2] [.int i1] σ := q_iload_n t34_123 rfl
theorem t34_124 : decode (mb 34) 124 = .ok (.iload_n 2, 1) := by decide +kernel
theorem s34_124 (d : Nat) (l0 : Value) (l1 : Value) (i2 : Int32) (w0 : Value) (σ : Hs) : ru d 34 124 [l0, l1, .int i2] [w0] σ = ru d 34 125 [l0, l1, .int i2] [.int i2, w0] σ := q_iload_n t34_124 rfl
theorem t34_125 : decode (mb 34) 125 = .ok (.if_icmp .ne 7, 3) := by decide +kernel
theorem s34_125 (d : Nat) (l0 : Value) (l1 : Value) (l2 : Value) (x y : Int32) (σ : Hs) : ru d 34 125 [l0, l1, l2] [.int y, .int x] σ = if x = y then ru d 34 128 [l0, l1, l2] [] σ else ru d 34 132 [l0, l1, l2] [] σ := q_ic_ne t34_125 (by decide +kernel)
theorem t34_128 : decode (mb 34) 128 = .ok (.iconst 1, 1) := by decide +kernel
theorem s34_128 (d : Nat) (l0 : Value) (l1 : Value) (l2 : Value) (σ : Hs) : ru d 34 128 [l0, l1, l2] [] σ = ru d 34 129 [l0, l1, l2] [.int 1] σ := q_iconst t34_128 (by decide +kernel)
theorem t34_129 : decode (mb 34) 129 = .ok (.goto 4, 3) := by decide +kernel
theorem s34_129 (d : Nat) (l0 : Value) (l1 : Value) (l2 : Value) (w0 : Value) (σ : Hs) : ru d 34 129 [l0, l1, l2] [w0] σ = ru d 34 133 [l0, l1, l2] [w0] σ := q_goto t34_129 (by decide +kernel)
theorem t34_132 : decode (mb 34) 132 = .ok (.iconst 0, 1) := by decide +kernel
theorem s34_132 (d : Nat) (l0 : Value) (l1 : Value) (l2 : Value) (σ : Hs) : ru d 34 132 [l0, l1, l2] [] σ = ru d 34 133 [l0, l1, l2] [.int 0] σ := q_iconst t34_132 (by decide +kernel)
theorem t34_133 : decode (mb 34) 133 = .ok (.ireturn, 1) := by decide +kernel
theorem s34_133 (d : Nat) (l0 : Value) (l1 : Value) (l2 : Value) (x : Int32) (σ : Hs) : ru d 34 133 [l0, l1, l2] [.int x] σ = some (some (.int x), σ) := q_ireti t34_133 mr34
theorem t34_134 : decode (mb 34) 134 = .ok (.iload_n 1, 1) := by decide +kernel
theorem s34_134 (d : Nat) (l0 : Value) (i1 : Int32) (l2 : Value) (σ : Hs) : ru d 34 134 [l0, .int i1, l2] [] σ = ru d 34 135 [l0, .int i1, l2] [.int i1] σ := q_iload_n t34_134 rfl
theorem t34_135 : decode (mb 34) 135 = .ok (.iload_n 2, 1) := by decide +kernel
theorem s34_135 (d : Nat) (l0 : Value) (l1 : Value) (i2 : Int32) (w0 : Value) (σ : Hs) : ru d 34 135 [l0, l1, .int i2] [w0] σ = ru d 34 136 [l0, l1, .int i2] [.int i2, w0] σ := q_iload_n t34_135 rfl
theorem t34_136 : decode (mb 34) 136 = .ok (.if_icmp .le 7, 3) := by decide +kernel
theorem s34_136 (d : Nat) (l0 : Value) (l1 : Value) (l2 : Value) (x y : Int32) (σ : Hs) : ru d 34 136 [l0, l1, l2] [.int y, .int x] σ = if x ≤ y then ru d 34 143 [l0, l1, l2] [] σ else ru d 34 139 [l0, l1, l2] [] σ := q_ic_le t34_136 (by decide +kernel)
theorem t34_139 : decode (mb 34) 139 = .ok (.iconst 1, 1) := by decide +kernel
theorem s34_139 (d : Nat) (l0 : Value) (l1 : Value) (l2 : Value) (σ : Hs) : ru d 34 139 [l0, l1, l2] [] σ = ru d 34 140 [l0, l1, l2] [.int 1] σ := q_iconst t34_139 (by decide +kernel)
theorem t34_140 : decode (mb 34) 140 = .ok (.goto 4, 3) := by decide +kernel
theorem s34_140 (d : Nat) (l0 : Value) (l1 : Value) (l2 : Value) (w0 : Value) (σ : Hs) : ru d 34 140 [l0, l1, l2] [w0] σ = ru d 34 144 [l0, l1, l2] [w0] σ := q_goto t34_140 (by decide +kernel)
theorem t34_143 : decode (mb 34) 143 = .ok (.iconst 0, 1) := by decide +kernel
theorem s34_143 (d : Nat) (l0 : Value) (l1 : Value) (l2 : Value) (σ : Hs) : ru d 34 143 [l0, l1, l2] [] σ = ru d 34 144 [l0, l1, l2] [.int 0] σ := q_iconst t34_143 (by decide +kernel)
theorem t34_144 : decode (mb 34) 144 = .ok (.ireturn, 1) := by decide +kernel
theorem s34_144 (d : Nat) (l0 : Value) (l1 : Value) (l2 : Value) (x : Int32) (σ : Hs) : ru d 34 144 [l0, l1, l2] [.int x] σ = some (some (.int x), σ) := q_ireti t34_144 mr34
theorem t34_145 : decode (mb 34) 145 = .ok (.iload_n 1, 1) := by decide +kernel
theorem s34_145 (d : Nat) (l0 : Value) (i1 : Int32) (l2 : Value) (σ : Hs) : ru d 34 145 [l0, .int i1, l2] [] σ = ru d 34 146 [l0, .int i1, l2] [.int i1] σ := q_iload_n t34_145 rfl
theorem t34_146 : decode (mb 34) 146 = .ok (.iload_n 2, 1) := by decide +kernel
theorem s34_146 (d : Nat) (l0 : Value) (l1 : Value) (i2 : Int32) (w0 : Value) (σ : Hs) : ru d 34 146 [l0, l1, .int i2] [w0] σ = ru d 34 147 [l0, l1, .int i2] [.int i2, w0] σ := q_iload_n t34_146 rfl
theorem t34_147 : decode (mb 34) 147 = .ok (.iadd, 1) := by decide +kernel
theorem s34_147 (d : Nat) (l0 : Value) (l1 : Value) (l2 : Value) (x y : Int32) (σ : Hs) : ru d 34 147 [l0, l1, l2] [.int y, .int x] σ = ru d 34 148 [l0, l1, l2] [.int (x + y)] σ := q_iadd t34_147
theorem t34_148 : decode (mb 34) 148 = .ok (.ireturn, 1) := by decide +kernel
theorem s34_148 (d : Nat) (l0 : Value) (l1 : Value) (l2 : Value) (x : Int32) (σ : Hs) : ru d 34 148 [l0, l1, l2] [.int x] σ = some (some (.int x), σ) := q_ireti t34_148 mr34
theorem t34_149 : decode (mb 34) 149 = .ok (.iload_n 1, 1) := by decide +kernel
theorem s34_149 (d : Nat) (l0 : Value) (i1 : Int32) (l2 : Value) (σ : Hs) : ru d 34 149 [l0, .int i1, l2] [] σ = ru d 34 150 [l0, .int i1, l2] [.int i1] σ := q_iload_n t34_149 rfl
theorem t34_150 : decode (mb 34) 150 = .ok (.iload_n 2, 1) := by decide +kernel
theorem s34_150 (d : Nat) (l0 : Value) (l1 : Value) (i2 : Int32) (w0 : Value) (σ : Hs) : ru d 34 150 [l0, l1, .int i2] [w0] σ = ru d 34 151 [l0, l1, .int i2] [.int i2, w0] σ := q_iload_n t34_150 rfl
theorem t34_151 : decode (mb 34) 151 = .ok (.isub, 1) := by decide +kernel
theorem s34_151 (d : Nat) (l0 : Value) (l1 : Value) (l2 : Value) (x y : Int32) (σ : Hs) : ru d 34 151 [l0, l1, l2] [.int y, .int x] σ = ru d 34 152 [l0, l1, l2] [.int (x - y)] σ := q_isub t34_151
theorem t34_152 : decode (mb 34) 152 = .ok (.ireturn, 1) := by decide +kernel
theorem s34_152 (d : Nat) (l0 : Value) (l1 : Value) (l2 : Value) (x : Int32) (σ : Hs) : ru d 34 152 [l0, l1, l2] [.int x] σ = some (some (.int x), σ) := q_ireti t34_152 mr34
theorem t34_153 : decode (mb 34) 153 = .ok (.iload_n 1, 1) := by decide +kernel
theorem s34_153 (d : Nat) (l0 : Value) (i1 : Int32) (l2 : Value) (σ : Hs) : ru d 34 153 [l0, .int i1, l2] [] σ = ru d 34 154 [l0, .int i1, l2] [.int i1] σ := q_iload_n t34_153 rfl
theorem t34_154 : decode (mb 34) 154 = .ok (.iload_n 2, 1) := by decide +kernel
theorem s34_154 (d : Nat) (l0 : Value) (l1 : Value) (i2 : Int32) (w0 : Value) (σ : Hs) : ru d 34 154 [l0, l1, .int i2] [w0] σ = ru d 34 155 [l0, l1, .int i2] [.int i2, w0] σ := q_iload_n t34_154 rfl
theorem t34_155 : decode (mb 34) 155 = .ok (.imul, 1) := by decide +kernel
theorem s34_155 (d : Nat) (l0 : Value) (l1 : Value) (l2 : Value) (x y : Int32) (σ : Hs) : ru d 34 155 [l0, l1, l2] [.int y, .int x] σ = ru d 34 156 [l0, l1, l2] [.int (x * y)] σ := q_imul t34_155
theorem t34_156 : decode (mb 34) 156 = .ok (.ireturn, 1) := by decide +kernel
theorem s34_156 (d : Nat) (l0 : Value) (l1 : Value) (l2 : Value) (x : Int32) (σ : Hs) : ru d 34 156 [l0, l1, l2] [.int x] σ = some (some (.int x), σ) := q_ireti t34_156 mr34
theorem t34_157 : decode (mb 34) 157 = .ok (.iload_n 2, 1) := by decide +kernel
theorem s34_157 (d : Nat) (l0 : Value) (l1 : Value) (i2 : Int32) (σ : Hs) : ru d 34 157 [l0, l1, .int i2] [] σ = ru d 34 158 [l0, l1, .int i2] [.int i2] σ := q_iload_n t34_157 rfl
theorem t34_158 : decode (mb 34) 158 = .ok (.ifCond .ne 7, 3) := by decide +kernel
theorem s34_158 (d : Nat) (l0 : Value) (l1 : Value) (l2 : Value) (x : Int32) (σ : Hs) : ru d 34 158 [l0, l1, l2] [.int x] σ = if x = 0 then ru d 34 161 [l0, l1, l2] [] σ else ru d 34 165 [l0, l1, l2] [] σ := q_if_ne t34_158 (by decide +kernel)
theorem t34_161 : decode (mb 34) 161 = .ok (.iconst 0, 1) := by decide +kernel
theorem s34_161 (d : Nat) (l0 : Value) (l1 : Value) (l2 : Value) (σ : Hs) : ru d 34 161 [l0, l1, l2] [] σ = ru d 34 162 [l0, l1, l2] [.int 0] σ := q_iconst t34_161 (by decide +kernel)
theorem t34_162 : decode (mb 34) 162 = .ok (.goto 6, 3) := by decide +kernel
theorem s34_162 (d : Nat) (l0 : Value) (l1 : Value) (l2 : Value) (w0 : Value) (σ : Hs) : ru d 34 162 [l0, l1, l2] [w0] σ = ru d 34 168 [l0, l1, l2] [w0] σ := q_goto t34_162 (by decide +kernel)
theorem t34_165 : decode (mb 34) 165 = .ok (.iload_n 1, 1) := by decide +kernel
theorem s34_165 (d : Nat) (l0 : Value) (i1 : Int32) (l2 : Value) (σ : Hs) : ru d 34 165 [l0, .int i1, l2] [] σ = ru d 34 166 [l0, .int i1, l2] [.int i1] σ := q_iload_n t34_165 rfl
theorem t34_166 : decode (mb 34) 166 = .ok (.iload_n 2, 1) := by decide +kernel
theorem s34_166 (d : Nat) (l0 : Value) (l1 : Value) (i2 : Int32) (w0 : Value) (σ : Hs) : ru d 34 166 [l0, l1, .int i2] [w0] σ = ru d 34 167 [l0, l1, .int i2] [.int i2, w0] σ := q_iload_n t34_166 rfl
theorem t34_167 : decode (mb 34) 167 = .ok (.idiv, 1) := by decide +kernel
theorem s34_167 (d : Nat) (l0 : Value) (l1 : Value) (l2 : Value) (x y : Int32) (σ : Hs) : ru d 34 167 [l0, l1, l2] [.int y, .int x] σ = gd (¬ y = 0) (ru d 34 168 [l0, l1, l2] [.int (x / y)] σ) := q_idiv t34_167
theorem t34_168 : decode (mb 34) 168 = .ok (.ireturn, 1) := by decide +kernel
theorem s34_168 (d : Nat) (l0 : Value) (l1 : Value) (l2 : Value) (x : Int32) (σ : Hs) : ru d 34 168 [l0, l1, l2] [.int x] σ = some (some (.int x), σ) := q_ireti t34_168 mr34
theorem t34_169 : decode (mb 34) 169 = .ok (.iload_n 2, 1) := by decide +kernel
theorem s34_169 (d : Nat) (l0 : Value) (l1 : Value) (i2 : Int32) (σ : Hs) : ru d 34 169 [l0, l1, .int i2] [] σ = ru d 34 170 [l0, l1, .int i2] [.int i2] σ := q_iload_n t34_169 rfl
theorem t34_170 : decode (mb 34) 170 = .ok (.ifCond .ne 7, 3) := by decide +kernel
theorem s34_170 (d : Nat) (l0 : Value) (l1 : Value) (l2 : Value) (x : Int32) (σ : Hs) : ru d 34 170 [l0, l1, l2] [.int x] σ = if x = 0 then ru d 34 173 [l0, l1, l2] [] σ else ru d 34 177 [l0, l1, l2] [] σ := q_if_ne t34_170 (by decide +kernel)
theorem t34_173 : decode (mb 34) 173 = .ok (.iconst 0, 1) := by decide +kernel
theorem s34_173 (d : Nat) (l0 : Value) (l1 : Value) (l2 : Value) (σ : Hs) : ru d 34 173 [l0, l1, l2] [] σ = ru d 34 174 [l0, l1, l2] [.int 0] σ := q_iconst t34_173 (by decide +kernel)
theorem t34_174 : decode (mb 34) 174 = .ok (.goto 6, 3) := by decide +kernel
theorem s34_174 (d : Nat) (l0 : Value) (l1 : Value) (l2 : Value) (w0 : Value) (σ : Hs) : ru d 34 174 [l0, l1, l2] [w0] σ = ru d 34 180 [l0, l1, l2] [w0] σ := q_goto t34_174 (by decide +kernel)
theorem t34_177 : decode (mb 34) 177 = .ok (.iload_n 1, 1) := by decide +kernel
theorem s34_177 (d : Nat) (l0 : Value) (i1 : Int32) (l2 : Value) (σ : Hs) : ru d 34 177 [l0, .int i1, l2] [] σ = ru d 34 178 [l0, .int i1, l2] [.int i1] σ := q_iload_n t34_177 rfl
theorem t34_178 : decode (mb 34) 178 = .ok (.iload_n 2, 1) := by decide +kernel
theorem s34_178 (d : Nat) (l0 : Value) (l1 : Value) (i2 : Int32) (w0 : Value) (σ : Hs) : ru d 34 178 [l0, l1, .int i2] [w0] σ = ru d 34 179 [l0, l1, .int i2] [.int i2, w0] σ := q_iload_n t34_178 rfl
theorem t34_179 : decode (mb 34) 179 = .ok (.irem, 1) := by decide +kernel
theorem s34_179 (d : Nat) (l0 : Value) (l1 : Value) (l2 : Value) (x y : Int32) (σ : Hs) : ru d 34 179 [l0, l1, l2] [.int y, .int x] σ = gd (¬ y = 0) (ru d 34 180 [l0, l1, l2] [.int (x - x / y * y)] σ) := q_irem t34_179
theorem t34_180 : decode (mb 34) 180 = .ok (.ireturn, 1) := by decide +kernel
theorem s34_180 (d : Nat) (l0 : Value) (l1 : Value) (l2 : Value) (x : Int32) (σ : Hs) : ru d 34 180 [l0, l1, l2] [.int x] σ = some (some (.int x), σ) := q_ireti t34_180 mr34
theorem c34 (d : Nat) (x0 : Int32) (x1 : Int32) (x2 : Int32) (σ : Hs) : callD (d + 1) 34 [.int x0, .int x1, .int x2] σ = ru d 34 0 [.int x0, .int x1, .int x2] [] σ := callD_ru ml34 rfl rfl (Nat.le_of_ble_eq_true rfl)
-- 35: Reader.faultOf(LSmokyHeap$Row;I)I
theorem t35_0 : decode (mb 35) 0 = .ok (.aload_n 0, 1) := by decide +kernel
theorem s35_0 (d : Nat) (a0 : Nat) (l1 : Value) (l2 : Value) (σ : Hs) : ru d 35 0 [.ref a0, l1, l2] [] σ = ru d 35 1 [.ref a0, l1, l2] [.ref a0] σ := q_aload_n t35_0 rfl
theorem t35_1 : decode (mb 35) 1 = .ok (.aload_n 1, 1) := by decide +kernel
theorem s35_1 (d : Nat) (l0 : Value) (a1 : Nat) (l2 : Value) (w0 : Value) (σ : Hs) : ru d 35 1 [l0, .ref a1, l2] [w0] σ = ru d 35 2 [l0, .ref a1, l2] [.ref a1, w0] σ := q_aload_n t35_1 rfl
theorem t35_2 : decode (mb 35) 2 = .ok (.putfield 20, 3) := by decide +kernel
theorem s35_2_o70_22 (d : Nat) (l0 : Value) (l1 : Value) (l2 : Value) (σ : Hs) : ru d 35 2 [l0, l1, l2] [.ref 22, .ref 70] σ = ru d 35 5 [l0, l1, l2] [] (up2 σ 70 1 22) := q_putr t35_2 mo35 F2_20 (by decide +kernel) rfl (by decide +kernel) (by decide +kernel)
theorem t35_5 : decode (mb 35) 5 = .ok (.aload_n 0, 1) := by decide +kernel
theorem s35_5 (d : Nat) (a0 : Nat) (l1 : Value) (l2 : Value) (σ : Hs) : ru d 35 5 [.ref a0, l1, l2] [] σ = ru d 35 6 [.ref a0, l1, l2] [.ref a0] σ := q_aload_n t35_5 rfl
theorem t35_6 : decode (mb 35) 6 = .ok (.iload_n 2, 1) := by decide +kernel
theorem s35_6 (d : Nat) (l0 : Value) (l1 : Value) (i2 : Int32) (w0 : Value) (σ : Hs) : ru d 35 6 [l0, l1, .int i2] [w0] σ = ru d 35 7 [l0, l1, .int i2] [.int i2, w0] σ := q_iload_n t35_6 rfl
theorem t35_7 : decode (mb 35) 7 = .ok (.invokestatic 37, 3) := by decide +kernel
theorem s35_7 (d : Nat) (l0 : Value) (l1 : Value) (l2 : Value) (v0 : Value) (w0 : Nat) (σ : Hs) : ru d 35 7 [l0, l1, l2] [v0, .ref w0] σ = kont (callD d 36 [v0] σ) d 35 10 [l0, l1, l2] [.ref w0] := q_invs t35_7 mo35 (by decide +kernel) K2_37 mj36 (Nat.le_of_ble_eq_true rfl) rfl rfl (Nat.le_of_ble_eq_true rfl)
theorem t35_10 : decode (mb 35) 10 = .ok (.putfield 25, 3) := by decide +kernel
theorem s35_10_o70_111 (d : Nat) (l0 : Value) (l1 : Value) (l2 : Value) (σ : Hs) : ru d 35 10 [l0, l1, l2] [.ref 111, .ref 70] σ = ru d 35 13 [l0, l1, l2] [] (up2 σ 70 2 111) := q_putr t35_10 mo35 F2_25 (by decide +kernel) rfl (by decide +kernel) (by decide +kernel)
theorem s35_10_o70_112 (d : Nat) (l0 : Value) (l1 : Value) (l2 : Value) (σ : Hs) : ru d 35 10 [l0, l1, l2] [.ref 112, .ref 70] σ = ru d 35 13 [l0, l1, l2] [] (up2 σ 70 2 112) := q_putr t35_10 mo35 F2_25 (by decide +kernel) rfl (by decide +kernel) (by decide +kernel)
theorem s35_10_o70_113 (d : Nat) (l0 : Value) (l1 : Value) (l2 : Value) (σ : Hs) : ru d 35 10 [l0, l1, l2] [.ref 113, .ref 70] σ = ru d 35 13 [l0, l1, l2] [] (up2 σ 70 2 113) := q_putr t35_10 mo35 F2_25 (by decide +kernel) rfl (by decide +kernel) (by decide +kernel)
theorem t35_13 : decode (mb 35) 13 = .ok (.aload_n 0, 1) := by decide +kernel
theorem s35_13 (d : Nat) (a0 : Nat) (l1 : Value) (l2 : Value) (σ : Hs) : ru d 35 13 [.ref a0, l1, l2] [] σ = ru d 35 14 [.ref a0, l1, l2] [.ref a0] σ := q_aload_n t35_13 rfl
theorem t35_14 : decode (mb 35) 14 = .ok (.iconst 0, 1) := by decide +kernel
theorem s35_14 (d : Nat) (l0 : Value) (l1 : Value) (l2 : Value) (w0 : Value) (σ : Hs) : ru d 35 14 [l0, l1, l2] [w0] σ = ru d 35 15 [l0, l1, l2] [.int 0, w0] σ := q_iconst t35_14 (by decide +kernel)
theorem t35_15 : decode (mb 35) 15 = .ok (.putfield 29, 3) := by decide +kernel
theorem s35_15_o70 (d : Nat) (l0 : Value) (l1 : Value) (l2 : Value) (x : Int32) (σ : Hs) : ru d 35 15 [l0, l1, l2] [.int x, .ref 70] σ = ru d 35 18 [l0, l1, l2] [] (up2 σ 70 3 x) := q_puti t35_15 mo35 F2_29 (by decide +kernel) rfl rfl
theorem t35_18 : decode (mb 35) 18 = .ok (.aload_n 0, 1) := by decide +kernel
theorem s35_18 (d : Nat) (a0 : Nat) (l1 : Value) (l2 : Value) (σ : Hs) : ru d 35 18 [.ref a0, l1, l2] [] σ = ru d 35 19 [.ref a0, l1, l2] [.ref a0] σ := q_aload_n t35_18 rfl
theorem t35_19 : decode (mb 35) 19 = .ok (.iconst 0, 1) := by decide +kernel
theorem s35_19 (d : Nat) (l0 : Value) (l1 : Value) (l2 : Value) (w0 : Value) (σ : Hs) : ru d 35 19 [l0, l1, l2] [w0] σ = ru d 35 20 [l0, l1, l2] [.int 0, w0] σ := q_iconst t35_19 (by decide +kernel)
theorem t35_20 : decode (mb 35) 20 = .ok (.putfield 33, 3) := by decide +kernel
theorem s35_20_o70 (d : Nat) (l0 : Value) (l1 : Value) (l2 : Value) (x : Int32) (hx : isB x) (σ : Hs) : ru d 35 20 [l0, l1, l2] [.int x, .ref 70] σ = ru d 35 23 [l0, l1, l2] [] (up2 σ 70 4 x) := q_putz t35_20 mo35 F2_33 (by decide +kernel) rfl rfl hx
theorem t35_23 : decode (mb 35) 23 = .ok (.aload_n 0, 1) := by decide +kernel
theorem s35_23 (d : Nat) (a0 : Nat) (l1 : Value) (l2 : Value) (σ : Hs) : ru d 35 23 [.ref a0, l1, l2] [] σ = ru d 35 24 [.ref a0, l1, l2] [.ref a0] σ := q_aload_n t35_23 rfl
theorem t35_24 : decode (mb 35) 24 = .ok (.getfield 14, 3) := by decide +kernel
theorem s35_24_o70 (d : Nat) (l0 : Value) (l1 : Value) (l2 : Value) (σ : Hs) : ru d 35 24 [l0, l1, l2] [.ref 70] σ = ru d 35 27 [l0, l1, l2] [.ref 71] σ := q_getf t35_24 mo35 F2_14 rfl rfl
theorem t35_27 : decode (mb 35) 27 = .ok (.iconst 0, 1) := by decide +kernel
theorem s35_27 (d : Nat) (l0 : Value) (l1 : Value) (l2 : Value) (w0 : Value) (σ : Hs) : ru d 35 27 [l0, l1, l2] [w0] σ = ru d 35 28 [l0, l1, l2] [.int 0, w0] σ := q_iconst t35_27 (by decide +kernel)
theorem t35_28 : decode (mb 35) 28 = .ok (.putfield 41, 3) := by decide +kernel
theorem s35_28_o71 (d : Nat) (l0 : Value) (l1 : Value) (l2 : Value) (x : Int32) (σ : Hs) : ru d 35 28 [l0, l1, l2] [.int x, .ref 71] σ = ru d 35 31 [l0, l1, l2] [] (up2 σ 71 1 x) := q_puti t35_28 mo35 F2_41 (by decide +kernel) rfl rfl
theorem t35_31 : decode (mb 35) 31 = .ok (.aload_n 0, 1) := by decide +kernel
theorem s35_31 (d : Nat) (a0 : Nat) (l1 : Value) (l2 : Value) (σ : Hs) : ru d 35 31 [.ref a0, l1, l2] [] σ = ru d 35 32 [.ref a0, l1, l2] [.ref a0] σ := q_aload_n t35_31 rfl
theorem t35_32 : decode (mb 35) 32 = .ok (.iconst 0, 1) := by decide +kernel
theorem s35_32 (d : Nat) (l0 : Value) (l1 : Value) (l2 : Value) (w0 : Value) (σ : Hs) : ru d 35 32 [l0, l1, l2] [w0] σ = ru d 35 33 [l0, l1, l2] [.int 0, w0] σ := q_iconst t35_32 (by decide +kernel)
theorem t35_33 : decode (mb 35) 33 = .ok (.iconst 0, 1) := by decide +kernel
theorem s35_33 (d : Nat) (l0 : Value) (l1 : Value) (l2 : Value) (w0 w1 : Value) (σ : Hs) : ru d 35 33 [l0, l1, l2] [w0, w1] σ = ru d 35 34 [l0, l1, l2] [.int 0, w0, w1] σ := q_iconst t35_33 (by decide +kernel)
theorem t35_34 : decode (mb 35) 34 = .ok (.invokevirtual 44, 3) := by decide +kernel
theorem s35_34_o70 (d : Nat) (l0 : Value) (l1 : Value) (l2 : Value) (v1 v2 : Value) (σ : Hs) : ru d 35 34 [l0, l1, l2] [v2, v1, .ref 70] σ = kont (callD d 39 [.ref 70, v1, v2] σ) d 35 37 [l0, l1, l2] [] := q_invv t35_34 mo35 K2_44 mj39 rfl rfl rfl rfl (Nat.le_of_ble_eq_true rfl)
theorem t35_37 : decode (mb 35) 37 = .ok (.aload_n 0, 1) := by decide +kernel
theorem s35_37 (d : Nat) (a0 : Nat) (l1 : Value) (l2 : Value) (σ : Hs) : ru d 35 37 [.ref a0, l1, l2] [] σ = ru d 35 38 [.ref a0, l1, l2] [.ref a0] σ := q_aload_n t35_37 rfl
theorem t35_38 : decode (mb 35) 38 = .ok (.getfield 33, 3) := by decide +kernel
theorem s35_38_o70 (d : Nat) (l0 : Value) (l1 : Value) (l2 : Value) (σ : Hs) : ru d 35 38 [l0, l1, l2] [.ref 70] σ = ru d 35 41 [l0, l1, l2] [.int (σ 70 4)] σ := q_getf t35_38 mo35 F2_33 rfl rfl
theorem t35_41 : decode (mb 35) 41 = .ok (.ifCond .ne 17, 3) := by decide +kernel
theorem s35_41 (d : Nat) (l0 : Value) (l1 : Value) (l2 : Value) (x : Int32) (σ : Hs) : ru d 35 41 [l0, l1, l2] [.int x] σ = if x = 0 then ru d 35 44 [l0, l1, l2] [] σ else ru d 35 58 [l0, l1, l2] [] σ := q_if_ne t35_41 (by decide +kernel)
theorem t35_44 : decode (mb 35) 44 = .ok (.aload_n 0, 1) := by decide +kernel
theorem s35_44 (d : Nat) (a0 : Nat) (l1 : Value) (l2 : Value) (σ : Hs) : ru d 35 44 [.ref a0, l1, l2] [] σ = ru d 35 45 [.ref a0, l1, l2] [.ref a0] σ := q_aload_n t35_44 rfl
theorem t35_45 : decode (mb 35) 45 = .ok (.getfield 29, 3) := by decide +kernel
theorem s35_45_o70 (d : Nat) (l0 : Value) (l1 : Value) (l2 : Value) (σ : Hs) : ru d 35 45 [l0, l1, l2] [.ref 70] σ = ru d 35 48 [l0, l1, l2] [.int (σ 70 3)] σ := q_getf t35_45 mo35 F2_29 rfl rfl
theorem t35_48 : decode (mb 35) 48 = .ok (.aload_n 0, 1) := by decide +kernel
theorem s35_48 (d : Nat) (a0 : Nat) (l1 : Value) (l2 : Value) (w0 : Value) (σ : Hs) : ru d 35 48 [.ref a0, l1, l2] [w0] σ = ru d 35 49 [.ref a0, l1, l2] [.ref a0, w0] σ := q_aload_n t35_48 rfl
theorem t35_49 : decode (mb 35) 49 = .ok (.getfield 20, 3) := by decide +kernel
theorem s35_49_o70 (d : Nat) (l0 : Value) (l1 : Value) (l2 : Value) (w0 : Value) (σ : Hs) : ru d 35 49 [l0, l1, l2] [.ref 70, w0] σ = ru d 35 52 [l0, l1, l2] [.ref (σ 70 1).toNatClampNeg, w0] σ := q_getf t35_49 mo35 F2_20 rfl rfl
theorem t35_52 : decode (mb 35) 52 = .ok (.getfield 41, 3) := by decide +kernel
theorem s35_52_o22 (d : Nat) (l0 : Value) (l1 : Value) (l2 : Value) (w0 : Value) (σ : Hs) : ru d 35 52 [l0, l1, l2] [.ref 22, w0] σ = ru d 35 55 [l0, l1, l2] [.int (σ 22 1), w0] σ := q_getf t35_52 mo35 F2_41 rfl rfl
theorem t35_55 : decode (mb 35) 55 = .ok (.if_icmp .ge 10, 3) := by decide +kernel
theorem s35_55 (d : Nat) (l0 : Value) (l1 : Value) (l2 : Value) (x y : Int32) (σ : Hs) : ru d 35 55 [l0, l1, l2] [.int y, .int x] σ = if y ≤ x then ru d 35 65 [l0, l1, l2] [] σ else ru d 35 58 [l0, l1, l2] [] σ := q_ic_ge t35_55 (by decide +kernel)
theorem t35_58 : decode (mb 35) 58 = .ok (.aload_n 0, 1) := by decide +kernel
theorem s35_58 (d : Nat) (a0 : Nat) (l1 : Value) (l2 : Value) (σ : Hs) : ru d 35 58 [.ref a0, l1, l2] [] σ = ru d 35 59 [.ref a0, l1, l2] [.ref a0] σ := q_aload_n t35_58 rfl
theorem t35_59 : decode (mb 35) 59 = .ok (.getfield 29, 3) := by decide +kernel
theorem s35_59_o70 (d : Nat) (l0 : Value) (l1 : Value) (l2 : Value) (σ : Hs) : ru d 35 59 [l0, l1, l2] [.ref 70] σ = ru d 35 62 [l0, l1, l2] [.int (σ 70 3)] σ := q_getf t35_59 mo35 F2_29 rfl rfl
theorem t35_62 : decode (mb 35) 62 = .ok (.goto 4, 3) := by decide +kernel
theorem s35_62 (d : Nat) (l0 : Value) (l1 : Value) (l2 : Value) (w0 : Value) (σ : Hs) : ru d 35 62 [l0, l1, l2] [w0] σ = ru d 35 66 [l0, l1, l2] [w0] σ := q_goto t35_62 (by decide +kernel)
theorem t35_65 : decode (mb 35) 65 = .ok (.iconst (-1), 1) := by decide +kernel
theorem s35_65 (d : Nat) (l0 : Value) (l1 : Value) (l2 : Value) (σ : Hs) : ru d 35 65 [l0, l1, l2] [] σ = ru d 35 66 [l0, l1, l2] [.int (-1)] σ := q_iconst t35_65 (by decide +kernel)
theorem t35_66 : decode (mb 35) 66 = .ok (.ireturn, 1) := by decide +kernel
theorem s35_66 (d : Nat) (l0 : Value) (l1 : Value) (l2 : Value) (x : Int32) (σ : Hs) : ru d 35 66 [l0, l1, l2] [.int x] σ = some (some (.int x), σ) := q_ireti t35_66 mr35
theorem c35 (d : Nat) (x0 : Nat) (x1 : Nat) (x2 : Int32) (σ : Hs) : callD (d + 1) 35 [.ref x0, .ref x1, .int x2] σ = ru d 35 0 [.ref x0, .ref x1, .int x2] [] σ := callD_ru ml35 rfl rfl (Nat.le_of_ble_eq_true rfl)
-- 36: Reader.namesOf(I)Ljava/lang/String;
theorem t36_0 : decode (mb 36) 0 = .ok (.iload_n 0, 1) := by decide +kernel
theorem s36_0 (d : Nat) (i0 : Int32) (σ : Hs) : ru d 36 0 [.int i0] [] σ = ru d 36 1 [.int i0] [.int i0] σ := q_iload_n t36_0 rfl
theorem t36_1 : decode (mb 36) 1 = .ok (.lookupswitch 33 #[(0, 27), (1, 30)], 27) := by decide +kernel
theorem f36_1 (x : Int32) : tgt 1 (Op.lookupswitch.offset (#[(0, 27), (1, 30)] : Array (Int × Int)).toList 33 x.toInt) = some (if x = 0 then 28 else (if x = 1 then 31 else 34)) := by
  by_cases h0 : x = 0
  · subst h0; decide +kernel
  by_cases h1 : x = 1
  · subst h1; decide +kernel
  have e0 : ¬ x.toInt = 0 := fun h => h0 (Int32.toInt_inj.mp (h.trans (by decide +kernel)))
  have e1 : ¬ x.toInt = 1 := fun h => h1 (Int32.toInt_inj.mp (h.trans (by decide +kernel)))
  have g0 : ¬ (0 : Int) = x.toInt := fun h => e0 h.symm
  have g1 : ¬ (1 : Int) = x.toInt := fun h => e1 h.symm
  simp only [Op.lookupswitch.offset_cons, Op.lookupswitch.offset_nil, if_neg g0, if_neg h0, if_neg g1, if_neg h1]
  decide +kernel
theorem s36_1 (d : Nat) (l0 : Value) (x : Int32) (σ : Hs) : ru d 36 1 [l0] [.int x] σ = if x = 0 then ru d 36 28 [l0] [] σ else if x = 1 then ru d 36 31 [l0] [] σ else ru d 36 34 [l0] [] σ := by
  refine (q_lsw t36_1 (by decide +kernel) (fun x => (if x = 0 then 28 else (if x = 1 then 31 else 34))) (f36_1 x)).trans ?_
  by_cases h0 : x = 0
  · rw [if_pos h0, if_pos h0]
  rw [if_neg h0, if_neg h0]
  by_cases h1 : x = 1
  · rw [if_pos h1, if_pos h1]
  rw [if_neg h1, if_neg h1]
theorem t36_28 : decode (mb 36) 28 = .ok (.ldc 48, 2) := by decide +kernel
theorem s36_28 (d : Nat) (l0 : Value) (σ : Hs) : ru d 36 28 [l0] [] σ = ru d 36 30 [l0] [.ref 111] σ := q_ldc t36_28 mo36 C2_48
theorem t36_30 : decode (mb 36) 30 = .ok (.areturn, 1) := by decide +kernel
theorem s36_30 (d : Nat) (l0 : Value) (x : Nat) (σ : Hs) : ru d 36 30 [l0] [.ref x] σ = some (some (.ref x), σ) := q_aret t36_30 mr36
theorem t36_31 : decode (mb 36) 31 = .ok (.ldc 50, 2) := by decide +kernel
theorem s36_31 (d : Nat) (l0 : Value) (σ : Hs) : ru d 36 31 [l0] [] σ = ru d 36 33 [l0] [.ref 112] σ := q_ldc t36_31 mo36 C2_50
theorem t36_33 : decode (mb 36) 33 = .ok (.areturn, 1) := by decide +kernel
theorem s36_33 (d : Nat) (l0 : Value) (x : Nat) (σ : Hs) : ru d 36 33 [l0] [.ref x] σ = some (some (.ref x), σ) := q_aret t36_33 mr36
theorem t36_34 : decode (mb 36) 34 = .ok (.ldc 52, 2) := by decide +kernel
theorem s36_34 (d : Nat) (l0 : Value) (σ : Hs) : ru d 36 34 [l0] [] σ = ru d 36 36 [l0] [.ref 113] σ := q_ldc t36_34 mo36 C2_52
theorem t36_36 : decode (mb 36) 36 = .ok (.areturn, 1) := by decide +kernel
theorem s36_36 (d : Nat) (l0 : Value) (x : Nat) (σ : Hs) : ru d 36 36 [l0] [.ref x] σ = some (some (.ref x), σ) := q_aret t36_36 mr36
theorem c36 (d : Nat) (x0 : Int32) (σ : Hs) : callD (d + 1) 36 [.int x0] σ = ru d 36 0 [.int x0] [] σ := callD_ru ml36 rfl rfl (Nat.le_of_ble_eq_true rfl)
-- 37: Reader.signsOf(I)Ljava/lang/String;
theorem t37_0 : decode (mb 37) 0 = .ok (.iload_n 0, 1) := by decide +kernel
theorem s37_0 (d : Nat) (i0 : Int32) (σ : Hs) : ru d 37 0 [.int i0] [] σ = ru d 37 1 [.int i0] [.int i0] σ := q_iload_n t37_0 rfl
theorem t37_1 : decode (mb 37) 1 = .ok (.tableswitch 43 0 3 #[31, 34, 37, 40], 31) := by decide +kernel
theorem f37_1 (x : Int32) : (tsw 0 3 #[31, 34, 37, 40] 43 x.toInt).bind (tgt 1) = some (if x = 0 then 32 else (if x = 1 then 35 else (if x = 2 then 38 else (if x = 3 then 41 else 44)))) := by
  by_cases h0 : x = 0
  · subst h0; decide +kernel
  by_cases h1 : x = 1
  · subst h1; decide +kernel
  by_cases h2 : x = 2
  · subst h2; decide +kernel
  by_cases h3 : x = 3
  · subst h3; decide +kernel
  have e0 : ¬ x.toInt = 0 := fun h => h0 (Int32.toInt_inj.mp (h.trans (by decide +kernel)))
  have e1 : ¬ x.toInt = 1 := fun h => h1 (Int32.toInt_inj.mp (h.trans (by decide +kernel)))
  have e2 : ¬ x.toInt = 2 := fun h => h2 (Int32.toInt_inj.mp (h.trans (by decide +kernel)))
  have e3 : ¬ x.toInt = 3 := fun h => h3 (Int32.toInt_inj.mp (h.trans (by decide +kernel)))
  have e : x.toInt < 0 ∨ 3 < x.toInt := by omega
  unfold tsw
  rw [if_pos e, if_neg h0, if_neg h1, if_neg h2, if_neg h3]
  decide +kernel
theorem s37_1 (d : Nat) (l0 : Value) (x : Int32) (σ : Hs) : ru d 37 1 [l0] [.int x] σ = if x = 0 then ru d 37 32 [l0] [] σ else if x = 1 then ru d 37 35 [l0] [] σ else if x = 2 then ru d 37 38 [l0] [] σ else if x = 3 then ru d 37 41 [l0] [] σ else ru d 37 44 [l0] [] σ := by
  refine (q_tsw t37_1 (fun x => (if x = 0 then 32 else (if x = 1 then 35 else (if x = 2 then 38 else (if x = 3 then 41 else 44))))) (f37_1 x)).trans ?_
  by_cases h0 : x = 0
  · rw [if_pos h0, if_pos h0]
  rw [if_neg h0, if_neg h0]
  by_cases h1 : x = 1
  · rw [if_pos h1, if_pos h1]
  rw [if_neg h1, if_neg h1]
  by_cases h2 : x = 2
  · rw [if_pos h2, if_pos h2]
  rw [if_neg h2, if_neg h2]
  by_cases h3 : x = 3
  · rw [if_pos h3, if_pos h3]
  rw [if_neg h3, if_neg h3]
theorem t37_32 : decode (mb 37) 32 = .ok (.ldc 54, 2) := by decide +kernel
theorem s37_32 (d : Nat) (l0 : Value) (σ : Hs) : ru d 37 32 [l0] [] σ = ru d 37 34 [l0] [.ref 114] σ := q_ldc t37_32 mo37 C2_54
theorem t37_34 : decode (mb 37) 34 = .ok (.areturn, 1) := by decide +kernel
theorem s37_34 (d : Nat) (l0 : Value) (x : Nat) (σ : Hs) : ru d 37 34 [l0] [.ref x] σ = some (some (.ref x), σ) := q_aret t37_34 mr37
theorem t37_35 : decode (mb 37) 35 = .ok (.ldc 56, 2) := by decide +kernel
theorem s37_35 (d : Nat) (l0 : Value) (σ : Hs) : ru d 37 35 [l0] [] σ = ru d 37 37 [l0] [.ref 115] σ := q_ldc t37_35 mo37 C2_56
theorem t37_37 : decode (mb 37) 37 = .ok (.areturn, 1) := by decide +kernel
theorem s37_37 (d : Nat) (l0 : Value) (x : Nat) (σ : Hs) : ru d 37 37 [l0] [.ref x] σ = some (some (.ref x), σ) := q_aret t37_37 mr37
theorem t37_38 : decode (mb 37) 38 = .ok (.ldc 58, 2) := by decide +kernel
theorem s37_38 (d : Nat) (l0 : Value) (σ : Hs) : ru d 37 38 [l0] [] σ = ru d 37 40 [l0] [.ref 116] σ := q_ldc t37_38 mo37 C2_58
theorem t37_40 : decode (mb 37) 40 = .ok (.areturn, 1) := by decide +kernel
theorem s37_40 (d : Nat) (l0 : Value) (x : Nat) (σ : Hs) : ru d 37 40 [l0] [.ref x] σ = some (some (.ref x), σ) := q_aret t37_40 mr37
theorem t37_41 : decode (mb 37) 41 = .ok (.ldc 60, 2) := by decide +kernel
theorem s37_41 (d : Nat) (l0 : Value) (σ : Hs) : ru d 37 41 [l0] [] σ = ru d 37 43 [l0] [.ref 117] σ := q_ldc t37_41 mo37 C2_60
theorem t37_43 : decode (mb 37) 43 = .ok (.areturn, 1) := by decide +kernel
theorem s37_43 (d : Nat) (l0 : Value) (x : Nat) (σ : Hs) : ru d 37 43 [l0] [.ref x] σ = some (some (.ref x), σ) := q_aret t37_43 mr37
theorem t37_44 : decode (mb 37) 44 = .ok (.ldc 62, 2) := by decide +kernel
theorem s37_44 (d : Nat) (l0 : Value) (σ : Hs) : ru d 37 44 [l0] [] σ = ru d 37 46 [l0] [.ref 118] σ := q_ldc t37_44 mo37 C2_62
theorem t37_46 : decode (mb 37) 46 = .ok (.areturn, 1) := by decide +kernel
theorem s37_46 (d : Nat) (l0 : Value) (x : Nat) (σ : Hs) : ru d 37 46 [l0] [.ref x] σ = some (some (.ref x), σ) := q_aret t37_46 mr37
theorem c37 (d : Nat) (x0 : Int32) (σ : Hs) : callD (d + 1) 37 [.int x0] σ = ru d 37 0 [.int x0] [] σ := callD_ru ml37 rfl rfl (Nat.le_of_ble_eq_true rfl)
-- 38: Reader.next()C
theorem t38_0 : decode (mb 38) 0 = .ok (.aload_n 0, 1) := by decide +kernel
theorem s38_0 (d : Nat) (a0 : Nat) (σ : Hs) : ru d 38 0 [.ref a0] [] σ = ru d 38 1 [.ref a0] [.ref a0] σ := q_aload_n t38_0 rfl
theorem t38_1 : decode (mb 38) 1 = .ok (.getfield 20, 3) := by decide +kernel
theorem s38_1_o70 (d : Nat) (l0 : Value) (σ : Hs) : ru d 38 1 [l0] [.ref 70] σ = ru d 38 4 [l0] [.ref (σ 70 1).toNatClampNeg] σ := q_getf t38_1 mo38 F2_20 rfl rfl
theorem t38_4 : decode (mb 38) 4 = .ok (.aload_n 0, 1) := by decide +kernel
theorem s38_4 (d : Nat) (a0 : Nat) (w0 : Value) (σ : Hs) : ru d 38 4 [.ref a0] [w0] σ = ru d 38 5 [.ref a0] [.ref a0, w0] σ := q_aload_n t38_4 rfl
theorem t38_5 : decode (mb 38) 5 = .ok (.getfield 29, 3) := by decide +kernel
theorem s38_5_o70 (d : Nat) (l0 : Value) (w0 : Value) (σ : Hs) : ru d 38 5 [l0] [.ref 70, w0] σ = ru d 38 8 [l0] [.int (σ 70 3), w0] σ := q_getf t38_5 mo38 F2_29 rfl rfl
theorem t38_8 : decode (mb 38) 8 = .ok (.invokevirtual 64, 3) := by decide +kernel
theorem s38_8_o22 (d : Nat) (l0 : Value) (v1 : Value) (σ : Hs) : ru d 38 8 [l0] [v1, .ref 22] σ = kont (callD d 44 [.ref 22, v1] σ) d 38 11 [l0] [] := q_invv t38_8 mo38 K2_64 mj44 rfl rfl rfl rfl (Nat.le_of_ble_eq_true rfl)
theorem t38_11 : decode (mb 38) 11 = .ok (.ifCond .eq 19, 3) := by decide +kernel
theorem s38_11 (d : Nat) (l0 : Value) (x : Int32) (σ : Hs) : ru d 38 11 [l0] [.int x] σ = if x = 0 then ru d 38 30 [l0] [] σ else ru d 38 14 [l0] [] σ := q_if_eq t38_11 (by decide +kernel)
theorem t38_14 : decode (mb 38) 14 = .ok (.aload_n 0, 1) := by decide +kernel
theorem s38_14 (d : Nat) (a0 : Nat) (σ : Hs) : ru d 38 14 [.ref a0] [] σ = ru d 38 15 [.ref a0] [.ref a0] σ := q_aload_n t38_14 rfl
theorem t38_15 : decode (mb 38) 15 = .ok (.getfield 20, 3) := by decide +kernel
theorem s38_15_o70 (d : Nat) (l0 : Value) (σ : Hs) : ru d 38 15 [l0] [.ref 70] σ = ru d 38 18 [l0] [.ref (σ 70 1).toNatClampNeg] σ := q_getf t38_15 mo38 F2_20 rfl rfl
theorem t38_18 : decode (mb 38) 18 = .ok (.getfield 68, 3) := by decide +kernel
theorem s38_18_o22 (d : Nat) (l0 : Value) (σ : Hs) : ru d 38 18 [l0] [.ref 22] σ = ru d 38 21 [l0] [.ref 23] σ := q_getf t38_18 mo38 F2_68 rfl rfl
theorem t38_21 : decode (mb 38) 21 = .ok (.aload_n 0, 1) := by decide +kernel
theorem s38_21 (d : Nat) (a0 : Nat) (w0 : Value) (σ : Hs) : ru d 38 21 [.ref a0] [w0] σ = ru d 38 22 [.ref a0] [.ref a0, w0] σ := q_aload_n t38_21 rfl
theorem t38_22 : decode (mb 38) 22 = .ok (.getfield 29, 3) := by decide +kernel
theorem s38_22_o70 (d : Nat) (l0 : Value) (w0 : Value) (σ : Hs) : ru d 38 22 [l0] [.ref 70, w0] σ = ru d 38 25 [l0] [.int (σ 70 3), w0] σ := q_getf t38_22 mo38 F2_29 rfl rfl
theorem t38_25 : decode (mb 38) 25 = .ok (.iaload, 1) := by decide +kernel
theorem s38_25_o23 (d : Nat) (l0 : Value) (i : Int32) (σ : Hs) : ru d 38 25 [l0] [.int i, .ref 23] σ = gd (vp_in i 60) (ru d 38 26 [l0] [.int (σ 23 i.toNatClampNeg)] σ) := q_iald t38_25 rfl (by decide +kernel) rfl
theorem t38_26 : decode (mb 38) 26 = .ok (.i2c, 1) := by decide +kernel
theorem s38_26 (d : Nat) (l0 : Value) (x : Int32) (σ : Hs) : ru d 38 26 [l0] [.int x] σ = ru d 38 27 [l0] [.int (x.toUInt32 % 65536).toInt32] σ := q_i2c t38_26
theorem t38_27 : decode (mb 38) 27 = .ok (.goto 4, 3) := by decide +kernel
theorem s38_27 (d : Nat) (l0 : Value) (w0 : Value) (σ : Hs) : ru d 38 27 [l0] [w0] σ = ru d 38 31 [l0] [w0] σ := q_goto t38_27 (by decide +kernel)
theorem t38_30 : decode (mb 38) 30 = .ok (.iconst 0, 1) := by decide +kernel
theorem s38_30 (d : Nat) (l0 : Value) (σ : Hs) : ru d 38 30 [l0] [] σ = ru d 38 31 [l0] [.int 0] σ := q_iconst t38_30 (by decide +kernel)
theorem t38_31 : decode (mb 38) 31 = .ok (.ireturn, 1) := by decide +kernel
theorem s38_31 (d : Nat) (l0 : Value) (x : Int32) (hx : narrow .char (.int x) = .int x) (σ : Hs) : ru d 38 31 [l0] [.int x] σ = some (some (.int x), σ) := q_iretn t38_31 mr38 hx
theorem c38 (d : Nat) (x0 : Nat) (σ : Hs) : callD (d + 1) 38 [.ref x0] σ = ru d 38 0 [.ref x0] [] σ := callD_ru ml38 rfl rfl (Nat.le_of_ble_eq_true rfl)
-- 39: Reader.readLevel(II)V
theorem t39_0 : decode (mb 39) 0 = .ok (.iload_n 1, 1) := by decide +kernel
theorem s39_0 (d : Nat) (l0 : Value) (i1 : Int32) (l2 : Value) (l3 : Value) (l4 : Value) (l5 : Value) (σ : Hs) : ru d 39 0 [l0, .int i1, l2, l3, l4, l5] [] σ = ru d 39 1 [l0, .int i1, l2, l3, l4, l5] [.int i1] σ := q_iload_n t39_0 rfl
theorem t39_1 : decode (mb 39) 1 = .ok (.iconst 5, 1) := by decide +kernel
theorem s39_1 (d : Nat) (l0 : Value) (l1 : Value) (l2 : Value) (l3 : Value) (l4 : Value) (l5 : Value) (w0 : Value) (σ : Hs) : ru d 39 1 [l0, l1, l2, l3, l4, l5] [w0] σ = ru d 39 2 [l0, l1, l2, l3, l4, l5] [.int 5, w0] σ := q_iconst t39_1 (by decide +kernel)
theorem t39_2 : decode (mb 39) 2 = .ok (.if_icmp .lt 9, 3) := by decide +kernel
theorem s39_2 (d : Nat) (l0 : Value) (l1 : Value) (l2 : Value) (l3 : Value) (l4 : Value) (l5 : Value) (x y : Int32) (σ : Hs) : ru d 39 2 [l0, l1, l2, l3, l4, l5] [.int y, .int x] σ = if x < y then ru d 39 11 [l0, l1, l2, l3, l4, l5] [] σ else ru d 39 5 [l0, l1, l2, l3, l4, l5] [] σ := q_ic_lt t39_2 (by decide +kernel)
theorem t39_5 : decode (mb 39) 5 = .ok (.aload_n 0, 1) := by decide +kernel
theorem s39_5 (d : Nat) (a0 : Nat) (l1 : Value) (l2 : Value) (l3 : Value) (l4 : Value) (l5 : Value) (σ : Hs) : ru d 39 5 [.ref a0, l1, l2, l3, l4, l5] [] σ = ru d 39 6 [.ref a0, l1, l2, l3, l4, l5] [.ref a0] σ := q_aload_n t39_5 rfl
theorem t39_6 : decode (mb 39) 6 = .ok (.iload_n 2, 1) := by decide +kernel
theorem s39_6 (d : Nat) (l0 : Value) (l1 : Value) (i2 : Int32) (l3 : Value) (l4 : Value) (l5 : Value) (w0 : Value) (σ : Hs) : ru d 39 6 [l0, l1, .int i2, l3, l4, l5] [w0] σ = ru d 39 7 [l0, l1, .int i2, l3, l4, l5] [.int i2, w0] σ := q_iload_n t39_6 rfl
theorem t39_7 : decode (mb 39) 7 = .ok (.invokevirtual 72, 3) := by decide +kernel
theorem s39_7_o70 (d : Nat) (l0 : Value) (l1 : Value) (l2 : Value) (l3 : Value) (l4 : Value) (l5 : Value) (v1 : Value) (σ : Hs) : ru d 39 7 [l0, l1, l2, l3, l4, l5] [v1, .ref 70] σ = kont (callD d 40 [.ref 70, v1] σ) d 39 10 [l0, l1, l2, l3, l4, l5] [] := q_invv t39_7 mo39 K2_72 mj40 rfl rfl rfl rfl (Nat.le_of_ble_eq_true rfl)
theorem t39_10 : decode (mb 39) 10 = .ok (.return_, 1) := by decide +kernel
theorem s39_10 (d : Nat) (l0 : Value) (l1 : Value) (l2 : Value) (l3 : Value) (l4 : Value) (l5 : Value) (σ : Hs) : ru d 39 10 [l0, l1, l2, l3, l4, l5] [] σ = some (none, σ) := q_vret t39_10 mr39
theorem t39_11 : decode (mb 39) 11 = .ok (.aload_n 0, 1) := by decide +kernel
theorem s39_11 (d : Nat) (a0 : Nat) (l1 : Value) (l2 : Value) (l3 : Value) (l4 : Value) (l5 : Value) (σ : Hs) : ru d 39 11 [.ref a0, l1, l2, l3, l4, l5] [] σ = ru d 39 12 [.ref a0, l1, l2, l3, l4, l5] [.ref a0] σ := q_aload_n t39_11 rfl
theorem t39_12 : decode (mb 39) 12 = .ok (.iload_n 1, 1) := by decide +kernel
theorem s39_12 (d : Nat) (l0 : Value) (i1 : Int32) (l2 : Value) (l3 : Value) (l4 : Value) (l5 : Value) (w0 : Value) (σ : Hs) : ru d 39 12 [l0, .int i1, l2, l3, l4, l5] [w0] σ = ru d 39 13 [l0, .int i1, l2, l3, l4, l5] [.int i1, w0] σ := q_iload_n t39_12 rfl
theorem t39_13 : decode (mb 39) 13 = .ok (.iconst 1, 1) := by decide +kernel
theorem s39_13 (d : Nat) (l0 : Value) (l1 : Value) (l2 : Value) (l3 : Value) (l4 : Value) (l5 : Value) (w0 w1 : Value) (σ : Hs) : ru d 39 13 [l0, l1, l2, l3, l4, l5] [w0, w1] σ = ru d 39 14 [l0, l1, l2, l3, l4, l5] [.int 1, w0, w1] σ := q_iconst t39_13 (by decide +kernel)
theorem t39_14 : decode (mb 39) 14 = .ok (.iadd, 1) := by decide +kernel
theorem s39_14 (d : Nat) (l0 : Value) (l1 : Value) (l2 : Value) (l3 : Value) (l4 : Value) (l5 : Value) (x y : Int32) (w0 : Value) (σ : Hs) : ru d 39 14 [l0, l1, l2, l3, l4, l5] [.int y, .int x, w0] σ = ru d 39 15 [l0, l1, l2, l3, l4, l5] [.int (x + y), w0] σ := q_iadd t39_14
theorem t39_15 : decode (mb 39) 15 = .ok (.iload_n 2, 1) := by decide +kernel
theorem s39_15 (d : Nat) (l0 : Value) (l1 : Value) (i2 : Int32) (l3 : Value) (l4 : Value) (l5 : Value) (w0 w1 : Value) (σ : Hs) : ru d 39 15 [l0, l1, .int i2, l3, l4, l5] [w0, w1] σ = ru d 39 16 [l0, l1, .int i2, l3, l4, l5] [.int i2, w0, w1] σ := q_iload_n t39_15 rfl
theorem t39_16 : decode (mb 39) 16 = .ok (.invokevirtual 44, 3) := by decide +kernel
theorem s39_16_o70 (d : Nat) (l0 : Value) (l1 : Value) (l2 : Value) (l3 : Value) (l4 : Value) (l5 : Value) (v1 v2 : Value) (σ : Hs) : ru d 39 16 [l0, l1, l2, l3, l4, l5] [v2, v1, .ref 70] σ = kont (callD d 39 [.ref 70, v1, v2] σ) d 39 19 [l0, l1, l2, l3, l4, l5] [] := q_invv t39_16 mo39 K2_44 mj39 rfl rfl rfl rfl (Nat.le_of_ble_eq_true rfl)
theorem t39_19 : decode (mb 39) 19 = .ok (.iload_n 1, 1) := by decide +kernel
theorem s39_19 (d : Nat) (l0 : Value) (i1 : Int32) (l2 : Value) (l3 : Value) (l4 : Value) (l5 : Value) (σ : Hs) : ru d 39 19 [l0, .int i1, l2, l3, l4, l5] [] σ = ru d 39 20 [l0, .int i1, l2, l3, l4, l5] [.int i1] σ := q_iload_n t39_19 rfl
theorem t39_20 : decode (mb 39) 20 = .ok (.iconst 2, 1) := by decide +kernel
theorem s39_20 (d : Nat) (l0 : Value) (l1 : Value) (l2 : Value) (l3 : Value) (l4 : Value) (l5 : Value) (w0 : Value) (σ : Hs) : ru d 39 20 [l0, l1, l2, l3, l4, l5] [w0] σ = ru d 39 21 [l0, l1, l2, l3, l4, l5] [.int 2, w0] σ := q_iconst t39_20 (by decide +kernel)
theorem t39_21 : decode (mb 39) 21 = .ok (.if_icmp .ne 7, 3) := by decide +kernel
theorem s39_21 (d : Nat) (l0 : Value) (l1 : Value) (l2 : Value) (l3 : Value) (l4 : Value) (l5 : Value) (x y : Int32) (σ : Hs) : ru d 39 21 [l0, l1, l2, l3, l4, l5] [.int y, .int x] σ = if x = y then ru d 39 24 [l0, l1, l2, l3, l4, l5] [] σ else ru d 39 28 [l0, l1, l2, l3, l4, l5] [] σ := q_ic_ne t39_21 (by decide +kernel)
theorem t39_24 : decode (mb 39) 24 = .ok (.iconst 1, 1) := by decide +kernel
theorem s39_24 (d : Nat) (l0 : Value) (l1 : Value) (l2 : Value) (l3 : Value) (l4 : Value) (l5 : Value) (σ : Hs) : ru d 39 24 [l0, l1, l2, l3, l4, l5] [] σ = ru d 39 25 [l0, l1, l2, l3, l4, l5] [.int 1] σ := q_iconst t39_24 (by decide +kernel)
theorem t39_25 : decode (mb 39) 25 = .ok (.goto 5, 3) := by decide +kernel
theorem s39_25 (d : Nat) (l0 : Value) (l1 : Value) (l2 : Value) (l3 : Value) (l4 : Value) (l5 : Value) (w0 : Value) (σ : Hs) : ru d 39 25 [l0, l1, l2, l3, l4, l5] [w0] σ = ru d 39 30 [l0, l1, l2, l3, l4, l5] [w0] σ := q_goto t39_25 (by decide +kernel)
theorem t39_28 : decode (mb 39) 28 = .ok (.bipush 60, 2) := by decide +kernel
theorem s39_28 (d : Nat) (l0 : Value) (l1 : Value) (l2 : Value) (l3 : Value) (l4 : Value) (l5 : Value) (σ : Hs) : ru d 39 28 [l0, l1, l2, l3, l4, l5] [] σ = ru d 39 30 [l0, l1, l2, l3, l4, l5] [.int 60] σ := q_bipush t39_28 (by decide +kernel)
theorem t39_30 : decode (mb 39) 30 = .ok (.istore_n 3, 1) := by decide +kernel
theorem s39_30 (d : Nat) (l0 : Value) (l1 : Value) (i2 : Int32) (l3 : Value) (l4 : Value) (l5 : Value) (x : Int32) (σ : Hs) : ru d 39 30 [l0, l1, .int i2, l3, l4, l5] [.int x] σ = ru d 39 31 [l0, l1, .int i2, .int x, l4, l5] [] σ := q_istore_n t39_30 ⟨Nat.le_of_ble_eq_true rfl, rfl⟩ rfl
theorem t39_31 : decode (mb 39) 31 = .ok (.iconst 0, 1) := by decide +kernel
theorem s39_31 (d : Nat) (l0 : Value) (l1 : Value) (l2 : Value) (l3 : Value) (l4 : Value) (l5 : Value) (σ : Hs) : ru d 39 31 [l0, l1, l2, l3, l4, l5] [] σ = ru d 39 32 [l0, l1, l2, l3, l4, l5] [.int 0] σ := q_iconst t39_31 (by decide +kernel)
theorem t39_32 : decode (mb 39) 32 = .ok (.istore 4, 2) := by decide +kernel
theorem s39_32 (d : Nat) (l0 : Value) (l1 : Value) (l2 : Value) (i3 : Int32) (l4 : Value) (l5 : Value) (x : Int32) (σ : Hs) : ru d 39 32 [l0, l1, l2, .int i3, l4, l5] [.int x] σ = ru d 39 34 [l0, l1, l2, .int i3, .int x, l5] [] σ := q_istore t39_32 ⟨Nat.le_of_ble_eq_true rfl, rfl⟩ rfl
theorem t39_34 : decode (mb 39) 34 = .ok (.iload 4, 2) := by decide +kernel
theorem s39_34 (d : Nat) (l0 : Value) (l1 : Value) (l2 : Value) (l3 : Value) (i4 : Int32) (l5 : Value) (σ : Hs) : ru d 39 34 [l0, l1, l2, l3, .int i4, l5] [] σ = ru d 39 36 [l0, l1, l2, l3, .int i4, l5] [.int i4] σ := q_iload t39_34 rfl
theorem t39_36 : decode (mb 39) 36 = .ok (.iload_n 3, 1) := by decide +kernel
theorem s39_36 (d : Nat) (l0 : Value) (l1 : Value) (l2 : Value) (i3 : Int32) (l4 : Value) (l5 : Value) (w0 : Value) (σ : Hs) : ru d 39 36 [l0, l1, l2, .int i3, l4, l5] [w0] σ = ru d 39 37 [l0, l1, l2, .int i3, l4, l5] [.int i3, w0] σ := q_iload_n t39_36 rfl
theorem t39_37 : decode (mb 39) 37 = .ok (.if_icmp .ge 68, 3) := by decide +kernel
theorem s39_37 (d : Nat) (l0 : Value) (l1 : Value) (l2 : Value) (l3 : Value) (l4 : Value) (l5 : Value) (x y : Int32) (σ : Hs) : ru d 39 37 [l0, l1, l2, l3, l4, l5] [.int y, .int x] σ = if y ≤ x then ru d 39 105 [l0, l1, l2, l3, l4, l5] [] σ else ru d 39 40 [l0, l1, l2, l3, l4, l5] [] σ := q_ic_ge t39_37 (by decide +kernel)
theorem t39_40 : decode (mb 39) 40 = .ok (.aload_n 0, 1) := by decide +kernel
theorem s39_40 (d : Nat) (a0 : Nat) (l1 : Value) (l2 : Value) (l3 : Value) (l4 : Value) (l5 : Value) (σ : Hs) : ru d 39 40 [.ref a0, l1, l2, l3, l4, l5] [] σ = ru d 39 41 [.ref a0, l1, l2, l3, l4, l5] [.ref a0] σ := q_aload_n t39_40 rfl
theorem t39_41 : decode (mb 39) 41 = .ok (.getfield 33, 3) := by decide +kernel
theorem s39_41_o70 (d : Nat) (l0 : Value) (l1 : Value) (l2 : Value) (l3 : Value) (l4 : Value) (l5 : Value) (σ : Hs) : ru d 39 41 [l0, l1, l2, l3, l4, l5] [.ref 70] σ = ru d 39 44 [l0, l1, l2, l3, l4, l5] [.int (σ 70 4)] σ := q_getf t39_41 mo39 F2_33 rfl rfl
theorem t39_44 : decode (mb 39) 44 = .ok (.ifCond .ne 61, 3) := by decide +kernel
theorem s39_44 (d : Nat) (l0 : Value) (l1 : Value) (l2 : Value) (l3 : Value) (l4 : Value) (l5 : Value) (x : Int32) (σ : Hs) : ru d 39 44 [l0, l1, l2, l3, l4, l5] [.int x] σ = if x = 0 then ru d 39 47 [l0, l1, l2, l3, l4, l5] [] σ else ru d 39 105 [l0, l1, l2, l3, l4, l5] [] σ := q_if_ne t39_44 (by decide +kernel)
theorem t39_47 : decode (mb 39) 47 = .ok (.iload_n 1, 1) := by decide +kernel
theorem s39_47 (d : Nat) (l0 : Value) (i1 : Int32) (l2 : Value) (l3 : Value) (l4 : Value) (l5 : Value) (σ : Hs) : ru d 39 47 [l0, .int i1, l2, l3, l4, l5] [] σ = ru d 39 48 [l0, .int i1, l2, l3, l4, l5] [.int i1] σ := q_iload_n t39_47 rfl
theorem t39_48 : decode (mb 39) 48 = .ok (.invokestatic 75, 3) := by decide +kernel
theorem s39_48 (d : Nat) (l0 : Value) (l1 : Value) (l2 : Value) (l3 : Value) (l4 : Value) (l5 : Value) (v0 : Value) (σ : Hs) : ru d 39 48 [l0, l1, l2, l3, l4, l5] [v0] σ = kont (callD d 37 [v0] σ) d 39 51 [l0, l1, l2, l3, l4, l5] [] := q_invs t39_48 mo39 (by decide +kernel) K2_75 mj37 (Nat.le_of_ble_eq_true rfl) rfl rfl (Nat.le_of_ble_eq_true rfl)
theorem t39_51 : decode (mb 39) 51 = .ok (.aload_n 0, 1) := by decide +kernel
theorem s39_51 (d : Nat) (a0 : Nat) (l1 : Value) (l2 : Value) (l3 : Value) (l4 : Value) (l5 : Value) (w0 : Value) (σ : Hs) : ru d 39 51 [.ref a0, l1, l2, l3, l4, l5] [w0] σ = ru d 39 52 [.ref a0, l1, l2, l3, l4, l5] [.ref a0, w0] σ := q_aload_n t39_51 rfl
theorem t39_52 : decode (mb 39) 52 = .ok (.invokevirtual 78, 3) := by decide +kernel
theorem s39_52_o70 (d : Nat) (l0 : Value) (l1 : Value) (l2 : Value) (l3 : Value) (l4 : Value) (l5 : Value) (w0 : Nat) (σ : Hs) : ru d 39 52 [l0, l1, l2, l3, l4, l5] [.ref 70, .ref w0] σ = kont (callD d 38 [.ref 70] σ) d 39 55 [l0, l1, l2, l3, l4, l5] [.ref w0] := q_invv t39_52 mo39 K2_78 mj38 rfl rfl rfl rfl (Nat.le_of_ble_eq_true rfl)
theorem t39_55 : decode (mb 39) 55 = .ok (.invokevirtual 82, 3) := by decide +kernel
theorem s39_55_o114 (d : Nat) (l0 : Value) (l1 : Value) (l2 : Value) (l3 : Value) (l4 : Value) (l5 : Value) (v1 : Value) (σ : Hs) : ru d 39 55 [l0, l1, l2, l3, l4, l5] [v1, .ref 114] σ = kont (callD d 222 [.ref 114, v1] σ) d 39 58 [l0, l1, l2, l3, l4, l5] [] := q_invv t39_55 mo39 K2_82 mj222 rfl rfl rfl rfl (Nat.le_of_ble_eq_true rfl)
theorem s39_55_o115 (d : Nat) (l0 : Value) (l1 : Value) (l2 : Value) (l3 : Value) (l4 : Value) (l5 : Value) (v1 : Value) (σ : Hs) : ru d 39 55 [l0, l1, l2, l3, l4, l5] [v1, .ref 115] σ = kont (callD d 222 [.ref 115, v1] σ) d 39 58 [l0, l1, l2, l3, l4, l5] [] := q_invv t39_55 mo39 K2_82 mj222 rfl rfl rfl rfl (Nat.le_of_ble_eq_true rfl)
theorem s39_55_o116 (d : Nat) (l0 : Value) (l1 : Value) (l2 : Value) (l3 : Value) (l4 : Value) (l5 : Value) (v1 : Value) (σ : Hs) : ru d 39 55 [l0, l1, l2, l3, l4, l5] [v1, .ref 116] σ = kont (callD d 222 [.ref 116, v1] σ) d 39 58 [l0, l1, l2, l3, l4, l5] [] := q_invv t39_55 mo39 K2_82 mj222 rfl rfl rfl rfl (Nat.le_of_ble_eq_true rfl)
theorem s39_55_o117 (d : Nat) (l0 : Value) (l1 : Value) (l2 : Value) (l3 : Value) (l4 : Value) (l5 : Value) (v1 : Value) (σ : Hs) : ru d 39 55 [l0, l1, l2, l3, l4, l5] [v1, .ref 117] σ = kont (callD d 222 [.ref 117, v1] σ) d 39 58 [l0, l1, l2, l3, l4, l5] [] := q_invv t39_55 mo39 K2_82 mj222 rfl rfl rfl rfl (Nat.le_of_ble_eq_true rfl)
theorem s39_55_o118 (d : Nat) (l0 : Value) (l1 : Value) (l2 : Value) (l3 : Value) (l4 : Value) (l5 : Value) (v1 : Value) (σ : Hs) : ru d 39 55 [l0, l1, l2, l3, l4, l5] [v1, .ref 118] σ = kont (callD d 222 [.ref 118, v1] σ) d 39 58 [l0, l1, l2, l3, l4, l5] [] := q_invv t39_55 mo39 K2_82 mj222 rfl rfl rfl rfl (Nat.le_of_ble_eq_true rfl)
theorem t39_58 : decode (mb 39) 58 = .ok (.ifCond .lt 47, 3) := by decide +kernel
theorem s39_58 (d : Nat) (l0 : Value) (l1 : Value) (l2 : Value) (l3 : Value) (l4 : Value) (l5 : Value) (x : Int32) (σ : Hs) : ru d 39 58 [l0, l1, l2, l3, l4, l5] [.int x] σ = if x < 0 then ru d 39 105 [l0, l1, l2, l3, l4, l5] [] σ else ru d 39 61 [l0, l1, l2, l3, l4, l5] [] σ := q_if_lt t39_58 (by decide +kernel)
theorem t39_61 : decode (mb 39) 61 = .ok (.aload_n 0, 1) := by decide +kernel
theorem s39_61 (d : Nat) (a0 : Nat) (l1 : Value) (l2 : Value) (l3 : Value) (l4 : Value) (l5 : Value) (σ : Hs) : ru d 39 61 [.ref a0, l1, l2, l3, l4, l5] [] σ = ru d 39 62 [.ref a0, l1, l2, l3, l4, l5] [.ref a0] σ := q_aload_n t39_61 rfl
theorem t39_62 : decode (mb 39) 62 = .ok (.invokevirtual 78, 3) := by decide +kernel
theorem s39_62_o70 (d : Nat) (l0 : Value) (l1 : Value) (l2 : Value) (l3 : Value) (l4 : Value) (l5 : Value) (σ : Hs) : ru d 39 62 [l0, l1, l2, l3, l4, l5] [.ref 70] σ = kont (callD d 38 [.ref 70] σ) d 39 65 [l0, l1, l2, l3, l4, l5] [] := q_invv t39_62 mo39 K2_78 mj38 rfl rfl rfl rfl (Nat.le_of_ble_eq_true rfl)
theorem t39_65 : decode (mb 39) 65 = .ok (.istore 5, 2) := by decide +kernel
theorem s39_65 (d : Nat) (l0 : Value) (l1 : Value) (l2 : Value) (l3 : Value) (i4 : Int32) (l5 : Value) (x : Int32) (σ : Hs) : ru d 39 65 [l0, l1, l2, l3, .int i4, l5] [.int x] σ = ru d 39 67 [l0, l1, l2, l3, .int i4, .int x] [] σ := q_istore t39_65 ⟨Nat.le_of_ble_eq_true rfl, rfl⟩ rfl
theorem t39_67 : decode (mb 39) 67 = .ok (.aload_n 0, 1) := by decide +kernel
theorem s39_67 (d : Nat) (a0 : Nat) (l1 : Value) (l2 : Value) (l3 : Value) (l4 : Value) (l5 : Value) (σ : Hs) : ru d 39 67 [.ref a0, l1, l2, l3, l4, l5] [] σ = ru d 39 68 [.ref a0, l1, l2, l3, l4, l5] [.ref a0] σ := q_aload_n t39_67 rfl
theorem t39_68 : decode (mb 39) 68 = .ok (.dup, 1) := by decide +kernel
theorem s39_68 (d : Nat) (l0 : Value) (l1 : Value) (l2 : Value) (l3 : Value) (l4 : Value) (l5 : Value) (x : Nat) (σ : Hs) : ru d 39 68 [l0, l1, l2, l3, l4, l5] [.ref x] σ = ru d 39 69 [l0, l1, l2, l3, l4, l5] [.ref x, .ref x] σ := q_dup t39_68 rfl
theorem t39_69 : decode (mb 39) 69 = .ok (.getfield 29, 3) := by decide +kernel
theorem s39_69_o70 (d : Nat) (l0 : Value) (l1 : Value) (l2 : Value) (l3 : Value) (l4 : Value) (l5 : Value) (w0 : Value) (σ : Hs) : ru d 39 69 [l0, l1, l2, l3, l4, l5] [.ref 70, w0] σ = ru d 39 72 [l0, l1, l2, l3, l4, l5] [.int (σ 70 3), w0] σ := q_getf t39_69 mo39 F2_29 rfl rfl
theorem t39_72 : decode (mb 39) 72 = .ok (.iconst 1, 1) := by decide +kernel
theorem s39_72 (d : Nat) (l0 : Value) (l1 : Value) (l2 : Value) (l3 : Value) (l4 : Value) (l5 : Value) (w0 w1 : Value) (σ : Hs) : ru d 39 72 [l0, l1, l2, l3, l4, l5] [w0, w1] σ = ru d 39 73 [l0, l1, l2, l3, l4, l5] [.int 1, w0, w1] σ := q_iconst t39_72 (by decide +kernel)
theorem t39_73 : decode (mb 39) 73 = .ok (.iadd, 1) := by decide +kernel
theorem s39_73 (d : Nat) (l0 : Value) (l1 : Value) (l2 : Value) (l3 : Value) (l4 : Value) (l5 : Value) (x y : Int32) (w0 : Value) (σ : Hs) : ru d 39 73 [l0, l1, l2, l3, l4, l5] [.int y, .int x, w0] σ = ru d 39 74 [l0, l1, l2, l3, l4, l5] [.int (x + y), w0] σ := q_iadd t39_73
theorem t39_74 : decode (mb 39) 74 = .ok (.putfield 29, 3) := by decide +kernel
theorem s39_74_o70 (d : Nat) (l0 : Value) (l1 : Value) (l2 : Value) (l3 : Value) (l4 : Value) (l5 : Value) (x : Int32) (σ : Hs) : ru d 39 74 [l0, l1, l2, l3, l4, l5] [.int x, .ref 70] σ = ru d 39 77 [l0, l1, l2, l3, l4, l5] [] (up2 σ 70 3 x) := q_puti t39_74 mo39 F2_29 (by decide +kernel) rfl rfl
theorem t39_77 : decode (mb 39) 77 = .ok (.aload_n 0, 1) := by decide +kernel
theorem s39_77 (d : Nat) (a0 : Nat) (l1 : Value) (l2 : Value) (l3 : Value) (l4 : Value) (l5 : Value) (σ : Hs) : ru d 39 77 [.ref a0, l1, l2, l3, l4, l5] [] σ = ru d 39 78 [.ref a0, l1, l2, l3, l4, l5] [.ref a0] σ := q_aload_n t39_77 rfl
theorem t39_78 : decode (mb 39) 78 = .ok (.iload_n 1, 1) := by decide +kernel
theorem s39_78 (d : Nat) (l0 : Value) (i1 : Int32) (l2 : Value) (l3 : Value) (l4 : Value) (l5 : Value) (w0 : Value) (σ : Hs) : ru d 39 78 [l0, .int i1, l2, l3, l4, l5] [w0] σ = ru d 39 79 [l0, .int i1, l2, l3, l4, l5] [.int i1, w0] σ := q_iload_n t39_78 rfl
theorem t39_79 : decode (mb 39) 79 = .ok (.iconst 1, 1) := by decide +kernel
theorem s39_79 (d : Nat) (l0 : Value) (l1 : Value) (l2 : Value) (l3 : Value) (l4 : Value) (l5 : Value) (w0 w1 : Value) (σ : Hs) : ru d 39 79 [l0, l1, l2, l3, l4, l5] [w0, w1] σ = ru d 39 80 [l0, l1, l2, l3, l4, l5] [.int 1, w0, w1] σ := q_iconst t39_79 (by decide +kernel)
theorem t39_80 : decode (mb 39) 80 = .ok (.iadd, 1) := by decide +kernel
theorem s39_80 (d : Nat) (l0 : Value) (l1 : Value) (l2 : Value) (l3 : Value) (l4 : Value) (l5 : Value) (x y : Int32) (w0 : Value) (σ : Hs) : ru d 39 80 [l0, l1, l2, l3, l4, l5] [.int y, .int x, w0] σ = ru d 39 81 [l0, l1, l2, l3, l4, l5] [.int (x + y), w0] σ := q_iadd t39_80
theorem t39_81 : decode (mb 39) 81 = .ok (.iload_n 2, 1) := by decide +kernel
theorem s39_81 (d : Nat) (l0 : Value) (l1 : Value) (i2 : Int32) (l3 : Value) (l4 : Value) (l5 : Value) (w0 w1 : Value) (σ : Hs) : ru d 39 81 [l0, l1, .int i2, l3, l4, l5] [w0, w1] σ = ru d 39 82 [l0, l1, .int i2, l3, l4, l5] [.int i2, w0, w1] σ := q_iload_n t39_81 rfl
theorem t39_82 : decode (mb 39) 82 = .ok (.invokevirtual 44, 3) := by decide +kernel
theorem s39_82_o70 (d : Nat) (l0 : Value) (l1 : Value) (l2 : Value) (l3 : Value) (l4 : Value) (l5 : Value) (v1 v2 : Value) (σ : Hs) : ru d 39 82 [l0, l1, l2, l3, l4, l5] [v2, v1, .ref 70] σ = kont (callD d 39 [.ref 70, v1, v2] σ) d 39 85 [l0, l1, l2, l3, l4, l5] [] := q_invv t39_82 mo39 K2_44 mj39 rfl rfl rfl rfl (Nat.le_of_ble_eq_true rfl)
theorem t39_85 : decode (mb 39) 85 = .ok (.aload_n 0, 1) := by decide +kernel
theorem s39_85 (d : Nat) (a0 : Nat) (l1 : Value) (l2 : Value) (l3 : Value) (l4 : Value) (l5 : Value) (σ : Hs) : ru d 39 85 [.ref a0, l1, l2, l3, l4, l5] [] σ = ru d 39 86 [.ref a0, l1, l2, l3, l4, l5] [.ref a0] σ := q_aload_n t39_85 rfl
theorem t39_86 : decode (mb 39) 86 = .ok (.getfield 14, 3) := by decide +kernel
theorem s39_86_o70 (d : Nat) (l0 : Value) (l1 : Value) (l2 : Value) (l3 : Value) (l4 : Value) (l5 : Value) (σ : Hs) : ru d 39 86 [l0, l1, l2, l3, l4, l5] [.ref 70] σ = ru d 39 89 [l0, l1, l2, l3, l4, l5] [.ref 71] σ := q_getf t39_86 mo39 F2_14 rfl rfl
theorem t39_89 : decode (mb 39) 89 = .ok (.sipush 20000, 3) := by decide +kernel
theorem s39_89 (d : Nat) (l0 : Value) (l1 : Value) (l2 : Value) (l3 : Value) (l4 : Value) (l5 : Value) (w0 : Value) (σ : Hs) : ru d 39 89 [l0, l1, l2, l3, l4, l5] [w0] σ = ru d 39 92 [l0, l1, l2, l3, l4, l5] [.int 20000, w0] σ := q_sipush t39_89 (by decide +kernel)
theorem t39_92 : decode (mb 39) 92 = .ok (.iload 5, 2) := by decide +kernel
theorem s39_92 (d : Nat) (l0 : Value) (l1 : Value) (l2 : Value) (l3 : Value) (l4 : Value) (i5 : Int32) (w0 w1 : Value) (σ : Hs) : ru d 39 92 [l0, l1, l2, l3, l4, .int i5] [w0, w1] σ = ru d 39 94 [l0, l1, l2, l3, l4, .int i5] [.int i5, w0, w1] σ := q_iload t39_92 rfl
theorem t39_94 : decode (mb 39) 94 = .ok (.iadd, 1) := by decide +kernel
theorem s39_94 (d : Nat) (l0 : Value) (l1 : Value) (l2 : Value) (l3 : Value) (l4 : Value) (l5 : Value) (x y : Int32) (w0 : Value) (σ : Hs) : ru d 39 94 [l0, l1, l2, l3, l4, l5] [.int y, .int x, w0] σ = ru d 39 95 [l0, l1, l2, l3, l4, l5] [.int (x + y), w0] σ := q_iadd t39_94
theorem t39_95 : decode (mb 39) 95 = .ok (.invokevirtual 88, 3) := by decide +kernel
theorem s39_95_o71 (d : Nat) (l0 : Value) (l1 : Value) (l2 : Value) (l3 : Value) (l4 : Value) (l5 : Value) (v1 : Value) (σ : Hs) : ru d 39 95 [l0, l1, l2, l3, l4, l5] [v1, .ref 71] σ = kont (callD d 45 [.ref 71, v1] σ) d 39 98 [l0, l1, l2, l3, l4, l5] [] := q_invv t39_95 mo39 K2_88 mj45 rfl rfl rfl rfl (Nat.le_of_ble_eq_true rfl)
theorem t39_98 : decode (mb 39) 98 = .ok (.pop, 1) := by decide +kernel
theorem s39_98 (d : Nat) (l0 : Value) (l1 : Value) (l2 : Value) (l3 : Value) (l4 : Value) (l5 : Value) (x : Int32) (σ : Hs) : ru d 39 98 [l0, l1, l2, l3, l4, l5] [.int x] σ = ru d 39 99 [l0, l1, l2, l3, l4, l5] [] σ := q_pop t39_98 rfl
theorem t39_99 : decode (mb 39) 99 = .ok (.iinc 4 1, 3) := by decide +kernel
theorem s39_99 (d : Nat) (l0 : Value) (l1 : Value) (l2 : Value) (i3 : Int32) (i4 : Int32) (l5 : Value) (σ : Hs) : ru d 39 99 [l0, l1, l2, .int i3, .int i4, l5] [] σ = ru d 39 102 [l0, l1, l2, .int i3, .int (i4 + 1), l5] [] σ := q_iinc t39_99 ⟨Nat.le_of_ble_eq_true rfl, rfl⟩ rfl (by decide +kernel) rfl
theorem t39_102 : decode (mb 39) 102 = .ok (.goto (-68), 3) := by decide +kernel
theorem s39_102 (d : Nat) (l0 : Value) (l1 : Value) (l2 : Value) (l3 : Value) (l4 : Value) (l5 : Value) (σ : Hs) : ru d 39 102 [l0, l1, l2, l3, l4, l5] [] σ = ru d 39 34 [l0, l1, l2, l3, l4, l5] [] σ := q_goto t39_102 (by decide +kernel)
theorem t39_105 : decode (mb 39) 105 = .ok (.return_, 1) := by decide +kernel
theorem s39_105 (d : Nat) (l0 : Value) (l1 : Value) (l2 : Value) (l3 : Value) (l4 : Value) (l5 : Value) (σ : Hs) : ru d 39 105 [l0, l1, l2, l3, l4, l5] [] σ = some (none, σ) := q_vret t39_105 mr39
theorem c39 (d : Nat) (x0 : Nat) (x1 : Int32) (x2 : Int32) (σ : Hs) : callD (d + 1) 39 [.ref x0, .int x1, .int x2] σ = ru d 39 0 [.ref x0, .int x1, .int x2, uu, uu, uu] [] σ := callD_ru ml39 rfl rfl (Nat.le_of_ble_eq_true rfl)
-- 40: Reader.readUnit(I)V
theorem t40_0 : decode (mb 40) 0 = .ok (.aload_n 0, 1) := by decide +kernel
theorem s40_0 (d : Nat) (a0 : Nat) (l1 : Value) (l2 : Value) (l3 : Value) (σ : Hs) : ru d 40 0 [.ref a0, l1, l2, l3] [] σ = ru d 40 1 [.ref a0, l1, l2, l3] [.ref a0] σ := q_aload_n t40_0 rfl
theorem t40_1 : decode (mb 40) 1 = .ok (.invokevirtual 78, 3) := by decide +kernel
theorem s40_1_o70 (d : Nat) (l0 : Value) (l1 : Value) (l2 : Value) (l3 : Value) (σ : Hs) : ru d 40 1 [l0, l1, l2, l3] [.ref 70] σ = kont (callD d 38 [.ref 70] σ) d 40 4 [l0, l1, l2, l3] [] := q_invv t40_1 mo40 K2_78 mj38 rfl rfl rfl rfl (Nat.le_of_ble_eq_true rfl)
theorem t40_4 : decode (mb 40) 4 = .ok (.istore_n 2, 1) := by decide +kernel
theorem s40_4 (d : Nat) (l0 : Value) (i1 : Int32) (l2 : Value) (l3 : Value) (x : Int32) (σ : Hs) : ru d 40 4 [l0, .int i1, l2, l3] [.int x] σ = ru d 40 5 [l0, .int i1, .int x, l3] [] σ := q_istore_n t40_4 ⟨Nat.le_of_ble_eq_true rfl, rfl⟩ rfl
theorem t40_5 : decode (mb 40) 5 = .ok (.aload_n 0, 1) := by decide +kernel
theorem s40_5 (d : Nat) (a0 : Nat) (l1 : Value) (l2 : Value) (l3 : Value) (σ : Hs) : ru d 40 5 [.ref a0, l1, l2, l3] [] σ = ru d 40 6 [.ref a0, l1, l2, l3] [.ref a0] σ := q_aload_n t40_5 rfl
theorem t40_6 : decode (mb 40) 6 = .ok (.getfield 25, 3) := by decide +kernel
theorem s40_6_o70 (d : Nat) (l0 : Value) (l1 : Value) (l2 : Value) (l3 : Value) (σ : Hs) : ru d 40 6 [l0, l1, l2, l3] [.ref 70] σ = ru d 40 9 [l0, l1, l2, l3] [.ref (σ 70 2).toNatClampNeg] σ := q_getf t40_6 mo40 F2_25 rfl rfl
theorem t40_9 : decode (mb 40) 9 = .ok (.iload_n 2, 1) := by decide +kernel
theorem s40_9 (d : Nat) (l0 : Value) (l1 : Value) (i2 : Int32) (l3 : Value) (w0 : Value) (σ : Hs) : ru d 40 9 [l0, l1, .int i2, l3] [w0] σ = ru d 40 10 [l0, l1, .int i2, l3] [.int i2, w0] σ := q_iload_n t40_9 rfl
theorem t40_10 : decode (mb 40) 10 = .ok (.invokevirtual 82, 3) := by decide +kernel
theorem s40_10_o111 (d : Nat) (l0 : Value) (l1 : Value) (l2 : Value) (l3 : Value) (v1 : Value) (σ : Hs) : ru d 40 10 [l0, l1, l2, l3] [v1, .ref 111] σ = kont (callD d 222 [.ref 111, v1] σ) d 40 13 [l0, l1, l2, l3] [] := q_invv t40_10 mo40 K2_82 mj222 rfl rfl rfl rfl (Nat.le_of_ble_eq_true rfl)
theorem s40_10_o112 (d : Nat) (l0 : Value) (l1 : Value) (l2 : Value) (l3 : Value) (v1 : Value) (σ : Hs) : ru d 40 10 [l0, l1, l2, l3] [v1, .ref 112] σ = kont (callD d 222 [.ref 112, v1] σ) d 40 13 [l0, l1, l2, l3] [] := q_invv t40_10 mo40 K2_82 mj222 rfl rfl rfl rfl (Nat.le_of_ble_eq_true rfl)
theorem s40_10_o113 (d : Nat) (l0 : Value) (l1 : Value) (l2 : Value) (l3 : Value) (v1 : Value) (σ : Hs) : ru d 40 10 [l0, l1, l2, l3] [v1, .ref 113] σ = kont (callD d 222 [.ref 113, v1] σ) d 40 13 [l0, l1, l2, l3] [] := q_invv t40_10 mo40 K2_82 mj222 rfl rfl rfl rfl (Nat.le_of_ble_eq_true rfl)
theorem t40_13 : decode (mb 40) 13 = .ok (.istore_n 3, 1) := by decide +kernel
theorem s40_13 (d : Nat) (l0 : Value) (l1 : Value) (i2 : Int32) (l3 : Value) (x : Int32) (σ : Hs) : ru d 40 13 [l0, l1, .int i2, l3] [.int x] σ = ru d 40 14 [l0, l1, .int i2, .int x] [] σ := q_istore_n t40_13 ⟨Nat.le_of_ble_eq_true rfl, rfl⟩ rfl
theorem t40_14 : decode (mb 40) 14 = .ok (.iload_n 2, 1) := by decide +kernel
theorem s40_14 (d : Nat) (l0 : Value) (l1 : Value) (i2 : Int32) (l3 : Value) (σ : Hs) : ru d 40 14 [l0, l1, .int i2, l3] [] σ = ru d 40 15 [l0, l1, .int i2, l3] [.int i2] σ := q_iload_n t40_14 rfl
theorem t40_15 : decode (mb 40) 15 = .ok (.invokestatic 91, 3) := by decide +kernel
theorem s40_15 (d : Nat) (l0 : Value) (l1 : Value) (l2 : Value) (l3 : Value) (v0 : Value) (σ : Hs) : ru d 40 15 [l0, l1, l2, l3] [v0] σ = kont (callD d 43 [v0] σ) d 40 18 [l0, l1, l2, l3] [] := q_invs t40_15 mo40 (by decide +kernel) K2_91 mj43 (Nat.le_of_ble_eq_true rfl) rfl rfl (Nat.le_of_ble_eq_true rfl)
theorem t40_18 : decode (mb 40) 18 = .ok (.ifCond .eq 10, 3) := by decide +kernel
theorem s40_18 (d : Nat) (l0 : Value) (l1 : Value) (l2 : Value) (l3 : Value) (x : Int32) (σ : Hs) : ru d 40 18 [l0, l1, l2, l3] [.int x] σ = if x = 0 then ru d 40 28 [l0, l1, l2, l3] [] σ else ru d 40 21 [l0, l1, l2, l3] [] σ := q_if_eq t40_18 (by decide +kernel)
theorem t40_21 : decode (mb 40) 21 = .ok (.aload_n 0, 1) := by decide +kernel
theorem s40_21 (d : Nat) (a0 : Nat) (l1 : Value) (l2 : Value) (l3 : Value) (σ : Hs) : ru d 40 21 [.ref a0, l1, l2, l3] [] σ = ru d 40 22 [.ref a0, l1, l2, l3] [.ref a0] σ := q_aload_n t40_21 rfl
theorem t40_22 : decode (mb 40) 22 = .ok (.invokevirtual 95, 3) := by decide +kernel
theorem s40_22_o70 (d : Nat) (l0 : Value) (l1 : Value) (l2 : Value) (l3 : Value) (σ : Hs) : ru d 40 22 [l0, l1, l2, l3] [.ref 70] σ = kont (callD d 42 [.ref 70] σ) d 40 25 [l0, l1, l2, l3] [] := q_invv t40_22 mo40 K2_95 mj42 rfl rfl rfl rfl (Nat.le_of_ble_eq_true rfl)
theorem t40_25 : decode (mb 40) 25 = .ok (.goto 118, 3) := by decide +kernel
theorem s40_25 (d : Nat) (l0 : Value) (l1 : Value) (l2 : Value) (l3 : Value) (σ : Hs) : ru d 40 25 [l0, l1, l2, l3] [] σ = ru d 40 143 [l0, l1, l2, l3] [] σ := q_goto t40_25 (by decide +kernel)
theorem t40_28 : decode (mb 40) 28 = .ok (.iload_n 3, 1) := by decide +kernel
theorem s40_28 (d : Nat) (l0 : Value) (l1 : Value) (l2 : Value) (i3 : Int32) (σ : Hs) : ru d 40 28 [l0, l1, l2, .int i3] [] σ = ru d 40 29 [l0, l1, l2, .int i3] [.int i3] σ := q_iload_n t40_28 rfl
theorem t40_29 : decode (mb 40) 29 = .ok (.ifCond .lt 29, 3) := by decide +kernel
theorem s40_29 (d : Nat) (l0 : Value) (l1 : Value) (l2 : Value) (l3 : Value) (x : Int32) (σ : Hs) : ru d 40 29 [l0, l1, l2, l3] [.int x] σ = if x < 0 then ru d 40 58 [l0, l1, l2, l3] [] σ else ru d 40 32 [l0, l1, l2, l3] [] σ := q_if_lt t40_29 (by decide +kernel)
theorem t40_32 : decode (mb 40) 32 = .ok (.aload_n 0, 1) := by decide +kernel
theorem s40_32 (d : Nat) (a0 : Nat) (l1 : Value) (l2 : Value) (l3 : Value) (σ : Hs) : ru d 40 32 [.ref a0, l1, l2, l3] [] σ = ru d 40 33 [.ref a0, l1, l2, l3] [.ref a0] σ := q_aload_n t40_32 rfl
theorem t40_33 : decode (mb 40) 33 = .ok (.dup, 1) := by decide +kernel
theorem s40_33 (d : Nat) (l0 : Value) (l1 : Value) (l2 : Value) (l3 : Value) (x : Nat) (σ : Hs) : ru d 40 33 [l0, l1, l2, l3] [.ref x] σ = ru d 40 34 [l0, l1, l2, l3] [.ref x, .ref x] σ := q_dup t40_33 rfl
theorem t40_34 : decode (mb 40) 34 = .ok (.getfield 29, 3) := by decide +kernel
theorem s40_34_o70 (d : Nat) (l0 : Value) (l1 : Value) (l2 : Value) (l3 : Value) (w0 : Value) (σ : Hs) : ru d 40 34 [l0, l1, l2, l3] [.ref 70, w0] σ = ru d 40 37 [l0, l1, l2, l3] [.int (σ 70 3), w0] σ := q_getf t40_34 mo40 F2_29 rfl rfl
theorem t40_37 : decode (mb 40) 37 = .ok (.iconst 1, 1) := by decide +kernel
theorem s40_37 (d : Nat) (l0 : Value) (l1 : Value) (l2 : Value) (l3 : Value) (w0 w1 : Value) (σ : Hs) : ru d 40 37 [l0, l1, l2, l3] [w0, w1] σ = ru d 40 38 [l0, l1, l2, l3] [.int 1, w0, w1] σ := q_iconst t40_37 (by decide +kernel)
theorem t40_38 : decode (mb 40) 38 = .ok (.iadd, 1) := by decide +kernel
theorem s40_38 (d : Nat) (l0 : Value) (l1 : Value) (l2 : Value) (l3 : Value) (x y : Int32) (w0 : Value) (σ : Hs) : ru d 40 38 [l0, l1, l2, l3] [.int y, .int x, w0] σ = ru d 40 39 [l0, l1, l2, l3] [.int (x + y), w0] σ := q_iadd t40_38
theorem t40_39 : decode (mb 40) 39 = .ok (.putfield 29, 3) := by decide +kernel
theorem s40_39_o70 (d : Nat) (l0 : Value) (l1 : Value) (l2 : Value) (l3 : Value) (x : Int32) (σ : Hs) : ru d 40 39 [l0, l1, l2, l3] [.int x, .ref 70] σ = ru d 40 42 [l0, l1, l2, l3] [] (up2 σ 70 3 x) := q_puti t40_39 mo40 F2_29 (by decide +kernel) rfl rfl
theorem t40_42 : decode (mb 40) 42 = .ok (.aload_n 0, 1) := by decide +kernel
theorem s40_42 (d : Nat) (a0 : Nat) (l1 : Value) (l2 : Value) (l3 : Value) (σ : Hs) : ru d 40 42 [.ref a0, l1, l2, l3] [] σ = ru d 40 43 [.ref a0, l1, l2, l3] [.ref a0] σ := q_aload_n t40_42 rfl
theorem t40_43 : decode (mb 40) 43 = .ok (.getfield 14, 3) := by decide +kernel
theorem s40_43_o70 (d : Nat) (l0 : Value) (l1 : Value) (l2 : Value) (l3 : Value) (σ : Hs) : ru d 40 43 [l0, l1, l2, l3] [.ref 70] σ = ru d 40 46 [l0, l1, l2, l3] [.ref 71] σ := q_getf t40_43 mo40 F2_14 rfl rfl
theorem t40_46 : decode (mb 40) 46 = .ok (.sipush 10000, 3) := by decide +kernel
theorem s40_46 (d : Nat) (l0 : Value) (l1 : Value) (l2 : Value) (l3 : Value) (w0 : Value) (σ : Hs) : ru d 40 46 [l0, l1, l2, l3] [w0] σ = ru d 40 49 [l0, l1, l2, l3] [.int 10000, w0] σ := q_sipush t40_46 (by decide +kernel)
theorem t40_49 : decode (mb 40) 49 = .ok (.iload_n 3, 1) := by decide +kernel
theorem s40_49 (d : Nat) (l0 : Value) (l1 : Value) (l2 : Value) (i3 : Int32) (w0 w1 : Value) (σ : Hs) : ru d 40 49 [l0, l1, l2, .int i3] [w0, w1] σ = ru d 40 50 [l0, l1, l2, .int i3] [.int i3, w0, w1] σ := q_iload_n t40_49 rfl
theorem t40_50 : decode (mb 40) 50 = .ok (.iadd, 1) := by decide +kernel
theorem s40_50 (d : Nat) (l0 : Value) (l1 : Value) (l2 : Value) (l3 : Value) (x y : Int32) (w0 : Value) (σ : Hs) : ru d 40 50 [l0, l1, l2, l3] [.int y, .int x, w0] σ = ru d 40 51 [l0, l1, l2, l3] [.int (x + y), w0] σ := q_iadd t40_50
theorem t40_51 : decode (mb 40) 51 = .ok (.invokevirtual 88, 3) := by decide +kernel
theorem s40_51_o71 (d : Nat) (l0 : Value) (l1 : Value) (l2 : Value) (l3 : Value) (v1 : Value) (σ : Hs) : ru d 40 51 [l0, l1, l2, l3] [v1, .ref 71] σ = kont (callD d 45 [.ref 71, v1] σ) d 40 54 [l0, l1, l2, l3] [] := q_invv t40_51 mo40 K2_88 mj45 rfl rfl rfl rfl (Nat.le_of_ble_eq_true rfl)
theorem t40_54 : decode (mb 40) 54 = .ok (.pop, 1) := by decide +kernel
theorem s40_54 (d : Nat) (l0 : Value) (l1 : Value) (l2 : Value) (l3 : Value) (x : Int32) (σ : Hs) : ru d 40 54 [l0, l1, l2, l3] [.int x] σ = ru d 40 55 [l0, l1, l2, l3] [] σ := q_pop t40_54 rfl
theorem t40_55 : decode (mb 40) 55 = .ok (.goto 88, 3) := by decide +kernel
theorem s40_55 (d : Nat) (l0 : Value) (l1 : Value) (l2 : Value) (l3 : Value) (σ : Hs) : ru d 40 55 [l0, l1, l2, l3] [] σ = ru d 40 143 [l0, l1, l2, l3] [] σ := q_goto t40_55 (by decide +kernel)
theorem t40_58 : decode (mb 40) 58 = .ok (.iload_n 2, 1) := by decide +kernel
theorem s40_58 (d : Nat) (l0 : Value) (l1 : Value) (i2 : Int32) (l3 : Value) (σ : Hs) : ru d 40 58 [l0, l1, .int i2, l3] [] σ = ru d 40 59 [l0, l1, .int i2, l3] [.int i2] σ := q_iload_n t40_58 rfl
theorem t40_59 : decode (mb 40) 59 = .ok (.bipush 33, 2) := by decide +kernel
theorem s40_59 (d : Nat) (l0 : Value) (l1 : Value) (l2 : Value) (l3 : Value) (w0 : Value) (σ : Hs) : ru d 40 59 [l0, l1, l2, l3] [w0] σ = ru d 40 61 [l0, l1, l2, l3] [.int 33, w0] σ := q_bipush t40_59 (by decide +kernel)
theorem t40_61 : decode (mb 40) 61 = .ok (.if_icmp .ne 41, 3) := by decide +kernel
theorem s40_61 (d : Nat) (l0 : Value) (l1 : Value) (l2 : Value) (l3 : Value) (x y : Int32) (σ : Hs) : ru d 40 61 [l0, l1, l2, l3] [.int y, .int x] σ = if x = y then ru d 40 64 [l0, l1, l2, l3] [] σ else ru d 40 102 [l0, l1, l2, l3] [] σ := q_ic_ne t40_61 (by decide +kernel)
theorem t40_64 : decode (mb 40) 64 = .ok (.iload_n 1, 1) := by decide +kernel
theorem s40_64 (d : Nat) (l0 : Value) (i1 : Int32) (l2 : Value) (l3 : Value) (σ : Hs) : ru d 40 64 [l0, .int i1, l2, l3] [] σ = ru d 40 65 [l0, .int i1, l2, l3] [.int i1] σ := q_iload_n t40_64 rfl
theorem t40_65 : decode (mb 40) 65 = .ok (.iconst 5, 1) := by decide +kernel
theorem s40_65 (d : Nat) (l0 : Value) (l1 : Value) (l2 : Value) (l3 : Value) (w0 : Value) (σ : Hs) : ru d 40 65 [l0, l1, l2, l3] [w0] σ = ru d 40 66 [l0, l1, l2, l3] [.int 5, w0] σ := q_iconst t40_65 (by decide +kernel)
theorem t40_66 : decode (mb 40) 66 = .ok (.if_icmp .ge 36, 3) := by decide +kernel
theorem s40_66 (d : Nat) (l0 : Value) (l1 : Value) (l2 : Value) (l3 : Value) (x y : Int32) (σ : Hs) : ru d 40 66 [l0, l1, l2, l3] [.int y, .int x] σ = if y ≤ x then ru d 40 102 [l0, l1, l2, l3] [] σ else ru d 40 69 [l0, l1, l2, l3] [] σ := q_ic_ge t40_66 (by decide +kernel)
theorem t40_69 : decode (mb 40) 69 = .ok (.aload_n 0, 1) := by decide +kernel
theorem s40_69 (d : Nat) (a0 : Nat) (l1 : Value) (l2 : Value) (l3 : Value) (σ : Hs) : ru d 40 69 [.ref a0, l1, l2, l3] [] σ = ru d 40 70 [.ref a0, l1, l2, l3] [.ref a0] σ := q_aload_n t40_69 rfl
theorem t40_70 : decode (mb 40) 70 = .ok (.dup, 1) := by decide +kernel
theorem s40_70 (d : Nat) (l0 : Value) (l1 : Value) (l2 : Value) (l3 : Value) (x : Nat) (σ : Hs) : ru d 40 70 [l0, l1, l2, l3] [.ref x] σ = ru d 40 71 [l0, l1, l2, l3] [.ref x, .ref x] σ := q_dup t40_70 rfl
theorem t40_71 : decode (mb 40) 71 = .ok (.getfield 29, 3) := by decide +kernel
theorem s40_71_o70 (d : Nat) (l0 : Value) (l1 : Value) (l2 : Value) (l3 : Value) (w0 : Value) (σ : Hs) : ru d 40 71 [l0, l1, l2, l3] [.ref 70, w0] σ = ru d 40 74 [l0, l1, l2, l3] [.int (σ 70 3), w0] σ := q_getf t40_71 mo40 F2_29 rfl rfl
theorem t40_74 : decode (mb 40) 74 = .ok (.iconst 1, 1) := by decide +kernel
theorem s40_74 (d : Nat) (l0 : Value) (l1 : Value) (l2 : Value) (l3 : Value) (w0 w1 : Value) (σ : Hs) : ru d 40 74 [l0, l1, l2, l3] [w0, w1] σ = ru d 40 75 [l0, l1, l2, l3] [.int 1, w0, w1] σ := q_iconst t40_74 (by decide +kernel)
theorem t40_75 : decode (mb 40) 75 = .ok (.iadd, 1) := by decide +kernel
theorem s40_75 (d : Nat) (l0 : Value) (l1 : Value) (l2 : Value) (l3 : Value) (x y : Int32) (w0 : Value) (σ : Hs) : ru d 40 75 [l0, l1, l2, l3] [.int y, .int x, w0] σ = ru d 40 76 [l0, l1, l2, l3] [.int (x + y), w0] σ := q_iadd t40_75
theorem t40_76 : decode (mb 40) 76 = .ok (.putfield 29, 3) := by decide +kernel
theorem s40_76_o70 (d : Nat) (l0 : Value) (l1 : Value) (l2 : Value) (l3 : Value) (x : Int32) (σ : Hs) : ru d 40 76 [l0, l1, l2, l3] [.int x, .ref 70] σ = ru d 40 79 [l0, l1, l2, l3] [] (up2 σ 70 3 x) := q_puti t40_76 mo40 F2_29 (by decide +kernel) rfl rfl
theorem t40_79 : decode (mb 40) 79 = .ok (.aload_n 0, 1) := by decide +kernel
theorem s40_79 (d : Nat) (a0 : Nat) (l1 : Value) (l2 : Value) (l3 : Value) (σ : Hs) : ru d 40 79 [.ref a0, l1, l2, l3] [] σ = ru d 40 80 [.ref a0, l1, l2, l3] [.ref a0] σ := q_aload_n t40_79 rfl
theorem t40_80 : decode (mb 40) 80 = .ok (.iload_n 1, 1) := by decide +kernel
theorem s40_80 (d : Nat) (l0 : Value) (i1 : Int32) (l2 : Value) (l3 : Value) (w0 : Value) (σ : Hs) : ru d 40 80 [l0, .int i1, l2, l3] [w0] σ = ru d 40 81 [l0, .int i1, l2, l3] [.int i1, w0] σ := q_iload_n t40_80 rfl
theorem t40_81 : decode (mb 40) 81 = .ok (.iconst 1, 1) := by decide +kernel
theorem s40_81 (d : Nat) (l0 : Value) (l1 : Value) (l2 : Value) (l3 : Value) (w0 w1 : Value) (σ : Hs) : ru d 40 81 [l0, l1, l2, l3] [w0, w1] σ = ru d 40 82 [l0, l1, l2, l3] [.int 1, w0, w1] σ := q_iconst t40_81 (by decide +kernel)
theorem t40_82 : decode (mb 40) 82 = .ok (.iadd, 1) := by decide +kernel
theorem s40_82 (d : Nat) (l0 : Value) (l1 : Value) (l2 : Value) (l3 : Value) (x y : Int32) (w0 : Value) (σ : Hs) : ru d 40 82 [l0, l1, l2, l3] [.int y, .int x, w0] σ = ru d 40 83 [l0, l1, l2, l3] [.int (x + y), w0] σ := q_iadd t40_82
theorem t40_83 : decode (mb 40) 83 = .ok (.invokevirtual 72, 3) := by decide +kernel
theorem s40_83_o70 (d : Nat) (l0 : Value) (l1 : Value) (l2 : Value) (l3 : Value) (v1 : Value) (σ : Hs) : ru d 40 83 [l0, l1, l2, l3] [v1, .ref 70] σ = kont (callD d 40 [.ref 70, v1] σ) d 40 86 [l0, l1, l2, l3] [] := q_invv t40_83 mo40 K2_72 mj40 rfl rfl rfl rfl (Nat.le_of_ble_eq_true rfl)
theorem t40_86 : decode (mb 40) 86 = .ok (.aload_n 0, 1) := by decide +kernel
theorem s40_86 (d : Nat) (a0 : Nat) (l1 : Value) (l2 : Value) (l3 : Value) (σ : Hs) : ru d 40 86 [.ref a0, l1, l2, l3] [] σ = ru d 40 87 [.ref a0, l1, l2, l3] [.ref a0] σ := q_aload_n t40_86 rfl
theorem t40_87 : decode (mb 40) 87 = .ok (.getfield 14, 3) := by decide +kernel
theorem s40_87_o70 (d : Nat) (l0 : Value) (l1 : Value) (l2 : Value) (l3 : Value) (σ : Hs) : ru d 40 87 [l0, l1, l2, l3] [.ref 70] σ = ru d 40 90 [l0, l1, l2, l3] [.ref 71] σ := q_getf t40_87 mo40 F2_14 rfl rfl
theorem t40_90 : decode (mb 40) 90 = .ok (.sipush 20000, 3) := by decide +kernel
theorem s40_90 (d : Nat) (l0 : Value) (l1 : Value) (l2 : Value) (l3 : Value) (w0 : Value) (σ : Hs) : ru d 40 90 [l0, l1, l2, l3] [w0] σ = ru d 40 93 [l0, l1, l2, l3] [.int 20000, w0] σ := q_sipush t40_90 (by decide +kernel)
theorem t40_93 : decode (mb 40) 93 = .ok (.iload_n 2, 1) := by decide +kernel
theorem s40_93 (d : Nat) (l0 : Value) (l1 : Value) (i2 : Int32) (l3 : Value) (w0 w1 : Value) (σ : Hs) : ru d 40 93 [l0, l1, .int i2, l3] [w0, w1] σ = ru d 40 94 [l0, l1, .int i2, l3] [.int i2, w0, w1] σ := q_iload_n t40_93 rfl
theorem t40_94 : decode (mb 40) 94 = .ok (.iadd, 1) := by decide +kernel
theorem s40_94 (d : Nat) (l0 : Value) (l1 : Value) (l2 : Value) (l3 : Value) (x y : Int32) (w0 : Value) (σ : Hs) : ru d 40 94 [l0, l1, l2, l3] [.int y, .int x, w0] σ = ru d 40 95 [l0, l1, l2, l3] [.int (x + y), w0] σ := q_iadd t40_94
theorem t40_95 : decode (mb 40) 95 = .ok (.invokevirtual 88, 3) := by decide +kernel
theorem s40_95_o71 (d : Nat) (l0 : Value) (l1 : Value) (l2 : Value) (l3 : Value) (v1 : Value) (σ : Hs) : ru d 40 95 [l0, l1, l2, l3] [v1, .ref 71] σ = kont (callD d 45 [.ref 71, v1] σ) d 40 98 [l0, l1, l2, l3] [] := q_invv t40_95 mo40 K2_88 mj45 rfl rfl rfl rfl (Nat.le_of_ble_eq_true rfl)
theorem t40_98 : decode (mb 40) 98 = .ok (.pop, 1) := by decide +kernel
theorem s40_98 (d : Nat) (l0 : Value) (l1 : Value) (l2 : Value) (l3 : Value) (x : Int32) (σ : Hs) : ru d 40 98 [l0, l1, l2, l3] [.int x] σ = ru d 40 99 [l0, l1, l2, l3] [] σ := q_pop t40_98 rfl
theorem t40_99 : decode (mb 40) 99 = .ok (.goto 44, 3) := by decide +kernel
theorem s40_99 (d : Nat) (l0 : Value) (l1 : Value) (l2 : Value) (l3 : Value) (σ : Hs) : ru d 40 99 [l0, l1, l2, l3] [] σ = ru d 40 143 [l0, l1, l2, l3] [] σ := q_goto t40_99 (by decide +kernel)
theorem t40_102 : decode (mb 40) 102 = .ok (.iload_n 2, 1) := by decide +kernel
theorem s40_102 (d : Nat) (l0 : Value) (l1 : Value) (i2 : Int32) (l3 : Value) (σ : Hs) : ru d 40 102 [l0, l1, .int i2, l3] [] σ = ru d 40 103 [l0, l1, .int i2, l3] [.int i2] σ := q_iload_n t40_102 rfl
theorem t40_103 : decode (mb 40) 103 = .ok (.bipush 40, 2) := by decide +kernel
theorem s40_103 (d : Nat) (l0 : Value) (l1 : Value) (l2 : Value) (l3 : Value) (w0 : Value) (σ : Hs) : ru d 40 103 [l0, l1, l2, l3] [w0] σ = ru d 40 105 [l0, l1, l2, l3] [.int 40, w0] σ := q_bipush t40_103 (by decide +kernel)
theorem t40_105 : decode (mb 40) 105 = .ok (.if_icmp .ne 33, 3) := by decide +kernel
theorem s40_105 (d : Nat) (l0 : Value) (l1 : Value) (l2 : Value) (l3 : Value) (x y : Int32) (σ : Hs) : ru d 40 105 [l0, l1, l2, l3] [.int y, .int x] σ = if x = y then ru d 40 108 [l0, l1, l2, l3] [] σ else ru d 40 138 [l0, l1, l2, l3] [] σ := q_ic_ne t40_105 (by decide +kernel)
theorem t40_108 : decode (mb 40) 108 = .ok (.iload_n 1, 1) := by decide +kernel
theorem s40_108 (d : Nat) (l0 : Value) (i1 : Int32) (l2 : Value) (l3 : Value) (σ : Hs) : ru d 40 108 [l0, .int i1, l2, l3] [] σ = ru d 40 109 [l0, .int i1, l2, l3] [.int i1] σ := q_iload_n t40_108 rfl
theorem t40_109 : decode (mb 40) 109 = .ok (.iconst 5, 1) := by decide +kernel
theorem s40_109 (d : Nat) (l0 : Value) (l1 : Value) (l2 : Value) (l3 : Value) (w0 : Value) (σ : Hs) : ru d 40 109 [l0, l1, l2, l3] [w0] σ = ru d 40 110 [l0, l1, l2, l3] [.int 5, w0] σ := q_iconst t40_109 (by decide +kernel)
theorem t40_110 : decode (mb 40) 110 = .ok (.if_icmp .ge 28, 3) := by decide +kernel
theorem s40_110 (d : Nat) (l0 : Value) (l1 : Value) (l2 : Value) (l3 : Value) (x y : Int32) (σ : Hs) : ru d 40 110 [l0, l1, l2, l3] [.int y, .int x] σ = if y ≤ x then ru d 40 138 [l0, l1, l2, l3] [] σ else ru d 40 113 [l0, l1, l2, l3] [] σ := q_ic_ge t40_110 (by decide +kernel)
theorem t40_113 : decode (mb 40) 113 = .ok (.aload_n 0, 1) := by decide +kernel
theorem s40_113 (d : Nat) (a0 : Nat) (l1 : Value) (l2 : Value) (l3 : Value) (σ : Hs) : ru d 40 113 [.ref a0, l1, l2, l3] [] σ = ru d 40 114 [.ref a0, l1, l2, l3] [.ref a0] σ := q_aload_n t40_113 rfl
theorem t40_114 : decode (mb 40) 114 = .ok (.dup, 1) := by decide +kernel
theorem s40_114 (d : Nat) (l0 : Value) (l1 : Value) (l2 : Value) (l3 : Value) (x : Nat) (σ : Hs) : ru d 40 114 [l0, l1, l2, l3] [.ref x] σ = ru d 40 115 [l0, l1, l2, l3] [.ref x, .ref x] σ := q_dup t40_114 rfl
theorem t40_115 : decode (mb 40) 115 = .ok (.getfield 29, 3) := by decide +kernel
theorem s40_115_o70 (d : Nat) (l0 : Value) (l1 : Value) (l2 : Value) (l3 : Value) (w0 : Value) (σ : Hs) : ru d 40 115 [l0, l1, l2, l3] [.ref 70, w0] σ = ru d 40 118 [l0, l1, l2, l3] [.int (σ 70 3), w0] σ := q_getf t40_115 mo40 F2_29 rfl rfl
theorem t40_118 : decode (mb 40) 118 = .ok (.iconst 1, 1) := by decide +kernel
theorem s40_118 (d : Nat) (l0 : Value) (l1 : Value) (l2 : Value) (l3 : Value) (w0 w1 : Value) (σ : Hs) : ru d 40 118 [l0, l1, l2, l3] [w0, w1] σ = ru d 40 119 [l0, l1, l2, l3] [.int 1, w0, w1] σ := q_iconst t40_118 (by decide +kernel)
theorem t40_119 : decode (mb 40) 119 = .ok (.iadd, 1) := by decide +kernel
theorem s40_119 (d : Nat) (l0 : Value) (l1 : Value) (l2 : Value) (l3 : Value) (x y : Int32) (w0 : Value) (σ : Hs) : ru d 40 119 [l0, l1, l2, l3] [.int y, .int x, w0] σ = ru d 40 120 [l0, l1, l2, l3] [.int (x + y), w0] σ := q_iadd t40_119
theorem t40_120 : decode (mb 40) 120 = .ok (.putfield 29, 3) := by decide +kernel
theorem s40_120_o70 (d : Nat) (l0 : Value) (l1 : Value) (l2 : Value) (l3 : Value) (x : Int32) (σ : Hs) : ru d 40 120 [l0, l1, l2, l3] [.int x, .ref 70] σ = ru d 40 123 [l0, l1, l2, l3] [] (up2 σ 70 3 x) := q_puti t40_120 mo40 F2_29 (by decide +kernel) rfl rfl
theorem t40_123 : decode (mb 40) 123 = .ok (.aload_n 0, 1) := by decide +kernel
theorem s40_123 (d : Nat) (a0 : Nat) (l1 : Value) (l2 : Value) (l3 : Value) (σ : Hs) : ru d 40 123 [.ref a0, l1, l2, l3] [] σ = ru d 40 124 [.ref a0, l1, l2, l3] [.ref a0] σ := q_aload_n t40_123 rfl
theorem t40_124 : decode (mb 40) 124 = .ok (.iconst 0, 1) := by decide +kernel
theorem s40_124 (d : Nat) (l0 : Value) (l1 : Value) (l2 : Value) (l3 : Value) (w0 : Value) (σ : Hs) : ru d 40 124 [l0, l1, l2, l3] [w0] σ = ru d 40 125 [l0, l1, l2, l3] [.int 0, w0] σ := q_iconst t40_124 (by decide +kernel)
theorem t40_125 : decode (mb 40) 125 = .ok (.iload_n 1, 1) := by decide +kernel
theorem s40_125 (d : Nat) (l0 : Value) (i1 : Int32) (l2 : Value) (l3 : Value) (w0 w1 : Value) (σ : Hs) : ru d 40 125 [l0, .int i1, l2, l3] [w0, w1] σ = ru d 40 126 [l0, .int i1, l2, l3] [.int i1, w0, w1] σ := q_iload_n t40_125 rfl
theorem t40_126 : decode (mb 40) 126 = .ok (.iconst 1, 1) := by decide +kernel
theorem s40_126 (d : Nat) (l0 : Value) (l1 : Value) (l2 : Value) (l3 : Value) (w0 w1 w2 : Value) (σ : Hs) : ru d 40 126 [l0, l1, l2, l3] [w0, w1, w2] σ = ru d 40 127 [l0, l1, l2, l3] [.int 1, w0, w1, w2] σ := q_iconst t40_126 (by decide +kernel)
theorem t40_127 : decode (mb 40) 127 = .ok (.iadd, 1) := by decide +kernel
theorem s40_127 (d : Nat) (l0 : Value) (l1 : Value) (l2 : Value) (l3 : Value) (x y : Int32) (w0 w1 : Value) (σ : Hs) : ru d 40 127 [l0, l1, l2, l3] [.int y, .int x, w0, w1] σ = ru d 40 128 [l0, l1, l2, l3] [.int (x + y), w0, w1] σ := q_iadd t40_127
theorem t40_128 : decode (mb 40) 128 = .ok (.invokevirtual 44, 3) := by decide +kernel
theorem s40_128_o70 (d : Nat) (l0 : Value) (l1 : Value) (l2 : Value) (l3 : Value) (v1 v2 : Value) (σ : Hs) : ru d 40 128 [l0, l1, l2, l3] [v2, v1, .ref 70] σ = kont (callD d 39 [.ref 70, v1, v2] σ) d 40 131 [l0, l1, l2, l3] [] := q_invv t40_128 mo40 K2_44 mj39 rfl rfl rfl rfl (Nat.le_of_ble_eq_true rfl)
theorem t40_131 : decode (mb 40) 131 = .ok (.aload_n 0, 1) := by decide +kernel
theorem s40_131 (d : Nat) (a0 : Nat) (l1 : Value) (l2 : Value) (l3 : Value) (σ : Hs) : ru d 40 131 [.ref a0, l1, l2, l3] [] σ = ru d 40 132 [.ref a0, l1, l2, l3] [.ref a0] σ := q_aload_n t40_131 rfl
theorem t40_132 : decode (mb 40) 132 = .ok (.invokevirtual 98, 3) := by decide +kernel
theorem s40_132_o70 (d : Nat) (l0 : Value) (l1 : Value) (l2 : Value) (l3 : Value) (σ : Hs) : ru d 40 132 [l0, l1, l2, l3] [.ref 70] σ = kont (callD d 41 [.ref 70] σ) d 40 135 [l0, l1, l2, l3] [] := q_invv t40_132 mo40 K2_98 mj41 rfl rfl rfl rfl (Nat.le_of_ble_eq_true rfl)
theorem t40_135 : decode (mb 40) 135 = .ok (.goto 8, 3) := by decide +kernel
theorem s40_135 (d : Nat) (l0 : Value) (l1 : Value) (l2 : Value) (l3 : Value) (σ : Hs) : ru d 40 135 [l0, l1, l2, l3] [] σ = ru d 40 143 [l0, l1, l2, l3] [] σ := q_goto t40_135 (by decide +kernel)
theorem t40_138 : decode (mb 40) 138 = .ok (.aload_n 0, 1) := by decide +kernel
theorem s40_138 (d : Nat) (a0 : Nat) (l1 : Value) (l2 : Value) (l3 : Value) (σ : Hs) : ru d 40 138 [.ref a0, l1, l2, l3] [] σ = ru d 40 139 [.ref a0, l1, l2, l3] [.ref a0] σ := q_aload_n t40_138 rfl
theorem t40_139 : decode (mb 40) 139 = .ok (.iconst 1, 1) := by decide +kernel
theorem s40_139 (d : Nat) (l0 : Value) (l1 : Value) (l2 : Value) (l3 : Value) (w0 : Value) (σ : Hs) : ru d 40 139 [l0, l1, l2, l3] [w0] σ = ru d 40 140 [l0, l1, l2, l3] [.int 1, w0] σ := q_iconst t40_139 (by decide +kernel)
theorem t40_140 : decode (mb 40) 140 = .ok (.putfield 33, 3) := by decide +kernel
theorem s40_140_o70 (d : Nat) (l0 : Value) (l1 : Value) (l2 : Value) (l3 : Value) (x : Int32) (hx : isB x) (σ : Hs) : ru d 40 140 [l0, l1, l2, l3] [.int x, .ref 70] σ = ru d 40 143 [l0, l1, l2, l3] [] (up2 σ 70 4 x) := q_putz t40_140 mo40 F2_33 (by decide +kernel) rfl rfl hx
theorem t40_143 : decode (mb 40) 143 = .ok (.return_, 1) := by decide +kernel
theorem s40_143 (d : Nat) (l0 : Value) (l1 : Value) (l2 : Value) (l3 : Value) (σ : Hs) : ru d 40 143 [l0, l1, l2, l3] [] σ = some (none, σ) := q_vret t40_143 mr40
theorem c40 (d : Nat) (x0 : Nat) (x1 : Int32) (σ : Hs) : callD (d + 1) 40 [.ref x0, .int x1] σ = ru d 40 0 [.ref x0, .int x1, uu, uu] [] σ := callD_ru ml40 rfl rfl (Nat.le_of_ble_eq_true rfl)
-- 41: Reader.readClosing()V
theorem t41_0 : decode (mb 41) 0 = .ok (.aload_n 0, 1) := by decide +kernel
theorem s41_0 (d : Nat) (a0 : Nat) (σ : Hs) : ru d 41 0 [.ref a0] [] σ = ru d 41 1 [.ref a0] [.ref a0] σ := q_aload_n t41_0 rfl
theorem t41_1 : decode (mb 41) 1 = .ok (.getfield 33, 3) := by decide +kernel
theorem s41_1_o70 (d : Nat) (l0 : Value) (σ : Hs) : ru d 41 1 [l0] [.ref 70] σ = ru d 41 4 [l0] [.int (σ 70 4)] σ := q_getf t41_1 mo41 F2_33 rfl rfl
theorem t41_4 : decode (mb 41) 4 = .ok (.ifCond .eq 4, 3) := by decide +kernel
theorem s41_4 (d : Nat) (l0 : Value) (x : Int32) (σ : Hs) : ru d 41 4 [l0] [.int x] σ = if x = 0 then ru d 41 8 [l0] [] σ else ru d 41 7 [l0] [] σ := q_if_eq t41_4 (by decide +kernel)
theorem t41_7 : decode (mb 41) 7 = .ok (.return_, 1) := by decide +kernel
theorem s41_7 (d : Nat) (l0 : Value) (σ : Hs) : ru d 41 7 [l0] [] σ = some (none, σ) := q_vret t41_7 mr41
theorem t41_8 : decode (mb 41) 8 = .ok (.aload_n 0, 1) := by decide +kernel
theorem s41_8 (d : Nat) (a0 : Nat) (σ : Hs) : ru d 41 8 [.ref a0] [] σ = ru d 41 9 [.ref a0] [.ref a0] σ := q_aload_n t41_8 rfl
theorem t41_9 : decode (mb 41) 9 = .ok (.invokevirtual 78, 3) := by decide +kernel
theorem s41_9_o70 (d : Nat) (l0 : Value) (σ : Hs) : ru d 41 9 [l0] [.ref 70] σ = kont (callD d 38 [.ref 70] σ) d 41 12 [l0] [] := q_invv t41_9 mo41 K2_78 mj38 rfl rfl rfl rfl (Nat.le_of_ble_eq_true rfl)
theorem t41_12 : decode (mb 41) 12 = .ok (.bipush 41, 2) := by decide +kernel
theorem s41_12 (d : Nat) (l0 : Value) (w0 : Value) (σ : Hs) : ru d 41 12 [l0] [w0] σ = ru d 41 14 [l0] [.int 41, w0] σ := q_bipush t41_12 (by decide +kernel)
theorem t41_14 : decode (mb 41) 14 = .ok (.if_icmp .ne 16, 3) := by decide +kernel
theorem s41_14 (d : Nat) (l0 : Value) (x y : Int32) (σ : Hs) : ru d 41 14 [l0] [.int y, .int x] σ = if x = y then ru d 41 17 [l0] [] σ else ru d 41 30 [l0] [] σ := q_ic_ne t41_14 (by decide +kernel)
theorem t41_17 : decode (mb 41) 17 = .ok (.aload_n 0, 1) := by decide +kernel
theorem s41_17 (d : Nat) (a0 : Nat) (σ : Hs) : ru d 41 17 [.ref a0] [] σ = ru d 41 18 [.ref a0] [.ref a0] σ := q_aload_n t41_17 rfl
theorem t41_18 : decode (mb 41) 18 = .ok (.dup, 1) := by decide +kernel
theorem s41_18 (d : Nat) (l0 : Value) (x : Nat) (σ : Hs) : ru d 41 18 [l0] [.ref x] σ = ru d 41 19 [l0] [.ref x, .ref x] σ := q_dup t41_18 rfl
theorem t41_19 : decode (mb 41) 19 = .ok (.getfield 29, 3) := by decide +kernel
theorem s41_19_o70 (d : Nat) (l0 : Value) (w0 : Value) (σ : Hs) : ru d 41 19 [l0] [.ref 70, w0] σ = ru d 41 22 [l0] [.int (σ 70 3), w0] σ := q_getf t41_19 mo41 F2_29 rfl rfl
theorem t41_22 : decode (mb 41) 22 = .ok (.iconst 1, 1) := by decide +kernel
theorem s41_22 (d : Nat) (l0 : Value) (w0 w1 : Value) (σ : Hs) : ru d 41 22 [l0] [w0, w1] σ = ru d 41 23 [l0] [.int 1, w0, w1] σ := q_iconst t41_22 (by decide +kernel)
theorem t41_23 : decode (mb 41) 23 = .ok (.iadd, 1) := by decide +kernel
theorem s41_23 (d : Nat) (l0 : Value) (x y : Int32) (w0 : Value) (σ : Hs) : ru d 41 23 [l0] [.int y, .int x, w0] σ = ru d 41 24 [l0] [.int (x + y), w0] σ := q_iadd t41_23
theorem t41_24 : decode (mb 41) 24 = .ok (.putfield 29, 3) := by decide +kernel
theorem s41_24_o70 (d : Nat) (l0 : Value) (x : Int32) (σ : Hs) : ru d 41 24 [l0] [.int x, .ref 70] σ = ru d 41 27 [l0] [] (up2 σ 70 3 x) := q_puti t41_24 mo41 F2_29 (by decide +kernel) rfl rfl
theorem t41_27 : decode (mb 41) 27 = .ok (.goto 8, 3) := by decide +kernel
theorem s41_27 (d : Nat) (l0 : Value) (σ : Hs) : ru d 41 27 [l0] [] σ = ru d 41 35 [l0] [] σ := q_goto t41_27 (by decide +kernel)
theorem t41_30 : decode (mb 41) 30 = .ok (.aload_n 0, 1) := by decide +kernel
theorem s41_30 (d : Nat) (a0 : Nat) (σ : Hs) : ru d 41 30 [.ref a0] [] σ = ru d 41 31 [.ref a0] [.ref a0] σ := q_aload_n t41_30 rfl
theorem t41_31 : decode (mb 41) 31 = .ok (.iconst 1, 1) := by decide +kernel
theorem s41_31 (d : Nat) (l0 : Value) (w0 : Value) (σ : Hs) : ru d 41 31 [l0] [w0] σ = ru d 41 32 [l0] [.int 1, w0] σ := q_iconst t41_31 (by decide +kernel)
theorem t41_32 : decode (mb 41) 32 = .ok (.putfield 33, 3) := by decide +kernel
theorem s41_32_o70 (d : Nat) (l0 : Value) (x : Int32) (hx : isB x) (σ : Hs) : ru d 41 32 [l0] [.int x, .ref 70] σ = ru d 41 35 [l0] [] (up2 σ 70 4 x) := q_putz t41_32 mo41 F2_33 (by decide +kernel) rfl rfl hx
theorem t41_35 : decode (mb 41) 35 = .ok (.return_, 1) := by decide +kernel
theorem s41_35 (d : Nat) (l0 : Value) (σ : Hs) : ru d 41 35 [l0] [] σ = some (none, σ) := q_vret t41_35 mr41
theorem c41 (d : Nat) (x0 : Nat) (σ : Hs) : callD (d + 1) 41 [.ref x0] σ = ru d 41 0 [.ref x0] [] σ := callD_ru ml41 rfl rfl (Nat.le_of_ble_eq_true rfl)
-- 42: Reader.readNumber()V
theorem t42_0 : decode (mb 42) 0 = .ok (.iconst 0, 1) := by decide +kernel
theorem s42_0 (d : Nat) (l0 : Value) (l1 : Value) (l2 : Value) (σ : Hs) : ru d 42 0 [l0, l1, l2] [] σ = ru d 42 1 [l0, l1, l2] [.int 0] σ := q_iconst t42_0 (by decide +kernel)
theorem t42_1 : decode (mb 42) 1 = .ok (.istore_n 1, 1) := by decide +kernel
theorem s42_1 (d : Nat) (a0 : Nat) (l1 : Value) (l2 : Value) (x : Int32) (σ : Hs) : ru d 42 1 [.ref a0, l1, l2] [.int x] σ = ru d 42 2 [.ref a0, .int x, l2] [] σ := q_istore_n t42_1 ⟨Nat.le_of_ble_eq_true rfl, rfl⟩ rfl
theorem t42_2 : decode (mb 42) 2 = .ok (.iconst 0, 1) := by decide +kernel
theorem s42_2 (d : Nat) (l0 : Value) (l1 : Value) (l2 : Value) (σ : Hs) : ru d 42 2 [l0, l1, l2] [] σ = ru d 42 3 [l0, l1, l2] [.int 0] σ := q_iconst t42_2 (by decide +kernel)
theorem t42_3 : decode (mb 42) 3 = .ok (.istore_n 2, 1) := by decide +kernel
theorem s42_3 (d : Nat) (l0 : Value) (i1 : Int32) (l2 : Value) (x : Int32) (σ : Hs) : ru d 42 3 [l0, .int i1, l2] [.int x] σ = ru d 42 4 [l0, .int i1, .int x] [] σ := q_istore_n t42_3 ⟨Nat.le_of_ble_eq_true rfl, rfl⟩ rfl
theorem t42_4 : decode (mb 42) 4 = .ok (.iload_n 2, 1) := by decide +kernel
theorem s42_4 (d : Nat) (l0 : Value) (l1 : Value) (i2 : Int32) (σ : Hs) : ru d 42 4 [l0, l1, .int i2] [] σ = ru d 42 5 [l0, l1, .int i2] [.int i2] σ := q_iload_n t42_4 rfl
theorem t42_5 : decode (mb 42) 5 = .ok (.iconst 4, 1) := by decide +kernel
theorem s42_5 (d : Nat) (l0 : Value) (l1 : Value) (l2 : Value) (w0 : Value) (σ : Hs) : ru d 42 5 [l0, l1, l2] [w0] σ = ru d 42 6 [l0, l1, l2] [.int 4, w0] σ := q_iconst t42_5 (by decide +kernel)
theorem t42_6 : decode (mb 42) 6 = .ok (.if_icmp .ge 42, 3) := by decide +kernel
theorem s42_6 (d : Nat) (l0 : Value) (l1 : Value) (l2 : Value) (x y : Int32) (σ : Hs) : ru d 42 6 [l0, l1, l2] [.int y, .int x] σ = if y ≤ x then ru d 42 48 [l0, l1, l2] [] σ else ru d 42 9 [l0, l1, l2] [] σ := q_ic_ge t42_6 (by decide +kernel)
theorem t42_9 : decode (mb 42) 9 = .ok (.aload_n 0, 1) := by decide +kernel
theorem s42_9 (d : Nat) (a0 : Nat) (l1 : Value) (l2 : Value) (σ : Hs) : ru d 42 9 [.ref a0, l1, l2] [] σ = ru d 42 10 [.ref a0, l1, l2] [.ref a0] σ := q_aload_n t42_9 rfl
theorem t42_10 : decode (mb 42) 10 = .ok (.invokevirtual 78, 3) := by decide +kernel
theorem s42_10_o70 (d : Nat) (l0 : Value) (l1 : Value) (l2 : Value) (σ : Hs) : ru d 42 10 [l0, l1, l2] [.ref 70] σ = kont (callD d 38 [.ref 70] σ) d 42 13 [l0, l1, l2] [] := q_invv t42_10 mo42 K2_78 mj38 rfl rfl rfl rfl (Nat.le_of_ble_eq_true rfl)
theorem t42_13 : decode (mb 42) 13 = .ok (.invokestatic 91, 3) := by decide +kernel
theorem s42_13 (d : Nat) (l0 : Value) (l1 : Value) (l2 : Value) (v0 : Value) (σ : Hs) : ru d 42 13 [l0, l1, l2] [v0] σ = kont (callD d 43 [v0] σ) d 42 16 [l0, l1, l2] [] := q_invs t42_13 mo42 (by decide +kernel) K2_91 mj43 (Nat.le_of_ble_eq_true rfl) rfl rfl (Nat.le_of_ble_eq_true rfl)
theorem t42_16 : decode (mb 42) 16 = .ok (.ifCond .eq 32, 3) := by decide +kernel
theorem s42_16 (d : Nat) (l0 : Value) (l1 : Value) (l2 : Value) (x : Int32) (σ : Hs) : ru d 42 16 [l0, l1, l2] [.int x] σ = if x = 0 then ru d 42 48 [l0, l1, l2] [] σ else ru d 42 19 [l0, l1, l2] [] σ := q_if_eq t42_16 (by decide +kernel)
theorem t42_19 : decode (mb 42) 19 = .ok (.bipush 10, 2) := by decide +kernel
theorem s42_19 (d : Nat) (l0 : Value) (l1 : Value) (l2 : Value) (σ : Hs) : ru d 42 19 [l0, l1, l2] [] σ = ru d 42 21 [l0, l1, l2] [.int 10] σ := q_bipush t42_19 (by decide +kernel)
theorem t42_21 : decode (mb 42) 21 = .ok (.iload_n 1, 1) := by decide +kernel
theorem s42_21 (d : Nat) (l0 : Value) (i1 : Int32) (l2 : Value) (w0 : Value) (σ : Hs) : ru d 42 21 [l0, .int i1, l2] [w0] σ = ru d 42 22 [l0, .int i1, l2] [.int i1, w0] σ := q_iload_n t42_21 rfl
theorem t42_22 : decode (mb 42) 22 = .ok (.imul, 1) := by decide +kernel
theorem s42_22 (d : Nat) (l0 : Value) (l1 : Value) (l2 : Value) (x y : Int32) (σ : Hs) : ru d 42 22 [l0, l1, l2] [.int y, .int x] σ = ru d 42 23 [l0, l1, l2] [.int (x * y)] σ := q_imul t42_22
theorem t42_23 : decode (mb 42) 23 = .ok (.aload_n 0, 1) := by decide +kernel
theorem s42_23 (d : Nat) (a0 : Nat) (l1 : Value) (l2 : Value) (w0 : Value) (σ : Hs) : ru d 42 23 [.ref a0, l1, l2] [w0] σ = ru d 42 24 [.ref a0, l1, l2] [.ref a0, w0] σ := q_aload_n t42_23 rfl
theorem t42_24 : decode (mb 42) 24 = .ok (.invokevirtual 78, 3) := by decide +kernel
theorem s42_24_o70 (d : Nat) (l0 : Value) (l1 : Value) (l2 : Value) (w0 : Int32) (σ : Hs) : ru d 42 24 [l0, l1, l2] [.ref 70, .int w0] σ = kont (callD d 38 [.ref 70] σ) d 42 27 [l0, l1, l2] [.int w0] := q_invv t42_24 mo42 K2_78 mj38 rfl rfl rfl rfl (Nat.le_of_ble_eq_true rfl)
theorem t42_27 : decode (mb 42) 27 = .ok (.bipush 48, 2) := by decide +kernel
theorem s42_27 (d : Nat) (l0 : Value) (l1 : Value) (l2 : Value) (w0 w1 : Value) (σ : Hs) : ru d 42 27 [l0, l1, l2] [w0, w1] σ = ru d 42 29 [l0, l1, l2] [.int 48, w0, w1] σ := q_bipush t42_27 (by decide +kernel)
theorem t42_29 : decode (mb 42) 29 = .ok (.isub, 1) := by decide +kernel
theorem s42_29 (d : Nat) (l0 : Value) (l1 : Value) (l2 : Value) (x y : Int32) (w0 : Value) (σ : Hs) : ru d 42 29 [l0, l1, l2] [.int y, .int x, w0] σ = ru d 42 30 [l0, l1, l2] [.int (x - y), w0] σ := q_isub t42_29
theorem t42_30 : decode (mb 42) 30 = .ok (.iadd, 1) := by decide +kernel
theorem s42_30 (d : Nat) (l0 : Value) (l1 : Value) (l2 : Value) (x y : Int32) (σ : Hs) : ru d 42 30 [l0, l1, l2] [.int y, .int x] σ = ru d 42 31 [l0, l1, l2] [.int (x + y)] σ := q_iadd t42_30
theorem t42_31 : decode (mb 42) 31 = .ok (.istore_n 1, 1) := by decide +kernel
theorem s42_31 (d : Nat) (a0 : Nat) (l1 : Value) (l2 : Value) (x : Int32) (σ : Hs) : ru d 42 31 [.ref a0, l1, l2] [.int x] σ = ru d 42 32 [.ref a0, .int x, l2] [] σ := q_istore_n t42_31 ⟨Nat.le_of_ble_eq_true rfl, rfl⟩ rfl
theorem t42_32 : decode (mb 42) 32 = .ok (.aload_n 0, 1) := by decide +kernel
theorem s42_32 (d : Nat) (a0 : Nat) (l1 : Value) (l2 : Value) (σ : Hs) : ru d 42 32 [.ref a0, l1, l2] [] σ = ru d 42 33 [.ref a0, l1, l2] [.ref a0] σ := q_aload_n t42_32 rfl
theorem t42_33 : decode (mb 42) 33 = .ok (.dup, 1) := by decide +kernel
theorem s42_33 (d : Nat) (l0 : Value) (l1 : Value) (l2 : Value) (x : Nat) (σ : Hs) : ru d 42 33 [l0, l1, l2] [.ref x] σ = ru d 42 34 [l0, l1, l2] [.ref x, .ref x] σ := q_dup t42_33 rfl
theorem t42_34 : decode (mb 42) 34 = .ok (.getfield 29, 3) := by decide +kernel
theorem s42_34_o70 (d : Nat) (l0 : Value) (l1 : Value) (l2 : Value) (w0 : Value) (σ : Hs) : ru d 42 34 [l0, l1, l2] [.ref 70, w0] σ = ru d 42 37 [l0, l1, l2] [.int (σ 70 3), w0] σ := q_getf t42_34 mo42 F2_29 rfl rfl
theorem t42_37 : decode (mb 42) 37 = .ok (.iconst 1, 1) := by decide +kernel
theorem s42_37 (d : Nat) (l0 : Value) (l1 : Value) (l2 : Value) (w0 w1 : Value) (σ : Hs) : ru d 42 37 [l0, l1, l2] [w0, w1] σ = ru d 42 38 [l0, l1, l2] [.int 1, w0, w1] σ := q_iconst t42_37 (by decide +kernel)
theorem t42_38 : decode (mb 42) 38 = .ok (.iadd, 1) := by decide +kernel
theorem s42_38 (d : Nat) (l0 : Value) (l1 : Value) (l2 : Value) (x y : Int32) (w0 : Value) (σ : Hs) : ru d 42 38 [l0, l1, l2] [.int y, .int x, w0] σ = ru d 42 39 [l0, l1, l2] [.int (x + y), w0] σ := q_iadd t42_38
theorem t42_39 : decode (mb 42) 39 = .ok (.putfield 29, 3) := by decide +kernel
theorem s42_39_o70 (d : Nat) (l0 : Value) (l1 : Value) (l2 : Value) (x : Int32) (σ : Hs) : ru d 42 39 [l0, l1, l2] [.int x, .ref 70] σ = ru d 42 42 [l0, l1, l2] [] (up2 σ 70 3 x) := q_puti t42_39 mo42 F2_29 (by decide +kernel) rfl rfl
theorem t42_42 : decode (mb 42) 42 = .ok (.iinc 2 1, 3) := by decide +kernel
theorem s42_42 (d : Nat) (l0 : Value) (i1 : Int32) (i2 : Int32) (σ : Hs) : ru d 42 42 [l0, .int i1, .int i2] [] σ = ru d 42 45 [l0, .int i1, .int (i2 + 1)] [] σ := q_iinc t42_42 ⟨Nat.le_of_ble_eq_true rfl, rfl⟩ rfl (by decide +kernel) rfl
theorem t42_45 : decode (mb 42) 45 = .ok (.goto (-41), 3) := by decide +kernel
theorem s42_45 (d : Nat) (l0 : Value) (l1 : Value) (l2 : Value) (σ : Hs) : ru d 42 45 [l0, l1, l2] [] σ = ru d 42 4 [l0, l1, l2] [] σ := q_goto t42_45 (by decide +kernel)
theorem t42_48 : decode (mb 42) 48 = .ok (.aload_n 0, 1) := by decide +kernel
theorem s42_48 (d : Nat) (a0 : Nat) (l1 : Value) (l2 : Value) (σ : Hs) : ru d 42 48 [.ref a0, l1, l2] [] σ = ru d 42 49 [.ref a0, l1, l2] [.ref a0] σ := q_aload_n t42_48 rfl
theorem t42_49 : decode (mb 42) 49 = .ok (.getfield 14, 3) := by decide +kernel
theorem s42_49_o70 (d : Nat) (l0 : Value) (l1 : Value) (l2 : Value) (σ : Hs) : ru d 42 49 [l0, l1, l2] [.ref 70] σ = ru d 42 52 [l0, l1, l2] [.ref 71] σ := q_getf t42_49 mo42 F2_14 rfl rfl
theorem t42_52 : decode (mb 42) 52 = .ok (.iload_n 1, 1) := by decide +kernel
theorem s42_52 (d : Nat) (l0 : Value) (i1 : Int32) (l2 : Value) (w0 : Value) (σ : Hs) : ru d 42 52 [l0, .int i1, l2] [w0] σ = ru d 42 53 [l0, .int i1, l2] [.int i1, w0] σ := q_iload_n t42_52 rfl
theorem t42_53 : decode (mb 42) 53 = .ok (.invokevirtual 88, 3) := by decide +kernel
theorem s42_53_o71 (d : Nat) (l0 : Value) (l1 : Value) (l2 : Value) (v1 : Value) (σ : Hs) : ru d 42 53 [l0, l1, l2] [v1, .ref 71] σ = kont (callD d 45 [.ref 71, v1] σ) d 42 56 [l0, l1, l2] [] := q_invv t42_53 mo42 K2_88 mj45 rfl rfl rfl rfl (Nat.le_of_ble_eq_true rfl)
theorem t42_56 : decode (mb 42) 56 = .ok (.pop, 1) := by decide +kernel
theorem s42_56 (d : Nat) (l0 : Value) (l1 : Value) (l2 : Value) (x : Int32) (σ : Hs) : ru d 42 56 [l0, l1, l2] [.int x] σ = ru d 42 57 [l0, l1, l2] [] σ := q_pop t42_56 rfl
theorem t42_57 : decode (mb 42) 57 = .ok (.return_, 1) := by decide +kernel
theorem s42_57 (d : Nat) (l0 : Value) (l1 : Value) (l2 : Value) (σ : Hs) : ru d 42 57 [l0, l1, l2] [] σ = some (none, σ) := q_vret t42_57 mr42
theorem c42 (d : Nat) (x0 : Nat) (σ : Hs) : callD (d + 1) 42 [.ref x0] σ = ru d 42 0 [.ref x0, uu, uu] [] σ := callD_ru ml42 rfl rfl (Nat.le_of_ble_eq_true rfl)
-- 43: Reader.isDigit(C)Z
theorem t43_0 : decode (mb 43) 0 = .ok (.iload_n 0, 1) := by decide +kernel
theorem s43_0 (d : Nat) (i0 : Int32) (σ : Hs) : ru d 43 0 [.int i0] [] σ = ru d 43 1 [.int i0] [.int i0] σ := q_iload_n t43_0 rfl
theorem t43_1 : decode (mb 43) 1 = .ok (.bipush 48, 2) := by decide +kernel
theorem s43_1 (d : Nat) (l0 : Value) (w0 : Value) (σ : Hs) : ru d 43 1 [l0] [w0] σ = ru d 43 3 [l0] [.int 48, w0] σ := q_bipush t43_1 (by decide +kernel)
theorem t43_3 : decode (mb 43) 3 = .ok (.if_icmp .lt 13, 3) := by decide +kernel
theorem s43_3 (d : Nat) (l0 : Value) (x y : Int32) (σ : Hs) : ru d 43 3 [l0] [.int y, .int x] σ = if x < y then ru d 43 16 [l0] [] σ else ru d 43 6 [l0] [] σ := q_ic_lt t43_3 (by decide +kernel)
theorem t43_6 : decode (mb 43) 6 = .ok (.iload_n 0, 1) := by decide +kernel
theorem s43_6 (d : Nat) (i0 : Int32) (σ : Hs) : ru d 43 6 [.int i0] [] σ = ru d 43 7 [.int i0] [.int i0] σ := q_iload_n t43_6 rfl
theorem t43_7 : decode (mb 43) 7 = .ok (.bipush 57, 2) := by decide +kernel
theorem s43_7 (d : Nat) (l0 : Value) (w0 : Value) (σ : Hs) : ru d 43 7 [l0] [w0] σ = ru d 43 9 [l0] [.int 57, w0] σ := q_bipush t43_7 (by decide +kernel)
theorem t43_9 : decode (mb 43) 9 = .ok (.if_icmp .gt 7, 3) := by decide +kernel
theorem s43_9 (d : Nat) (l0 : Value) (x y : Int32) (σ : Hs) : ru d 43 9 [l0] [.int y, .int x] σ = if y < x then ru d 43 16 [l0] [] σ else ru d 43 12 [l0] [] σ := q_ic_gt t43_9 (by decide +kernel)
theorem t43_12 : decode (mb 43) 12 = .ok (.iconst 1, 1) := by decide +kernel
theorem s43_12 (d : Nat) (l0 : Value) (σ : Hs) : ru d 43 12 [l0] [] σ = ru d 43 13 [l0] [.int 1] σ := q_iconst t43_12 (by decide +kernel)
theorem t43_13 : decode (mb 43) 13 = .ok (.goto 4, 3) := by decide +kernel
theorem s43_13 (d : Nat) (l0 : Value) (w0 : Value) (σ : Hs) : ru d 43 13 [l0] [w0] σ = ru d 43 17 [l0] [w0] σ := q_goto t43_13 (by decide +kernel)
theorem t43_16 : decode (mb 43) 16 = .ok (.iconst 0, 1) := by decide +kernel
theorem s43_16 (d : Nat) (l0 : Value) (σ : Hs) : ru d 43 16 [l0] [] σ = ru d 43 17 [l0] [.int 0] σ := q_iconst t43_16 (by decide +kernel)
theorem t43_17 : decode (mb 43) 17 = .ok (.ireturn, 1) := by decide +kernel
theorem s43_17 (d : Nat) (l0 : Value) (x : Int32) (hx : isB x) (σ : Hs) : ru d 43 17 [l0] [.int x] σ = some (some (.int x), σ) := q_iretz t43_17 mr43 hx
theorem c43 (d : Nat) (x0 : Int32) (σ : Hs) : callD (d + 1) 43 [.int x0] σ = ru d 43 0 [.int x0] [] σ := callD_ru ml43 rfl rfl (Nat.le_of_ble_eq_true rfl)
-- 44: Row.has(I)Z
theorem t44_0 : decode (mb 44) 0 = .ok (.iload_n 1, 1) := by decide +kernel
theorem s44_0 (d : Nat) (l0 : Value) (i1 : Int32) (σ : Hs) : ru d 44 0 [l0, .int i1] [] σ = ru d 44 1 [l0, .int i1] [.int i1] σ := q_iload_n t44_0 rfl
theorem t44_1 : decode (mb 44) 1 = .ok (.ifCond .lt 24, 3) := by decide +kernel
theorem s44_1 (d : Nat) (l0 : Value) (l1 : Value) (x : Int32) (σ : Hs) : ru d 44 1 [l0, l1] [.int x] σ = if x < 0 then ru d 44 25 [l0, l1] [] σ else ru d 44 4 [l0, l1] [] σ := q_if_lt t44_1 (by decide +kernel)
theorem t44_4 : decode (mb 44) 4 = .ok (.iload_n 1, 1) := by decide +kernel
theorem s44_4 (d : Nat) (l0 : Value) (i1 : Int32) (σ : Hs) : ru d 44 4 [l0, .int i1] [] σ = ru d 44 5 [l0, .int i1] [.int i1] σ := q_iload_n t44_4 rfl
theorem t44_5 : decode (mb 44) 5 = .ok (.aload_n 0, 1) := by decide +kernel
theorem s44_5 (d : Nat) (a0 : Nat) (l1 : Value) (w0 : Value) (σ : Hs) : ru d 44 5 [.ref a0, l1] [w0] σ = ru d 44 6 [.ref a0, l1] [.ref a0, w0] σ := q_aload_n t44_5 rfl
theorem t44_6 : decode (mb 44) 6 = .ok (.getfield 19, 3) := by decide +kernel
theorem s44_6_o22 (d : Nat) (l0 : Value) (l1 : Value) (w0 : Value) (σ : Hs) : ru d 44 6 [l0, l1] [.ref 22, w0] σ = ru d 44 9 [l0, l1] [.int (σ 22 1), w0] σ := q_getf t44_6 mo44 F3_19 rfl rfl
theorem s44_6_o74 (d : Nat) (l0 : Value) (l1 : Value) (w0 : Value) (σ : Hs) : ru d 44 6 [l0, l1] [.ref 74, w0] σ = ru d 44 9 [l0, l1] [.int (σ 74 1), w0] σ := q_getf t44_6 mo44 F3_19 rfl rfl
theorem t44_9 : decode (mb 44) 9 = .ok (.if_icmp .ge 16, 3) := by decide +kernel
theorem s44_9 (d : Nat) (l0 : Value) (l1 : Value) (x y : Int32) (σ : Hs) : ru d 44 9 [l0, l1] [.int y, .int x] σ = if y ≤ x then ru d 44 25 [l0, l1] [] σ else ru d 44 12 [l0, l1] [] σ := q_ic_ge t44_9 (by decide +kernel)
theorem t44_12 : decode (mb 44) 12 = .ok (.iload_n 1, 1) := by decide +kernel
theorem s44_12 (d : Nat) (l0 : Value) (i1 : Int32) (σ : Hs) : ru d 44 12 [l0, .int i1] [] σ = ru d 44 13 [l0, .int i1] [.int i1] σ := q_iload_n t44_12 rfl
theorem t44_13 : decode (mb 44) 13 = .ok (.aload_n 0, 1) := by decide +kernel
theorem s44_13 (d : Nat) (a0 : Nat) (l1 : Value) (w0 : Value) (σ : Hs) : ru d 44 13 [.ref a0, l1] [w0] σ = ru d 44 14 [.ref a0, l1] [.ref a0, w0] σ := q_aload_n t44_13 rfl
theorem t44_14 : decode (mb 44) 14 = .ok (.getfield 13, 3) := by decide +kernel
theorem s44_14_o22 (d : Nat) (l0 : Value) (l1 : Value) (w0 : Value) (σ : Hs) : ru d 44 14 [l0, l1] [.ref 22, w0] σ = ru d 44 17 [l0, l1] [.ref 23, w0] σ := q_getf t44_14 mo44 F3_13 rfl rfl
theorem s44_14_o74 (d : Nat) (l0 : Value) (l1 : Value) (w0 : Value) (σ : Hs) : ru d 44 14 [l0, l1] [.ref 74, w0] σ = ru d 44 17 [l0, l1] [.ref 75, w0] σ := q_getf t44_14 mo44 F3_13 rfl rfl
theorem t44_17 : decode (mb 44) 17 = .ok (.arraylength, 1) := by decide +kernel
theorem s44_17_o23 (d : Nat) (l0 : Value) (l1 : Value) (w0 : Value) (σ : Hs) : ru d 44 17 [l0, l1] [.ref 23, w0] σ = ru d 44 18 [l0, l1] [.int 60, w0] σ := q_alei t44_17 (by decide +kernel) rfl (by decide +kernel)
theorem s44_17_o75 (d : Nat) (l0 : Value) (l1 : Value) (w0 : Value) (σ : Hs) : ru d 44 17 [l0, l1] [.ref 75, w0] σ = ru d 44 18 [l0, l1] [.int 30, w0] σ := q_alei t44_17 (by decide +kernel) rfl (by decide +kernel)
theorem t44_18 : decode (mb 44) 18 = .ok (.if_icmp .ge 7, 3) := by decide +kernel
theorem s44_18 (d : Nat) (l0 : Value) (l1 : Value) (x y : Int32) (σ : Hs) : ru d 44 18 [l0, l1] [.int y, .int x] σ = if y ≤ x then ru d 44 25 [l0, l1] [] σ else ru d 44 21 [l0, l1] [] σ := q_ic_ge t44_18 (by decide +kernel)
theorem t44_21 : decode (mb 44) 21 = .ok (.iconst 1, 1) := by decide +kernel
theorem s44_21 (d : Nat) (l0 : Value) (l1 : Value) (σ : Hs) : ru d 44 21 [l0, l1] [] σ = ru d 44 22 [l0, l1] [.int 1] σ := q_iconst t44_21 (by decide +kernel)
theorem t44_22 : decode (mb 44) 22 = .ok (.goto 4, 3) := by decide +kernel
theorem s44_22 (d : Nat) (l0 : Value) (l1 : Value) (w0 : Value) (σ : Hs) : ru d 44 22 [l0, l1] [w0] σ = ru d 44 26 [l0, l1] [w0] σ := q_goto t44_22 (by decide +kernel)
theorem t44_25 : decode (mb 44) 25 = .ok (.iconst 0, 1) := by decide +kernel
theorem s44_25 (d : Nat) (l0 : Value) (l1 : Value) (σ : Hs) : ru d 44 25 [l0, l1] [] σ = ru d 44 26 [l0, l1] [.int 0] σ := q_iconst t44_25 (by decide +kernel)
theorem t44_26 : decode (mb 44) 26 = .ok (.ireturn, 1) := by decide +kernel
theorem s44_26 (d : Nat) (l0 : Value) (l1 : Value) (x : Int32) (hx : isB x) (σ : Hs) : ru d 44 26 [l0, l1] [.int x] σ = some (some (.int x), σ) := q_iretz t44_26 mr44 hx
theorem c44 (d : Nat) (x0 : Nat) (x1 : Int32) (σ : Hs) : callD (d + 1) 44 [.ref x0, .int x1] σ = ru d 44 0 [.ref x0, .int x1] [] σ := callD_ru ml44 rfl rfl (Nat.le_of_ble_eq_true rfl)
-- 45: Row.add(I)Z
theorem t45_0 : decode (mb 45) 0 = .ok (.aload_n 0, 1) := by decide +kernel
theorem s45_0 (d : Nat) (a0 : Nat) (l1 : Value) (σ : Hs) : ru d 45 0 [.ref a0, l1] [] σ = ru d 45 1 [.ref a0, l1] [.ref a0] σ := q_aload_n t45_0 rfl
theorem t45_1 : decode (mb 45) 1 = .ok (.getfield 19, 3) := by decide +kernel
theorem s45_1_o22 (d : Nat) (l0 : Value) (l1 : Value) (σ : Hs) : ru d 45 1 [l0, l1] [.ref 22] σ = ru d 45 4 [l0, l1] [.int (σ 22 1)] σ := q_getf t45_1 mo45 F3_19 rfl rfl
theorem s45_1_o24 (d : Nat) (l0 : Value) (l1 : Value) (σ : Hs) : ru d 45 1 [l0, l1] [.ref 24] σ = ru d 45 4 [l0, l1] [.int (σ 24 1)] σ := q_getf t45_1 mo45 F3_19 rfl rfl
theorem s45_1_o26 (d : Nat) (l0 : Value) (l1 : Value) (σ : Hs) : ru d 45 1 [l0, l1] [.ref 26] σ = ru d 45 4 [l0, l1] [.int (σ 26 1)] σ := q_getf t45_1 mo45 F3_19 rfl rfl
theorem s45_1_o28 (d : Nat) (l0 : Value) (l1 : Value) (σ : Hs) : ru d 45 1 [l0, l1] [.ref 28] σ = ru d 45 4 [l0, l1] [.int (σ 28 1)] σ := q_getf t45_1 mo45 F3_19 rfl rfl
theorem s45_1_o71 (d : Nat) (l0 : Value) (l1 : Value) (σ : Hs) : ru d 45 1 [l0, l1] [.ref 71] σ = ru d 45 4 [l0, l1] [.int (σ 71 1)] σ := q_getf t45_1 mo45 F3_19 rfl rfl
theorem s45_1_o74 (d : Nat) (l0 : Value) (l1 : Value) (σ : Hs) : ru d 45 1 [l0, l1] [.ref 74] σ = ru d 45 4 [l0, l1] [.int (σ 74 1)] σ := q_getf t45_1 mo45 F3_19 rfl rfl
theorem t45_4 : decode (mb 45) 4 = .ok (.ifCond .lt 15, 3) := by decide +kernel
theorem s45_4 (d : Nat) (l0 : Value) (l1 : Value) (x : Int32) (σ : Hs) : ru d 45 4 [l0, l1] [.int x] σ = if x < 0 then ru d 45 19 [l0, l1] [] σ else ru d 45 7 [l0, l1] [] σ := q_if_lt t45_4 (by decide +kernel)
theorem t45_7 : decode (mb 45) 7 = .ok (.aload_n 0, 1) := by decide +kernel
theorem s45_7 (d : Nat) (a0 : Nat) (l1 : Value) (σ : Hs) : ru d 45 7 [.ref a0, l1] [] σ = ru d 45 8 [.ref a0, l1] [.ref a0] σ := q_aload_n t45_7 rfl
theorem t45_8 : decode (mb 45) 8 = .ok (.getfield 19, 3) := by decide +kernel
theorem s45_8_o22 (d : Nat) (l0 : Value) (l1 : Value) (σ : Hs) : ru d 45 8 [l0, l1] [.ref 22] σ = ru d 45 11 [l0, l1] [.int (σ 22 1)] σ := q_getf t45_8 mo45 F3_19 rfl rfl
theorem s45_8_o24 (d : Nat) (l0 : Value) (l1 : Value) (σ : Hs) : ru d 45 8 [l0, l1] [.ref 24] σ = ru d 45 11 [l0, l1] [.int (σ 24 1)] σ := q_getf t45_8 mo45 F3_19 rfl rfl
theorem s45_8_o26 (d : Nat) (l0 : Value) (l1 : Value) (σ : Hs) : ru d 45 8 [l0, l1] [.ref 26] σ = ru d 45 11 [l0, l1] [.int (σ 26 1)] σ := q_getf t45_8 mo45 F3_19 rfl rfl
theorem s45_8_o28 (d : Nat) (l0 : Value) (l1 : Value) (σ : Hs) : ru d 45 8 [l0, l1] [.ref 28] σ = ru d 45 11 [l0, l1] [.int (σ 28 1)] σ := q_getf t45_8 mo45 F3_19 rfl rfl
theorem s45_8_o71 (d : Nat) (l0 : Value) (l1 : Value) (σ : Hs) : ru d 45 8 [l0, l1] [.ref 71] σ = ru d 45 11 [l0, l1] [.int (σ 71 1)] σ := q_getf t45_8 mo45 F3_19 rfl rfl
theorem s45_8_o74 (d : Nat) (l0 : Value) (l1 : Value) (σ : Hs) : ru d 45 8 [l0, l1] [.ref 74] σ = ru d 45 11 [l0, l1] [.int (σ 74 1)] σ := q_getf t45_8 mo45 F3_19 rfl rfl
theorem t45_11 : decode (mb 45) 11 = .ok (.aload_n 0, 1) := by decide +kernel
theorem s45_11 (d : Nat) (a0 : Nat) (l1 : Value) (w0 : Value) (σ : Hs) : ru d 45 11 [.ref a0, l1] [w0] σ = ru d 45 12 [.ref a0, l1] [.ref a0, w0] σ := q_aload_n t45_11 rfl
theorem t45_12 : decode (mb 45) 12 = .ok (.getfield 13, 3) := by decide +kernel
theorem s45_12_o22 (d : Nat) (l0 : Value) (l1 : Value) (w0 : Value) (σ : Hs) : ru d 45 12 [l0, l1] [.ref 22, w0] σ = ru d 45 15 [l0, l1] [.ref 23, w0] σ := q_getf t45_12 mo45 F3_13 rfl rfl
theorem s45_12_o24 (d : Nat) (l0 : Value) (l1 : Value) (w0 : Value) (σ : Hs) : ru d 45 12 [l0, l1] [.ref 24, w0] σ = ru d 45 15 [l0, l1] [.ref 25, w0] σ := q_getf t45_12 mo45 F3_13 rfl rfl
theorem s45_12_o26 (d : Nat) (l0 : Value) (l1 : Value) (w0 : Value) (σ : Hs) : ru d 45 12 [l0, l1] [.ref 26, w0] σ = ru d 45 15 [l0, l1] [.ref 27, w0] σ := q_getf t45_12 mo45 F3_13 rfl rfl
theorem s45_12_o28 (d : Nat) (l0 : Value) (l1 : Value) (w0 : Value) (σ : Hs) : ru d 45 12 [l0, l1] [.ref 28, w0] σ = ru d 45 15 [l0, l1] [.ref 29, w0] σ := q_getf t45_12 mo45 F3_13 rfl rfl
theorem s45_12_o71 (d : Nat) (l0 : Value) (l1 : Value) (w0 : Value) (σ : Hs) : ru d 45 12 [l0, l1] [.ref 71, w0] σ = ru d 45 15 [l0, l1] [.ref 72, w0] σ := q_getf t45_12 mo45 F3_13 rfl rfl
theorem s45_12_o74 (d : Nat) (l0 : Value) (l1 : Value) (w0 : Value) (σ : Hs) : ru d 45 12 [l0, l1] [.ref 74, w0] σ = ru d 45 15 [l0, l1] [.ref 75, w0] σ := q_getf t45_12 mo45 F3_13 rfl rfl
theorem t45_15 : decode (mb 45) 15 = .ok (.arraylength, 1) := by decide +kernel
theorem s45_15_o23 (d : Nat) (l0 : Value) (l1 : Value) (w0 : Value) (σ : Hs) : ru d 45 15 [l0, l1] [.ref 23, w0] σ = ru d 45 16 [l0, l1] [.int 60, w0] σ := q_alei t45_15 (by decide +kernel) rfl (by decide +kernel)
theorem s45_15_o25 (d : Nat) (l0 : Value) (l1 : Value) (w0 : Value) (σ : Hs) : ru d 45 15 [l0, l1] [.ref 25, w0] σ = ru d 45 16 [l0, l1] [.int 12, w0] σ := q_alei t45_15 (by decide +kernel) rfl (by decide +kernel)
theorem s45_15_o27 (d : Nat) (l0 : Value) (l1 : Value) (w0 : Value) (σ : Hs) : ru d 45 15 [l0, l1] [.ref 27, w0] σ = ru d 45 16 [l0, l1] [.int 12, w0] σ := q_alei t45_15 (by decide +kernel) rfl (by decide +kernel)
theorem s45_15_o29 (d : Nat) (l0 : Value) (l1 : Value) (w0 : Value) (σ : Hs) : ru d 45 15 [l0, l1] [.ref 29, w0] σ = ru d 45 16 [l0, l1] [.int 24, w0] σ := q_alei t45_15 (by decide +kernel) rfl (by decide +kernel)
theorem s45_15_o72 (d : Nat) (l0 : Value) (l1 : Value) (w0 : Value) (σ : Hs) : ru d 45 15 [l0, l1] [.ref 72, w0] σ = ru d 45 16 [l0, l1] [.int 60, w0] σ := q_alei t45_15 (by decide +kernel) rfl (by decide +kernel)
theorem s45_15_o75 (d : Nat) (l0 : Value) (l1 : Value) (w0 : Value) (σ : Hs) : ru d 45 15 [l0, l1] [.ref 75, w0] σ = ru d 45 16 [l0, l1] [.int 30, w0] σ := q_alei t45_15 (by decide +kernel) rfl (by decide +kernel)
theorem t45_16 : decode (mb 45) 16 = .ok (.if_icmp .lt 5, 3) := by decide +kernel
theorem s45_16 (d : Nat) (l0 : Value) (l1 : Value) (x y : Int32) (σ : Hs) : ru d 45 16 [l0, l1] [.int y, .int x] σ = if x < y then ru d 45 21 [l0, l1] [] σ else ru d 45 19 [l0, l1] [] σ := q_ic_lt t45_16 (by decide +kernel)
theorem t45_19 : decode (mb 45) 19 = .ok (.iconst 0, 1) := by decide +kernel
theorem s45_19 (d : Nat) (l0 : Value) (l1 : Value) (σ : Hs) : ru d 45 19 [l0, l1] [] σ = ru d 45 20 [l0, l1] [.int 0] σ := q_iconst t45_19 (by decide +kernel)
theorem t45_20 : decode (mb 45) 20 = .ok (.ireturn, 1) := by decide +kernel
theorem s45_20 (d : Nat) (l0 : Value) (l1 : Value) (x : Int32) (hx : isB x) (σ : Hs) : ru d 45 20 [l0, l1] [.int x] σ = some (some (.int x), σ) := q_iretz t45_20 mr45 hx
theorem t45_21 : decode (mb 45) 21 = .ok (.aload_n 0, 1) := by decide +kernel
theorem s45_21 (d : Nat) (a0 : Nat) (l1 : Value) (σ : Hs) : ru d 45 21 [.ref a0, l1] [] σ = ru d 45 22 [.ref a0, l1] [.ref a0] σ := q_aload_n t45_21 rfl
theorem t45_22 : decode (mb 45) 22 = .ok (.getfield 13, 3) := by decide +kernel
theorem s45_22_o22 (d : Nat) (l0 : Value) (l1 : Value) (σ : Hs) : ru d 45 22 [l0, l1] [.ref 22] σ = ru d 45 25 [l0, l1] [.ref 23] σ := q_getf t45_22 mo45 F3_13 rfl rfl
theorem s45_22_o24 (d : Nat) (l0 : Value) (l1 : Value) (σ : Hs) : ru d 45 22 [l0, l1] [.ref 24] σ = ru d 45 25 [l0, l1] [.ref 25] σ := q_getf t45_22 mo45 F3_13 rfl rfl
theorem s45_22_o26 (d : Nat) (l0 : Value) (l1 : Value) (σ : Hs) : ru d 45 22 [l0, l1] [.ref 26] σ = ru d 45 25 [l0, l1] [.ref 27] σ := q_getf t45_22 mo45 F3_13 rfl rfl
theorem s45_22_o28 (d : Nat) (l0 : Value) (l1 : Value) (σ : Hs) : ru d 45 22 [l0, l1] [.ref 28] σ = ru d 45 25 [l0, l1] [.ref 29] σ := q_getf t45_22 mo45 F3_13 rfl rfl
theorem s45_22_o71 (d : Nat) (l0 : Value) (l1 : Value) (σ : Hs) : ru d 45 22 [l0, l1] [.ref 71] σ = ru d 45 25 [l0, l1] [.ref 72] σ := q_getf t45_22 mo45 F3_13 rfl rfl
theorem s45_22_o74 (d : Nat) (l0 : Value) (l1 : Value) (σ : Hs) : ru d 45 22 [l0, l1] [.ref 74] σ = ru d 45 25 [l0, l1] [.ref 75] σ := q_getf t45_22 mo45 F3_13 rfl rfl
theorem t45_25 : decode (mb 45) 25 = .ok (.aload_n 0, 1) := by decide +kernel
theorem s45_25 (d : Nat) (a0 : Nat) (l1 : Value) (w0 : Value) (σ : Hs) : ru d 45 25 [.ref a0, l1] [w0] σ = ru d 45 26 [.ref a0, l1] [.ref a0, w0] σ := q_aload_n t45_25 rfl
theorem t45_26 : decode (mb 45) 26 = .ok (.getfield 19, 3) := by decide +kernel
theorem s45_26_o22 (d : Nat) (l0 : Value) (l1 : Value) (w0 : Value) (σ : Hs) : ru d 45 26 [l0, l1] [.ref 22, w0] σ = ru d 45 29 [l0, l1] [.int (σ 22 1), w0] σ := q_getf t45_26 mo45 F3_19 rfl rfl
theorem s45_26_o24 (d : Nat) (l0 : Value) (l1 : Value) (w0 : Value) (σ : Hs) : ru d 45 26 [l0, l1] [.ref 24, w0] σ = ru d 45 29 [l0, l1] [.int (σ 24 1), w0] σ := q_getf t45_26 mo45 F3_19 rfl rfl
theorem s45_26_o26 (d : Nat) (l0 : Value) (l1 : Value) (w0 : Value) (σ : Hs) : ru d 45 26 [l0, l1] [.ref 26, w0] σ = ru d 45 29 [l0, l1] [.int (σ 26 1), w0] σ := q_getf t45_26 mo45 F3_19 rfl rfl
theorem s45_26_o28 (d : Nat) (l0 : Value) (l1 : Value) (w0 : Value) (σ : Hs) : ru d 45 26 [l0, l1] [.ref 28, w0] σ = ru d 45 29 [l0, l1] [.int (σ 28 1), w0] σ := q_getf t45_26 mo45 F3_19 rfl rfl
theorem s45_26_o71 (d : Nat) (l0 : Value) (l1 : Value) (w0 : Value) (σ : Hs) : ru d 45 26 [l0, l1] [.ref 71, w0] σ = ru d 45 29 [l0, l1] [.int (σ 71 1), w0] σ := q_getf t45_26 mo45 F3_19 rfl rfl
theorem s45_26_o74 (d : Nat) (l0 : Value) (l1 : Value) (w0 : Value) (σ : Hs) : ru d 45 26 [l0, l1] [.ref 74, w0] σ = ru d 45 29 [l0, l1] [.int (σ 74 1), w0] σ := q_getf t45_26 mo45 F3_19 rfl rfl
theorem t45_29 : decode (mb 45) 29 = .ok (.iload_n 1, 1) := by decide +kernel
theorem s45_29 (d : Nat) (l0 : Value) (i1 : Int32) (w0 w1 : Value) (σ : Hs) : ru d 45 29 [l0, .int i1] [w0, w1] σ = ru d 45 30 [l0, .int i1] [.int i1, w0, w1] σ := q_iload_n t45_29 rfl
theorem t45_30 : decode (mb 45) 30 = .ok (.iastore, 1) := by decide +kernel
theorem s45_30_o23 (d : Nat) (l0 : Value) (l1 : Value) (i x : Int32) (σ : Hs) : ru d 45 30 [l0, l1] [.int x, .int i, .ref 23] σ = gd (vp_in i 60) (ru d 45 31 [l0, l1] [] (up2 σ 23 i.toNatClampNeg x)) := q_iast t45_30 (by decide +kernel) rfl rfl
theorem s45_30_o25 (d : Nat) (l0 : Value) (l1 : Value) (i x : Int32) (σ : Hs) : ru d 45 30 [l0, l1] [.int x, .int i, .ref 25] σ = gd (vp_in i 12) (ru d 45 31 [l0, l1] [] (up2 σ 25 i.toNatClampNeg x)) := q_iast t45_30 (by decide +kernel) rfl rfl
theorem s45_30_o27 (d : Nat) (l0 : Value) (l1 : Value) (i x : Int32) (σ : Hs) : ru d 45 30 [l0, l1] [.int x, .int i, .ref 27] σ = gd (vp_in i 12) (ru d 45 31 [l0, l1] [] (up2 σ 27 i.toNatClampNeg x)) := q_iast t45_30 (by decide +kernel) rfl rfl
theorem s45_30_o29 (d : Nat) (l0 : Value) (l1 : Value) (i x : Int32) (σ : Hs) : ru d 45 30 [l0, l1] [.int x, .int i, .ref 29] σ = gd (vp_in i 24) (ru d 45 31 [l0, l1] [] (up2 σ 29 i.toNatClampNeg x)) := q_iast t45_30 (by decide +kernel) rfl rfl
theorem s45_30_o72 (d : Nat) (l0 : Value) (l1 : Value) (i x : Int32) (σ : Hs) : ru d 45 30 [l0, l1] [.int x, .int i, .ref 72] σ = gd (vp_in i 60) (ru d 45 31 [l0, l1] [] (up2 σ 72 i.toNatClampNeg x)) := q_iast t45_30 (by decide +kernel) rfl rfl
theorem s45_30_o75 (d : Nat) (l0 : Value) (l1 : Value) (i x : Int32) (σ : Hs) : ru d 45 30 [l0, l1] [.int x, .int i, .ref 75] σ = gd (vp_in i 30) (ru d 45 31 [l0, l1] [] (up2 σ 75 i.toNatClampNeg x)) := q_iast t45_30 (by decide +kernel) rfl rfl
theorem t45_31 : decode (mb 45) 31 = .ok (.aload_n 0, 1) := by decide +kernel
theorem s45_31 (d : Nat) (a0 : Nat) (l1 : Value) (σ : Hs) : ru d 45 31 [.ref a0, l1] [] σ = ru d 45 32 [.ref a0, l1] [.ref a0] σ := q_aload_n t45_31 rfl
theorem t45_32 : decode (mb 45) 32 = .ok (.dup, 1) := by decide +kernel
theorem s45_32 (d : Nat) (l0 : Value) (l1 : Value) (x : Nat) (σ : Hs) : ru d 45 32 [l0, l1] [.ref x] σ = ru d 45 33 [l0, l1] [.ref x, .ref x] σ := q_dup t45_32 rfl
theorem t45_33 : decode (mb 45) 33 = .ok (.getfield 19, 3) := by decide +kernel
theorem s45_33_o22 (d : Nat) (l0 : Value) (l1 : Value) (w0 : Value) (σ : Hs) : ru d 45 33 [l0, l1] [.ref 22, w0] σ = ru d 45 36 [l0, l1] [.int (σ 22 1), w0] σ := q_getf t45_33 mo45 F3_19 rfl rfl
theorem s45_33_o24 (d : Nat) (l0 : Value) (l1 : Value) (w0 : Value) (σ : Hs) : ru d 45 33 [l0, l1] [.ref 24, w0] σ = ru d 45 36 [l0, l1] [.int (σ 24 1), w0] σ := q_getf t45_33 mo45 F3_19 rfl rfl
theorem s45_33_o26 (d : Nat) (l0 : Value) (l1 : Value) (w0 : Value) (σ : Hs) : ru d 45 33 [l0, l1] [.ref 26, w0] σ = ru d 45 36 [l0, l1] [.int (σ 26 1), w0] σ := q_getf t45_33 mo45 F3_19 rfl rfl
theorem s45_33_o28 (d : Nat) (l0 : Value) (l1 : Value) (w0 : Value) (σ : Hs) : ru d 45 33 [l0, l1] [.ref 28, w0] σ = ru d 45 36 [l0, l1] [.int (σ 28 1), w0] σ := q_getf t45_33 mo45 F3_19 rfl rfl
theorem s45_33_o71 (d : Nat) (l0 : Value) (l1 : Value) (w0 : Value) (σ : Hs) : ru d 45 33 [l0, l1] [.ref 71, w0] σ = ru d 45 36 [l0, l1] [.int (σ 71 1), w0] σ := q_getf t45_33 mo45 F3_19 rfl rfl
theorem s45_33_o74 (d : Nat) (l0 : Value) (l1 : Value) (w0 : Value) (σ : Hs) : ru d 45 33 [l0, l1] [.ref 74, w0] σ = ru d 45 36 [l0, l1] [.int (σ 74 1), w0] σ := q_getf t45_33 mo45 F3_19 rfl rfl
theorem t45_36 : decode (mb 45) 36 = .ok (.iconst 1, 1) := by decide +kernel
theorem s45_36 (d : Nat) (l0 : Value) (l1 : Value) (w0 w1 : Value) (σ : Hs) : ru d 45 36 [l0, l1] [w0, w1] σ = ru d 45 37 [l0, l1] [.int 1, w0, w1] σ := q_iconst t45_36 (by decide +kernel)
theorem t45_37 : decode (mb 45) 37 = .ok (.iadd, 1) := by decide +kernel
theorem s45_37 (d : Nat) (l0 : Value) (l1 : Value) (x y : Int32) (w0 : Value) (σ : Hs) : ru d 45 37 [l0, l1] [.int y, .int x, w0] σ = ru d 45 38 [l0, l1] [.int (x + y), w0] σ := q_iadd t45_37
theorem t45_38 : decode (mb 45) 38 = .ok (.putfield 19, 3) := by decide +kernel
theorem s45_38_o22 (d : Nat) (l0 : Value) (l1 : Value) (x : Int32) (σ : Hs) : ru d 45 38 [l0, l1] [.int x, .ref 22] σ = ru d 45 41 [l0, l1] [] (up2 σ 22 1 x) := q_puti t45_38 mo45 F3_19 (by decide +kernel) rfl rfl
theorem s45_38_o24 (d : Nat) (l0 : Value) (l1 : Value) (x : Int32) (σ : Hs) : ru d 45 38 [l0, l1] [.int x, .ref 24] σ = ru d 45 41 [l0, l1] [] (up2 σ 24 1 x) := q_puti t45_38 mo45 F3_19 (by decide +kernel) rfl rfl
theorem s45_38_o26 (d : Nat) (l0 : Value) (l1 : Value) (x : Int32) (σ : Hs) : ru d 45 38 [l0, l1] [.int x, .ref 26] σ = ru d 45 41 [l0, l1] [] (up2 σ 26 1 x) := q_puti t45_38 mo45 F3_19 (by decide +kernel) rfl rfl
theorem s45_38_o28 (d : Nat) (l0 : Value) (l1 : Value) (x : Int32) (σ : Hs) : ru d 45 38 [l0, l1] [.int x, .ref 28] σ = ru d 45 41 [l0, l1] [] (up2 σ 28 1 x) := q_puti t45_38 mo45 F3_19 (by decide +kernel) rfl rfl
theorem s45_38_o71 (d : Nat) (l0 : Value) (l1 : Value) (x : Int32) (σ : Hs) : ru d 45 38 [l0, l1] [.int x, .ref 71] σ = ru d 45 41 [l0, l1] [] (up2 σ 71 1 x) := q_puti t45_38 mo45 F3_19 (by decide +kernel) rfl rfl
theorem s45_38_o74 (d : Nat) (l0 : Value) (l1 : Value) (x : Int32) (σ : Hs) : ru d 45 38 [l0, l1] [.int x, .ref 74] σ = ru d 45 41 [l0, l1] [] (up2 σ 74 1 x) := q_puti t45_38 mo45 F3_19 (by decide +kernel) rfl rfl
theorem t45_41 : decode (mb 45) 41 = .ok (.iconst 1, 1) := by decide +kernel
theorem s45_41 (d : Nat) (l0 : Value) (l1 : Value) (σ : Hs) : ru d 45 41 [l0, l1] [] σ = ru d 45 42 [l0, l1] [.int 1] σ := q_iconst t45_41 (by decide +kernel)
theorem t45_42 : decode (mb 45) 42 = .ok (.ireturn, 1) := by decide +kernel
theorem s45_42 (d : Nat) (l0 : Value) (l1 : Value) (x : Int32) (hx : isB x) (σ : Hs) : ru d 45 42 [l0, l1] [.int x] σ = some (some (.int x), σ) := q_iretz t45_42 mr45 hx
theorem c45 (d : Nat) (x0 : Nat) (x1 : Int32) (σ : Hs) : callD (d + 1) 45 [.ref x0, .int x1] σ = ru d 45 0 [.ref x0, .int x1] [] σ := callD_ru ml45 rfl rfl (Nat.le_of_ble_eq_true rfl)
-- 46: Row.copyFrom(LSmokyHeap$Row;)V
theorem t46_0 : decode (mb 46) 0 = .ok (.aload_n 0, 1) := by decide +kernel
theorem s46_0 (d : Nat) (a0 : Nat) (l1 : Value) (l2 : Value) (σ : Hs) : ru d 46 0 [.ref a0, l1, l2] [] σ = ru d 46 1 [.ref a0, l1, l2] [.ref a0] σ := q_aload_n t46_0 rfl
theorem t46_1 : decode (mb 46) 1 = .ok (.aload_n 1, 1) := by decide +kernel
theorem s46_1 (d : Nat) (l0 : Value) (a1 : Nat) (l2 : Value) (w0 : Value) (σ : Hs) : ru d 46 1 [l0, .ref a1, l2] [w0] σ = ru d 46 2 [l0, .ref a1, l2] [.ref a1, w0] σ := q_aload_n t46_1 rfl
theorem t46_2 : decode (mb 46) 2 = .ok (.getfield 19, 3) := by decide +kernel
theorem s46_2_o16 (d : Nat) (l0 : Value) (l1 : Value) (l2 : Value) (w0 : Value) (σ : Hs) : ru d 46 2 [l0, l1, l2] [.ref 16, w0] σ = ru d 46 5 [l0, l1, l2] [.int (σ 16 1), w0] σ := q_getf t46_2 mo46 F3_19 rfl rfl
theorem s46_2_o18 (d : Nat) (l0 : Value) (l1 : Value) (l2 : Value) (w0 : Value) (σ : Hs) : ru d 46 2 [l0, l1, l2] [.ref 18, w0] σ = ru d 46 5 [l0, l1, l2] [.int (σ 18 1), w0] σ := q_getf t46_2 mo46 F3_19 rfl rfl
theorem s46_2_o20 (d : Nat) (l0 : Value) (l1 : Value) (l2 : Value) (w0 : Value) (σ : Hs) : ru d 46 2 [l0, l1, l2] [.ref 20, w0] σ = ru d 46 5 [l0, l1, l2] [.int (σ 20 1), w0] σ := q_getf t46_2 mo46 F3_19 rfl rfl
theorem s46_2_o22 (d : Nat) (l0 : Value) (l1 : Value) (l2 : Value) (w0 : Value) (σ : Hs) : ru d 46 2 [l0, l1, l2] [.ref 22, w0] σ = ru d 46 5 [l0, l1, l2] [.int (σ 22 1), w0] σ := q_getf t46_2 mo46 F3_19 rfl rfl
theorem s46_2_o24 (d : Nat) (l0 : Value) (l1 : Value) (l2 : Value) (w0 : Value) (σ : Hs) : ru d 46 2 [l0, l1, l2] [.ref 24, w0] σ = ru d 46 5 [l0, l1, l2] [.int (σ 24 1), w0] σ := q_getf t46_2 mo46 F3_19 rfl rfl
theorem s46_2_o26 (d : Nat) (l0 : Value) (l1 : Value) (l2 : Value) (w0 : Value) (σ : Hs) : ru d 46 2 [l0, l1, l2] [.ref 26, w0] σ = ru d 46 5 [l0, l1, l2] [.int (σ 26 1), w0] σ := q_getf t46_2 mo46 F3_19 rfl rfl
theorem s46_2_o28 (d : Nat) (l0 : Value) (l1 : Value) (l2 : Value) (w0 : Value) (σ : Hs) : ru d 46 2 [l0, l1, l2] [.ref 28, w0] σ = ru d 46 5 [l0, l1, l2] [.int (σ 28 1), w0] σ := q_getf t46_2 mo46 F3_19 rfl rfl
theorem s46_2_o45 (d : Nat) (l0 : Value) (l1 : Value) (l2 : Value) (w0 : Value) (σ : Hs) : ru d 46 2 [l0, l1, l2] [.ref 45, w0] σ = ru d 46 5 [l0, l1, l2] [.int (σ 45 1), w0] σ := q_getf t46_2 mo46 F3_19 rfl rfl
theorem s46_2_o47 (d : Nat) (l0 : Value) (l1 : Value) (l2 : Value) (w0 : Value) (σ : Hs) : ru d 46 2 [l0, l1, l2] [.ref 47, w0] σ = ru d 46 5 [l0, l1, l2] [.int (σ 47 1), w0] σ := q_getf t46_2 mo46 F3_19 rfl rfl
theorem s46_2_o49 (d : Nat) (l0 : Value) (l1 : Value) (l2 : Value) (w0 : Value) (σ : Hs) : ru d 46 2 [l0, l1, l2] [.ref 49, w0] σ = ru d 46 5 [l0, l1, l2] [.int (σ 49 1), w0] σ := q_getf t46_2 mo46 F3_19 rfl rfl
theorem s46_2_o51 (d : Nat) (l0 : Value) (l1 : Value) (l2 : Value) (w0 : Value) (σ : Hs) : ru d 46 2 [l0, l1, l2] [.ref 51, w0] σ = ru d 46 5 [l0, l1, l2] [.int (σ 51 1), w0] σ := q_getf t46_2 mo46 F3_19 rfl rfl
theorem s46_2_o53 (d : Nat) (l0 : Value) (l1 : Value) (l2 : Value) (w0 : Value) (σ : Hs) : ru d 46 2 [l0, l1, l2] [.ref 53, w0] σ = ru d 46 5 [l0, l1, l2] [.int (σ 53 1), w0] σ := q_getf t46_2 mo46 F3_19 rfl rfl
theorem s46_2_o55 (d : Nat) (l0 : Value) (l1 : Value) (l2 : Value) (w0 : Value) (σ : Hs) : ru d 46 2 [l0, l1, l2] [.ref 55, w0] σ = ru d 46 5 [l0, l1, l2] [.int (σ 55 1), w0] σ := q_getf t46_2 mo46 F3_19 rfl rfl
theorem s46_2_o57 (d : Nat) (l0 : Value) (l1 : Value) (l2 : Value) (w0 : Value) (σ : Hs) : ru d 46 2 [l0, l1, l2] [.ref 57, w0] σ = ru d 46 5 [l0, l1, l2] [.int (σ 57 1), w0] σ := q_getf t46_2 mo46 F3_19 rfl rfl
theorem s46_2_o71 (d : Nat) (l0 : Value) (l1 : Value) (l2 : Value) (w0 : Value) (σ : Hs) : ru d 46 2 [l0, l1, l2] [.ref 71, w0] σ = ru d 46 5 [l0, l1, l2] [.int (σ 71 1), w0] σ := q_getf t46_2 mo46 F3_19 rfl rfl
theorem t46_5 : decode (mb 46) 5 = .ok (.aload_n 0, 1) := by decide +kernel
theorem s46_5 (d : Nat) (a0 : Nat) (l1 : Value) (l2 : Value) (w0 w1 : Value) (σ : Hs) : ru d 46 5 [.ref a0, l1, l2] [w0, w1] σ = ru d 46 6 [.ref a0, l1, l2] [.ref a0, w0, w1] σ := q_aload_n t46_5 rfl
theorem t46_6 : decode (mb 46) 6 = .ok (.getfield 13, 3) := by decide +kernel
theorem s46_6_o16 (d : Nat) (l0 : Value) (l1 : Value) (l2 : Value) (w0 w1 : Value) (σ : Hs) : ru d 46 6 [l0, l1, l2] [.ref 16, w0, w1] σ = ru d 46 9 [l0, l1, l2] [.ref 17, w0, w1] σ := q_getf t46_6 mo46 F3_13 rfl rfl
theorem s46_6_o18 (d : Nat) (l0 : Value) (l1 : Value) (l2 : Value) (w0 w1 : Value) (σ : Hs) : ru d 46 6 [l0, l1, l2] [.ref 18, w0, w1] σ = ru d 46 9 [l0, l1, l2] [.ref 19, w0, w1] σ := q_getf t46_6 mo46 F3_13 rfl rfl
theorem s46_6_o20 (d : Nat) (l0 : Value) (l1 : Value) (l2 : Value) (w0 w1 : Value) (σ : Hs) : ru d 46 6 [l0, l1, l2] [.ref 20, w0, w1] σ = ru d 46 9 [l0, l1, l2] [.ref 21, w0, w1] σ := q_getf t46_6 mo46 F3_13 rfl rfl
theorem s46_6_o22 (d : Nat) (l0 : Value) (l1 : Value) (l2 : Value) (w0 w1 : Value) (σ : Hs) : ru d 46 6 [l0, l1, l2] [.ref 22, w0, w1] σ = ru d 46 9 [l0, l1, l2] [.ref 23, w0, w1] σ := q_getf t46_6 mo46 F3_13 rfl rfl
theorem s46_6_o24 (d : Nat) (l0 : Value) (l1 : Value) (l2 : Value) (w0 w1 : Value) (σ : Hs) : ru d 46 6 [l0, l1, l2] [.ref 24, w0, w1] σ = ru d 46 9 [l0, l1, l2] [.ref 25, w0, w1] σ := q_getf t46_6 mo46 F3_13 rfl rfl
theorem s46_6_o26 (d : Nat) (l0 : Value) (l1 : Value) (l2 : Value) (w0 w1 : Value) (σ : Hs) : ru d 46 6 [l0, l1, l2] [.ref 26, w0, w1] σ = ru d 46 9 [l0, l1, l2] [.ref 27, w0, w1] σ := q_getf t46_6 mo46 F3_13 rfl rfl
theorem s46_6_o28 (d : Nat) (l0 : Value) (l1 : Value) (l2 : Value) (w0 w1 : Value) (σ : Hs) : ru d 46 6 [l0, l1, l2] [.ref 28, w0, w1] σ = ru d 46 9 [l0, l1, l2] [.ref 29, w0, w1] σ := q_getf t46_6 mo46 F3_13 rfl rfl
theorem s46_6_o45 (d : Nat) (l0 : Value) (l1 : Value) (l2 : Value) (w0 w1 : Value) (σ : Hs) : ru d 46 6 [l0, l1, l2] [.ref 45, w0, w1] σ = ru d 46 9 [l0, l1, l2] [.ref 46, w0, w1] σ := q_getf t46_6 mo46 F3_13 rfl rfl
theorem s46_6_o47 (d : Nat) (l0 : Value) (l1 : Value) (l2 : Value) (w0 w1 : Value) (σ : Hs) : ru d 46 6 [l0, l1, l2] [.ref 47, w0, w1] σ = ru d 46 9 [l0, l1, l2] [.ref 48, w0, w1] σ := q_getf t46_6 mo46 F3_13 rfl rfl
theorem s46_6_o49 (d : Nat) (l0 : Value) (l1 : Value) (l2 : Value) (w0 w1 : Value) (σ : Hs) : ru d 46 6 [l0, l1, l2] [.ref 49, w0, w1] σ = ru d 46 9 [l0, l1, l2] [.ref 50, w0, w1] σ := q_getf t46_6 mo46 F3_13 rfl rfl
theorem s46_6_o51 (d : Nat) (l0 : Value) (l1 : Value) (l2 : Value) (w0 w1 : Value) (σ : Hs) : ru d 46 6 [l0, l1, l2] [.ref 51, w0, w1] σ = ru d 46 9 [l0, l1, l2] [.ref 52, w0, w1] σ := q_getf t46_6 mo46 F3_13 rfl rfl
theorem s46_6_o53 (d : Nat) (l0 : Value) (l1 : Value) (l2 : Value) (w0 w1 : Value) (σ : Hs) : ru d 46 6 [l0, l1, l2] [.ref 53, w0, w1] σ = ru d 46 9 [l0, l1, l2] [.ref 54, w0, w1] σ := q_getf t46_6 mo46 F3_13 rfl rfl
theorem s46_6_o55 (d : Nat) (l0 : Value) (l1 : Value) (l2 : Value) (w0 w1 : Value) (σ : Hs) : ru d 46 6 [l0, l1, l2] [.ref 55, w0, w1] σ = ru d 46 9 [l0, l1, l2] [.ref 56, w0, w1] σ := q_getf t46_6 mo46 F3_13 rfl rfl
theorem s46_6_o57 (d : Nat) (l0 : Value) (l1 : Value) (l2 : Value) (w0 w1 : Value) (σ : Hs) : ru d 46 6 [l0, l1, l2] [.ref 57, w0, w1] σ = ru d 46 9 [l0, l1, l2] [.ref 58, w0, w1] σ := q_getf t46_6 mo46 F3_13 rfl rfl
theorem t46_9 : decode (mb 46) 9 = .ok (.arraylength, 1) := by decide +kernel
theorem s46_9_o17 (d : Nat) (l0 : Value) (l1 : Value) (l2 : Value) (w0 w1 : Value) (σ : Hs) : ru d 46 9 [l0, l1, l2] [.ref 17, w0, w1] σ = ru d 46 10 [l0, l1, l2] [.int 60, w0, w1] σ := q_alei t46_9 (by decide +kernel) rfl (by decide +kernel)
theorem s46_9_o19 (d : Nat) (l0 : Value) (l1 : Value) (l2 : Value) (w0 w1 : Value) (σ : Hs) : ru d 46 9 [l0, l1, l2] [.ref 19, w0, w1] σ = ru d 46 10 [l0, l1, l2] [.int 60, w0, w1] σ := q_alei t46_9 (by decide +kernel) rfl (by decide +kernel)
theorem s46_9_o21 (d : Nat) (l0 : Value) (l1 : Value) (l2 : Value) (w0 w1 : Value) (σ : Hs) : ru d 46 9 [l0, l1, l2] [.ref 21, w0, w1] σ = ru d 46 10 [l0, l1, l2] [.int 60, w0, w1] σ := q_alei t46_9 (by decide +kernel) rfl (by decide +kernel)
theorem s46_9_o23 (d : Nat) (l0 : Value) (l1 : Value) (l2 : Value) (w0 w1 : Value) (σ : Hs) : ru d 46 9 [l0, l1, l2] [.ref 23, w0, w1] σ = ru d 46 10 [l0, l1, l2] [.int 60, w0, w1] σ := q_alei t46_9 (by decide +kernel) rfl (by decide +kernel)
theorem s46_9_o25 (d : Nat) (l0 : Value) (l1 : Value) (l2 : Value) (w0 w1 : Value) (σ : Hs) : ru d 46 9 [l0, l1, l2] [.ref 25, w0, w1] σ = ru d 46 10 [l0, l1, l2] [.int 12, w0, w1] σ := q_alei t46_9 (by decide +kernel) rfl (by decide +kernel)
theorem s46_9_o27 (d : Nat) (l0 : Value) (l1 : Value) (l2 : Value) (w0 w1 : Value) (σ : Hs) : ru d 46 9 [l0, l1, l2] [.ref 27, w0, w1] σ = ru d 46 10 [l0, l1, l2] [.int 12, w0, w1] σ := q_alei t46_9 (by decide +kernel) rfl (by decide +kernel)
theorem s46_9_o29 (d : Nat) (l0 : Value) (l1 : Value) (l2 : Value) (w0 w1 : Value) (σ : Hs) : ru d 46 9 [l0, l1, l2] [.ref 29, w0, w1] σ = ru d 46 10 [l0, l1, l2] [.int 24, w0, w1] σ := q_alei t46_9 (by decide +kernel) rfl (by decide +kernel)
theorem s46_9_o46 (d : Nat) (l0 : Value) (l1 : Value) (l2 : Value) (w0 w1 : Value) (σ : Hs) : ru d 46 9 [l0, l1, l2] [.ref 46, w0, w1] σ = ru d 46 10 [l0, l1, l2] [.int 60, w0, w1] σ := q_alei t46_9 (by decide +kernel) rfl (by decide +kernel)
theorem s46_9_o48 (d : Nat) (l0 : Value) (l1 : Value) (l2 : Value) (w0 w1 : Value) (σ : Hs) : ru d 46 9 [l0, l1, l2] [.ref 48, w0, w1] σ = ru d 46 10 [l0, l1, l2] [.int 60, w0, w1] σ := q_alei t46_9 (by decide +kernel) rfl (by decide +kernel)
theorem s46_9_o50 (d : Nat) (l0 : Value) (l1 : Value) (l2 : Value) (w0 w1 : Value) (σ : Hs) : ru d 46 9 [l0, l1, l2] [.ref 50, w0, w1] σ = ru d 46 10 [l0, l1, l2] [.int 60, w0, w1] σ := q_alei t46_9 (by decide +kernel) rfl (by decide +kernel)
theorem s46_9_o52 (d : Nat) (l0 : Value) (l1 : Value) (l2 : Value) (w0 w1 : Value) (σ : Hs) : ru d 46 9 [l0, l1, l2] [.ref 52, w0, w1] σ = ru d 46 10 [l0, l1, l2] [.int 60, w0, w1] σ := q_alei t46_9 (by decide +kernel) rfl (by decide +kernel)
theorem s46_9_o54 (d : Nat) (l0 : Value) (l1 : Value) (l2 : Value) (w0 w1 : Value) (σ : Hs) : ru d 46 9 [l0, l1, l2] [.ref 54, w0, w1] σ = ru d 46 10 [l0, l1, l2] [.int 12, w0, w1] σ := q_alei t46_9 (by decide +kernel) rfl (by decide +kernel)
theorem s46_9_o56 (d : Nat) (l0 : Value) (l1 : Value) (l2 : Value) (w0 w1 : Value) (σ : Hs) : ru d 46 9 [l0, l1, l2] [.ref 56, w0, w1] σ = ru d 46 10 [l0, l1, l2] [.int 12, w0, w1] σ := q_alei t46_9 (by decide +kernel) rfl (by decide +kernel)
theorem s46_9_o58 (d : Nat) (l0 : Value) (l1 : Value) (l2 : Value) (w0 w1 : Value) (σ : Hs) : ru d 46 9 [l0, l1, l2] [.ref 58, w0, w1] σ = ru d 46 10 [l0, l1, l2] [.int 24, w0, w1] σ := q_alei t46_9 (by decide +kernel) rfl (by decide +kernel)
theorem t46_10 : decode (mb 46) 10 = .ok (.invokestatic 23, 3) := by decide +kernel
theorem s46_10 (d : Nat) (l0 : Value) (l1 : Value) (l2 : Value) (x y : Int32) (w0 : Nat) (σ : Hs) : ru d 46 10 [l0, l1, l2] [.int y, .int x, .ref w0] σ = ru d 46 13 [l0, l1, l2] [.int (jmin x y), .ref w0] σ := q_mi t46_10 mo46 (by decide +kernel) (by decide +kernel) (by decide +kernel) (Nat.le_of_ble_eq_true rfl)
theorem t46_13 : decode (mb 46) 13 = .ok (.putfield 19, 3) := by decide +kernel
theorem s46_13_o16 (d : Nat) (l0 : Value) (l1 : Value) (l2 : Value) (x : Int32) (σ : Hs) : ru d 46 13 [l0, l1, l2] [.int x, .ref 16] σ = ru d 46 16 [l0, l1, l2] [] (up2 σ 16 1 x) := q_puti t46_13 mo46 F3_19 (by decide +kernel) rfl rfl
theorem s46_13_o18 (d : Nat) (l0 : Value) (l1 : Value) (l2 : Value) (x : Int32) (σ : Hs) : ru d 46 13 [l0, l1, l2] [.int x, .ref 18] σ = ru d 46 16 [l0, l1, l2] [] (up2 σ 18 1 x) := q_puti t46_13 mo46 F3_19 (by decide +kernel) rfl rfl
theorem s46_13_o20 (d : Nat) (l0 : Value) (l1 : Value) (l2 : Value) (x : Int32) (σ : Hs) : ru d 46 13 [l0, l1, l2] [.int x, .ref 20] σ = ru d 46 16 [l0, l1, l2] [] (up2 σ 20 1 x) := q_puti t46_13 mo46 F3_19 (by decide +kernel) rfl rfl
theorem s46_13_o22 (d : Nat) (l0 : Value) (l1 : Value) (l2 : Value) (x : Int32) (σ : Hs) : ru d 46 13 [l0, l1, l2] [.int x, .ref 22] σ = ru d 46 16 [l0, l1, l2] [] (up2 σ 22 1 x) := q_puti t46_13 mo46 F3_19 (by decide +kernel) rfl rfl
theorem s46_13_o24 (d : Nat) (l0 : Value) (l1 : Value) (l2 : Value) (x : Int32) (σ : Hs) : ru d 46 13 [l0, l1, l2] [.int x, .ref 24] σ = ru d 46 16 [l0, l1, l2] [] (up2 σ 24 1 x) := q_puti t46_13 mo46 F3_19 (by decide +kernel) rfl rfl
theorem s46_13_o26 (d : Nat) (l0 : Value) (l1 : Value) (l2 : Value) (x : Int32) (σ : Hs) : ru d 46 13 [l0, l1, l2] [.int x, .ref 26] σ = ru d 46 16 [l0, l1, l2] [] (up2 σ 26 1 x) := q_puti t46_13 mo46 F3_19 (by decide +kernel) rfl rfl
theorem s46_13_o28 (d : Nat) (l0 : Value) (l1 : Value) (l2 : Value) (x : Int32) (σ : Hs) : ru d 46 13 [l0, l1, l2] [.int x, .ref 28] σ = ru d 46 16 [l0, l1, l2] [] (up2 σ 28 1 x) := q_puti t46_13 mo46 F3_19 (by decide +kernel) rfl rfl
theorem s46_13_o45 (d : Nat) (l0 : Value) (l1 : Value) (l2 : Value) (x : Int32) (σ : Hs) : ru d 46 13 [l0, l1, l2] [.int x, .ref 45] σ = ru d 46 16 [l0, l1, l2] [] (up2 σ 45 1 x) := q_puti t46_13 mo46 F3_19 (by decide +kernel) rfl rfl
theorem s46_13_o47 (d : Nat) (l0 : Value) (l1 : Value) (l2 : Value) (x : Int32) (σ : Hs) : ru d 46 13 [l0, l1, l2] [.int x, .ref 47] σ = ru d 46 16 [l0, l1, l2] [] (up2 σ 47 1 x) := q_puti t46_13 mo46 F3_19 (by decide +kernel) rfl rfl
theorem s46_13_o49 (d : Nat) (l0 : Value) (l1 : Value) (l2 : Value) (x : Int32) (σ : Hs) : ru d 46 13 [l0, l1, l2] [.int x, .ref 49] σ = ru d 46 16 [l0, l1, l2] [] (up2 σ 49 1 x) := q_puti t46_13 mo46 F3_19 (by decide +kernel) rfl rfl
theorem s46_13_o51 (d : Nat) (l0 : Value) (l1 : Value) (l2 : Value) (x : Int32) (σ : Hs) : ru d 46 13 [l0, l1, l2] [.int x, .ref 51] σ = ru d 46 16 [l0, l1, l2] [] (up2 σ 51 1 x) := q_puti t46_13 mo46 F3_19 (by decide +kernel) rfl rfl
theorem s46_13_o53 (d : Nat) (l0 : Value) (l1 : Value) (l2 : Value) (x : Int32) (σ : Hs) : ru d 46 13 [l0, l1, l2] [.int x, .ref 53] σ = ru d 46 16 [l0, l1, l2] [] (up2 σ 53 1 x) := q_puti t46_13 mo46 F3_19 (by decide +kernel) rfl rfl
theorem s46_13_o55 (d : Nat) (l0 : Value) (l1 : Value) (l2 : Value) (x : Int32) (σ : Hs) : ru d 46 13 [l0, l1, l2] [.int x, .ref 55] σ = ru d 46 16 [l0, l1, l2] [] (up2 σ 55 1 x) := q_puti t46_13 mo46 F3_19 (by decide +kernel) rfl rfl
theorem s46_13_o57 (d : Nat) (l0 : Value) (l1 : Value) (l2 : Value) (x : Int32) (σ : Hs) : ru d 46 13 [l0, l1, l2] [.int x, .ref 57] σ = ru d 46 16 [l0, l1, l2] [] (up2 σ 57 1 x) := q_puti t46_13 mo46 F3_19 (by decide +kernel) rfl rfl
theorem t46_16 : decode (mb 46) 16 = .ok (.iconst 0, 1) := by decide +kernel
theorem s46_16 (d : Nat) (l0 : Value) (l1 : Value) (l2 : Value) (σ : Hs) : ru d 46 16 [l0, l1, l2] [] σ = ru d 46 17 [l0, l1, l2] [.int 0] σ := q_iconst t46_16 (by decide +kernel)
theorem t46_17 : decode (mb 46) 17 = .ok (.istore_n 2, 1) := by decide +kernel
theorem s46_17 (d : Nat) (l0 : Value) (a1 : Nat) (l2 : Value) (x : Int32) (σ : Hs) : ru d 46 17 [l0, .ref a1, l2] [.int x] σ = ru d 46 18 [l0, .ref a1, .int x] [] σ := q_istore_n t46_17 ⟨Nat.le_of_ble_eq_true rfl, rfl⟩ rfl
theorem t46_18 : decode (mb 46) 18 = .ok (.iload_n 2, 1) := by decide +kernel
theorem s46_18 (d : Nat) (l0 : Value) (l1 : Value) (i2 : Int32) (σ : Hs) : ru d 46 18 [l0, l1, .int i2] [] σ = ru d 46 19 [l0, l1, .int i2] [.int i2] σ := q_iload_n t46_18 rfl
theorem t46_19 : decode (mb 46) 19 = .ok (.aload_n 0, 1) := by decide +kernel
theorem s46_19 (d : Nat) (a0 : Nat) (l1 : Value) (l2 : Value) (w0 : Value) (σ : Hs) : ru d 46 19 [.ref a0, l1, l2] [w0] σ = ru d 46 20 [.ref a0, l1, l2] [.ref a0, w0] σ := q_aload_n t46_19 rfl
theorem t46_20 : decode (mb 46) 20 = .ok (.getfield 19, 3) := by decide +kernel
theorem s46_20_o16 (d : Nat) (l0 : Value) (l1 : Value) (l2 : Value) (w0 : Value) (σ : Hs) : ru d 46 20 [l0, l1, l2] [.ref 16, w0] σ = ru d 46 23 [l0, l1, l2] [.int (σ 16 1), w0] σ := q_getf t46_20 mo46 F3_19 rfl rfl
theorem s46_20_o18 (d : Nat) (l0 : Value) (l1 : Value) (l2 : Value) (w0 : Value) (σ : Hs) : ru d 46 20 [l0, l1, l2] [.ref 18, w0] σ = ru d 46 23 [l0, l1, l2] [.int (σ 18 1), w0] σ := q_getf t46_20 mo46 F3_19 rfl rfl
theorem s46_20_o20 (d : Nat) (l0 : Value) (l1 : Value) (l2 : Value) (w0 : Value) (σ : Hs) : ru d 46 20 [l0, l1, l2] [.ref 20, w0] σ = ru d 46 23 [l0, l1, l2] [.int (σ 20 1), w0] σ := q_getf t46_20 mo46 F3_19 rfl rfl
theorem s46_20_o22 (d : Nat) (l0 : Value) (l1 : Value) (l2 : Value) (w0 : Value) (σ : Hs) : ru d 46 20 [l0, l1, l2] [.ref 22, w0] σ = ru d 46 23 [l0, l1, l2] [.int (σ 22 1), w0] σ := q_getf t46_20 mo46 F3_19 rfl rfl
theorem s46_20_o24 (d : Nat) (l0 : Value) (l1 : Value) (l2 : Value) (w0 : Value) (σ : Hs) : ru d 46 20 [l0, l1, l2] [.ref 24, w0] σ = ru d 46 23 [l0, l1, l2] [.int (σ 24 1), w0] σ := q_getf t46_20 mo46 F3_19 rfl rfl
theorem s46_20_o26 (d : Nat) (l0 : Value) (l1 : Value) (l2 : Value) (w0 : Value) (σ : Hs) : ru d 46 20 [l0, l1, l2] [.ref 26, w0] σ = ru d 46 23 [l0, l1, l2] [.int (σ 26 1), w0] σ := q_getf t46_20 mo46 F3_19 rfl rfl
theorem s46_20_o28 (d : Nat) (l0 : Value) (l1 : Value) (l2 : Value) (w0 : Value) (σ : Hs) : ru d 46 20 [l0, l1, l2] [.ref 28, w0] σ = ru d 46 23 [l0, l1, l2] [.int (σ 28 1), w0] σ := q_getf t46_20 mo46 F3_19 rfl rfl
theorem s46_20_o45 (d : Nat) (l0 : Value) (l1 : Value) (l2 : Value) (w0 : Value) (σ : Hs) : ru d 46 20 [l0, l1, l2] [.ref 45, w0] σ = ru d 46 23 [l0, l1, l2] [.int (σ 45 1), w0] σ := q_getf t46_20 mo46 F3_19 rfl rfl
theorem s46_20_o47 (d : Nat) (l0 : Value) (l1 : Value) (l2 : Value) (w0 : Value) (σ : Hs) : ru d 46 20 [l0, l1, l2] [.ref 47, w0] σ = ru d 46 23 [l0, l1, l2] [.int (σ 47 1), w0] σ := q_getf t46_20 mo46 F3_19 rfl rfl
theorem s46_20_o49 (d : Nat) (l0 : Value) (l1 : Value) (l2 : Value) (w0 : Value) (σ : Hs) : ru d 46 20 [l0, l1, l2] [.ref 49, w0] σ = ru d 46 23 [l0, l1, l2] [.int (σ 49 1), w0] σ := q_getf t46_20 mo46 F3_19 rfl rfl
theorem s46_20_o51 (d : Nat) (l0 : Value) (l1 : Value) (l2 : Value) (w0 : Value) (σ : Hs) : ru d 46 20 [l0, l1, l2] [.ref 51, w0] σ = ru d 46 23 [l0, l1, l2] [.int (σ 51 1), w0] σ := q_getf t46_20 mo46 F3_19 rfl rfl
theorem s46_20_o53 (d : Nat) (l0 : Value) (l1 : Value) (l2 : Value) (w0 : Value) (σ : Hs) : ru d 46 20 [l0, l1, l2] [.ref 53, w0] σ = ru d 46 23 [l0, l1, l2] [.int (σ 53 1), w0] σ := q_getf t46_20 mo46 F3_19 rfl rfl
theorem s46_20_o55 (d : Nat) (l0 : Value) (l1 : Value) (l2 : Value) (w0 : Value) (σ : Hs) : ru d 46 20 [l0, l1, l2] [.ref 55, w0] σ = ru d 46 23 [l0, l1, l2] [.int (σ 55 1), w0] σ := q_getf t46_20 mo46 F3_19 rfl rfl
theorem s46_20_o57 (d : Nat) (l0 : Value) (l1 : Value) (l2 : Value) (w0 : Value) (σ : Hs) : ru d 46 20 [l0, l1, l2] [.ref 57, w0] σ = ru d 46 23 [l0, l1, l2] [.int (σ 57 1), w0] σ := q_getf t46_20 mo46 F3_19 rfl rfl
theorem t46_23 : decode (mb 46) 23 = .ok (.if_icmp .ge 21, 3) := by decide +kernel
theorem s46_23 (d : Nat) (l0 : Value) (l1 : Value) (l2 : Value) (x y : Int32) (σ : Hs) : ru d 46 23 [l0, l1, l2] [.int y, .int x] σ = if y ≤ x then ru d 46 44 [l0, l1, l2] [] σ else ru d 46 26 [l0, l1, l2] [] σ := q_ic_ge t46_23 (by decide +kernel)
theorem t46_26 : decode (mb 46) 26 = .ok (.aload_n 0, 1) := by decide +kernel
theorem s46_26 (d : Nat) (a0 : Nat) (l1 : Value) (l2 : Value) (σ : Hs) : ru d 46 26 [.ref a0, l1, l2] [] σ = ru d 46 27 [.ref a0, l1, l2] [.ref a0] σ := q_aload_n t46_26 rfl
theorem t46_27 : decode (mb 46) 27 = .ok (.getfield 13, 3) := by decide +kernel
theorem s46_27_o16 (d : Nat) (l0 : Value) (l1 : Value) (l2 : Value) (σ : Hs) : ru d 46 27 [l0, l1, l2] [.ref 16] σ = ru d 46 30 [l0, l1, l2] [.ref 17] σ := q_getf t46_27 mo46 F3_13 rfl rfl
theorem s46_27_o18 (d : Nat) (l0 : Value) (l1 : Value) (l2 : Value) (σ : Hs) : ru d 46 27 [l0, l1, l2] [.ref 18] σ = ru d 46 30 [l0, l1, l2] [.ref 19] σ := q_getf t46_27 mo46 F3_13 rfl rfl
theorem s46_27_o20 (d : Nat) (l0 : Value) (l1 : Value) (l2 : Value) (σ : Hs) : ru d 46 27 [l0, l1, l2] [.ref 20] σ = ru d 46 30 [l0, l1, l2] [.ref 21] σ := q_getf t46_27 mo46 F3_13 rfl rfl
theorem s46_27_o22 (d : Nat) (l0 : Value) (l1 : Value) (l2 : Value) (σ : Hs) : ru d 46 27 [l0, l1, l2] [.ref 22] σ = ru d 46 30 [l0, l1, l2] [.ref 23] σ := q_getf t46_27 mo46 F3_13 rfl rfl
theorem s46_27_o24 (d : Nat) (l0 : Value) (l1 : Value) (l2 : Value) (σ : Hs) : ru d 46 27 [l0, l1, l2] [.ref 24] σ = ru d 46 30 [l0, l1, l2] [.ref 25] σ := q_getf t46_27 mo46 F3_13 rfl rfl
theorem s46_27_o26 (d : Nat) (l0 : Value) (l1 : Value) (l2 : Value) (σ : Hs) : ru d 46 27 [l0, l1, l2] [.ref 26] σ = ru d 46 30 [l0, l1, l2] [.ref 27] σ := q_getf t46_27 mo46 F3_13 rfl rfl
theorem s46_27_o28 (d : Nat) (l0 : Value) (l1 : Value) (l2 : Value) (σ : Hs) : ru d 46 27 [l0, l1, l2] [.ref 28] σ = ru d 46 30 [l0, l1, l2] [.ref 29] σ := q_getf t46_27 mo46 F3_13 rfl rfl
theorem s46_27_o45 (d : Nat) (l0 : Value) (l1 : Value) (l2 : Value) (σ : Hs) : ru d 46 27 [l0, l1, l2] [.ref 45] σ = ru d 46 30 [l0, l1, l2] [.ref 46] σ := q_getf t46_27 mo46 F3_13 rfl rfl
theorem s46_27_o47 (d : Nat) (l0 : Value) (l1 : Value) (l2 : Value) (σ : Hs) : ru d 46 27 [l0, l1, l2] [.ref 47] σ = ru d 46 30 [l0, l1, l2] [.ref 48] σ := q_getf t46_27 mo46 F3_13 rfl rfl
theorem s46_27_o49 (d : Nat) (l0 : Value) (l1 : Value) (l2 : Value) (σ : Hs) : ru d 46 27 [l0, l1, l2] [.ref 49] σ = ru d 46 30 [l0, l1, l2] [.ref 50] σ := q_getf t46_27 mo46 F3_13 rfl rfl
theorem s46_27_o51 (d : Nat) (l0 : Value) (l1 : Value) (l2 : Value) (σ : Hs) : ru d 46 27 [l0, l1, l2] [.ref 51] σ = ru d 46 30 [l0, l1, l2] [.ref 52] σ := q_getf t46_27 mo46 F3_13 rfl rfl
theorem s46_27_o53 (d : Nat) (l0 : Value) (l1 : Value) (l2 : Value) (σ : Hs) : ru d 46 27 [l0, l1, l2] [.ref 53] σ = ru d 46 30 [l0, l1, l2] [.ref 54] σ := q_getf t46_27 mo46 F3_13 rfl rfl
theorem s46_27_o55 (d : Nat) (l0 : Value) (l1 : Value) (l2 : Value) (σ : Hs) : ru d 46 27 [l0, l1, l2] [.ref 55] σ = ru d 46 30 [l0, l1, l2] [.ref 56] σ := q_getf t46_27 mo46 F3_13 rfl rfl
theorem s46_27_o57 (d : Nat) (l0 : Value) (l1 : Value) (l2 : Value) (σ : Hs) : ru d 46 27 [l0, l1, l2] [.ref 57] σ = ru d 46 30 [l0, l1, l2] [.ref 58] σ := q_getf t46_27 mo46 F3_13 rfl rfl
theorem t46_30 : decode (mb 46) 30 = .ok (.iload_n 2, 1) := by decide +kernel
theorem s46_30 (d : Nat) (l0 : Value) (l1 : Value) (i2 : Int32) (w0 : Value) (σ : Hs) : ru d 46 30 [l0, l1, .int i2] [w0] σ = ru d 46 31 [l0, l1, .int i2] [.int i2, w0] σ := q_iload_n t46_30 rfl
theorem t46_31 : decode (mb 46) 31 = .ok (.aload_n 1, 1) := by decide +kernel
theorem s46_31 (d : Nat) (l0 : Value) (a1 : Nat) (l2 : Value) (w0 w1 : Value) (σ : Hs) : ru d 46 31 [l0, .ref a1, l2] [w0, w1] σ = ru d 46 32 [l0, .ref a1, l2] [.ref a1, w0, w1] σ := q_aload_n t46_31 rfl
theorem t46_32 : decode (mb 46) 32 = .ok (.getfield 13, 3) := by decide +kernel
theorem s46_32_o16 (d : Nat) (l0 : Value) (l1 : Value) (l2 : Value) (w0 w1 : Value) (σ : Hs) : ru d 46 32 [l0, l1, l2] [.ref 16, w0, w1] σ = ru d 46 35 [l0, l1, l2] [.ref 17, w0, w1] σ := q_getf t46_32 mo46 F3_13 rfl rfl
theorem s46_32_o18 (d : Nat) (l0 : Value) (l1 : Value) (l2 : Value) (w0 w1 : Value) (σ : Hs) : ru d 46 32 [l0, l1, l2] [.ref 18, w0, w1] σ = ru d 46 35 [l0, l1, l2] [.ref 19, w0, w1] σ := q_getf t46_32 mo46 F3_13 rfl rfl
theorem s46_32_o20 (d : Nat) (l0 : Value) (l1 : Value) (l2 : Value) (w0 w1 : Value) (σ : Hs) : ru d 46 32 [l0, l1, l2] [.ref 20, w0, w1] σ = ru d 46 35 [l0, l1, l2] [.ref 21, w0, w1] σ := q_getf t46_32 mo46 F3_13 rfl rfl
theorem s46_32_o22 (d : Nat) (l0 : Value) (l1 : Value) (l2 : Value) (w0 w1 : Value) (σ : Hs) : ru d 46 32 [l0, l1, l2] [.ref 22, w0, w1] σ = ru d 46 35 [l0, l1, l2] [.ref 23, w0, w1] σ := q_getf t46_32 mo46 F3_13 rfl rfl
theorem s46_32_o24 (d : Nat) (l0 : Value) (l1 : Value) (l2 : Value) (w0 w1 : Value) (σ : Hs) : ru d 46 32 [l0, l1, l2] [.ref 24, w0, w1] σ = ru d 46 35 [l0, l1, l2] [.ref 25, w0, w1] σ := q_getf t46_32 mo46 F3_13 rfl rfl
theorem s46_32_o26 (d : Nat) (l0 : Value) (l1 : Value) (l2 : Value) (w0 w1 : Value) (σ : Hs) : ru d 46 32 [l0, l1, l2] [.ref 26, w0, w1] σ = ru d 46 35 [l0, l1, l2] [.ref 27, w0, w1] σ := q_getf t46_32 mo46 F3_13 rfl rfl
theorem s46_32_o28 (d : Nat) (l0 : Value) (l1 : Value) (l2 : Value) (w0 w1 : Value) (σ : Hs) : ru d 46 32 [l0, l1, l2] [.ref 28, w0, w1] σ = ru d 46 35 [l0, l1, l2] [.ref 29, w0, w1] σ := q_getf t46_32 mo46 F3_13 rfl rfl
theorem s46_32_o45 (d : Nat) (l0 : Value) (l1 : Value) (l2 : Value) (w0 w1 : Value) (σ : Hs) : ru d 46 32 [l0, l1, l2] [.ref 45, w0, w1] σ = ru d 46 35 [l0, l1, l2] [.ref 46, w0, w1] σ := q_getf t46_32 mo46 F3_13 rfl rfl
theorem s46_32_o47 (d : Nat) (l0 : Value) (l1 : Value) (l2 : Value) (w0 w1 : Value) (σ : Hs) : ru d 46 32 [l0, l1, l2] [.ref 47, w0, w1] σ = ru d 46 35 [l0, l1, l2] [.ref 48, w0, w1] σ := q_getf t46_32 mo46 F3_13 rfl rfl
theorem s46_32_o49 (d : Nat) (l0 : Value) (l1 : Value) (l2 : Value) (w0 w1 : Value) (σ : Hs) : ru d 46 32 [l0, l1, l2] [.ref 49, w0, w1] σ = ru d 46 35 [l0, l1, l2] [.ref 50, w0, w1] σ := q_getf t46_32 mo46 F3_13 rfl rfl
theorem s46_32_o51 (d : Nat) (l0 : Value) (l1 : Value) (l2 : Value) (w0 w1 : Value) (σ : Hs) : ru d 46 32 [l0, l1, l2] [.ref 51, w0, w1] σ = ru d 46 35 [l0, l1, l2] [.ref 52, w0, w1] σ := q_getf t46_32 mo46 F3_13 rfl rfl
theorem s46_32_o53 (d : Nat) (l0 : Value) (l1 : Value) (l2 : Value) (w0 w1 : Value) (σ : Hs) : ru d 46 32 [l0, l1, l2] [.ref 53, w0, w1] σ = ru d 46 35 [l0, l1, l2] [.ref 54, w0, w1] σ := q_getf t46_32 mo46 F3_13 rfl rfl
theorem s46_32_o55 (d : Nat) (l0 : Value) (l1 : Value) (l2 : Value) (w0 w1 : Value) (σ : Hs) : ru d 46 32 [l0, l1, l2] [.ref 55, w0, w1] σ = ru d 46 35 [l0, l1, l2] [.ref 56, w0, w1] σ := q_getf t46_32 mo46 F3_13 rfl rfl
theorem s46_32_o57 (d : Nat) (l0 : Value) (l1 : Value) (l2 : Value) (w0 w1 : Value) (σ : Hs) : ru d 46 32 [l0, l1, l2] [.ref 57, w0, w1] σ = ru d 46 35 [l0, l1, l2] [.ref 58, w0, w1] σ := q_getf t46_32 mo46 F3_13 rfl rfl
theorem s46_32_o71 (d : Nat) (l0 : Value) (l1 : Value) (l2 : Value) (w0 w1 : Value) (σ : Hs) : ru d 46 32 [l0, l1, l2] [.ref 71, w0, w1] σ = ru d 46 35 [l0, l1, l2] [.ref 72, w0, w1] σ := q_getf t46_32 mo46 F3_13 rfl rfl
theorem t46_35 : decode (mb 46) 35 = .ok (.iload_n 2, 1) := by decide +kernel
theorem s46_35 (d : Nat) (l0 : Value) (l1 : Value) (i2 : Int32) (w0 w1 w2 : Value) (σ : Hs) : ru d 46 35 [l0, l1, .int i2] [w0, w1, w2] σ = ru d 46 36 [l0, l1, .int i2] [.int i2, w0, w1, w2] σ := q_iload_n t46_35 rfl
theorem t46_36 : decode (mb 46) 36 = .ok (.iaload, 1) := by decide +kernel
theorem s46_36_o17 (d : Nat) (l0 : Value) (l1 : Value) (l2 : Value) (i : Int32) (w0 w1 : Value) (σ : Hs) : ru d 46 36 [l0, l1, l2] [.int i, .ref 17, w0, w1] σ = gd (vp_in i 60) (ru d 46 37 [l0, l1, l2] [.int (σ 17 i.toNatClampNeg), w0, w1] σ) := q_iald t46_36 rfl (by decide +kernel) rfl
theorem s46_36_o19 (d : Nat) (l0 : Value) (l1 : Value) (l2 : Value) (i : Int32) (w0 w1 : Value) (σ : Hs) : ru d 46 36 [l0, l1, l2] [.int i, .ref 19, w0, w1] σ = gd (vp_in i 60) (ru d 46 37 [l0, l1, l2] [.int (σ 19 i.toNatClampNeg), w0, w1] σ) := q_iald t46_36 rfl (by decide +kernel) rfl
theorem s46_36_o21 (d : Nat) (l0 : Value) (l1 : Value) (l2 : Value) (i : Int32) (w0 w1 : Value) (σ : Hs) : ru d 46 36 [l0, l1, l2] [.int i, .ref 21, w0, w1] σ = gd (vp_in i 60) (ru d 46 37 [l0, l1, l2] [.int (σ 21 i.toNatClampNeg), w0, w1] σ) := q_iald t46_36 rfl (by decide +kernel) rfl
theorem s46_36_o23 (d : Nat) (l0 : Value) (l1 : Value) (l2 : Value) (i : Int32) (w0 w1 : Value) (σ : Hs) : ru d 46 36 [l0, l1, l2] [.int i, .ref 23, w0, w1] σ = gd (vp_in i 60) (ru d 46 37 [l0, l1, l2] [.int (σ 23 i.toNatClampNeg), w0, w1] σ) := q_iald t46_36 rfl (by decide +kernel) rfl
theorem s46_36_o25 (d : Nat) (l0 : Value) (l1 : Value) (l2 : Value) (i : Int32) (w0 w1 : Value) (σ : Hs) : ru d 46 36 [l0, l1, l2] [.int i, .ref 25, w0, w1] σ = gd (vp_in i 12) (ru d 46 37 [l0, l1, l2] [.int (σ 25 i.toNatClampNeg), w0, w1] σ) := q_iald t46_36 rfl (by decide +kernel) rfl
theorem s46_36_o27 (d : Nat) (l0 : Value) (l1 : Value) (l2 : Value) (i : Int32) (w0 w1 : Value) (σ : Hs) : ru d 46 36 [l0, l1, l2] [.int i, .ref 27, w0, w1] σ = gd (vp_in i 12) (ru d 46 37 [l0, l1, l2] [.int (σ 27 i.toNatClampNeg), w0, w1] σ) := q_iald t46_36 rfl (by decide +kernel) rfl
theorem s46_36_o29 (d : Nat) (l0 : Value) (l1 : Value) (l2 : Value) (i : Int32) (w0 w1 : Value) (σ : Hs) : ru d 46 36 [l0, l1, l2] [.int i, .ref 29, w0, w1] σ = gd (vp_in i 24) (ru d 46 37 [l0, l1, l2] [.int (σ 29 i.toNatClampNeg), w0, w1] σ) := q_iald t46_36 rfl (by decide +kernel) rfl
theorem s46_36_o46 (d : Nat) (l0 : Value) (l1 : Value) (l2 : Value) (i : Int32) (w0 w1 : Value) (σ : Hs) : ru d 46 36 [l0, l1, l2] [.int i, .ref 46, w0, w1] σ = gd (vp_in i 60) (ru d 46 37 [l0, l1, l2] [.int (σ 46 i.toNatClampNeg), w0, w1] σ) := q_iald t46_36 rfl (by decide +kernel) rfl
theorem s46_36_o48 (d : Nat) (l0 : Value) (l1 : Value) (l2 : Value) (i : Int32) (w0 w1 : Value) (σ : Hs) : ru d 46 36 [l0, l1, l2] [.int i, .ref 48, w0, w1] σ = gd (vp_in i 60) (ru d 46 37 [l0, l1, l2] [.int (σ 48 i.toNatClampNeg), w0, w1] σ) := q_iald t46_36 rfl (by decide +kernel) rfl
theorem s46_36_o50 (d : Nat) (l0 : Value) (l1 : Value) (l2 : Value) (i : Int32) (w0 w1 : Value) (σ : Hs) : ru d 46 36 [l0, l1, l2] [.int i, .ref 50, w0, w1] σ = gd (vp_in i 60) (ru d 46 37 [l0, l1, l2] [.int (σ 50 i.toNatClampNeg), w0, w1] σ) := q_iald t46_36 rfl (by decide +kernel) rfl
theorem s46_36_o52 (d : Nat) (l0 : Value) (l1 : Value) (l2 : Value) (i : Int32) (w0 w1 : Value) (σ : Hs) : ru d 46 36 [l0, l1, l2] [.int i, .ref 52, w0, w1] σ = gd (vp_in i 60) (ru d 46 37 [l0, l1, l2] [.int (σ 52 i.toNatClampNeg), w0, w1] σ) := q_iald t46_36 rfl (by decide +kernel) rfl
theorem s46_36_o54 (d : Nat) (l0 : Value) (l1 : Value) (l2 : Value) (i : Int32) (w0 w1 : Value) (σ : Hs) : ru d 46 36 [l0, l1, l2] [.int i, .ref 54, w0, w1] σ = gd (vp_in i 12) (ru d 46 37 [l0, l1, l2] [.int (σ 54 i.toNatClampNeg), w0, w1] σ) := q_iald t46_36 rfl (by decide +kernel) rfl
theorem s46_36_o56 (d : Nat) (l0 : Value) (l1 : Value) (l2 : Value) (i : Int32) (w0 w1 : Value) (σ : Hs) : ru d 46 36 [l0, l1, l2] [.int i, .ref 56, w0, w1] σ = gd (vp_in i 12) (ru d 46 37 [l0, l1, l2] [.int (σ 56 i.toNatClampNeg), w0, w1] σ) := q_iald t46_36 rfl (by decide +kernel) rfl
theorem s46_36_o58 (d : Nat) (l0 : Value) (l1 : Value) (l2 : Value) (i : Int32) (w0 w1 : Value) (σ : Hs) : ru d 46 36 [l0, l1, l2] [.int i, .ref 58, w0, w1] σ = gd (vp_in i 24) (ru d 46 37 [l0, l1, l2] [.int (σ 58 i.toNatClampNeg), w0, w1] σ) := q_iald t46_36 rfl (by decide +kernel) rfl
theorem s46_36_o72 (d : Nat) (l0 : Value) (l1 : Value) (l2 : Value) (i : Int32) (w0 w1 : Value) (σ : Hs) : ru d 46 36 [l0, l1, l2] [.int i, .ref 72, w0, w1] σ = gd (vp_in i 60) (ru d 46 37 [l0, l1, l2] [.int (σ 72 i.toNatClampNeg), w0, w1] σ) := q_iald t46_36 rfl (by decide +kernel) rfl
theorem t46_37 : decode (mb 46) 37 = .ok (.iastore, 1) := by decide +kernel
theorem s46_37_o17 (d : Nat) (l0 : Value) (l1 : Value) (l2 : Value) (i x : Int32) (σ : Hs) : ru d 46 37 [l0, l1, l2] [.int x, .int i, .ref 17] σ = gd (vp_in i 60) (ru d 46 38 [l0, l1, l2] [] (up2 σ 17 i.toNatClampNeg x)) := q_iast t46_37 (by decide +kernel) rfl rfl
theorem s46_37_o19 (d : Nat) (l0 : Value) (l1 : Value) (l2 : Value) (i x : Int32) (σ : Hs) : ru d 46 37 [l0, l1, l2] [.int x, .int i, .ref 19] σ = gd (vp_in i 60) (ru d 46 38 [l0, l1, l2] [] (up2 σ 19 i.toNatClampNeg x)) := q_iast t46_37 (by decide +kernel) rfl rfl
theorem s46_37_o21 (d : Nat) (l0 : Value) (l1 : Value) (l2 : Value) (i x : Int32) (σ : Hs) : ru d 46 37 [l0, l1, l2] [.int x, .int i, .ref 21] σ = gd (vp_in i 60) (ru d 46 38 [l0, l1, l2] [] (up2 σ 21 i.toNatClampNeg x)) := q_iast t46_37 (by decide +kernel) rfl rfl
theorem s46_37_o23 (d : Nat) (l0 : Value) (l1 : Value) (l2 : Value) (i x : Int32) (σ : Hs) : ru d 46 37 [l0, l1, l2] [.int x, .int i, .ref 23] σ = gd (vp_in i 60) (ru d 46 38 [l0, l1, l2] [] (up2 σ 23 i.toNatClampNeg x)) := q_iast t46_37 (by decide +kernel) rfl rfl
theorem s46_37_o25 (d : Nat) (l0 : Value) (l1 : Value) (l2 : Value) (i x : Int32) (σ : Hs) : ru d 46 37 [l0, l1, l2] [.int x, .int i, .ref 25] σ = gd (vp_in i 12) (ru d 46 38 [l0, l1, l2] [] (up2 σ 25 i.toNatClampNeg x)) := q_iast t46_37 (by decide +kernel) rfl rfl
theorem s46_37_o27 (d : Nat) (l0 : Value) (l1 : Value) (l2 : Value) (i x : Int32) (σ : Hs) : ru d 46 37 [l0, l1, l2] [.int x, .int i, .ref 27] σ = gd (vp_in i 12) (ru d 46 38 [l0, l1, l2] [] (up2 σ 27 i.toNatClampNeg x)) := q_iast t46_37 (by decide +kernel) rfl rfl
theorem s46_37_o29 (d : Nat) (l0 : Value) (l1 : Value) (l2 : Value) (i x : Int32) (σ : Hs) : ru d 46 37 [l0, l1, l2] [.int x, .int i, .ref 29] σ = gd (vp_in i 24) (ru d 46 38 [l0, l1, l2] [] (up2 σ 29 i.toNatClampNeg x)) := q_iast t46_37 (by decide +kernel) rfl rfl
theorem s46_37_o46 (d : Nat) (l0 : Value) (l1 : Value) (l2 : Value) (i x : Int32) (σ : Hs) : ru d 46 37 [l0, l1, l2] [.int x, .int i, .ref 46] σ = gd (vp_in i 60) (ru d 46 38 [l0, l1, l2] [] (up2 σ 46 i.toNatClampNeg x)) := q_iast t46_37 (by decide +kernel) rfl rfl
theorem s46_37_o48 (d : Nat) (l0 : Value) (l1 : Value) (l2 : Value) (i x : Int32) (σ : Hs) : ru d 46 37 [l0, l1, l2] [.int x, .int i, .ref 48] σ = gd (vp_in i 60) (ru d 46 38 [l0, l1, l2] [] (up2 σ 48 i.toNatClampNeg x)) := q_iast t46_37 (by decide +kernel) rfl rfl
theorem s46_37_o50 (d : Nat) (l0 : Value) (l1 : Value) (l2 : Value) (i x : Int32) (σ : Hs) : ru d 46 37 [l0, l1, l2] [.int x, .int i, .ref 50] σ = gd (vp_in i 60) (ru d 46 38 [l0, l1, l2] [] (up2 σ 50 i.toNatClampNeg x)) := q_iast t46_37 (by decide +kernel) rfl rfl
theorem s46_37_o52 (d : Nat) (l0 : Value) (l1 : Value) (l2 : Value) (i x : Int32) (σ : Hs) : ru d 46 37 [l0, l1, l2] [.int x, .int i, .ref 52] σ = gd (vp_in i 60) (ru d 46 38 [l0, l1, l2] [] (up2 σ 52 i.toNatClampNeg x)) := q_iast t46_37 (by decide +kernel) rfl rfl
theorem s46_37_o54 (d : Nat) (l0 : Value) (l1 : Value) (l2 : Value) (i x : Int32) (σ : Hs) : ru d 46 37 [l0, l1, l2] [.int x, .int i, .ref 54] σ = gd (vp_in i 12) (ru d 46 38 [l0, l1, l2] [] (up2 σ 54 i.toNatClampNeg x)) := q_iast t46_37 (by decide +kernel) rfl rfl
theorem s46_37_o56 (d : Nat) (l0 : Value) (l1 : Value) (l2 : Value) (i x : Int32) (σ : Hs) : ru d 46 37 [l0, l1, l2] [.int x, .int i, .ref 56] σ = gd (vp_in i 12) (ru d 46 38 [l0, l1, l2] [] (up2 σ 56 i.toNatClampNeg x)) := q_iast t46_37 (by decide +kernel) rfl rfl
theorem s46_37_o58 (d : Nat) (l0 : Value) (l1 : Value) (l2 : Value) (i x : Int32) (σ : Hs) : ru d 46 37 [l0, l1, l2] [.int x, .int i, .ref 58] σ = gd (vp_in i 24) (ru d 46 38 [l0, l1, l2] [] (up2 σ 58 i.toNatClampNeg x)) := q_iast t46_37 (by decide +kernel) rfl rfl
theorem t46_38 : decode (mb 46) 38 = .ok (.iinc 2 1, 3) := by decide +kernel
theorem s46_38 (d : Nat) (l0 : Value) (a1 : Nat) (i2 : Int32) (σ : Hs) : ru d 46 38 [l0, .ref a1, .int i2] [] σ = ru d 46 41 [l0, .ref a1, .int (i2 + 1)] [] σ := q_iinc t46_38 ⟨Nat.le_of_ble_eq_true rfl, rfl⟩ rfl (by decide +kernel) rfl
theorem t46_41 : decode (mb 46) 41 = .ok (.goto (-23), 3) := by decide +kernel
theorem s46_41 (d : Nat) (l0 : Value) (l1 : Value) (l2 : Value) (σ : Hs) : ru d 46 41 [l0, l1, l2] [] σ = ru d 46 18 [l0, l1, l2] [] σ := q_goto t46_41 (by decide +kernel)
theorem t46_44 : decode (mb 46) 44 = .ok (.return_, 1) := by decide +kernel
theorem s46_44 (d : Nat) (l0 : Value) (l1 : Value) (l2 : Value) (σ : Hs) : ru d 46 44 [l0, l1, l2] [] σ = some (none, σ) := q_vret t46_44 mr46
theorem c46 (d : Nat) (x0 : Nat) (x1 : Nat) (σ : Hs) : callD (d + 1) 46 [.ref x0, .ref x1] σ = ru d 46 0 [.ref x0, .ref x1, uu] [] σ := callD_ru ml46 rfl rfl (Nat.le_of_ble_eq_true rfl)
-- 47: Sheet.isMissing()Z
theorem t47_0 : decode (mb 47) 0 = .ok (.aload_n 0, 1) := by decide +kernel
theorem s47_0 (d : Nat) (a0 : Nat) (σ : Hs) : ru d 47 0 [.ref a0] [] σ = ru d 47 1 [.ref a0] [.ref a0] σ := q_aload_n t47_0 rfl
theorem t47_1 : decode (mb 47) 1 = .ok (.getfield 15, 3) := by decide +kernel
theorem s47_1_o77 (d : Nat) (l0 : Value) (σ : Hs) : ru d 47 1 [l0] [.ref 77] σ = ru d 47 4 [l0] [.int (σ 77 1)] σ := q_getf t47_1 mo47 F4_15 rfl rfl
theorem s47_1_o79 (d : Nat) (l0 : Value) (σ : Hs) : ru d 47 1 [l0] [.ref 79] σ = ru d 47 4 [l0] [.int (σ 79 1)] σ := q_getf t47_1 mo47 F4_15 rfl rfl
theorem s47_1_o81 (d : Nat) (l0 : Value) (σ : Hs) : ru d 47 1 [l0] [.ref 81] σ = ru d 47 4 [l0] [.int (σ 81 1)] σ := q_getf t47_1 mo47 F4_15 rfl rfl
theorem s47_1_o83 (d : Nat) (l0 : Value) (σ : Hs) : ru d 47 1 [l0] [.ref 83] σ = ru d 47 4 [l0] [.int (σ 83 1)] σ := q_getf t47_1 mo47 F4_15 rfl rfl
theorem t47_4 : decode (mb 47) 4 = .ok (.ifCond .ne 7, 3) := by decide +kernel
theorem s47_4 (d : Nat) (l0 : Value) (x : Int32) (σ : Hs) : ru d 47 4 [l0] [.int x] σ = if x = 0 then ru d 47 7 [l0] [] σ else ru d 47 11 [l0] [] σ := q_if_ne t47_4 (by decide +kernel)
theorem t47_7 : decode (mb 47) 7 = .ok (.iconst 1, 1) := by decide +kernel
theorem s47_7 (d : Nat) (l0 : Value) (σ : Hs) : ru d 47 7 [l0] [] σ = ru d 47 8 [l0] [.int 1] σ := q_iconst t47_7 (by decide +kernel)
theorem t47_8 : decode (mb 47) 8 = .ok (.goto 4, 3) := by decide +kernel
theorem s47_8 (d : Nat) (l0 : Value) (w0 : Value) (σ : Hs) : ru d 47 8 [l0] [w0] σ = ru d 47 12 [l0] [w0] σ := q_goto t47_8 (by decide +kernel)
theorem t47_11 : decode (mb 47) 11 = .ok (.iconst 0, 1) := by decide +kernel
theorem s47_11 (d : Nat) (l0 : Value) (σ : Hs) : ru d 47 11 [l0] [] σ = ru d 47 12 [l0] [.int 0] σ := q_iconst t47_11 (by decide +kernel)
theorem t47_12 : decode (mb 47) 12 = .ok (.ireturn, 1) := by decide +kernel
theorem s47_12 (d : Nat) (l0 : Value) (x : Int32) (hx : isB x) (σ : Hs) : ru d 47 12 [l0] [.int x] σ = some (some (.int x), σ) := q_iretz t47_12 mr47 hx
theorem c47 (d : Nat) (x0 : Nat) (σ : Hs) : callD (d + 1) 47 [.ref x0] σ = ru d 47 0 [.ref x0] [] σ := callD_ru ml47 rfl rfl (Nat.le_of_ble_eq_true rfl)
-- 48: Sheet.begin(II)V
theorem t48_0 : decode (mb 48) 0 = .ok (.aload_n 0, 1) := by decide +kernel
theorem s48_0 (d : Nat) (a0 : Nat) (l1 : Value) (l2 : Value) (l3 : Value) (σ : Hs) : ru d 48 0 [.ref a0, l1, l2, l3] [] σ = ru d 48 1 [.ref a0, l1, l2, l3] [.ref a0] σ := q_aload_n t48_0 rfl
theorem t48_1 : decode (mb 48) 1 = .ok (.iload_n 1, 1) := by decide +kernel
theorem s48_1 (d : Nat) (l0 : Value) (i1 : Int32) (l2 : Value) (l3 : Value) (w0 : Value) (σ : Hs) : ru d 48 1 [l0, .int i1, l2, l3] [w0] σ = ru d 48 2 [l0, .int i1, l2, l3] [.int i1, w0] σ := q_iload_n t48_1 rfl
theorem t48_2 : decode (mb 48) 2 = .ok (.putfield 15, 3) := by decide +kernel
theorem s48_2_o77 (d : Nat) (l0 : Value) (l1 : Value) (l2 : Value) (l3 : Value) (x : Int32) (σ : Hs) : ru d 48 2 [l0, l1, l2, l3] [.int x, .ref 77] σ = ru d 48 5 [l0, l1, l2, l3] [] (up2 σ 77 1 x) := q_puti t48_2 mo48 F4_15 (by decide +kernel) rfl rfl
theorem s48_2_o79 (d : Nat) (l0 : Value) (l1 : Value) (l2 : Value) (l3 : Value) (x : Int32) (σ : Hs) : ru d 48 2 [l0, l1, l2, l3] [.int x, .ref 79] σ = ru d 48 5 [l0, l1, l2, l3] [] (up2 σ 79 1 x) := q_puti t48_2 mo48 F4_15 (by decide +kernel) rfl rfl
theorem s48_2_o81 (d : Nat) (l0 : Value) (l1 : Value) (l2 : Value) (l3 : Value) (x : Int32) (σ : Hs) : ru d 48 2 [l0, l1, l2, l3] [.int x, .ref 81] σ = ru d 48 5 [l0, l1, l2, l3] [] (up2 σ 81 1 x) := q_puti t48_2 mo48 F4_15 (by decide +kernel) rfl rfl
theorem s48_2_o83 (d : Nat) (l0 : Value) (l1 : Value) (l2 : Value) (l3 : Value) (x : Int32) (σ : Hs) : ru d 48 2 [l0, l1, l2, l3] [.int x, .ref 83] σ = ru d 48 5 [l0, l1, l2, l3] [] (up2 σ 83 1 x) := q_puti t48_2 mo48 F4_15 (by decide +kernel) rfl rfl
theorem t48_5 : decode (mb 48) 5 = .ok (.aload_n 0, 1) := by decide +kernel
theorem s48_5 (d : Nat) (a0 : Nat) (l1 : Value) (l2 : Value) (l3 : Value) (σ : Hs) : ru d 48 5 [.ref a0, l1, l2, l3] [] σ = ru d 48 6 [.ref a0, l1, l2, l3] [.ref a0] σ := q_aload_n t48_5 rfl
theorem t48_6 : decode (mb 48) 6 = .ok (.iload_n 2, 1) := by decide +kernel
theorem s48_6 (d : Nat) (l0 : Value) (l1 : Value) (i2 : Int32) (l3 : Value) (w0 : Value) (σ : Hs) : ru d 48 6 [l0, l1, .int i2, l3] [w0] σ = ru d 48 7 [l0, l1, .int i2, l3] [.int i2, w0] σ := q_iload_n t48_6 rfl
theorem t48_7 : decode (mb 48) 7 = .ok (.bipush 24, 2) := by decide +kernel
theorem s48_7 (d : Nat) (l0 : Value) (l1 : Value) (l2 : Value) (l3 : Value) (w0 w1 : Value) (σ : Hs) : ru d 48 7 [l0, l1, l2, l3] [w0, w1] σ = ru d 48 9 [l0, l1, l2, l3] [.int 24, w0, w1] σ := q_bipush t48_7 (by decide +kernel)
theorem t48_9 : decode (mb 48) 9 = .ok (.invokestatic 22, 3) := by decide +kernel
theorem s48_9 (d : Nat) (l0 : Value) (l1 : Value) (l2 : Value) (l3 : Value) (x y : Int32) (w0 : Nat) (σ : Hs) : ru d 48 9 [l0, l1, l2, l3] [.int y, .int x, .ref w0] σ = ru d 48 12 [l0, l1, l2, l3] [.int (jmin x y), .ref w0] σ := q_mi t48_9 mo48 (by decide +kernel) (by decide +kernel) (by decide +kernel) (Nat.le_of_ble_eq_true rfl)
theorem t48_12 : decode (mb 48) 12 = .ok (.putfield 19, 3) := by decide +kernel
theorem s48_12_o77 (d : Nat) (l0 : Value) (l1 : Value) (l2 : Value) (l3 : Value) (x : Int32) (σ : Hs) : ru d 48 12 [l0, l1, l2, l3] [.int x, .ref 77] σ = ru d 48 15 [l0, l1, l2, l3] [] (up2 σ 77 2 x) := q_puti t48_12 mo48 F4_19 (by decide +kernel) rfl rfl
theorem s48_12_o79 (d : Nat) (l0 : Value) (l1 : Value) (l2 : Value) (l3 : Value) (x : Int32) (σ : Hs) : ru d 48 12 [l0, l1, l2, l3] [.int x, .ref 79] σ = ru d 48 15 [l0, l1, l2, l3] [] (up2 σ 79 2 x) := q_puti t48_12 mo48 F4_19 (by decide +kernel) rfl rfl
theorem s48_12_o81 (d : Nat) (l0 : Value) (l1 : Value) (l2 : Value) (l3 : Value) (x : Int32) (σ : Hs) : ru d 48 12 [l0, l1, l2, l3] [.int x, .ref 81] σ = ru d 48 15 [l0, l1, l2, l3] [] (up2 σ 81 2 x) := q_puti t48_12 mo48 F4_19 (by decide +kernel) rfl rfl
theorem s48_12_o83 (d : Nat) (l0 : Value) (l1 : Value) (l2 : Value) (l3 : Value) (x : Int32) (σ : Hs) : ru d 48 12 [l0, l1, l2, l3] [.int x, .ref 83] σ = ru d 48 15 [l0, l1, l2, l3] [] (up2 σ 83 2 x) := q_puti t48_12 mo48 F4_19 (by decide +kernel) rfl rfl
theorem t48_15 : decode (mb 48) 15 = .ok (.iconst 0, 1) := by decide +kernel
theorem s48_15 (d : Nat) (l0 : Value) (l1 : Value) (l2 : Value) (l3 : Value) (σ : Hs) : ru d 48 15 [l0, l1, l2, l3] [] σ = ru d 48 16 [l0, l1, l2, l3] [.int 0] σ := q_iconst t48_15 (by decide +kernel)
theorem t48_16 : decode (mb 48) 16 = .ok (.istore_n 3, 1) := by decide +kernel
theorem s48_16 (d : Nat) (l0 : Value) (l1 : Value) (i2 : Int32) (l3 : Value) (x : Int32) (σ : Hs) : ru d 48 16 [l0, l1, .int i2, l3] [.int x] σ = ru d 48 17 [l0, l1, .int i2, .int x] [] σ := q_istore_n t48_16 ⟨Nat.le_of_ble_eq_true rfl, rfl⟩ rfl
theorem t48_17 : decode (mb 48) 17 = .ok (.iload_n 3, 1) := by decide +kernel
theorem s48_17 (d : Nat) (l0 : Value) (l1 : Value) (l2 : Value) (i3 : Int32) (σ : Hs) : ru d 48 17 [l0, l1, l2, .int i3] [] σ = ru d 48 18 [l0, l1, l2, .int i3] [.int i3] σ := q_iload_n t48_17 rfl
theorem t48_18 : decode (mb 48) 18 = .ok (.bipush 24, 2) := by decide +kernel
theorem s48_18 (d : Nat) (l0 : Value) (l1 : Value) (l2 : Value) (l3 : Value) (w0 : Value) (σ : Hs) : ru d 48 18 [l0, l1, l2, l3] [w0] σ = ru d 48 20 [l0, l1, l2, l3] [.int 24, w0] σ := q_bipush t48_18 (by decide +kernel)
theorem t48_20 : decode (mb 48) 20 = .ok (.if_icmp .ge 16, 3) := by decide +kernel
theorem s48_20 (d : Nat) (l0 : Value) (l1 : Value) (l2 : Value) (l3 : Value) (x y : Int32) (σ : Hs) : ru d 48 20 [l0, l1, l2, l3] [.int y, .int x] σ = if y ≤ x then ru d 48 36 [l0, l1, l2, l3] [] σ else ru d 48 23 [l0, l1, l2, l3] [] σ := q_ic_ge t48_20 (by decide +kernel)
theorem t48_23 : decode (mb 48) 23 = .ok (.aload_n 0, 1) := by decide +kernel
theorem s48_23 (d : Nat) (a0 : Nat) (l1 : Value) (l2 : Value) (l3 : Value) (σ : Hs) : ru d 48 23 [.ref a0, l1, l2, l3] [] σ = ru d 48 24 [.ref a0, l1, l2, l3] [.ref a0] σ := q_aload_n t48_23 rfl
theorem t48_24 : decode (mb 48) 24 = .ok (.getfield 9, 3) := by decide +kernel
theorem s48_24_o77 (d : Nat) (l0 : Value) (l1 : Value) (l2 : Value) (l3 : Value) (σ : Hs) : ru d 48 24 [l0, l1, l2, l3] [.ref 77] σ = ru d 48 27 [l0, l1, l2, l3] [.ref 78] σ := q_getf t48_24 mo48 F4_9 rfl rfl
theorem s48_24_o79 (d : Nat) (l0 : Value) (l1 : Value) (l2 : Value) (l3 : Value) (σ : Hs) : ru d 48 24 [l0, l1, l2, l3] [.ref 79] σ = ru d 48 27 [l0, l1, l2, l3] [.ref 80] σ := q_getf t48_24 mo48 F4_9 rfl rfl
theorem s48_24_o81 (d : Nat) (l0 : Value) (l1 : Value) (l2 : Value) (l3 : Value) (σ : Hs) : ru d 48 24 [l0, l1, l2, l3] [.ref 81] σ = ru d 48 27 [l0, l1, l2, l3] [.ref 82] σ := q_getf t48_24 mo48 F4_9 rfl rfl
theorem s48_24_o83 (d : Nat) (l0 : Value) (l1 : Value) (l2 : Value) (l3 : Value) (σ : Hs) : ru d 48 24 [l0, l1, l2, l3] [.ref 83] σ = ru d 48 27 [l0, l1, l2, l3] [.ref 84] σ := q_getf t48_24 mo48 F4_9 rfl rfl
theorem t48_27 : decode (mb 48) 27 = .ok (.iload_n 3, 1) := by decide +kernel
theorem s48_27 (d : Nat) (l0 : Value) (l1 : Value) (l2 : Value) (i3 : Int32) (w0 : Value) (σ : Hs) : ru d 48 27 [l0, l1, l2, .int i3] [w0] σ = ru d 48 28 [l0, l1, l2, .int i3] [.int i3, w0] σ := q_iload_n t48_27 rfl
theorem t48_28 : decode (mb 48) 28 = .ok (.iconst 0, 1) := by decide +kernel
theorem s48_28 (d : Nat) (l0 : Value) (l1 : Value) (l2 : Value) (l3 : Value) (w0 w1 : Value) (σ : Hs) : ru d 48 28 [l0, l1, l2, l3] [w0, w1] σ = ru d 48 29 [l0, l1, l2, l3] [.int 0, w0, w1] σ := q_iconst t48_28 (by decide +kernel)
theorem t48_29 : decode (mb 48) 29 = .ok (.iastore, 1) := by decide +kernel
theorem s48_29_o78 (d : Nat) (l0 : Value) (l1 : Value) (l2 : Value) (l3 : Value) (i x : Int32) (σ : Hs) : ru d 48 29 [l0, l1, l2, l3] [.int x, .int i, .ref 78] σ = gd (vp_in i 24) (ru d 48 30 [l0, l1, l2, l3] [] (up2 σ 78 i.toNatClampNeg x)) := q_iast t48_29 (by decide +kernel) rfl rfl
theorem s48_29_o80 (d : Nat) (l0 : Value) (l1 : Value) (l2 : Value) (l3 : Value) (i x : Int32) (σ : Hs) : ru d 48 29 [l0, l1, l2, l3] [.int x, .int i, .ref 80] σ = gd (vp_in i 24) (ru d 48 30 [l0, l1, l2, l3] [] (up2 σ 80 i.toNatClampNeg x)) := q_iast t48_29 (by decide +kernel) rfl rfl
theorem s48_29_o82 (d : Nat) (l0 : Value) (l1 : Value) (l2 : Value) (l3 : Value) (i x : Int32) (σ : Hs) : ru d 48 29 [l0, l1, l2, l3] [.int x, .int i, .ref 82] σ = gd (vp_in i 24) (ru d 48 30 [l0, l1, l2, l3] [] (up2 σ 82 i.toNatClampNeg x)) := q_iast t48_29 (by decide +kernel) rfl rfl
theorem s48_29_o84 (d : Nat) (l0 : Value) (l1 : Value) (l2 : Value) (l3 : Value) (i x : Int32) (σ : Hs) : ru d 48 29 [l0, l1, l2, l3] [.int x, .int i, .ref 84] σ = gd (vp_in i 24) (ru d 48 30 [l0, l1, l2, l3] [] (up2 σ 84 i.toNatClampNeg x)) := q_iast t48_29 (by decide +kernel) rfl rfl
theorem t48_30 : decode (mb 48) 30 = .ok (.iinc 3 1, 3) := by decide +kernel
theorem s48_30 (d : Nat) (l0 : Value) (l1 : Value) (i2 : Int32) (i3 : Int32) (σ : Hs) : ru d 48 30 [l0, l1, .int i2, .int i3] [] σ = ru d 48 33 [l0, l1, .int i2, .int (i3 + 1)] [] σ := q_iinc t48_30 ⟨Nat.le_of_ble_eq_true rfl, rfl⟩ rfl (by decide +kernel) rfl
theorem t48_33 : decode (mb 48) 33 = .ok (.goto (-16), 3) := by decide +kernel
theorem s48_33 (d : Nat) (l0 : Value) (l1 : Value) (l2 : Value) (l3 : Value) (σ : Hs) : ru d 48 33 [l0, l1, l2, l3] [] σ = ru d 48 17 [l0, l1, l2, l3] [] σ := q_goto t48_33 (by decide +kernel)
theorem t48_36 : decode (mb 48) 36 = .ok (.return_, 1) := by decide +kernel
theorem s48_36 (d : Nat) (l0 : Value) (l1 : Value) (l2 : Value) (l3 : Value) (σ : Hs) : ru d 48 36 [l0, l1, l2, l3] [] σ = some (none, σ) := q_vret t48_36 mr48
theorem c48 (d : Nat) (x0 : Nat) (x1 : Int32) (x2 : Int32) (σ : Hs) : callD (d + 1) 48 [.ref x0, .int x1, .int x2] σ = ru d 48 0 [.ref x0, .int x1, .int x2, uu] [] σ := callD_ru ml48 rfl rfl (Nat.le_of_ble_eq_true rfl)
-- 49: Sheet.stand(II)Z
theorem t49_0 : decode (mb 49) 0 = .ok (.iload_n 1, 1) := by decide +kernel
theorem s49_0 (d : Nat) (l0 : Value) (i1 : Int32) (l2 : Value) (σ : Hs) : ru d 49 0 [l0, .int i1, l2] [] σ = ru d 49 1 [l0, .int i1, l2] [.int i1] σ := q_iload_n t49_0 rfl
theorem t49_1 : decode (mb 49) 1 = .ok (.ifCond .lt 29, 3) := by decide +kernel
theorem s49_1 (d : Nat) (l0 : Value) (l1 : Value) (l2 : Value) (x : Int32) (σ : Hs) : ru d 49 1 [l0, l1, l2] [.int x] σ = if x < 0 then ru d 49 30 [l0, l1, l2] [] σ else ru d 49 4 [l0, l1, l2] [] σ := q_if_lt t49_1 (by decide +kernel)
theorem t49_4 : decode (mb 49) 4 = .ok (.iload_n 2, 1) := by decide +kernel
theorem s49_4 (d : Nat) (l0 : Value) (l1 : Value) (i2 : Int32) (σ : Hs) : ru d 49 4 [l0, l1, .int i2] [] σ = ru d 49 5 [l0, l1, .int i2] [.int i2] σ := q_iload_n t49_4 rfl
theorem t49_5 : decode (mb 49) 5 = .ok (.ifCond .lt 25, 3) := by decide +kernel
theorem s49_5 (d : Nat) (l0 : Value) (l1 : Value) (l2 : Value) (x : Int32) (σ : Hs) : ru d 49 5 [l0, l1, l2] [.int x] σ = if x < 0 then ru d 49 30 [l0, l1, l2] [] σ else ru d 49 8 [l0, l1, l2] [] σ := q_if_lt t49_5 (by decide +kernel)
theorem t49_8 : decode (mb 49) 8 = .ok (.iload_n 2, 1) := by decide +kernel
theorem s49_8 (d : Nat) (l0 : Value) (l1 : Value) (i2 : Int32) (σ : Hs) : ru d 49 8 [l0, l1, .int i2] [] σ = ru d 49 9 [l0, l1, .int i2] [.int i2] σ := q_iload_n t49_8 rfl
theorem t49_9 : decode (mb 49) 9 = .ok (.aload_n 0, 1) := by decide +kernel
theorem s49_9 (d : Nat) (a0 : Nat) (l1 : Value) (l2 : Value) (w0 : Value) (σ : Hs) : ru d 49 9 [.ref a0, l1, l2] [w0] σ = ru d 49 10 [.ref a0, l1, l2] [.ref a0, w0] σ := q_aload_n t49_9 rfl
theorem t49_10 : decode (mb 49) 10 = .ok (.getfield 19, 3) := by decide +kernel
theorem s49_10_o77 (d : Nat) (l0 : Value) (l1 : Value) (l2 : Value) (w0 : Value) (σ : Hs) : ru d 49 10 [l0, l1, l2] [.ref 77, w0] σ = ru d 49 13 [l0, l1, l2] [.int (σ 77 2), w0] σ := q_getf t49_10 mo49 F4_19 rfl rfl
theorem s49_10_o79 (d : Nat) (l0 : Value) (l1 : Value) (l2 : Value) (w0 : Value) (σ : Hs) : ru d 49 10 [l0, l1, l2] [.ref 79, w0] σ = ru d 49 13 [l0, l1, l2] [.int (σ 79 2), w0] σ := q_getf t49_10 mo49 F4_19 rfl rfl
theorem s49_10_o81 (d : Nat) (l0 : Value) (l1 : Value) (l2 : Value) (w0 : Value) (σ : Hs) : ru d 49 10 [l0, l1, l2] [.ref 81, w0] σ = ru d 49 13 [l0, l1, l2] [.int (σ 81 2), w0] σ := q_getf t49_10 mo49 F4_19 rfl rfl
theorem s49_10_o83 (d : Nat) (l0 : Value) (l1 : Value) (l2 : Value) (w0 : Value) (σ : Hs) : ru d 49 10 [l0, l1, l2] [.ref 83, w0] σ = ru d 49 13 [l0, l1, l2] [.int (σ 83 2), w0] σ := q_getf t49_10 mo49 F4_19 rfl rfl
theorem t49_13 : decode (mb 49) 13 = .ok (.if_icmp .gt 17, 3) := by decide +kernel
theorem s49_13 (d : Nat) (l0 : Value) (l1 : Value) (l2 : Value) (x y : Int32) (σ : Hs) : ru d 49 13 [l0, l1, l2] [.int y, .int x] σ = if y < x then ru d 49 30 [l0, l1, l2] [] σ else ru d 49 16 [l0, l1, l2] [] σ := q_ic_gt t49_13 (by decide +kernel)
theorem t49_16 : decode (mb 49) 16 = .ok (.iload_n 1, 1) := by decide +kernel
theorem s49_16 (d : Nat) (l0 : Value) (i1 : Int32) (l2 : Value) (σ : Hs) : ru d 49 16 [l0, .int i1, l2] [] σ = ru d 49 17 [l0, .int i1, l2] [.int i1] σ := q_iload_n t49_16 rfl
theorem t49_17 : decode (mb 49) 17 = .ok (.aload_n 0, 1) := by decide +kernel
theorem s49_17 (d : Nat) (a0 : Nat) (l1 : Value) (l2 : Value) (w0 : Value) (σ : Hs) : ru d 49 17 [.ref a0, l1, l2] [w0] σ = ru d 49 18 [.ref a0, l1, l2] [.ref a0, w0] σ := q_aload_n t49_17 rfl
theorem t49_18 : decode (mb 49) 18 = .ok (.getfield 19, 3) := by decide +kernel
theorem s49_18_o77 (d : Nat) (l0 : Value) (l1 : Value) (l2 : Value) (w0 : Value) (σ : Hs) : ru d 49 18 [l0, l1, l2] [.ref 77, w0] σ = ru d 49 21 [l0, l1, l2] [.int (σ 77 2), w0] σ := q_getf t49_18 mo49 F4_19 rfl rfl
theorem s49_18_o79 (d : Nat) (l0 : Value) (l1 : Value) (l2 : Value) (w0 : Value) (σ : Hs) : ru d 49 18 [l0, l1, l2] [.ref 79, w0] σ = ru d 49 21 [l0, l1, l2] [.int (σ 79 2), w0] σ := q_getf t49_18 mo49 F4_19 rfl rfl
theorem s49_18_o81 (d : Nat) (l0 : Value) (l1 : Value) (l2 : Value) (w0 : Value) (σ : Hs) : ru d 49 18 [l0, l1, l2] [.ref 81, w0] σ = ru d 49 21 [l0, l1, l2] [.int (σ 81 2), w0] σ := q_getf t49_18 mo49 F4_19 rfl rfl
theorem s49_18_o83 (d : Nat) (l0 : Value) (l1 : Value) (l2 : Value) (w0 : Value) (σ : Hs) : ru d 49 18 [l0, l1, l2] [.ref 83, w0] σ = ru d 49 21 [l0, l1, l2] [.int (σ 83 2), w0] σ := q_getf t49_18 mo49 F4_19 rfl rfl
theorem t49_21 : decode (mb 49) 21 = .ok (.iload_n 2, 1) := by decide +kernel
theorem s49_21 (d : Nat) (l0 : Value) (l1 : Value) (i2 : Int32) (w0 w1 : Value) (σ : Hs) : ru d 49 21 [l0, l1, .int i2] [w0, w1] σ = ru d 49 22 [l0, l1, .int i2] [.int i2, w0, w1] σ := q_iload_n t49_21 rfl
theorem t49_22 : decode (mb 49) 22 = .ok (.isub, 1) := by decide +kernel
theorem s49_22 (d : Nat) (l0 : Value) (l1 : Value) (l2 : Value) (x y : Int32) (w0 : Value) (σ : Hs) : ru d 49 22 [l0, l1, l2] [.int y, .int x, w0] σ = ru d 49 23 [l0, l1, l2] [.int (x - y), w0] σ := q_isub t49_22
theorem t49_23 : decode (mb 49) 23 = .ok (.if_icmp .gt 7, 3) := by decide +kernel
theorem s49_23 (d : Nat) (l0 : Value) (l1 : Value) (l2 : Value) (x y : Int32) (σ : Hs) : ru d 49 23 [l0, l1, l2] [.int y, .int x] σ = if y < x then ru d 49 30 [l0, l1, l2] [] σ else ru d 49 26 [l0, l1, l2] [] σ := q_ic_gt t49_23 (by decide +kernel)
theorem t49_26 : decode (mb 49) 26 = .ok (.iconst 1, 1) := by decide +kernel
theorem s49_26 (d : Nat) (l0 : Value) (l1 : Value) (l2 : Value) (σ : Hs) : ru d 49 26 [l0, l1, l2] [] σ = ru d 49 27 [l0, l1, l2] [.int 1] σ := q_iconst t49_26 (by decide +kernel)
theorem t49_27 : decode (mb 49) 27 = .ok (.goto 4, 3) := by decide +kernel
theorem s49_27 (d : Nat) (l0 : Value) (l1 : Value) (l2 : Value) (w0 : Value) (σ : Hs) : ru d 49 27 [l0, l1, l2] [w0] σ = ru d 49 31 [l0, l1, l2] [w0] σ := q_goto t49_27 (by decide +kernel)
theorem t49_30 : decode (mb 49) 30 = .ok (.iconst 0, 1) := by decide +kernel
theorem s49_30 (d : Nat) (l0 : Value) (l1 : Value) (l2 : Value) (σ : Hs) : ru d 49 30 [l0, l1, l2] [] σ = ru d 49 31 [l0, l1, l2] [.int 0] σ := q_iconst t49_30 (by decide +kernel)
theorem t49_31 : decode (mb 49) 31 = .ok (.ireturn, 1) := by decide +kernel
theorem s49_31 (d : Nat) (l0 : Value) (l1 : Value) (l2 : Value) (x : Int32) (hx : isB x) (σ : Hs) : ru d 49 31 [l0, l1, l2] [.int x] σ = some (some (.int x), σ) := q_iretz t49_31 mr49 hx
theorem c49 (d : Nat) (x0 : Nat) (x1 : Int32) (x2 : Int32) (σ : Hs) : callD (d + 1) 49 [.ref x0, .int x1, .int x2] σ = ru d 49 0 [.ref x0, .int x1, .int x2] [] σ := callD_ru ml49 rfl rfl (Nat.le_of_ble_eq_true rfl)
-- 50: Sheet.write(II)V
theorem t50_0 : decode (mb 50) 0 = .ok (.aload_n 0, 1) := by decide +kernel
theorem s50_0 (d : Nat) (a0 : Nat) (l1 : Value) (l2 : Value) (σ : Hs) : ru d 50 0 [.ref a0, l1, l2] [] σ = ru d 50 1 [.ref a0, l1, l2] [.ref a0] σ := q_aload_n t50_0 rfl
theorem t50_1 : decode (mb 50) 1 = .ok (.getfield 9, 3) := by decide +kernel
theorem s50_1_o77 (d : Nat) (l0 : Value) (l1 : Value) (l2 : Value) (σ : Hs) : ru d 50 1 [l0, l1, l2] [.ref 77] σ = ru d 50 4 [l0, l1, l2] [.ref 78] σ := q_getf t50_1 mo50 F4_9 rfl rfl
theorem s50_1_o79 (d : Nat) (l0 : Value) (l1 : Value) (l2 : Value) (σ : Hs) : ru d 50 1 [l0, l1, l2] [.ref 79] σ = ru d 50 4 [l0, l1, l2] [.ref 80] σ := q_getf t50_1 mo50 F4_9 rfl rfl
theorem s50_1_o81 (d : Nat) (l0 : Value) (l1 : Value) (l2 : Value) (σ : Hs) : ru d 50 1 [l0, l1, l2] [.ref 81] σ = ru d 50 4 [l0, l1, l2] [.ref 82] σ := q_getf t50_1 mo50 F4_9 rfl rfl
theorem s50_1_o83 (d : Nat) (l0 : Value) (l1 : Value) (l2 : Value) (σ : Hs) : ru d 50 1 [l0, l1, l2] [.ref 83] σ = ru d 50 4 [l0, l1, l2] [.ref 84] σ := q_getf t50_1 mo50 F4_9 rfl rfl
theorem t50_4 : decode (mb 50) 4 = .ok (.iload_n 1, 1) := by decide +kernel
theorem s50_4 (d : Nat) (l0 : Value) (i1 : Int32) (l2 : Value) (w0 : Value) (σ : Hs) : ru d 50 4 [l0, .int i1, l2] [w0] σ = ru d 50 5 [l0, .int i1, l2] [.int i1, w0] σ := q_iload_n t50_4 rfl
theorem t50_5 : decode (mb 50) 5 = .ok (.aload_n 0, 1) := by decide +kernel
theorem s50_5 (d : Nat) (a0 : Nat) (l1 : Value) (l2 : Value) (w0 w1 : Value) (σ : Hs) : ru d 50 5 [.ref a0, l1, l2] [w0, w1] σ = ru d 50 6 [.ref a0, l1, l2] [.ref a0, w0, w1] σ := q_aload_n t50_5 rfl
theorem t50_6 : decode (mb 50) 6 = .ok (.getfield 15, 3) := by decide +kernel
theorem s50_6_o77 (d : Nat) (l0 : Value) (l1 : Value) (l2 : Value) (w0 w1 : Value) (σ : Hs) : ru d 50 6 [l0, l1, l2] [.ref 77, w0, w1] σ = ru d 50 9 [l0, l1, l2] [.int (σ 77 1), w0, w1] σ := q_getf t50_6 mo50 F4_15 rfl rfl
theorem s50_6_o79 (d : Nat) (l0 : Value) (l1 : Value) (l2 : Value) (w0 w1 : Value) (σ : Hs) : ru d 50 6 [l0, l1, l2] [.ref 79, w0, w1] σ = ru d 50 9 [l0, l1, l2] [.int (σ 79 1), w0, w1] σ := q_getf t50_6 mo50 F4_15 rfl rfl
theorem s50_6_o81 (d : Nat) (l0 : Value) (l1 : Value) (l2 : Value) (w0 w1 : Value) (σ : Hs) : ru d 50 6 [l0, l1, l2] [.ref 81, w0, w1] σ = ru d 50 9 [l0, l1, l2] [.int (σ 81 1), w0, w1] σ := q_getf t50_6 mo50 F4_15 rfl rfl
theorem s50_6_o83 (d : Nat) (l0 : Value) (l1 : Value) (l2 : Value) (w0 w1 : Value) (σ : Hs) : ru d 50 6 [l0, l1, l2] [.ref 83, w0, w1] σ = ru d 50 9 [l0, l1, l2] [.int (σ 83 1), w0, w1] σ := q_getf t50_6 mo50 F4_15 rfl rfl
theorem t50_9 : decode (mb 50) 9 = .ok (.bipush 8, 2) := by decide +kernel
theorem s50_9 (d : Nat) (l0 : Value) (l1 : Value) (l2 : Value) (w0 w1 w2 : Value) (σ : Hs) : ru d 50 9 [l0, l1, l2] [w0, w1, w2] σ = ru d 50 11 [l0, l1, l2] [.int 8, w0, w1, w2] σ := q_bipush t50_9 (by decide +kernel)
theorem t50_11 : decode (mb 50) 11 = .ok (.if_icmp .ne 8, 3) := by decide +kernel
theorem s50_11 (d : Nat) (l0 : Value) (l1 : Value) (l2 : Value) (x y : Int32) (w0 w1 : Value) (σ : Hs) : ru d 50 11 [l0, l1, l2] [.int y, .int x, w0, w1] σ = if x = y then ru d 50 14 [l0, l1, l2] [w0, w1] σ else ru d 50 19 [l0, l1, l2] [w0, w1] σ := q_ic_ne t50_11 (by decide +kernel)
theorem t50_14 : decode (mb 50) 14 = .ok (.iload_n 2, 1) := by decide +kernel
theorem s50_14 (d : Nat) (l0 : Value) (l1 : Value) (i2 : Int32) (w0 w1 : Value) (σ : Hs) : ru d 50 14 [l0, l1, .int i2] [w0, w1] σ = ru d 50 15 [l0, l1, .int i2] [.int i2, w0, w1] σ := q_iload_n t50_14 rfl
theorem t50_15 : decode (mb 50) 15 = .ok (.i2b, 1) := by decide +kernel
theorem s50_15 (d : Nat) (l0 : Value) (l1 : Value) (l2 : Value) (x : Int32) (w0 w1 : Value) (σ : Hs) : ru d 50 15 [l0, l1, l2] [.int x, w0, w1] σ = ru d 50 16 [l0, l1, l2] [.int x.toInt8.toInt32, w0, w1] σ := q_i2b t50_15
theorem t50_16 : decode (mb 50) 16 = .ok (.goto 18, 3) := by decide +kernel
theorem s50_16 (d : Nat) (l0 : Value) (l1 : Value) (l2 : Value) (w0 w1 w2 : Value) (σ : Hs) : ru d 50 16 [l0, l1, l2] [w0, w1, w2] σ = ru d 50 34 [l0, l1, l2] [w0, w1, w2] σ := q_goto t50_16 (by decide +kernel)
theorem t50_19 : decode (mb 50) 19 = .ok (.aload_n 0, 1) := by decide +kernel
theorem s50_19 (d : Nat) (a0 : Nat) (l1 : Value) (l2 : Value) (w0 w1 : Value) (σ : Hs) : ru d 50 19 [.ref a0, l1, l2] [w0, w1] σ = ru d 50 20 [.ref a0, l1, l2] [.ref a0, w0, w1] σ := q_aload_n t50_19 rfl
theorem t50_20 : decode (mb 50) 20 = .ok (.getfield 15, 3) := by decide +kernel
theorem s50_20_o77 (d : Nat) (l0 : Value) (l1 : Value) (l2 : Value) (w0 w1 : Value) (σ : Hs) : ru d 50 20 [l0, l1, l2] [.ref 77, w0, w1] σ = ru d 50 23 [l0, l1, l2] [.int (σ 77 1), w0, w1] σ := q_getf t50_20 mo50 F4_15 rfl rfl
theorem s50_20_o79 (d : Nat) (l0 : Value) (l1 : Value) (l2 : Value) (w0 w1 : Value) (σ : Hs) : ru d 50 20 [l0, l1, l2] [.ref 79, w0, w1] σ = ru d 50 23 [l0, l1, l2] [.int (σ 79 1), w0, w1] σ := q_getf t50_20 mo50 F4_15 rfl rfl
theorem s50_20_o81 (d : Nat) (l0 : Value) (l1 : Value) (l2 : Value) (w0 w1 : Value) (σ : Hs) : ru d 50 20 [l0, l1, l2] [.ref 81, w0, w1] σ = ru d 50 23 [l0, l1, l2] [.int (σ 81 1), w0, w1] σ := q_getf t50_20 mo50 F4_15 rfl rfl
theorem s50_20_o83 (d : Nat) (l0 : Value) (l1 : Value) (l2 : Value) (w0 w1 : Value) (σ : Hs) : ru d 50 20 [l0, l1, l2] [.ref 83, w0, w1] σ = ru d 50 23 [l0, l1, l2] [.int (σ 83 1), w0, w1] σ := q_getf t50_20 mo50 F4_15 rfl rfl
theorem t50_23 : decode (mb 50) 23 = .ok (.bipush 16, 2) := by decide +kernel
theorem s50_23 (d : Nat) (l0 : Value) (l1 : Value) (l2 : Value) (w0 w1 w2 : Value) (σ : Hs) : ru d 50 23 [l0, l1, l2] [w0, w1, w2] σ = ru d 50 25 [l0, l1, l2] [.int 16, w0, w1, w2] σ := q_bipush t50_23 (by decide +kernel)
theorem t50_25 : decode (mb 50) 25 = .ok (.if_icmp .ne 8, 3) := by decide +kernel
theorem s50_25 (d : Nat) (l0 : Value) (l1 : Value) (l2 : Value) (x y : Int32) (w0 w1 : Value) (σ : Hs) : ru d 50 25 [l0, l1, l2] [.int y, .int x, w0, w1] σ = if x = y then ru d 50 28 [l0, l1, l2] [w0, w1] σ else ru d 50 33 [l0, l1, l2] [w0, w1] σ := q_ic_ne t50_25 (by decide +kernel)
theorem t50_28 : decode (mb 50) 28 = .ok (.iload_n 2, 1) := by decide +kernel
theorem s50_28 (d : Nat) (l0 : Value) (l1 : Value) (i2 : Int32) (w0 w1 : Value) (σ : Hs) : ru d 50 28 [l0, l1, .int i2] [w0, w1] σ = ru d 50 29 [l0, l1, .int i2] [.int i2, w0, w1] σ := q_iload_n t50_28 rfl
theorem t50_29 : decode (mb 50) 29 = .ok (.i2s, 1) := by decide +kernel
theorem s50_29 (d : Nat) (l0 : Value) (l1 : Value) (l2 : Value) (x : Int32) (w0 w1 : Value) (σ : Hs) : ru d 50 29 [l0, l1, l2] [.int x, w0, w1] σ = ru d 50 30 [l0, l1, l2] [.int x.toInt16.toInt32, w0, w1] σ := q_i2s t50_29
theorem t50_30 : decode (mb 50) 30 = .ok (.goto 4, 3) := by decide +kernel
theorem s50_30 (d : Nat) (l0 : Value) (l1 : Value) (l2 : Value) (w0 w1 w2 : Value) (σ : Hs) : ru d 50 30 [l0, l1, l2] [w0, w1, w2] σ = ru d 50 34 [l0, l1, l2] [w0, w1, w2] σ := q_goto t50_30 (by decide +kernel)
theorem t50_33 : decode (mb 50) 33 = .ok (.iload_n 2, 1) := by decide +kernel
theorem s50_33 (d : Nat) (l0 : Value) (l1 : Value) (i2 : Int32) (w0 w1 : Value) (σ : Hs) : ru d 50 33 [l0, l1, .int i2] [w0, w1] σ = ru d 50 34 [l0, l1, .int i2] [.int i2, w0, w1] σ := q_iload_n t50_33 rfl
theorem t50_34 : decode (mb 50) 34 = .ok (.iastore, 1) := by decide +kernel
theorem s50_34_o78 (d : Nat) (l0 : Value) (l1 : Value) (l2 : Value) (i x : Int32) (σ : Hs) : ru d 50 34 [l0, l1, l2] [.int x, .int i, .ref 78] σ = gd (vp_in i 24) (ru d 50 35 [l0, l1, l2] [] (up2 σ 78 i.toNatClampNeg x)) := q_iast t50_34 (by decide +kernel) rfl rfl
theorem s50_34_o80 (d : Nat) (l0 : Value) (l1 : Value) (l2 : Value) (i x : Int32) (σ : Hs) : ru d 50 34 [l0, l1, l2] [.int x, .int i, .ref 80] σ = gd (vp_in i 24) (ru d 50 35 [l0, l1, l2] [] (up2 σ 80 i.toNatClampNeg x)) := q_iast t50_34 (by decide +kernel) rfl rfl
theorem s50_34_o82 (d : Nat) (l0 : Value) (l1 : Value) (l2 : Value) (i x : Int32) (σ : Hs) : ru d 50 34 [l0, l1, l2] [.int x, .int i, .ref 82] σ = gd (vp_in i 24) (ru d 50 35 [l0, l1, l2] [] (up2 σ 82 i.toNatClampNeg x)) := q_iast t50_34 (by decide +kernel) rfl rfl
theorem s50_34_o84 (d : Nat) (l0 : Value) (l1 : Value) (l2 : Value) (i x : Int32) (σ : Hs) : ru d 50 34 [l0, l1, l2] [.int x, .int i, .ref 84] σ = gd (vp_in i 24) (ru d 50 35 [l0, l1, l2] [] (up2 σ 84 i.toNatClampNeg x)) := q_iast t50_34 (by decide +kernel) rfl rfl
theorem t50_35 : decode (mb 50) 35 = .ok (.return_, 1) := by decide +kernel
theorem s50_35 (d : Nat) (l0 : Value) (l1 : Value) (l2 : Value) (σ : Hs) : ru d 50 35 [l0, l1, l2] [] σ = some (none, σ) := q_vret t50_35 mr50
theorem c50 (d : Nat) (x0 : Nat) (x1 : Int32) (x2 : Int32) (σ : Hs) : callD (d + 1) 50 [.ref x0, .int x1, .int x2] σ = ru d 50 0 [.ref x0, .int x1, .int x2] [] σ := callD_ru ml50 rfl rfl (Nat.le_of_ble_eq_true rfl)
