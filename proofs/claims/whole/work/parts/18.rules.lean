-- 165: Model.burns(I)Z
theorem t165_0 : decode (mb 165) 0 = .ok (.aload_n 0, 1) := by decide +kernel
theorem s165_0 (d : Nat) (a0 : Nat) (l1 : Value) (l2 : Value) (σ : Hs) : ru d 165 0 [.ref a0, l1, l2] [] σ = ru d 165 1 [.ref a0, l1, l2] [.ref a0] σ := q_aload_n t165_0 rfl
theorem t165_1 : decode (mb 165) 1 = .ok (.iload_n 1, 1) := by decide +kernel
theorem s165_1 (d : Nat) (l0 : Value) (i1 : Int32) (l2 : Value) (w0 : Value) (σ : Hs) : ru d 165 1 [l0, .int i1, l2] [w0] σ = ru d 165 2 [l0, .int i1, l2] [.int i1, w0] σ := q_iload_n t165_1 rfl
theorem t165_2 : decode (mb 165) 2 = .ok (.invokevirtual 235, 3) := by decide +kernel
theorem s165_2_o87 (d : Nat) (l0 : Value) (l1 : Value) (l2 : Value) (v1 : Value) (σ : Hs) : ru d 165 2 [l0, l1, l2] [v1, .ref 87] σ = kont (callD d 162 [.ref 87, v1] σ) d 165 5 [l0, l1, l2] [] := q_invv t165_2 mo165 K8_235 mj162 rfl rfl rfl rfl (Nat.le_of_ble_eq_true rfl)
theorem t165_5 : decode (mb 165) 5 = .ok (.istore_n 2, 1) := by decide +kernel
theorem s165_5 (d : Nat) (l0 : Value) (i1 : Int32) (l2 : Value) (x : Int32) (σ : Hs) : ru d 165 5 [l0, .int i1, l2] [.int x] σ = ru d 165 6 [l0, .int i1, .int x] [] σ := q_istore_n t165_5 ⟨Nat.le_of_ble_eq_true rfl, rfl⟩ rfl
theorem t165_6 : decode (mb 165) 6 = .ok (.aload_n 0, 1) := by decide +kernel
theorem s165_6 (d : Nat) (a0 : Nat) (l1 : Value) (l2 : Value) (σ : Hs) : ru d 165 6 [.ref a0, l1, l2] [] σ = ru d 165 7 [.ref a0, l1, l2] [.ref a0] σ := q_aload_n t165_6 rfl
theorem t165_7 : decode (mb 165) 7 = .ok (.iload_n 1, 1) := by decide +kernel
theorem s165_7 (d : Nat) (l0 : Value) (i1 : Int32) (l2 : Value) (w0 : Value) (σ : Hs) : ru d 165 7 [l0, .int i1, l2] [w0] σ = ru d 165 8 [l0, .int i1, l2] [.int i1, w0] σ := q_iload_n t165_7 rfl
theorem t165_8 : decode (mb 165) 8 = .ok (.iconst 2, 1) := by decide +kernel
theorem s165_8 (d : Nat) (l0 : Value) (l1 : Value) (l2 : Value) (w0 w1 : Value) (σ : Hs) : ru d 165 8 [l0, l1, l2] [w0, w1] σ = ru d 165 9 [l0, l1, l2] [.int 2, w0, w1] σ := q_iconst t165_8 (by decide +kernel)
theorem t165_9 : decode (mb 165) 9 = .ok (.aload_n 0, 1) := by decide +kernel
theorem s165_9 (d : Nat) (a0 : Nat) (l1 : Value) (l2 : Value) (w0 w1 w2 : Value) (σ : Hs) : ru d 165 9 [.ref a0, l1, l2] [w0, w1, w2] σ = ru d 165 10 [.ref a0, l1, l2] [.ref a0, w0, w1, w2] σ := q_aload_n t165_9 rfl
theorem t165_10 : decode (mb 165) 10 = .ok (.iload_n 1, 1) := by decide +kernel
theorem s165_10 (d : Nat) (l0 : Value) (i1 : Int32) (l2 : Value) (w0 w1 w2 w3 : Value) (σ : Hs) : ru d 165 10 [l0, .int i1, l2] [w0, w1, w2, w3] σ = ru d 165 11 [l0, .int i1, l2] [.int i1, w0, w1, w2, w3] σ := q_iload_n t165_10 rfl
theorem t165_11 : decode (mb 165) 11 = .ok (.iconst 2, 1) := by decide +kernel
theorem s165_11 (d : Nat) (l0 : Value) (l1 : Value) (l2 : Value) (w0 w1 w2 w3 w4 : Value) (σ : Hs) : ru d 165 11 [l0, l1, l2] [w0, w1, w2, w3, w4] σ = ru d 165 12 [l0, l1, l2] [.int 2, w0, w1, w2, w3, w4] σ := q_iconst t165_11 (by decide +kernel)
theorem t165_12 : decode (mb 165) 12 = .ok (.invokevirtual 85, 3) := by decide +kernel
theorem s165_12_o87 (d : Nat) (l0 : Value) (l1 : Value) (l2 : Value) (v1 v2 : Value) (w0 : Int32) (w1 : Int32) (w2 : Nat) (σ : Hs) : ru d 165 12 [l0, l1, l2] [v2, v1, .ref 87, .int w0, .int w1, .ref w2] σ = kont (callD d 118 [.ref 87, v1, v2] σ) d 165 15 [l0, l1, l2] [.int w0, .int w1, .ref w2] := q_invv t165_12 mo165 K8_85 mj118 rfl rfl rfl rfl (Nat.le_of_ble_eq_true rfl)
theorem t165_15 : decode (mb 165) 15 = .ok (.iload_n 2, 1) := by decide +kernel
theorem s165_15 (d : Nat) (l0 : Value) (l1 : Value) (i2 : Int32) (w0 w1 w2 w3 : Value) (σ : Hs) : ru d 165 15 [l0, l1, .int i2] [w0, w1, w2, w3] σ = ru d 165 16 [l0, l1, .int i2] [.int i2, w0, w1, w2, w3] σ := q_iload_n t165_15 rfl
theorem t165_16 : decode (mb 165) 16 = .ok (.isub, 1) := by decide +kernel
theorem s165_16 (d : Nat) (l0 : Value) (l1 : Value) (l2 : Value) (x y : Int32) (w0 w1 w2 : Value) (σ : Hs) : ru d 165 16 [l0, l1, l2] [.int y, .int x, w0, w1, w2] σ = ru d 165 17 [l0, l1, l2] [.int (x - y), w0, w1, w2] σ := q_isub t165_16
theorem t165_17 : decode (mb 165) 17 = .ok (.invokevirtual 96, 3) := by decide +kernel
theorem s165_17_o87 (d : Nat) (l0 : Value) (l1 : Value) (l2 : Value) (v1 v2 v3 : Value) (σ : Hs) : ru d 165 17 [l0, l1, l2] [v3, v2, v1, .ref 87] σ = kont (callD d 119 [.ref 87, v1, v2, v3] σ) d 165 20 [l0, l1, l2] [] := q_invv t165_17 mo165 K8_96 mj119 rfl rfl rfl rfl (Nat.le_of_ble_eq_true rfl)
theorem t165_20 : decode (mb 165) 20 = .ok (.aload_n 0, 1) := by decide +kernel
theorem s165_20 (d : Nat) (a0 : Nat) (l1 : Value) (l2 : Value) (σ : Hs) : ru d 165 20 [.ref a0, l1, l2] [] σ = ru d 165 21 [.ref a0, l1, l2] [.ref a0] σ := q_aload_n t165_20 rfl
theorem t165_21 : decode (mb 165) 21 = .ok (.iload_n 1, 1) := by decide +kernel
theorem s165_21 (d : Nat) (l0 : Value) (i1 : Int32) (l2 : Value) (w0 : Value) (σ : Hs) : ru d 165 21 [l0, .int i1, l2] [w0] σ = ru d 165 22 [l0, .int i1, l2] [.int i1, w0] σ := q_iload_n t165_21 rfl
theorem t165_22 : decode (mb 165) 22 = .ok (.iload_n 2, 1) := by decide +kernel
theorem s165_22 (d : Nat) (l0 : Value) (l1 : Value) (i2 : Int32) (w0 w1 : Value) (σ : Hs) : ru d 165 22 [l0, l1, .int i2] [w0, w1] σ = ru d 165 23 [l0, l1, .int i2] [.int i2, w0, w1] σ := q_iload_n t165_22 rfl
theorem t165_23 : decode (mb 165) 23 = .ok (.aload_n 0, 1) := by decide +kernel
theorem s165_23 (d : Nat) (a0 : Nat) (l1 : Value) (l2 : Value) (w0 w1 w2 : Value) (σ : Hs) : ru d 165 23 [.ref a0, l1, l2] [w0, w1, w2] σ = ru d 165 24 [.ref a0, l1, l2] [.ref a0, w0, w1, w2] σ := q_aload_n t165_23 rfl
theorem t165_24 : decode (mb 165) 24 = .ok (.getfield 22, 3) := by decide +kernel
theorem s165_24_o87 (d : Nat) (l0 : Value) (l1 : Value) (l2 : Value) (w0 w1 w2 : Value) (σ : Hs) : ru d 165 24 [l0, l1, l2] [.ref 87, w0, w1, w2] σ = ru d 165 27 [l0, l1, l2] [.ref 92, w0, w1, w2] σ := q_getf t165_24 mo165 F8_22 rfl rfl
theorem t165_27 : decode (mb 165) 27 = .ok (.aload_n 0, 1) := by decide +kernel
theorem s165_27 (d : Nat) (a0 : Nat) (l1 : Value) (l2 : Value) (w0 w1 w2 w3 : Value) (σ : Hs) : ru d 165 27 [.ref a0, l1, l2] [w0, w1, w2, w3] σ = ru d 165 28 [.ref a0, l1, l2] [.ref a0, w0, w1, w2, w3] σ := q_aload_n t165_27 rfl
theorem t165_28 : decode (mb 165) 28 = .ok (.iload_n 1, 1) := by decide +kernel
theorem s165_28 (d : Nat) (l0 : Value) (i1 : Int32) (l2 : Value) (w0 w1 w2 w3 w4 : Value) (σ : Hs) : ru d 165 28 [l0, .int i1, l2] [w0, w1, w2, w3, w4] σ = ru d 165 29 [l0, .int i1, l2] [.int i1, w0, w1, w2, w3, w4] σ := q_iload_n t165_28 rfl
theorem t165_29 : decode (mb 165) 29 = .ok (.iconst 1, 1) := by decide +kernel
theorem s165_29 (d : Nat) (l0 : Value) (l1 : Value) (l2 : Value) (w0 w1 w2 w3 w4 w5 : Value) (σ : Hs) : ru d 165 29 [l0, l1, l2] [w0, w1, w2, w3, w4, w5] σ = ru d 165 30 [l0, l1, l2] [.int 1, w0, w1, w2, w3, w4, w5] σ := q_iconst t165_29 (by decide +kernel)
theorem t165_30 : decode (mb 165) 30 = .ok (.invokevirtual 85, 3) := by decide +kernel
theorem s165_30_o87 (d : Nat) (l0 : Value) (l1 : Value) (l2 : Value) (v1 v2 : Value) (w0 : Nat) (w1 : Int32) (w2 : Int32) (w3 : Nat) (σ : Hs) : ru d 165 30 [l0, l1, l2] [v2, v1, .ref 87, .ref w0, .int w1, .int w2, .ref w3] σ = kont (callD d 118 [.ref 87, v1, v2] σ) d 165 33 [l0, l1, l2] [.ref w0, .int w1, .int w2, .ref w3] := q_invv t165_30 mo165 K8_85 mj118 rfl rfl rfl rfl (Nat.le_of_ble_eq_true rfl)
theorem t165_33 : decode (mb 165) 33 = .ok (.iaload, 1) := by decide +kernel
theorem s165_33_o92 (d : Nat) (l0 : Value) (l1 : Value) (l2 : Value) (i : Int32) (w0 w1 w2 : Value) (σ : Hs) : ru d 165 33 [l0, l1, l2] [.int i, .ref 92, w0, w1, w2] σ = gd (vp_in i 7) (ru d 165 34 [l0, l1, l2] [.int (σ 92 i.toNatClampNeg), w0, w1, w2] σ) := q_iald t165_33 rfl (by decide +kernel) rfl
theorem t165_34 : decode (mb 165) 34 = .ok (.imul, 1) := by decide +kernel
theorem s165_34 (d : Nat) (l0 : Value) (l1 : Value) (l2 : Value) (x y : Int32) (w0 w1 : Value) (σ : Hs) : ru d 165 34 [l0, l1, l2] [.int y, .int x, w0, w1] σ = ru d 165 35 [l0, l1, l2] [.int (x * y), w0, w1] σ := q_imul t165_34
theorem t165_35 : decode (mb 165) 35 = .ok (.invokevirtual 238, 3) := by decide +kernel
theorem s165_35_o87 (d : Nat) (l0 : Value) (l1 : Value) (l2 : Value) (v1 v2 : Value) (σ : Hs) : ru d 165 35 [l0, l1, l2] [v2, v1, .ref 87] σ = kont (callD d 164 [.ref 87, v1, v2] σ) d 165 38 [l0, l1, l2] [] := q_invv t165_35 mo165 K8_238 mj164 rfl rfl rfl rfl (Nat.le_of_ble_eq_true rfl)
theorem t165_38 : decode (mb 165) 38 = .ok (.aload_n 0, 1) := by decide +kernel
theorem s165_38 (d : Nat) (a0 : Nat) (l1 : Value) (l2 : Value) (σ : Hs) : ru d 165 38 [.ref a0, l1, l2] [] σ = ru d 165 39 [.ref a0, l1, l2] [.ref a0] σ := q_aload_n t165_38 rfl
theorem t165_39 : decode (mb 165) 39 = .ok (.dup, 1) := by decide +kernel
theorem s165_39 (d : Nat) (l0 : Value) (l1 : Value) (l2 : Value) (x : Nat) (σ : Hs) : ru d 165 39 [l0, l1, l2] [.ref x] σ = ru d 165 40 [l0, l1, l2] [.ref x, .ref x] σ := q_dup t165_39 rfl
theorem t165_40 : decode (mb 165) 40 = .ok (.getfield 241, 3) := by decide +kernel
theorem s165_40_o87 (d : Nat) (l0 : Value) (l1 : Value) (l2 : Value) (w0 : Value) (σ : Hs) : ru d 165 40 [l0, l1, l2] [.ref 87, w0] σ = ru d 165 43 [l0, l1, l2] [.int (σ 87 17), w0] σ := q_getf t165_40 mo165 F8_241 rfl rfl
theorem t165_43 : decode (mb 165) 43 = .ok (.iload_n 2, 1) := by decide +kernel
theorem s165_43 (d : Nat) (l0 : Value) (l1 : Value) (i2 : Int32) (w0 w1 : Value) (σ : Hs) : ru d 165 43 [l0, l1, .int i2] [w0, w1] σ = ru d 165 44 [l0, l1, .int i2] [.int i2, w0, w1] σ := q_iload_n t165_43 rfl
theorem t165_44 : decode (mb 165) 44 = .ok (.aload_n 0, 1) := by decide +kernel
theorem s165_44 (d : Nat) (a0 : Nat) (l1 : Value) (l2 : Value) (w0 w1 w2 : Value) (σ : Hs) : ru d 165 44 [.ref a0, l1, l2] [w0, w1, w2] σ = ru d 165 45 [.ref a0, l1, l2] [.ref a0, w0, w1, w2] σ := q_aload_n t165_44 rfl
theorem t165_45 : decode (mb 165) 45 = .ok (.iload_n 1, 1) := by decide +kernel
theorem s165_45 (d : Nat) (l0 : Value) (i1 : Int32) (l2 : Value) (w0 w1 w2 w3 : Value) (σ : Hs) : ru d 165 45 [l0, .int i1, l2] [w0, w1, w2, w3] σ = ru d 165 46 [l0, .int i1, l2] [.int i1, w0, w1, w2, w3] σ := q_iload_n t165_45 rfl
theorem t165_46 : decode (mb 165) 46 = .ok (.iconst 3, 1) := by decide +kernel
theorem s165_46 (d : Nat) (l0 : Value) (l1 : Value) (l2 : Value) (w0 w1 w2 w3 w4 : Value) (σ : Hs) : ru d 165 46 [l0, l1, l2] [w0, w1, w2, w3, w4] σ = ru d 165 47 [l0, l1, l2] [.int 3, w0, w1, w2, w3, w4] σ := q_iconst t165_46 (by decide +kernel)
theorem t165_47 : decode (mb 165) 47 = .ok (.invokevirtual 85, 3) := by decide +kernel
theorem s165_47_o87 (d : Nat) (l0 : Value) (l1 : Value) (l2 : Value) (v1 v2 : Value) (w0 : Int32) (w1 : Int32) (w2 : Nat) (σ : Hs) : ru d 165 47 [l0, l1, l2] [v2, v1, .ref 87, .int w0, .int w1, .ref w2] σ = kont (callD d 118 [.ref 87, v1, v2] σ) d 165 50 [l0, l1, l2] [.int w0, .int w1, .ref w2] := q_invv t165_47 mo165 K8_85 mj118 rfl rfl rfl rfl (Nat.le_of_ble_eq_true rfl)
theorem t165_50 : decode (mb 165) 50 = .ok (.bipush 10, 2) := by decide +kernel
theorem s165_50 (d : Nat) (l0 : Value) (l1 : Value) (l2 : Value) (w0 w1 w2 w3 : Value) (σ : Hs) : ru d 165 50 [l0, l1, l2] [w0, w1, w2, w3] σ = ru d 165 52 [l0, l1, l2] [.int 10, w0, w1, w2, w3] σ := q_bipush t165_50 (by decide +kernel)
theorem t165_52 : decode (mb 165) 52 = .ok (.iadd, 1) := by decide +kernel
theorem s165_52 (d : Nat) (l0 : Value) (l1 : Value) (l2 : Value) (x y : Int32) (w0 w1 w2 : Value) (σ : Hs) : ru d 165 52 [l0, l1, l2] [.int y, .int x, w0, w1, w2] σ = ru d 165 53 [l0, l1, l2] [.int (x + y), w0, w1, w2] σ := q_iadd t165_52
theorem t165_53 : decode (mb 165) 53 = .ok (.imul, 1) := by decide +kernel
theorem s165_53 (d : Nat) (l0 : Value) (l1 : Value) (l2 : Value) (x y : Int32) (w0 w1 : Value) (σ : Hs) : ru d 165 53 [l0, l1, l2] [.int y, .int x, w0, w1] σ = ru d 165 54 [l0, l1, l2] [.int (x * y), w0, w1] σ := q_imul t165_53
theorem t165_54 : decode (mb 165) 54 = .ok (.bipush 20, 2) := by decide +kernel
theorem s165_54 (d : Nat) (l0 : Value) (l1 : Value) (l2 : Value) (w0 w1 w2 : Value) (σ : Hs) : ru d 165 54 [l0, l1, l2] [w0, w1, w2] σ = ru d 165 56 [l0, l1, l2] [.int 20, w0, w1, w2] σ := q_bipush t165_54 (by decide +kernel)
theorem t165_56 : decode (mb 165) 56 = .ok (.idiv, 1) := by decide +kernel
theorem s165_56 (d : Nat) (l0 : Value) (l1 : Value) (l2 : Value) (x y : Int32) (w0 w1 : Value) (σ : Hs) : ru d 165 56 [l0, l1, l2] [.int y, .int x, w0, w1] σ = gd (¬ y = 0) (ru d 165 57 [l0, l1, l2] [.int (x / y), w0, w1] σ) := q_idiv t165_56
theorem t165_57 : decode (mb 165) 57 = .ok (.iadd, 1) := by decide +kernel
theorem s165_57 (d : Nat) (l0 : Value) (l1 : Value) (l2 : Value) (x y : Int32) (w0 : Value) (σ : Hs) : ru d 165 57 [l0, l1, l2] [.int y, .int x, w0] σ = ru d 165 58 [l0, l1, l2] [.int (x + y), w0] σ := q_iadd t165_57
theorem t165_58 : decode (mb 165) 58 = .ok (.putfield 241, 3) := by decide +kernel
theorem s165_58_o87 (d : Nat) (l0 : Value) (l1 : Value) (l2 : Value) (x : Int32) (σ : Hs) : ru d 165 58 [l0, l1, l2] [.int x, .ref 87] σ = ru d 165 61 [l0, l1, l2] [] (up2 σ 87 17 x) := q_puti t165_58 mo165 F8_241 (by decide +kernel) rfl rfl
theorem t165_61 : decode (mb 165) 61 = .ok (.aload_n 0, 1) := by decide +kernel
theorem s165_61 (d : Nat) (a0 : Nat) (l1 : Value) (l2 : Value) (σ : Hs) : ru d 165 61 [.ref a0, l1, l2] [] σ = ru d 165 62 [.ref a0, l1, l2] [.ref a0] σ := q_aload_n t165_61 rfl
theorem t165_62 : decode (mb 165) 62 = .ok (.getfield 9, 3) := by decide +kernel
theorem s165_62_o87 (d : Nat) (l0 : Value) (l1 : Value) (l2 : Value) (σ : Hs) : ru d 165 62 [l0, l1, l2] [.ref 87] σ = ru d 165 65 [l0, l1, l2] [.ref 88] σ := q_getf t165_62 mo165 F8_9 rfl rfl
theorem t165_65 : decode (mb 165) 65 = .ok (.bipush 11, 2) := by decide +kernel
theorem s165_65 (d : Nat) (l0 : Value) (l1 : Value) (l2 : Value) (w0 : Value) (σ : Hs) : ru d 165 65 [l0, l1, l2] [w0] σ = ru d 165 67 [l0, l1, l2] [.int 11, w0] σ := q_bipush t165_65 (by decide +kernel)
theorem t165_67 : decode (mb 165) 67 = .ok (.aload_n 0, 1) := by decide +kernel
theorem s165_67 (d : Nat) (a0 : Nat) (l1 : Value) (l2 : Value) (w0 w1 : Value) (σ : Hs) : ru d 165 67 [.ref a0, l1, l2] [w0, w1] σ = ru d 165 68 [.ref a0, l1, l2] [.ref a0, w0, w1] σ := q_aload_n t165_67 rfl
theorem t165_68 : decode (mb 165) 68 = .ok (.getfield 9, 3) := by decide +kernel
theorem s165_68_o87 (d : Nat) (l0 : Value) (l1 : Value) (l2 : Value) (w0 w1 : Value) (σ : Hs) : ru d 165 68 [l0, l1, l2] [.ref 87, w0, w1] σ = ru d 165 71 [l0, l1, l2] [.ref 88, w0, w1] σ := q_getf t165_68 mo165 F8_9 rfl rfl
theorem t165_71 : decode (mb 165) 71 = .ok (.bipush 11, 2) := by decide +kernel
theorem s165_71 (d : Nat) (l0 : Value) (l1 : Value) (l2 : Value) (w0 w1 w2 : Value) (σ : Hs) : ru d 165 71 [l0, l1, l2] [w0, w1, w2] σ = ru d 165 73 [l0, l1, l2] [.int 11, w0, w1, w2] σ := q_bipush t165_71 (by decide +kernel)
theorem t165_73 : decode (mb 165) 73 = .ok (.iaload, 1) := by decide +kernel
theorem s165_73_o88 (d : Nat) (l0 : Value) (l1 : Value) (l2 : Value) (i : Int32) (w0 w1 : Value) (σ : Hs) : ru d 165 73 [l0, l1, l2] [.int i, .ref 88, w0, w1] σ = gd (vp_in i 545) (ru d 165 74 [l0, l1, l2] [.int (σ 88 i.toNatClampNeg), w0, w1] σ) := q_iald t165_73 rfl (by decide +kernel) rfl
theorem t165_74 : decode (mb 165) 74 = .ok (.iload_n 2, 1) := by decide +kernel
theorem s165_74 (d : Nat) (l0 : Value) (l1 : Value) (i2 : Int32) (w0 w1 w2 : Value) (σ : Hs) : ru d 165 74 [l0, l1, .int i2] [w0, w1, w2] σ = ru d 165 75 [l0, l1, .int i2] [.int i2, w0, w1, w2] σ := q_iload_n t165_74 rfl
theorem t165_75 : decode (mb 165) 75 = .ok (.invokestatic 244, 3) := by decide +kernel
theorem s165_75 (d : Nat) (l0 : Value) (l1 : Value) (l2 : Value) (v0 v1 : Value) (w0 : Int32) (w1 : Nat) (σ : Hs) : ru d 165 75 [l0, l1, l2] [v1, v0, .int w0, .ref w1] σ = kont (callD d 163 [v0, v1] σ) d 165 78 [l0, l1, l2] [.int w0, .ref w1] := q_invs t165_75 mo165 (by decide +kernel) K8_244 mj163 (Nat.le_of_ble_eq_true rfl) rfl rfl (Nat.le_of_ble_eq_true rfl)
theorem t165_78 : decode (mb 165) 78 = .ok (.iastore, 1) := by decide +kernel
theorem s165_78_o88 (d : Nat) (l0 : Value) (l1 : Value) (l2 : Value) (i x : Int32) (σ : Hs) : ru d 165 78 [l0, l1, l2] [.int x, .int i, .ref 88] σ = gd (vp_in i 545) (ru d 165 79 [l0, l1, l2] [] (up2 σ 88 i.toNatClampNeg x)) := q_iast t165_78 (by decide +kernel) rfl rfl
theorem t165_79 : decode (mb 165) 79 = .ok (.aload_n 0, 1) := by decide +kernel
theorem s165_79 (d : Nat) (a0 : Nat) (l1 : Value) (l2 : Value) (σ : Hs) : ru d 165 79 [.ref a0, l1, l2] [] σ = ru d 165 80 [.ref a0, l1, l2] [.ref a0] σ := q_aload_n t165_79 rfl
theorem t165_80 : decode (mb 165) 80 = .ok (.iload_n 1, 1) := by decide +kernel
theorem s165_80 (d : Nat) (l0 : Value) (i1 : Int32) (l2 : Value) (w0 : Value) (σ : Hs) : ru d 165 80 [l0, .int i1, l2] [w0] σ = ru d 165 81 [l0, .int i1, l2] [.int i1, w0] σ := q_iload_n t165_80 rfl
theorem t165_81 : decode (mb 165) 81 = .ok (.iconst 2, 1) := by decide +kernel
theorem s165_81 (d : Nat) (l0 : Value) (l1 : Value) (l2 : Value) (w0 w1 : Value) (σ : Hs) : ru d 165 81 [l0, l1, l2] [w0, w1] σ = ru d 165 82 [l0, l1, l2] [.int 2, w0, w1] σ := q_iconst t165_81 (by decide +kernel)
theorem t165_82 : decode (mb 165) 82 = .ok (.invokevirtual 85, 3) := by decide +kernel
theorem s165_82_o87 (d : Nat) (l0 : Value) (l1 : Value) (l2 : Value) (v1 v2 : Value) (σ : Hs) : ru d 165 82 [l0, l1, l2] [v2, v1, .ref 87] σ = kont (callD d 118 [.ref 87, v1, v2] σ) d 165 85 [l0, l1, l2] [] := q_invv t165_82 mo165 K8_85 mj118 rfl rfl rfl rfl (Nat.le_of_ble_eq_true rfl)
theorem t165_85 : decode (mb 165) 85 = .ok (.ifCond .le 5, 3) := by decide +kernel
theorem s165_85 (d : Nat) (l0 : Value) (l1 : Value) (l2 : Value) (x : Int32) (σ : Hs) : ru d 165 85 [l0, l1, l2] [.int x] σ = if x ≤ 0 then ru d 165 90 [l0, l1, l2] [] σ else ru d 165 88 [l0, l1, l2] [] σ := q_if_le t165_85 (by decide +kernel)
theorem t165_88 : decode (mb 165) 88 = .ok (.iconst 1, 1) := by decide +kernel
theorem s165_88 (d : Nat) (l0 : Value) (l1 : Value) (l2 : Value) (σ : Hs) : ru d 165 88 [l0, l1, l2] [] σ = ru d 165 89 [l0, l1, l2] [.int 1] σ := q_iconst t165_88 (by decide +kernel)
theorem t165_89 : decode (mb 165) 89 = .ok (.ireturn, 1) := by decide +kernel
theorem s165_89 (d : Nat) (l0 : Value) (l1 : Value) (l2 : Value) (x : Int32) (hx : isB x) (σ : Hs) : ru d 165 89 [l0, l1, l2] [.int x] σ = some (some (.int x), σ) := q_iretz t165_89 mr165 hx
theorem t165_90 : decode (mb 165) 90 = .ok (.aload_n 0, 1) := by decide +kernel
theorem s165_90 (d : Nat) (a0 : Nat) (l1 : Value) (l2 : Value) (σ : Hs) : ru d 165 90 [.ref a0, l1, l2] [] σ = ru d 165 91 [.ref a0, l1, l2] [.ref a0] σ := q_aload_n t165_90 rfl
theorem t165_91 : decode (mb 165) 91 = .ok (.getfield 9, 3) := by decide +kernel
theorem s165_91_o87 (d : Nat) (l0 : Value) (l1 : Value) (l2 : Value) (σ : Hs) : ru d 165 91 [l0, l1, l2] [.ref 87] σ = ru d 165 94 [l0, l1, l2] [.ref 88] σ := q_getf t165_91 mo165 F8_9 rfl rfl
theorem t165_94 : decode (mb 165) 94 = .ok (.bipush 10, 2) := by decide +kernel
theorem s165_94 (d : Nat) (l0 : Value) (l1 : Value) (l2 : Value) (w0 : Value) (σ : Hs) : ru d 165 94 [l0, l1, l2] [w0] σ = ru d 165 96 [l0, l1, l2] [.int 10, w0] σ := q_bipush t165_94 (by decide +kernel)
theorem t165_96 : decode (mb 165) 96 = .ok (.dup2, 1) := by decide +kernel
theorem s165_96 (d : Nat) (l0 : Value) (l1 : Value) (l2 : Value) (x0 : Int32) (x1 : Nat) (σ : Hs) : ru d 165 96 [l0, l1, l2] [.int x0, .ref x1] σ = ru d 165 97 [l0, l1, l2] [.int x0, .ref x1, .int x0, .ref x1] σ := q_dup2 t165_96 rfl rfl
theorem t165_97 : decode (mb 165) 97 = .ok (.iaload, 1) := by decide +kernel
theorem s165_97_o88 (d : Nat) (l0 : Value) (l1 : Value) (l2 : Value) (i : Int32) (w0 w1 : Value) (σ : Hs) : ru d 165 97 [l0, l1, l2] [.int i, .ref 88, w0, w1] σ = gd (vp_in i 545) (ru d 165 98 [l0, l1, l2] [.int (σ 88 i.toNatClampNeg), w0, w1] σ) := q_iald t165_97 rfl (by decide +kernel) rfl
theorem t165_98 : decode (mb 165) 98 = .ok (.iconst 1, 1) := by decide +kernel
theorem s165_98 (d : Nat) (l0 : Value) (l1 : Value) (l2 : Value) (w0 w1 w2 : Value) (σ : Hs) : ru d 165 98 [l0, l1, l2] [w0, w1, w2] σ = ru d 165 99 [l0, l1, l2] [.int 1, w0, w1, w2] σ := q_iconst t165_98 (by decide +kernel)
theorem t165_99 : decode (mb 165) 99 = .ok (.iadd, 1) := by decide +kernel
theorem s165_99 (d : Nat) (l0 : Value) (l1 : Value) (l2 : Value) (x y : Int32) (w0 w1 : Value) (σ : Hs) : ru d 165 99 [l0, l1, l2] [.int y, .int x, w0, w1] σ = ru d 165 100 [l0, l1, l2] [.int (x + y), w0, w1] σ := q_iadd t165_99
theorem t165_100 : decode (mb 165) 100 = .ok (.iastore, 1) := by decide +kernel
theorem s165_100_o88 (d : Nat) (l0 : Value) (l1 : Value) (l2 : Value) (i x : Int32) (σ : Hs) : ru d 165 100 [l0, l1, l2] [.int x, .int i, .ref 88] σ = gd (vp_in i 545) (ru d 165 101 [l0, l1, l2] [] (up2 σ 88 i.toNatClampNeg x)) := q_iast t165_100 (by decide +kernel) rfl rfl
theorem t165_101 : decode (mb 165) 101 = .ok (.aload_n 0, 1) := by decide +kernel
theorem s165_101 (d : Nat) (a0 : Nat) (l1 : Value) (l2 : Value) (σ : Hs) : ru d 165 101 [.ref a0, l1, l2] [] σ = ru d 165 102 [.ref a0, l1, l2] [.ref a0] σ := q_aload_n t165_101 rfl
theorem t165_102 : decode (mb 165) 102 = .ok (.iload_n 1, 1) := by decide +kernel
theorem s165_102 (d : Nat) (l0 : Value) (i1 : Int32) (l2 : Value) (w0 : Value) (σ : Hs) : ru d 165 102 [l0, .int i1, l2] [w0] σ = ru d 165 103 [l0, .int i1, l2] [.int i1, w0] σ := q_iload_n t165_102 rfl
theorem t165_103 : decode (mb 165) 103 = .ok (.invokevirtual 117, 3) := by decide +kernel
theorem s165_103_o87 (d : Nat) (l0 : Value) (l1 : Value) (l2 : Value) (v1 : Value) (σ : Hs) : ru d 165 103 [l0, l1, l2] [v1, .ref 87] σ = kont (callD d 127 [.ref 87, v1] σ) d 165 106 [l0, l1, l2] [] := q_invv t165_103 mo165 K8_117 mj127 rfl rfl rfl rfl (Nat.le_of_ble_eq_true rfl)
theorem t165_106 : decode (mb 165) 106 = .ok (.iconst 0, 1) := by decide +kernel
theorem s165_106 (d : Nat) (l0 : Value) (l1 : Value) (l2 : Value) (σ : Hs) : ru d 165 106 [l0, l1, l2] [] σ = ru d 165 107 [l0, l1, l2] [.int 0] σ := q_iconst t165_106 (by decide +kernel)
theorem t165_107 : decode (mb 165) 107 = .ok (.ireturn, 1) := by decide +kernel
theorem s165_107 (d : Nat) (l0 : Value) (l1 : Value) (l2 : Value) (x : Int32) (hx : isB x) (σ : Hs) : ru d 165 107 [l0, l1, l2] [.int x] σ = some (some (.int x), σ) := q_iretz t165_107 mr165 hx
theorem c165 (d : Nat) (x0 : Nat) (x1 : Int32) (σ : Hs) : callD (d + 1) 165 [.ref x0, .int x1] σ = ru d 165 0 [.ref x0, .int x1, uu] [] σ := callD_ru ml165 rfl rfl (Nat.le_of_ble_eq_true rfl)
-- 166: Model.glows(I)V
theorem t166_0 : decode (mb 166) 0 = .ok (.iconst 0, 1) := by decide +kernel
theorem s166_0 (d : Nat) (l0 : Value) (l1 : Value) (l2 : Value) (l3 : Value) (l4 : Value) (σ : Hs) : ru d 166 0 [l0, l1, l2, l3, l4] [] σ = ru d 166 1 [l0, l1, l2, l3, l4] [.int 0] σ := q_iconst t166_0 (by decide +kernel)
theorem t166_1 : decode (mb 166) 1 = .ok (.istore_n 2, 1) := by decide +kernel
theorem s166_1 (d : Nat) (l0 : Value) (i1 : Int32) (l2 : Value) (l3 : Value) (l4 : Value) (x : Int32) (σ : Hs) : ru d 166 1 [l0, .int i1, l2, l3, l4] [.int x] σ = ru d 166 2 [l0, .int i1, .int x, l3, l4] [] σ := q_istore_n t166_1 ⟨Nat.le_of_ble_eq_true rfl, rfl⟩ rfl
theorem t166_2 : decode (mb 166) 2 = .ok (.iload_n 2, 1) := by decide +kernel
theorem s166_2 (d : Nat) (l0 : Value) (l1 : Value) (i2 : Int32) (l3 : Value) (l4 : Value) (σ : Hs) : ru d 166 2 [l0, l1, .int i2, l3, l4] [] σ = ru d 166 3 [l0, l1, .int i2, l3, l4] [.int i2] σ := q_iload_n t166_2 rfl
theorem t166_3 : decode (mb 166) 3 = .ok (.iconst 4, 1) := by decide +kernel
theorem s166_3 (d : Nat) (l0 : Value) (l1 : Value) (l2 : Value) (l3 : Value) (l4 : Value) (w0 : Value) (σ : Hs) : ru d 166 3 [l0, l1, l2, l3, l4] [w0] σ = ru d 166 4 [l0, l1, l2, l3, l4] [.int 4, w0] σ := q_iconst t166_3 (by decide +kernel)
theorem t166_4 : decode (mb 166) 4 = .ok (.if_icmp .ge 53, 3) := by decide +kernel
theorem s166_4 (d : Nat) (l0 : Value) (l1 : Value) (l2 : Value) (l3 : Value) (l4 : Value) (x y : Int32) (σ : Hs) : ru d 166 4 [l0, l1, l2, l3, l4] [.int y, .int x] σ = if y ≤ x then ru d 166 57 [l0, l1, l2, l3, l4] [] σ else ru d 166 7 [l0, l1, l2, l3, l4] [] σ := q_ic_ge t166_4 (by decide +kernel)
theorem t166_7 : decode (mb 166) 7 = .ok (.iload_n 1, 1) := by decide +kernel
theorem s166_7 (d : Nat) (l0 : Value) (i1 : Int32) (l2 : Value) (l3 : Value) (l4 : Value) (σ : Hs) : ru d 166 7 [l0, .int i1, l2, l3, l4] [] σ = ru d 166 8 [l0, .int i1, l2, l3, l4] [.int i1] σ := q_iload_n t166_7 rfl
theorem t166_8 : decode (mb 166) 8 = .ok (.iload_n 2, 1) := by decide +kernel
theorem s166_8 (d : Nat) (l0 : Value) (l1 : Value) (i2 : Int32) (l3 : Value) (l4 : Value) (w0 : Value) (σ : Hs) : ru d 166 8 [l0, l1, .int i2, l3, l4] [w0] σ = ru d 166 9 [l0, l1, .int i2, l3, l4] [.int i2, w0] σ := q_iload_n t166_8 rfl
theorem t166_9 : decode (mb 166) 9 = .ok (.invokestatic 121, 3) := by decide +kernel
theorem s166_9 (d : Nat) (l0 : Value) (l1 : Value) (l2 : Value) (l3 : Value) (l4 : Value) (v0 v1 : Value) (σ : Hs) : ru d 166 9 [l0, l1, l2, l3, l4] [v1, v0] σ = kont (callD d 129 [v0, v1] σ) d 166 12 [l0, l1, l2, l3, l4] [] := q_invs t166_9 mo166 (by decide +kernel) K8_121 mj129 (Nat.le_of_ble_eq_true rfl) rfl rfl (Nat.le_of_ble_eq_true rfl)
theorem t166_12 : decode (mb 166) 12 = .ok (.istore_n 3, 1) := by decide +kernel
theorem s166_12 (d : Nat) (l0 : Value) (l1 : Value) (i2 : Int32) (l3 : Value) (l4 : Value) (x : Int32) (σ : Hs) : ru d 166 12 [l0, l1, .int i2, l3, l4] [.int x] σ = ru d 166 13 [l0, l1, .int i2, .int x, l4] [] σ := q_istore_n t166_12 ⟨Nat.le_of_ble_eq_true rfl, rfl⟩ rfl
theorem t166_13 : decode (mb 166) 13 = .ok (.iload_n 3, 1) := by decide +kernel
theorem s166_13 (d : Nat) (l0 : Value) (l1 : Value) (l2 : Value) (i3 : Int32) (l4 : Value) (σ : Hs) : ru d 166 13 [l0, l1, l2, .int i3, l4] [] σ = ru d 166 14 [l0, l1, l2, .int i3, l4] [.int i3] σ := q_iload_n t166_13 rfl
theorem t166_14 : decode (mb 166) 14 = .ok (.ifCond .lt 37, 3) := by decide +kernel
theorem s166_14 (d : Nat) (l0 : Value) (l1 : Value) (l2 : Value) (l3 : Value) (l4 : Value) (x : Int32) (σ : Hs) : ru d 166 14 [l0, l1, l2, l3, l4] [.int x] σ = if x < 0 then ru d 166 51 [l0, l1, l2, l3, l4] [] σ else ru d 166 17 [l0, l1, l2, l3, l4] [] σ := q_if_lt t166_14 (by decide +kernel)
theorem t166_17 : decode (mb 166) 17 = .ok (.aload_n 0, 1) := by decide +kernel
theorem s166_17 (d : Nat) (a0 : Nat) (l1 : Value) (l2 : Value) (l3 : Value) (l4 : Value) (σ : Hs) : ru d 166 17 [.ref a0, l1, l2, l3, l4] [] σ = ru d 166 18 [.ref a0, l1, l2, l3, l4] [.ref a0] σ := q_aload_n t166_17 rfl
theorem t166_18 : decode (mb 166) 18 = .ok (.iload_n 3, 1) := by decide +kernel
theorem s166_18 (d : Nat) (l0 : Value) (l1 : Value) (l2 : Value) (i3 : Int32) (l4 : Value) (w0 : Value) (σ : Hs) : ru d 166 18 [l0, l1, l2, .int i3, l4] [w0] σ = ru d 166 19 [l0, l1, l2, .int i3, l4] [.int i3, w0] σ := q_iload_n t166_18 rfl
theorem t166_19 : decode (mb 166) 19 = .ok (.invokevirtual 88, 3) := by decide +kernel
theorem s166_19_o87 (d : Nat) (l0 : Value) (l1 : Value) (l2 : Value) (l3 : Value) (l4 : Value) (v1 : Value) (σ : Hs) : ru d 166 19 [l0, l1, l2, l3, l4] [v1, .ref 87] σ = kont (callD d 121 [.ref 87, v1] σ) d 166 22 [l0, l1, l2, l3, l4] [] := q_invv t166_19 mo166 K8_88 mj121 rfl rfl rfl rfl (Nat.le_of_ble_eq_true rfl)
theorem t166_22 : decode (mb 166) 22 = .ok (.ifCond .eq 29, 3) := by decide +kernel
theorem s166_22 (d : Nat) (l0 : Value) (l1 : Value) (l2 : Value) (l3 : Value) (l4 : Value) (x : Int32) (σ : Hs) : ru d 166 22 [l0, l1, l2, l3, l4] [.int x] σ = if x = 0 then ru d 166 51 [l0, l1, l2, l3, l4] [] σ else ru d 166 25 [l0, l1, l2, l3, l4] [] σ := q_if_eq t166_22 (by decide +kernel)
theorem t166_25 : decode (mb 166) 25 = .ok (.aload_n 0, 1) := by decide +kernel
theorem s166_25 (d : Nat) (a0 : Nat) (l1 : Value) (l2 : Value) (l3 : Value) (l4 : Value) (σ : Hs) : ru d 166 25 [.ref a0, l1, l2, l3, l4] [] σ = ru d 166 26 [.ref a0, l1, l2, l3, l4] [.ref a0] σ := q_aload_n t166_25 rfl
theorem t166_26 : decode (mb 166) 26 = .ok (.iload_n 1, 1) := by decide +kernel
theorem s166_26 (d : Nat) (l0 : Value) (i1 : Int32) (l2 : Value) (l3 : Value) (l4 : Value) (w0 : Value) (σ : Hs) : ru d 166 26 [l0, .int i1, l2, l3, l4] [w0] σ = ru d 166 27 [l0, .int i1, l2, l3, l4] [.int i1, w0] σ := q_iload_n t166_26 rfl
theorem t166_27 : decode (mb 166) 27 = .ok (.iconst 5, 1) := by decide +kernel
theorem s166_27 (d : Nat) (l0 : Value) (l1 : Value) (l2 : Value) (l3 : Value) (l4 : Value) (w0 w1 : Value) (σ : Hs) : ru d 166 27 [l0, l1, l2, l3, l4] [w0, w1] σ = ru d 166 28 [l0, l1, l2, l3, l4] [.int 5, w0, w1] σ := q_iconst t166_27 (by decide +kernel)
theorem t166_28 : decode (mb 166) 28 = .ok (.invokevirtual 85, 3) := by decide +kernel
theorem s166_28_o87 (d : Nat) (l0 : Value) (l1 : Value) (l2 : Value) (l3 : Value) (l4 : Value) (v1 v2 : Value) (σ : Hs) : ru d 166 28 [l0, l1, l2, l3, l4] [v2, v1, .ref 87] σ = kont (callD d 118 [.ref 87, v1, v2] σ) d 166 31 [l0, l1, l2, l3, l4] [] := q_invv t166_28 mo166 K8_85 mj118 rfl rfl rfl rfl (Nat.le_of_ble_eq_true rfl)
theorem t166_31 : decode (mb 166) 31 = .ok (.bipush 8, 2) := by decide +kernel
theorem s166_31 (d : Nat) (l0 : Value) (l1 : Value) (l2 : Value) (l3 : Value) (l4 : Value) (w0 : Value) (σ : Hs) : ru d 166 31 [l0, l1, l2, l3, l4] [w0] σ = ru d 166 33 [l0, l1, l2, l3, l4] [.int 8, w0] σ := q_bipush t166_31 (by decide +kernel)
theorem t166_33 : decode (mb 166) 33 = .ok (.idiv, 1) := by decide +kernel
theorem s166_33 (d : Nat) (l0 : Value) (l1 : Value) (l2 : Value) (l3 : Value) (l4 : Value) (x y : Int32) (σ : Hs) : ru d 166 33 [l0, l1, l2, l3, l4] [.int y, .int x] σ = gd (¬ y = 0) (ru d 166 34 [l0, l1, l2, l3, l4] [.int (x / y)] σ) := q_idiv t166_33
theorem t166_34 : decode (mb 166) 34 = .ok (.istore 4, 2) := by decide +kernel
theorem s166_34 (d : Nat) (l0 : Value) (l1 : Value) (l2 : Value) (i3 : Int32) (l4 : Value) (x : Int32) (σ : Hs) : ru d 166 34 [l0, l1, l2, .int i3, l4] [.int x] σ = ru d 166 36 [l0, l1, l2, .int i3, .int x] [] σ := q_istore t166_34 ⟨Nat.le_of_ble_eq_true rfl, rfl⟩ rfl
theorem t166_36 : decode (mb 166) 36 = .ok (.aload_n 0, 1) := by decide +kernel
theorem s166_36 (d : Nat) (a0 : Nat) (l1 : Value) (l2 : Value) (l3 : Value) (l4 : Value) (σ : Hs) : ru d 166 36 [.ref a0, l1, l2, l3, l4] [] σ = ru d 166 37 [.ref a0, l1, l2, l3, l4] [.ref a0] σ := q_aload_n t166_36 rfl
theorem t166_37 : decode (mb 166) 37 = .ok (.iload_n 1, 1) := by decide +kernel
theorem s166_37 (d : Nat) (l0 : Value) (i1 : Int32) (l2 : Value) (l3 : Value) (l4 : Value) (w0 : Value) (σ : Hs) : ru d 166 37 [l0, .int i1, l2, l3, l4] [w0] σ = ru d 166 38 [l0, .int i1, l2, l3, l4] [.int i1, w0] σ := q_iload_n t166_37 rfl
theorem t166_38 : decode (mb 166) 38 = .ok (.iload 4, 2) := by decide +kernel
theorem s166_38 (d : Nat) (l0 : Value) (l1 : Value) (l2 : Value) (l3 : Value) (i4 : Int32) (w0 w1 : Value) (σ : Hs) : ru d 166 38 [l0, l1, l2, l3, .int i4] [w0, w1] σ = ru d 166 40 [l0, l1, l2, l3, .int i4] [.int i4, w0, w1] σ := q_iload t166_38 rfl
theorem t166_40 : decode (mb 166) 40 = .ok (.ineg, 1) := by decide +kernel
theorem s166_40 (d : Nat) (l0 : Value) (l1 : Value) (l2 : Value) (l3 : Value) (l4 : Value) (x : Int32) (w0 w1 : Value) (σ : Hs) : ru d 166 40 [l0, l1, l2, l3, l4] [.int x, w0, w1] σ = ru d 166 41 [l0, l1, l2, l3, l4] [.int (-x), w0, w1] σ := q_ineg t166_40
theorem t166_41 : decode (mb 166) 41 = .ok (.invokevirtual 238, 3) := by decide +kernel
theorem s166_41_o87 (d : Nat) (l0 : Value) (l1 : Value) (l2 : Value) (l3 : Value) (l4 : Value) (v1 v2 : Value) (σ : Hs) : ru d 166 41 [l0, l1, l2, l3, l4] [v2, v1, .ref 87] σ = kont (callD d 164 [.ref 87, v1, v2] σ) d 166 44 [l0, l1, l2, l3, l4] [] := q_invv t166_41 mo166 K8_238 mj164 rfl rfl rfl rfl (Nat.le_of_ble_eq_true rfl)
theorem t166_44 : decode (mb 166) 44 = .ok (.aload_n 0, 1) := by decide +kernel
theorem s166_44 (d : Nat) (a0 : Nat) (l1 : Value) (l2 : Value) (l3 : Value) (l4 : Value) (σ : Hs) : ru d 166 44 [.ref a0, l1, l2, l3, l4] [] σ = ru d 166 45 [.ref a0, l1, l2, l3, l4] [.ref a0] σ := q_aload_n t166_44 rfl
theorem t166_45 : decode (mb 166) 45 = .ok (.iload_n 3, 1) := by decide +kernel
theorem s166_45 (d : Nat) (l0 : Value) (l1 : Value) (l2 : Value) (i3 : Int32) (l4 : Value) (w0 : Value) (σ : Hs) : ru d 166 45 [l0, l1, l2, .int i3, l4] [w0] σ = ru d 166 46 [l0, l1, l2, .int i3, l4] [.int i3, w0] σ := q_iload_n t166_45 rfl
theorem t166_46 : decode (mb 166) 46 = .ok (.iload 4, 2) := by decide +kernel
theorem s166_46 (d : Nat) (l0 : Value) (l1 : Value) (l2 : Value) (l3 : Value) (i4 : Int32) (w0 w1 : Value) (σ : Hs) : ru d 166 46 [l0, l1, l2, l3, .int i4] [w0, w1] σ = ru d 166 48 [l0, l1, l2, l3, .int i4] [.int i4, w0, w1] σ := q_iload t166_46 rfl
theorem t166_48 : decode (mb 166) 48 = .ok (.invokevirtual 238, 3) := by decide +kernel
theorem s166_48_o87 (d : Nat) (l0 : Value) (l1 : Value) (l2 : Value) (l3 : Value) (l4 : Value) (v1 v2 : Value) (σ : Hs) : ru d 166 48 [l0, l1, l2, l3, l4] [v2, v1, .ref 87] σ = kont (callD d 164 [.ref 87, v1, v2] σ) d 166 51 [l0, l1, l2, l3, l4] [] := q_invv t166_48 mo166 K8_238 mj164 rfl rfl rfl rfl (Nat.le_of_ble_eq_true rfl)
theorem t166_51 : decode (mb 166) 51 = .ok (.iinc 2 1, 3) := by decide +kernel
theorem s166_51 (d : Nat) (l0 : Value) (i1 : Int32) (i2 : Int32) (l3 : Value) (l4 : Value) (σ : Hs) : ru d 166 51 [l0, .int i1, .int i2, l3, l4] [] σ = ru d 166 54 [l0, .int i1, .int (i2 + 1), l3, l4] [] σ := q_iinc t166_51 ⟨Nat.le_of_ble_eq_true rfl, rfl⟩ rfl (by decide +kernel) rfl
theorem t166_54 : decode (mb 166) 54 = .ok (.goto (-52), 3) := by decide +kernel
theorem s166_54 (d : Nat) (l0 : Value) (l1 : Value) (l2 : Value) (l3 : Value) (l4 : Value) (σ : Hs) : ru d 166 54 [l0, l1, l2, l3, l4] [] σ = ru d 166 2 [l0, l1, l2, l3, l4] [] σ := q_goto t166_54 (by decide +kernel)
theorem t166_57 : decode (mb 166) 57 = .ok (.aload_n 0, 1) := by decide +kernel
theorem s166_57 (d : Nat) (a0 : Nat) (l1 : Value) (l2 : Value) (l3 : Value) (l4 : Value) (σ : Hs) : ru d 166 57 [.ref a0, l1, l2, l3, l4] [] σ = ru d 166 58 [.ref a0, l1, l2, l3, l4] [.ref a0] σ := q_aload_n t166_57 rfl
theorem t166_58 : decode (mb 166) 58 = .ok (.iload_n 1, 1) := by decide +kernel
theorem s166_58 (d : Nat) (l0 : Value) (i1 : Int32) (l2 : Value) (l3 : Value) (l4 : Value) (w0 : Value) (σ : Hs) : ru d 166 58 [l0, .int i1, l2, l3, l4] [w0] σ = ru d 166 59 [l0, .int i1, l2, l3, l4] [.int i1, w0] σ := q_iload_n t166_58 rfl
theorem t166_59 : decode (mb 166) 59 = .ok (.iconst 5, 1) := by decide +kernel
theorem s166_59 (d : Nat) (l0 : Value) (l1 : Value) (l2 : Value) (l3 : Value) (l4 : Value) (w0 w1 : Value) (σ : Hs) : ru d 166 59 [l0, l1, l2, l3, l4] [w0, w1] σ = ru d 166 60 [l0, l1, l2, l3, l4] [.int 5, w0, w1] σ := q_iconst t166_59 (by decide +kernel)
theorem t166_60 : decode (mb 166) 60 = .ok (.invokevirtual 85, 3) := by decide +kernel
theorem s166_60_o87 (d : Nat) (l0 : Value) (l1 : Value) (l2 : Value) (l3 : Value) (l4 : Value) (v1 v2 : Value) (σ : Hs) : ru d 166 60 [l0, l1, l2, l3, l4] [v2, v1, .ref 87] σ = kont (callD d 118 [.ref 87, v1, v2] σ) d 166 63 [l0, l1, l2, l3, l4] [] := q_invv t166_60 mo166 K8_85 mj118 rfl rfl rfl rfl (Nat.le_of_ble_eq_true rfl)
theorem t166_63 : decode (mb 166) 63 = .ok (.istore_n 2, 1) := by decide +kernel
theorem s166_63 (d : Nat) (l0 : Value) (i1 : Int32) (l2 : Value) (l3 : Value) (l4 : Value) (x : Int32) (σ : Hs) : ru d 166 63 [l0, .int i1, l2, l3, l4] [.int x] σ = ru d 166 64 [l0, .int i1, .int x, l3, l4] [] σ := q_istore_n t166_63 ⟨Nat.le_of_ble_eq_true rfl, rfl⟩ rfl
theorem t166_64 : decode (mb 166) 64 = .ok (.aload_n 0, 1) := by decide +kernel
theorem s166_64 (d : Nat) (a0 : Nat) (l1 : Value) (l2 : Value) (l3 : Value) (l4 : Value) (σ : Hs) : ru d 166 64 [.ref a0, l1, l2, l3, l4] [] σ = ru d 166 65 [.ref a0, l1, l2, l3, l4] [.ref a0] σ := q_aload_n t166_64 rfl
theorem t166_65 : decode (mb 166) 65 = .ok (.iload_n 1, 1) := by decide +kernel
theorem s166_65 (d : Nat) (l0 : Value) (i1 : Int32) (l2 : Value) (l3 : Value) (l4 : Value) (w0 : Value) (σ : Hs) : ru d 166 65 [l0, .int i1, l2, l3, l4] [w0] σ = ru d 166 66 [l0, .int i1, l2, l3, l4] [.int i1, w0] σ := q_iload_n t166_65 rfl
theorem t166_66 : decode (mb 166) 66 = .ok (.iconst 3, 1) := by decide +kernel
theorem s166_66 (d : Nat) (l0 : Value) (l1 : Value) (l2 : Value) (l3 : Value) (l4 : Value) (w0 w1 : Value) (σ : Hs) : ru d 166 66 [l0, l1, l2, l3, l4] [w0, w1] σ = ru d 166 67 [l0, l1, l2, l3, l4] [.int 3, w0, w1] σ := q_iconst t166_66 (by decide +kernel)
theorem t166_67 : decode (mb 166) 67 = .ok (.iconst 0, 1) := by decide +kernel
theorem s166_67 (d : Nat) (l0 : Value) (l1 : Value) (l2 : Value) (l3 : Value) (l4 : Value) (w0 w1 w2 : Value) (σ : Hs) : ru d 166 67 [l0, l1, l2, l3, l4] [w0, w1, w2] σ = ru d 166 68 [l0, l1, l2, l3, l4] [.int 0, w0, w1, w2] σ := q_iconst t166_67 (by decide +kernel)
theorem t166_68 : decode (mb 166) 68 = .ok (.aload_n 0, 1) := by decide +kernel
theorem s166_68 (d : Nat) (a0 : Nat) (l1 : Value) (l2 : Value) (l3 : Value) (l4 : Value) (w0 w1 w2 w3 : Value) (σ : Hs) : ru d 166 68 [.ref a0, l1, l2, l3, l4] [w0, w1, w2, w3] σ = ru d 166 69 [.ref a0, l1, l2, l3, l4] [.ref a0, w0, w1, w2, w3] σ := q_aload_n t166_68 rfl
theorem t166_69 : decode (mb 166) 69 = .ok (.iload_n 1, 1) := by decide +kernel
theorem s166_69 (d : Nat) (l0 : Value) (i1 : Int32) (l2 : Value) (l3 : Value) (l4 : Value) (w0 w1 w2 w3 w4 : Value) (σ : Hs) : ru d 166 69 [l0, .int i1, l2, l3, l4] [w0, w1, w2, w3, w4] σ = ru d 166 70 [l0, .int i1, l2, l3, l4] [.int i1, w0, w1, w2, w3, w4] σ := q_iload_n t166_69 rfl
theorem t166_70 : decode (mb 166) 70 = .ok (.iconst 3, 1) := by decide +kernel
theorem s166_70 (d : Nat) (l0 : Value) (l1 : Value) (l2 : Value) (l3 : Value) (l4 : Value) (w0 w1 w2 w3 w4 w5 : Value) (σ : Hs) : ru d 166 70 [l0, l1, l2, l3, l4] [w0, w1, w2, w3, w4, w5] σ = ru d 166 71 [l0, l1, l2, l3, l4] [.int 3, w0, w1, w2, w3, w4, w5] σ := q_iconst t166_70 (by decide +kernel)
theorem t166_71 : decode (mb 166) 71 = .ok (.invokevirtual 85, 3) := by decide +kernel
theorem s166_71_o87 (d : Nat) (l0 : Value) (l1 : Value) (l2 : Value) (l3 : Value) (l4 : Value) (v1 v2 : Value) (w0 : Int32) (w1 : Int32) (w2 : Int32) (w3 : Nat) (σ : Hs) : ru d 166 71 [l0, l1, l2, l3, l4] [v2, v1, .ref 87, .int w0, .int w1, .int w2, .ref w3] σ = kont (callD d 118 [.ref 87, v1, v2] σ) d 166 74 [l0, l1, l2, l3, l4] [.int w0, .int w1, .int w2, .ref w3] := q_invv t166_71 mo166 K8_85 mj118 rfl rfl rfl rfl (Nat.le_of_ble_eq_true rfl)
theorem t166_74 : decode (mb 166) 74 = .ok (.iload_n 2, 1) := by decide +kernel
theorem s166_74 (d : Nat) (l0 : Value) (l1 : Value) (i2 : Int32) (l3 : Value) (l4 : Value) (w0 w1 w2 w3 w4 : Value) (σ : Hs) : ru d 166 74 [l0, l1, .int i2, l3, l4] [w0, w1, w2, w3, w4] σ = ru d 166 75 [l0, l1, .int i2, l3, l4] [.int i2, w0, w1, w2, w3, w4] σ := q_iload_n t166_74 rfl
theorem t166_75 : decode (mb 166) 75 = .ok (.bipush 20, 2) := by decide +kernel
theorem s166_75 (d : Nat) (l0 : Value) (l1 : Value) (l2 : Value) (l3 : Value) (l4 : Value) (w0 w1 w2 w3 w4 w5 : Value) (σ : Hs) : ru d 166 75 [l0, l1, l2, l3, l4] [w0, w1, w2, w3, w4, w5] σ = ru d 166 77 [l0, l1, l2, l3, l4] [.int 20, w0, w1, w2, w3, w4, w5] σ := q_bipush t166_75 (by decide +kernel)
theorem t166_77 : decode (mb 166) 77 = .ok (.idiv, 1) := by decide +kernel
theorem s166_77 (d : Nat) (l0 : Value) (l1 : Value) (l2 : Value) (l3 : Value) (l4 : Value) (x y : Int32) (w0 w1 w2 w3 w4 : Value) (σ : Hs) : ru d 166 77 [l0, l1, l2, l3, l4] [.int y, .int x, w0, w1, w2, w3, w4] σ = gd (¬ y = 0) (ru d 166 78 [l0, l1, l2, l3, l4] [.int (x / y), w0, w1, w2, w3, w4] σ) := q_idiv t166_77
theorem t166_78 : decode (mb 166) 78 = .ok (.isub, 1) := by decide +kernel
theorem s166_78 (d : Nat) (l0 : Value) (l1 : Value) (l2 : Value) (l3 : Value) (l4 : Value) (x y : Int32) (w0 w1 w2 w3 : Value) (σ : Hs) : ru d 166 78 [l0, l1, l2, l3, l4] [.int y, .int x, w0, w1, w2, w3] σ = ru d 166 79 [l0, l1, l2, l3, l4] [.int (x - y), w0, w1, w2, w3] σ := q_isub t166_78
theorem t166_79 : decode (mb 166) 79 = .ok (.invokestatic 74, 3) := by decide +kernel
theorem s166_79 (d : Nat) (l0 : Value) (l1 : Value) (l2 : Value) (l3 : Value) (l4 : Value) (x y : Int32) (w0 : Int32) (w1 : Int32) (w2 : Nat) (σ : Hs) : ru d 166 79 [l0, l1, l2, l3, l4] [.int y, .int x, .int w0, .int w1, .ref w2] σ = ru d 166 82 [l0, l1, l2, l3, l4] [.int (jmax x y), .int w0, .int w1, .ref w2] σ := q_mx t166_79 mo166 (by decide +kernel) (by decide +kernel) (Nat.le_of_ble_eq_true rfl)
theorem t166_82 : decode (mb 166) 82 = .ok (.invokevirtual 96, 3) := by decide +kernel
theorem s166_82_o87 (d : Nat) (l0 : Value) (l1 : Value) (l2 : Value) (l3 : Value) (l4 : Value) (v1 v2 v3 : Value) (σ : Hs) : ru d 166 82 [l0, l1, l2, l3, l4] [v3, v2, v1, .ref 87] σ = kont (callD d 119 [.ref 87, v1, v2, v3] σ) d 166 85 [l0, l1, l2, l3, l4] [] := q_invv t166_82 mo166 K8_96 mj119 rfl rfl rfl rfl (Nat.le_of_ble_eq_true rfl)
theorem t166_85 : decode (mb 166) 85 = .ok (.aload_n 0, 1) := by decide +kernel
theorem s166_85 (d : Nat) (a0 : Nat) (l1 : Value) (l2 : Value) (l3 : Value) (l4 : Value) (σ : Hs) : ru d 166 85 [.ref a0, l1, l2, l3, l4] [] σ = ru d 166 86 [.ref a0, l1, l2, l3, l4] [.ref a0] σ := q_aload_n t166_85 rfl
theorem t166_86 : decode (mb 166) 86 = .ok (.iload_n 1, 1) := by decide +kernel
theorem s166_86 (d : Nat) (l0 : Value) (i1 : Int32) (l2 : Value) (l3 : Value) (l4 : Value) (w0 : Value) (σ : Hs) : ru d 166 86 [l0, .int i1, l2, l3, l4] [w0] σ = ru d 166 87 [l0, .int i1, l2, l3, l4] [.int i1, w0] σ := q_iload_n t166_86 rfl
theorem t166_87 : decode (mb 166) 87 = .ok (.invokevirtual 142, 3) := by decide +kernel
theorem s166_87_o87 (d : Nat) (l0 : Value) (l1 : Value) (l2 : Value) (l3 : Value) (l4 : Value) (v1 : Value) (σ : Hs) : ru d 166 87 [l0, l1, l2, l3, l4] [v1, .ref 87] σ = kont (callD d 122 [.ref 87, v1] σ) d 166 90 [l0, l1, l2, l3, l4] [] := q_invv t166_87 mo166 K8_142 mj122 rfl rfl rfl rfl (Nat.le_of_ble_eq_true rfl)
theorem t166_90 : decode (mb 166) 90 = .ok (.ifCond .ne 42, 3) := by decide +kernel
theorem s166_90 (d : Nat) (l0 : Value) (l1 : Value) (l2 : Value) (l3 : Value) (l4 : Value) (x : Int32) (σ : Hs) : ru d 166 90 [l0, l1, l2, l3, l4] [.int x] σ = if x = 0 then ru d 166 93 [l0, l1, l2, l3, l4] [] σ else ru d 166 132 [l0, l1, l2, l3, l4] [] σ := q_if_ne t166_90 (by decide +kernel)
theorem t166_93 : decode (mb 166) 93 = .ok (.aload_n 0, 1) := by decide +kernel
theorem s166_93 (d : Nat) (a0 : Nat) (l1 : Value) (l2 : Value) (l3 : Value) (l4 : Value) (σ : Hs) : ru d 166 93 [.ref a0, l1, l2, l3, l4] [] σ = ru d 166 94 [.ref a0, l1, l2, l3, l4] [.ref a0] σ := q_aload_n t166_93 rfl
theorem t166_94 : decode (mb 166) 94 = .ok (.iload_n 1, 1) := by decide +kernel
theorem s166_94 (d : Nat) (l0 : Value) (i1 : Int32) (l2 : Value) (l3 : Value) (l4 : Value) (w0 : Value) (σ : Hs) : ru d 166 94 [l0, .int i1, l2, l3, l4] [w0] σ = ru d 166 95 [l0, .int i1, l2, l3, l4] [.int i1, w0] σ := q_iload_n t166_94 rfl
theorem t166_95 : decode (mb 166) 95 = .ok (.iconst 3, 1) := by decide +kernel
theorem s166_95 (d : Nat) (l0 : Value) (l1 : Value) (l2 : Value) (l3 : Value) (l4 : Value) (w0 w1 : Value) (σ : Hs) : ru d 166 95 [l0, l1, l2, l3, l4] [w0, w1] σ = ru d 166 96 [l0, l1, l2, l3, l4] [.int 3, w0, w1] σ := q_iconst t166_95 (by decide +kernel)
theorem t166_96 : decode (mb 166) 96 = .ok (.invokevirtual 85, 3) := by decide +kernel
theorem s166_96_o87 (d : Nat) (l0 : Value) (l1 : Value) (l2 : Value) (l3 : Value) (l4 : Value) (v1 v2 : Value) (σ : Hs) : ru d 166 96 [l0, l1, l2, l3, l4] [v2, v1, .ref 87] σ = kont (callD d 118 [.ref 87, v1, v2] σ) d 166 99 [l0, l1, l2, l3, l4] [] := q_invv t166_96 mo166 K8_85 mj118 rfl rfl rfl rfl (Nat.le_of_ble_eq_true rfl)
theorem t166_99 : decode (mb 166) 99 = .ok (.aload_n 0, 1) := by decide +kernel
theorem s166_99 (d : Nat) (a0 : Nat) (l1 : Value) (l2 : Value) (l3 : Value) (l4 : Value) (w0 : Value) (σ : Hs) : ru d 166 99 [.ref a0, l1, l2, l3, l4] [w0] σ = ru d 166 100 [.ref a0, l1, l2, l3, l4] [.ref a0, w0] σ := q_aload_n t166_99 rfl
theorem t166_100 : decode (mb 166) 100 = .ok (.getfield 9, 3) := by decide +kernel
theorem s166_100_o87 (d : Nat) (l0 : Value) (l1 : Value) (l2 : Value) (l3 : Value) (l4 : Value) (w0 : Value) (σ : Hs) : ru d 166 100 [l0, l1, l2, l3, l4] [.ref 87, w0] σ = ru d 166 103 [l0, l1, l2, l3, l4] [.ref 88, w0] σ := q_getf t166_100 mo166 F8_9 rfl rfl
theorem t166_103 : decode (mb 166) 103 = .ok (.bipush 7, 2) := by decide +kernel
theorem s166_103 (d : Nat) (l0 : Value) (l1 : Value) (l2 : Value) (l3 : Value) (l4 : Value) (w0 w1 : Value) (σ : Hs) : ru d 166 103 [l0, l1, l2, l3, l4] [w0, w1] σ = ru d 166 105 [l0, l1, l2, l3, l4] [.int 7, w0, w1] σ := q_bipush t166_103 (by decide +kernel)
theorem t166_105 : decode (mb 166) 105 = .ok (.iaload, 1) := by decide +kernel
theorem s166_105_o88 (d : Nat) (l0 : Value) (l1 : Value) (l2 : Value) (l3 : Value) (l4 : Value) (i : Int32) (w0 : Value) (σ : Hs) : ru d 166 105 [l0, l1, l2, l3, l4] [.int i, .ref 88, w0] σ = gd (vp_in i 545) (ru d 166 106 [l0, l1, l2, l3, l4] [.int (σ 88 i.toNatClampNeg), w0] σ) := q_iald t166_105 rfl (by decide +kernel) rfl
theorem t166_106 : decode (mb 166) 106 = .ok (.if_icmp .gt 26, 3) := by decide +kernel
theorem s166_106 (d : Nat) (l0 : Value) (l1 : Value) (l2 : Value) (l3 : Value) (l4 : Value) (x y : Int32) (σ : Hs) : ru d 166 106 [l0, l1, l2, l3, l4] [.int y, .int x] σ = if y < x then ru d 166 132 [l0, l1, l2, l3, l4] [] σ else ru d 166 109 [l0, l1, l2, l3, l4] [] σ := q_ic_gt t166_106 (by decide +kernel)
theorem t166_109 : decode (mb 166) 109 = .ok (.iload_n 2, 1) := by decide +kernel
theorem s166_109 (d : Nat) (l0 : Value) (l1 : Value) (i2 : Int32) (l3 : Value) (l4 : Value) (σ : Hs) : ru d 166 109 [l0, l1, .int i2, l3, l4] [] σ = ru d 166 110 [l0, l1, .int i2, l3, l4] [.int i2] σ := q_iload_n t166_109 rfl
theorem t166_110 : decode (mb 166) 110 = .ok (.aload_n 0, 1) := by decide +kernel
theorem s166_110 (d : Nat) (a0 : Nat) (l1 : Value) (l2 : Value) (l3 : Value) (l4 : Value) (w0 : Value) (σ : Hs) : ru d 166 110 [.ref a0, l1, l2, l3, l4] [w0] σ = ru d 166 111 [.ref a0, l1, l2, l3, l4] [.ref a0, w0] σ := q_aload_n t166_110 rfl
theorem t166_111 : decode (mb 166) 111 = .ok (.getfield 25, 3) := by decide +kernel
theorem s166_111_o87 (d : Nat) (l0 : Value) (l1 : Value) (l2 : Value) (l3 : Value) (l4 : Value) (w0 : Value) (σ : Hs) : ru d 166 111 [l0, l1, l2, l3, l4] [.ref 87, w0] σ = ru d 166 114 [l0, l1, l2, l3, l4] [.ref 93, w0] σ := q_getf t166_111 mo166 F8_25 rfl rfl
theorem t166_114 : decode (mb 166) 114 = .ok (.aload_n 0, 1) := by decide +kernel
theorem s166_114 (d : Nat) (a0 : Nat) (l1 : Value) (l2 : Value) (l3 : Value) (l4 : Value) (w0 w1 : Value) (σ : Hs) : ru d 166 114 [.ref a0, l1, l2, l3, l4] [w0, w1] σ = ru d 166 115 [.ref a0, l1, l2, l3, l4] [.ref a0, w0, w1] σ := q_aload_n t166_114 rfl
theorem t166_115 : decode (mb 166) 115 = .ok (.iload_n 1, 1) := by decide +kernel
theorem s166_115 (d : Nat) (l0 : Value) (i1 : Int32) (l2 : Value) (l3 : Value) (l4 : Value) (w0 w1 w2 : Value) (σ : Hs) : ru d 166 115 [l0, .int i1, l2, l3, l4] [w0, w1, w2] σ = ru d 166 116 [l0, .int i1, l2, l3, l4] [.int i1, w0, w1, w2] σ := q_iload_n t166_115 rfl
theorem t166_116 : decode (mb 166) 116 = .ok (.iconst 1, 1) := by decide +kernel
theorem s166_116 (d : Nat) (l0 : Value) (l1 : Value) (l2 : Value) (l3 : Value) (l4 : Value) (w0 w1 w2 w3 : Value) (σ : Hs) : ru d 166 116 [l0, l1, l2, l3, l4] [w0, w1, w2, w3] σ = ru d 166 117 [l0, l1, l2, l3, l4] [.int 1, w0, w1, w2, w3] σ := q_iconst t166_116 (by decide +kernel)
theorem t166_117 : decode (mb 166) 117 = .ok (.invokevirtual 85, 3) := by decide +kernel
theorem s166_117_o87 (d : Nat) (l0 : Value) (l1 : Value) (l2 : Value) (l3 : Value) (l4 : Value) (v1 v2 : Value) (w0 : Nat) (w1 : Int32) (σ : Hs) : ru d 166 117 [l0, l1, l2, l3, l4] [v2, v1, .ref 87, .ref w0, .int w1] σ = kont (callD d 118 [.ref 87, v1, v2] σ) d 166 120 [l0, l1, l2, l3, l4] [.ref w0, .int w1] := q_invv t166_117 mo166 K8_85 mj118 rfl rfl rfl rfl (Nat.le_of_ble_eq_true rfl)
theorem t166_120 : decode (mb 166) 120 = .ok (.iaload, 1) := by decide +kernel
theorem s166_120_o93 (d : Nat) (l0 : Value) (l1 : Value) (l2 : Value) (l3 : Value) (l4 : Value) (i : Int32) (w0 : Value) (σ : Hs) : ru d 166 120 [l0, l1, l2, l3, l4] [.int i, .ref 93, w0] σ = gd (vp_in i 7) (ru d 166 121 [l0, l1, l2, l3, l4] [.int (σ 93 i.toNatClampNeg), w0] σ) := q_iald t166_120 rfl (by decide +kernel) rfl
theorem t166_121 : decode (mb 166) 121 = .ok (.if_icmp .lt 11, 3) := by decide +kernel
theorem s166_121 (d : Nat) (l0 : Value) (l1 : Value) (l2 : Value) (l3 : Value) (l4 : Value) (x y : Int32) (σ : Hs) : ru d 166 121 [l0, l1, l2, l3, l4] [.int y, .int x] σ = if x < y then ru d 166 132 [l0, l1, l2, l3, l4] [] σ else ru d 166 124 [l0, l1, l2, l3, l4] [] σ := q_ic_lt t166_121 (by decide +kernel)
theorem t166_124 : decode (mb 166) 124 = .ok (.aload_n 0, 1) := by decide +kernel
theorem s166_124 (d : Nat) (a0 : Nat) (l1 : Value) (l2 : Value) (l3 : Value) (l4 : Value) (σ : Hs) : ru d 166 124 [.ref a0, l1, l2, l3, l4] [] σ = ru d 166 125 [.ref a0, l1, l2, l3, l4] [.ref a0] σ := q_aload_n t166_124 rfl
theorem t166_125 : decode (mb 166) 125 = .ok (.iload_n 1, 1) := by decide +kernel
theorem s166_125 (d : Nat) (l0 : Value) (i1 : Int32) (l2 : Value) (l3 : Value) (l4 : Value) (w0 : Value) (σ : Hs) : ru d 166 125 [l0, .int i1, l2, l3, l4] [w0] σ = ru d 166 126 [l0, .int i1, l2, l3, l4] [.int i1, w0] σ := q_iload_n t166_125 rfl
theorem t166_126 : decode (mb 166) 126 = .ok (.bipush 6, 2) := by decide +kernel
theorem s166_126 (d : Nat) (l0 : Value) (l1 : Value) (l2 : Value) (l3 : Value) (l4 : Value) (w0 w1 : Value) (σ : Hs) : ru d 166 126 [l0, l1, l2, l3, l4] [w0, w1] σ = ru d 166 128 [l0, l1, l2, l3, l4] [.int 6, w0, w1] σ := q_bipush t166_126 (by decide +kernel)
theorem t166_128 : decode (mb 166) 128 = .ok (.iconst 1, 1) := by decide +kernel
theorem s166_128 (d : Nat) (l0 : Value) (l1 : Value) (l2 : Value) (l3 : Value) (l4 : Value) (w0 w1 w2 : Value) (σ : Hs) : ru d 166 128 [l0, l1, l2, l3, l4] [w0, w1, w2] σ = ru d 166 129 [l0, l1, l2, l3, l4] [.int 1, w0, w1, w2] σ := q_iconst t166_128 (by decide +kernel)
theorem t166_129 : decode (mb 166) 129 = .ok (.invokevirtual 96, 3) := by decide +kernel
theorem s166_129_o87 (d : Nat) (l0 : Value) (l1 : Value) (l2 : Value) (l3 : Value) (l4 : Value) (v1 v2 v3 : Value) (σ : Hs) : ru d 166 129 [l0, l1, l2, l3, l4] [v3, v2, v1, .ref 87] σ = kont (callD d 119 [.ref 87, v1, v2, v3] σ) d 166 132 [l0, l1, l2, l3, l4] [] := q_invv t166_129 mo166 K8_96 mj119 rfl rfl rfl rfl (Nat.le_of_ble_eq_true rfl)
theorem t166_132 : decode (mb 166) 132 = .ok (.aload_n 0, 1) := by decide +kernel
theorem s166_132 (d : Nat) (a0 : Nat) (l1 : Value) (l2 : Value) (l3 : Value) (l4 : Value) (σ : Hs) : ru d 166 132 [.ref a0, l1, l2, l3, l4] [] σ = ru d 166 133 [.ref a0, l1, l2, l3, l4] [.ref a0] σ := q_aload_n t166_132 rfl
theorem t166_133 : decode (mb 166) 133 = .ok (.iload_n 1, 1) := by decide +kernel
theorem s166_133 (d : Nat) (l0 : Value) (i1 : Int32) (l2 : Value) (l3 : Value) (l4 : Value) (w0 : Value) (σ : Hs) : ru d 166 133 [l0, .int i1, l2, l3, l4] [w0] σ = ru d 166 134 [l0, .int i1, l2, l3, l4] [.int i1, w0] σ := q_iload_n t166_133 rfl
theorem t166_134 : decode (mb 166) 134 = .ok (.iload_n 2, 1) := by decide +kernel
theorem s166_134 (d : Nat) (l0 : Value) (l1 : Value) (i2 : Int32) (l3 : Value) (l4 : Value) (w0 w1 : Value) (σ : Hs) : ru d 166 134 [l0, l1, .int i2, l3, l4] [w0, w1] σ = ru d 166 135 [l0, l1, .int i2, l3, l4] [.int i2, w0, w1] σ := q_iload_n t166_134 rfl
theorem t166_135 : decode (mb 166) 135 = .ok (.bipush 10, 2) := by decide +kernel
theorem s166_135 (d : Nat) (l0 : Value) (l1 : Value) (l2 : Value) (l3 : Value) (l4 : Value) (w0 w1 w2 : Value) (σ : Hs) : ru d 166 135 [l0, l1, l2, l3, l4] [w0, w1, w2] σ = ru d 166 137 [l0, l1, l2, l3, l4] [.int 10, w0, w1, w2] σ := q_bipush t166_135 (by decide +kernel)
theorem t166_137 : decode (mb 166) 137 = .ok (.idiv, 1) := by decide +kernel
theorem s166_137 (d : Nat) (l0 : Value) (l1 : Value) (l2 : Value) (l3 : Value) (l4 : Value) (x y : Int32) (w0 w1 : Value) (σ : Hs) : ru d 166 137 [l0, l1, l2, l3, l4] [.int y, .int x, w0, w1] σ = gd (¬ y = 0) (ru d 166 138 [l0, l1, l2, l3, l4] [.int (x / y), w0, w1] σ) := q_idiv t166_137
theorem t166_138 : decode (mb 166) 138 = .ok (.iconst 1, 1) := by decide +kernel
theorem s166_138 (d : Nat) (l0 : Value) (l1 : Value) (l2 : Value) (l3 : Value) (l4 : Value) (w0 w1 w2 : Value) (σ : Hs) : ru d 166 138 [l0, l1, l2, l3, l4] [w0, w1, w2] σ = ru d 166 139 [l0, l1, l2, l3, l4] [.int 1, w0, w1, w2] σ := q_iconst t166_138 (by decide +kernel)
theorem t166_139 : decode (mb 166) 139 = .ok (.iadd, 1) := by decide +kernel
theorem s166_139 (d : Nat) (l0 : Value) (l1 : Value) (l2 : Value) (l3 : Value) (l4 : Value) (x y : Int32) (w0 w1 : Value) (σ : Hs) : ru d 166 139 [l0, l1, l2, l3, l4] [.int y, .int x, w0, w1] σ = ru d 166 140 [l0, l1, l2, l3, l4] [.int (x + y), w0, w1] σ := q_iadd t166_139
theorem t166_140 : decode (mb 166) 140 = .ok (.ineg, 1) := by decide +kernel
theorem s166_140 (d : Nat) (l0 : Value) (l1 : Value) (l2 : Value) (l3 : Value) (l4 : Value) (x : Int32) (w0 w1 : Value) (σ : Hs) : ru d 166 140 [l0, l1, l2, l3, l4] [.int x, w0, w1] σ = ru d 166 141 [l0, l1, l2, l3, l4] [.int (-x), w0, w1] σ := q_ineg t166_140
theorem t166_141 : decode (mb 166) 141 = .ok (.invokevirtual 238, 3) := by decide +kernel
theorem s166_141_o87 (d : Nat) (l0 : Value) (l1 : Value) (l2 : Value) (l3 : Value) (l4 : Value) (v1 v2 : Value) (σ : Hs) : ru d 166 141 [l0, l1, l2, l3, l4] [v2, v1, .ref 87] σ = kont (callD d 164 [.ref 87, v1, v2] σ) d 166 144 [l0, l1, l2, l3, l4] [] := q_invv t166_141 mo166 K8_238 mj164 rfl rfl rfl rfl (Nat.le_of_ble_eq_true rfl)
theorem t166_144 : decode (mb 166) 144 = .ok (.aload_n 0, 1) := by decide +kernel
theorem s166_144 (d : Nat) (a0 : Nat) (l1 : Value) (l2 : Value) (l3 : Value) (l4 : Value) (σ : Hs) : ru d 166 144 [.ref a0, l1, l2, l3, l4] [] σ = ru d 166 145 [.ref a0, l1, l2, l3, l4] [.ref a0] σ := q_aload_n t166_144 rfl
theorem t166_145 : decode (mb 166) 145 = .ok (.iload_n 1, 1) := by decide +kernel
theorem s166_145 (d : Nat) (l0 : Value) (i1 : Int32) (l2 : Value) (l3 : Value) (l4 : Value) (w0 : Value) (σ : Hs) : ru d 166 145 [l0, .int i1, l2, l3, l4] [w0] σ = ru d 166 146 [l0, .int i1, l2, l3, l4] [.int i1, w0] σ := q_iload_n t166_145 rfl
theorem t166_146 : decode (mb 166) 146 = .ok (.invokevirtual 142, 3) := by decide +kernel
theorem s166_146_o87 (d : Nat) (l0 : Value) (l1 : Value) (l2 : Value) (l3 : Value) (l4 : Value) (v1 : Value) (σ : Hs) : ru d 166 146 [l0, l1, l2, l3, l4] [v1, .ref 87] σ = kont (callD d 122 [.ref 87, v1] σ) d 166 149 [l0, l1, l2, l3, l4] [] := q_invv t166_146 mo166 K8_142 mj122 rfl rfl rfl rfl (Nat.le_of_ble_eq_true rfl)
theorem t166_149 : decode (mb 166) 149 = .ok (.ifCond .eq 33, 3) := by decide +kernel
theorem s166_149 (d : Nat) (l0 : Value) (l1 : Value) (l2 : Value) (l3 : Value) (l4 : Value) (x : Int32) (σ : Hs) : ru d 166 149 [l0, l1, l2, l3, l4] [.int x] σ = if x = 0 then ru d 166 182 [l0, l1, l2, l3, l4] [] σ else ru d 166 152 [l0, l1, l2, l3, l4] [] σ := q_if_eq t166_149 (by decide +kernel)
theorem t166_152 : decode (mb 166) 152 = .ok (.aload_n 0, 1) := by decide +kernel
theorem s166_152 (d : Nat) (a0 : Nat) (l1 : Value) (l2 : Value) (l3 : Value) (l4 : Value) (σ : Hs) : ru d 166 152 [.ref a0, l1, l2, l3, l4] [] σ = ru d 166 153 [.ref a0, l1, l2, l3, l4] [.ref a0] σ := q_aload_n t166_152 rfl
theorem t166_153 : decode (mb 166) 153 = .ok (.iload_n 1, 1) := by decide +kernel
theorem s166_153 (d : Nat) (l0 : Value) (i1 : Int32) (l2 : Value) (l3 : Value) (l4 : Value) (w0 : Value) (σ : Hs) : ru d 166 153 [l0, .int i1, l2, l3, l4] [w0] σ = ru d 166 154 [l0, .int i1, l2, l3, l4] [.int i1, w0] σ := q_iload_n t166_153 rfl
theorem t166_154 : decode (mb 166) 154 = .ok (.iconst 5, 1) := by decide +kernel
theorem s166_154 (d : Nat) (l0 : Value) (l1 : Value) (l2 : Value) (l3 : Value) (l4 : Value) (w0 w1 : Value) (σ : Hs) : ru d 166 154 [l0, l1, l2, l3, l4] [w0, w1] σ = ru d 166 155 [l0, l1, l2, l3, l4] [.int 5, w0, w1] σ := q_iconst t166_154 (by decide +kernel)
theorem t166_155 : decode (mb 166) 155 = .ok (.invokevirtual 85, 3) := by decide +kernel
theorem s166_155_o87 (d : Nat) (l0 : Value) (l1 : Value) (l2 : Value) (l3 : Value) (l4 : Value) (v1 v2 : Value) (σ : Hs) : ru d 166 155 [l0, l1, l2, l3, l4] [v2, v1, .ref 87] σ = kont (callD d 118 [.ref 87, v1, v2] σ) d 166 158 [l0, l1, l2, l3, l4] [] := q_invv t166_155 mo166 K8_85 mj118 rfl rfl rfl rfl (Nat.le_of_ble_eq_true rfl)
theorem t166_158 : decode (mb 166) 158 = .ok (.iconst 5, 1) := by decide +kernel
theorem s166_158 (d : Nat) (l0 : Value) (l1 : Value) (l2 : Value) (l3 : Value) (l4 : Value) (w0 : Value) (σ : Hs) : ru d 166 158 [l0, l1, l2, l3, l4] [w0] σ = ru d 166 159 [l0, l1, l2, l3, l4] [.int 5, w0] σ := q_iconst t166_158 (by decide +kernel)
theorem t166_159 : decode (mb 166) 159 = .ok (.if_icmp .lt 15, 3) := by decide +kernel
theorem s166_159 (d : Nat) (l0 : Value) (l1 : Value) (l2 : Value) (l3 : Value) (l4 : Value) (x y : Int32) (σ : Hs) : ru d 166 159 [l0, l1, l2, l3, l4] [.int y, .int x] σ = if x < y then ru d 166 174 [l0, l1, l2, l3, l4] [] σ else ru d 166 162 [l0, l1, l2, l3, l4] [] σ := q_ic_lt t166_159 (by decide +kernel)
theorem t166_162 : decode (mb 166) 162 = .ok (.aload_n 0, 1) := by decide +kernel
theorem s166_162 (d : Nat) (a0 : Nat) (l1 : Value) (l2 : Value) (l3 : Value) (l4 : Value) (σ : Hs) : ru d 166 162 [.ref a0, l1, l2, l3, l4] [] σ = ru d 166 163 [.ref a0, l1, l2, l3, l4] [.ref a0] σ := q_aload_n t166_162 rfl
theorem t166_163 : decode (mb 166) 163 = .ok (.iload_n 1, 1) := by decide +kernel
theorem s166_163 (d : Nat) (l0 : Value) (i1 : Int32) (l2 : Value) (l3 : Value) (l4 : Value) (w0 : Value) (σ : Hs) : ru d 166 163 [l0, .int i1, l2, l3, l4] [w0] σ = ru d 166 164 [l0, .int i1, l2, l3, l4] [.int i1, w0] σ := q_iload_n t166_163 rfl
theorem t166_164 : decode (mb 166) 164 = .ok (.iconst 3, 1) := by decide +kernel
theorem s166_164 (d : Nat) (l0 : Value) (l1 : Value) (l2 : Value) (l3 : Value) (l4 : Value) (w0 w1 : Value) (σ : Hs) : ru d 166 164 [l0, l1, l2, l3, l4] [w0, w1] σ = ru d 166 165 [l0, l1, l2, l3, l4] [.int 3, w0, w1] σ := q_iconst t166_164 (by decide +kernel)
theorem t166_165 : decode (mb 166) 165 = .ok (.invokevirtual 85, 3) := by decide +kernel
theorem s166_165_o87 (d : Nat) (l0 : Value) (l1 : Value) (l2 : Value) (l3 : Value) (l4 : Value) (v1 v2 : Value) (σ : Hs) : ru d 166 165 [l0, l1, l2, l3, l4] [v2, v1, .ref 87] σ = kont (callD d 118 [.ref 87, v1, v2] σ) d 166 168 [l0, l1, l2, l3, l4] [] := q_invv t166_165 mo166 K8_85 mj118 rfl rfl rfl rfl (Nat.le_of_ble_eq_true rfl)
theorem t166_168 : decode (mb 166) 168 = .ok (.sipush 700, 3) := by decide +kernel
theorem s166_168 (d : Nat) (l0 : Value) (l1 : Value) (l2 : Value) (l3 : Value) (l4 : Value) (w0 : Value) (σ : Hs) : ru d 166 168 [l0, l1, l2, l3, l4] [w0] σ = ru d 166 171 [l0, l1, l2, l3, l4] [.int 700, w0] σ := q_sipush t166_168 (by decide +kernel)
theorem t166_171 : decode (mb 166) 171 = .ok (.if_icmp .le 11, 3) := by decide +kernel
theorem s166_171 (d : Nat) (l0 : Value) (l1 : Value) (l2 : Value) (l3 : Value) (l4 : Value) (x y : Int32) (σ : Hs) : ru d 166 171 [l0, l1, l2, l3, l4] [.int y, .int x] σ = if x ≤ y then ru d 166 182 [l0, l1, l2, l3, l4] [] σ else ru d 166 174 [l0, l1, l2, l3, l4] [] σ := q_ic_le t166_171 (by decide +kernel)
theorem t166_174 : decode (mb 166) 174 = .ok (.aload_n 0, 1) := by decide +kernel
theorem s166_174 (d : Nat) (a0 : Nat) (l1 : Value) (l2 : Value) (l3 : Value) (l4 : Value) (σ : Hs) : ru d 166 174 [.ref a0, l1, l2, l3, l4] [] σ = ru d 166 175 [.ref a0, l1, l2, l3, l4] [.ref a0] σ := q_aload_n t166_174 rfl
theorem t166_175 : decode (mb 166) 175 = .ok (.iload_n 1, 1) := by decide +kernel
theorem s166_175 (d : Nat) (l0 : Value) (i1 : Int32) (l2 : Value) (l3 : Value) (l4 : Value) (w0 : Value) (σ : Hs) : ru d 166 175 [l0, .int i1, l2, l3, l4] [w0] σ = ru d 166 176 [l0, .int i1, l2, l3, l4] [.int i1, w0] σ := q_iload_n t166_175 rfl
theorem t166_176 : decode (mb 166) 176 = .ok (.bipush 6, 2) := by decide +kernel
theorem s166_176 (d : Nat) (l0 : Value) (l1 : Value) (l2 : Value) (l3 : Value) (l4 : Value) (w0 w1 : Value) (σ : Hs) : ru d 166 176 [l0, l1, l2, l3, l4] [w0, w1] σ = ru d 166 178 [l0, l1, l2, l3, l4] [.int 6, w0, w1] σ := q_bipush t166_176 (by decide +kernel)
theorem t166_178 : decode (mb 166) 178 = .ok (.iconst 0, 1) := by decide +kernel
theorem s166_178 (d : Nat) (l0 : Value) (l1 : Value) (l2 : Value) (l3 : Value) (l4 : Value) (w0 w1 w2 : Value) (σ : Hs) : ru d 166 178 [l0, l1, l2, l3, l4] [w0, w1, w2] σ = ru d 166 179 [l0, l1, l2, l3, l4] [.int 0, w0, w1, w2] σ := q_iconst t166_178 (by decide +kernel)
theorem t166_179 : decode (mb 166) 179 = .ok (.invokevirtual 96, 3) := by decide +kernel
theorem s166_179_o87 (d : Nat) (l0 : Value) (l1 : Value) (l2 : Value) (l3 : Value) (l4 : Value) (v1 v2 v3 : Value) (σ : Hs) : ru d 166 179 [l0, l1, l2, l3, l4] [v3, v2, v1, .ref 87] σ = kont (callD d 119 [.ref 87, v1, v2, v3] σ) d 166 182 [l0, l1, l2, l3, l4] [] := q_invv t166_179 mo166 K8_96 mj119 rfl rfl rfl rfl (Nat.le_of_ble_eq_true rfl)
theorem t166_182 : decode (mb 166) 182 = .ok (.return_, 1) := by decide +kernel
theorem s166_182 (d : Nat) (l0 : Value) (l1 : Value) (l2 : Value) (l3 : Value) (l4 : Value) (σ : Hs) : ru d 166 182 [l0, l1, l2, l3, l4] [] σ = some (none, σ) := q_vret t166_182 mr166
theorem c166 (d : Nat) (x0 : Nat) (x1 : Int32) (σ : Hs) : callD (d + 1) 166 [.ref x0, .int x1] σ = ru d 166 0 [.ref x0, .int x1, uu, uu, uu] [] σ := callD_ru ml166 rfl rfl (Nat.le_of_ble_eq_true rfl)
-- 167: Model.next(II)I
theorem t167_0 : decode (mb 167) 0 = .ok (.iload_n 0, 1) := by decide +kernel
theorem s167_0 (d : Nat) (i0 : Int32) (l1 : Value) (l2 : Value) (l3 : Value) (σ : Hs) : ru d 167 0 [.int i0, l1, l2, l3] [] σ = ru d 167 1 [.int i0, l1, l2, l3] [.int i0] σ := q_iload_n t167_0 rfl
theorem t167_1 : decode (mb 167) 1 = .ok (.iconst 3, 1) := by decide +kernel
theorem s167_1 (d : Nat) (l0 : Value) (l1 : Value) (l2 : Value) (l3 : Value) (w0 : Value) (σ : Hs) : ru d 167 1 [l0, l1, l2, l3] [w0] σ = ru d 167 2 [l0, l1, l2, l3] [.int 3, w0] σ := q_iconst t167_1 (by decide +kernel)
theorem t167_2 : decode (mb 167) 2 = .ok (.irem, 1) := by decide +kernel
theorem s167_2 (d : Nat) (l0 : Value) (l1 : Value) (l2 : Value) (l3 : Value) (x y : Int32) (σ : Hs) : ru d 167 2 [l0, l1, l2, l3] [.int y, .int x] σ = gd (¬ y = 0) (ru d 167 3 [l0, l1, l2, l3] [.int (x - x / y * y)] σ) := q_irem t167_2
theorem t167_3 : decode (mb 167) 3 = .ok (.iload_n 1, 1) := by decide +kernel
theorem s167_3 (d : Nat) (l0 : Value) (i1 : Int32) (l2 : Value) (l3 : Value) (w0 : Value) (σ : Hs) : ru d 167 3 [l0, .int i1, l2, l3] [w0] σ = ru d 167 4 [l0, .int i1, l2, l3] [.int i1, w0] σ := q_iload_n t167_3 rfl
theorem t167_4 : decode (mb 167) 4 = .ok (.ifCond .ne 7, 3) := by decide +kernel
theorem s167_4 (d : Nat) (l0 : Value) (l1 : Value) (l2 : Value) (l3 : Value) (x : Int32) (w0 : Value) (σ : Hs) : ru d 167 4 [l0, l1, l2, l3] [.int x, w0] σ = if x = 0 then ru d 167 7 [l0, l1, l2, l3] [w0] σ else ru d 167 11 [l0, l1, l2, l3] [w0] σ := q_if_ne t167_4 (by decide +kernel)
theorem t167_7 : decode (mb 167) 7 = .ok (.iconst 1, 1) := by decide +kernel
theorem s167_7 (d : Nat) (l0 : Value) (l1 : Value) (l2 : Value) (l3 : Value) (w0 : Value) (σ : Hs) : ru d 167 7 [l0, l1, l2, l3] [w0] σ = ru d 167 8 [l0, l1, l2, l3] [.int 1, w0] σ := q_iconst t167_7 (by decide +kernel)
theorem t167_8 : decode (mb 167) 8 = .ok (.goto 13, 3) := by decide +kernel
theorem s167_8 (d : Nat) (l0 : Value) (l1 : Value) (l2 : Value) (l3 : Value) (w0 w1 : Value) (σ : Hs) : ru d 167 8 [l0, l1, l2, l3] [w0, w1] σ = ru d 167 21 [l0, l1, l2, l3] [w0, w1] σ := q_goto t167_8 (by decide +kernel)
theorem t167_11 : decode (mb 167) 11 = .ok (.iload_n 1, 1) := by decide +kernel
theorem s167_11 (d : Nat) (l0 : Value) (i1 : Int32) (l2 : Value) (l3 : Value) (w0 : Value) (σ : Hs) : ru d 167 11 [l0, .int i1, l2, l3] [w0] σ = ru d 167 12 [l0, .int i1, l2, l3] [.int i1, w0] σ := q_iload_n t167_11 rfl
theorem t167_12 : decode (mb 167) 12 = .ok (.iconst 2, 1) := by decide +kernel
theorem s167_12 (d : Nat) (l0 : Value) (l1 : Value) (l2 : Value) (l3 : Value) (w0 w1 : Value) (σ : Hs) : ru d 167 12 [l0, l1, l2, l3] [w0, w1] σ = ru d 167 13 [l0, l1, l2, l3] [.int 2, w0, w1] σ := q_iconst t167_12 (by decide +kernel)
theorem t167_13 : decode (mb 167) 13 = .ok (.if_icmp .ne 7, 3) := by decide +kernel
theorem s167_13 (d : Nat) (l0 : Value) (l1 : Value) (l2 : Value) (l3 : Value) (x y : Int32) (w0 : Value) (σ : Hs) : ru d 167 13 [l0, l1, l2, l3] [.int y, .int x, w0] σ = if x = y then ru d 167 16 [l0, l1, l2, l3] [w0] σ else ru d 167 20 [l0, l1, l2, l3] [w0] σ := q_ic_ne t167_13 (by decide +kernel)
theorem t167_16 : decode (mb 167) 16 = .ok (.iconst (-1), 1) := by decide +kernel
theorem s167_16 (d : Nat) (l0 : Value) (l1 : Value) (l2 : Value) (l3 : Value) (w0 : Value) (σ : Hs) : ru d 167 16 [l0, l1, l2, l3] [w0] σ = ru d 167 17 [l0, l1, l2, l3] [.int (-1), w0] σ := q_iconst t167_16 (by decide +kernel)
theorem t167_17 : decode (mb 167) 17 = .ok (.goto 4, 3) := by decide +kernel
theorem s167_17 (d : Nat) (l0 : Value) (l1 : Value) (l2 : Value) (l3 : Value) (w0 w1 : Value) (σ : Hs) : ru d 167 17 [l0, l1, l2, l3] [w0, w1] σ = ru d 167 21 [l0, l1, l2, l3] [w0, w1] σ := q_goto t167_17 (by decide +kernel)
theorem t167_20 : decode (mb 167) 20 = .ok (.iconst 0, 1) := by decide +kernel
theorem s167_20 (d : Nat) (l0 : Value) (l1 : Value) (l2 : Value) (l3 : Value) (w0 : Value) (σ : Hs) : ru d 167 20 [l0, l1, l2, l3] [w0] σ = ru d 167 21 [l0, l1, l2, l3] [.int 0, w0] σ := q_iconst t167_20 (by decide +kernel)
theorem t167_21 : decode (mb 167) 21 = .ok (.iadd, 1) := by decide +kernel
theorem s167_21 (d : Nat) (l0 : Value) (l1 : Value) (l2 : Value) (l3 : Value) (x y : Int32) (σ : Hs) : ru d 167 21 [l0, l1, l2, l3] [.int y, .int x] σ = ru d 167 22 [l0, l1, l2, l3] [.int (x + y)] σ := q_iadd t167_21
theorem t167_22 : decode (mb 167) 22 = .ok (.istore_n 2, 1) := by decide +kernel
theorem s167_22 (d : Nat) (l0 : Value) (i1 : Int32) (l2 : Value) (l3 : Value) (x : Int32) (σ : Hs) : ru d 167 22 [l0, .int i1, l2, l3] [.int x] σ = ru d 167 23 [l0, .int i1, .int x, l3] [] σ := q_istore_n t167_22 ⟨Nat.le_of_ble_eq_true rfl, rfl⟩ rfl
theorem t167_23 : decode (mb 167) 23 = .ok (.iload_n 0, 1) := by decide +kernel
theorem s167_23 (d : Nat) (i0 : Int32) (l1 : Value) (l2 : Value) (l3 : Value) (σ : Hs) : ru d 167 23 [.int i0, l1, l2, l3] [] σ = ru d 167 24 [.int i0, l1, l2, l3] [.int i0] σ := q_iload_n t167_23 rfl
theorem t167_24 : decode (mb 167) 24 = .ok (.iconst 3, 1) := by decide +kernel
theorem s167_24 (d : Nat) (l0 : Value) (l1 : Value) (l2 : Value) (l3 : Value) (w0 : Value) (σ : Hs) : ru d 167 24 [l0, l1, l2, l3] [w0] σ = ru d 167 25 [l0, l1, l2, l3] [.int 3, w0] σ := q_iconst t167_24 (by decide +kernel)
theorem t167_25 : decode (mb 167) 25 = .ok (.idiv, 1) := by decide +kernel
theorem s167_25 (d : Nat) (l0 : Value) (l1 : Value) (l2 : Value) (l3 : Value) (x y : Int32) (σ : Hs) : ru d 167 25 [l0, l1, l2, l3] [.int y, .int x] σ = gd (¬ y = 0) (ru d 167 26 [l0, l1, l2, l3] [.int (x / y)] σ) := q_idiv t167_25
theorem t167_26 : decode (mb 167) 26 = .ok (.iload_n 1, 1) := by decide +kernel
theorem s167_26 (d : Nat) (l0 : Value) (i1 : Int32) (l2 : Value) (l3 : Value) (w0 : Value) (σ : Hs) : ru d 167 26 [l0, .int i1, l2, l3] [w0] σ = ru d 167 27 [l0, .int i1, l2, l3] [.int i1, w0] σ := q_iload_n t167_26 rfl
theorem t167_27 : decode (mb 167) 27 = .ok (.iconst 1, 1) := by decide +kernel
theorem s167_27 (d : Nat) (l0 : Value) (l1 : Value) (l2 : Value) (l3 : Value) (w0 w1 : Value) (σ : Hs) : ru d 167 27 [l0, l1, l2, l3] [w0, w1] σ = ru d 167 28 [l0, l1, l2, l3] [.int 1, w0, w1] σ := q_iconst t167_27 (by decide +kernel)
theorem t167_28 : decode (mb 167) 28 = .ok (.if_icmp .ne 7, 3) := by decide +kernel
theorem s167_28 (d : Nat) (l0 : Value) (l1 : Value) (l2 : Value) (l3 : Value) (x y : Int32) (w0 : Value) (σ : Hs) : ru d 167 28 [l0, l1, l2, l3] [.int y, .int x, w0] σ = if x = y then ru d 167 31 [l0, l1, l2, l3] [w0] σ else ru d 167 35 [l0, l1, l2, l3] [w0] σ := q_ic_ne t167_28 (by decide +kernel)
theorem t167_31 : decode (mb 167) 31 = .ok (.iconst 1, 1) := by decide +kernel
theorem s167_31 (d : Nat) (l0 : Value) (l1 : Value) (l2 : Value) (l3 : Value) (w0 : Value) (σ : Hs) : ru d 167 31 [l0, l1, l2, l3] [w0] σ = ru d 167 32 [l0, l1, l2, l3] [.int 1, w0] σ := q_iconst t167_31 (by decide +kernel)
theorem t167_32 : decode (mb 167) 32 = .ok (.goto 13, 3) := by decide +kernel
theorem s167_32 (d : Nat) (l0 : Value) (l1 : Value) (l2 : Value) (l3 : Value) (w0 w1 : Value) (σ : Hs) : ru d 167 32 [l0, l1, l2, l3] [w0, w1] σ = ru d 167 45 [l0, l1, l2, l3] [w0, w1] σ := q_goto t167_32 (by decide +kernel)
theorem t167_35 : decode (mb 167) 35 = .ok (.iload_n 1, 1) := by decide +kernel
theorem s167_35 (d : Nat) (l0 : Value) (i1 : Int32) (l2 : Value) (l3 : Value) (w0 : Value) (σ : Hs) : ru d 167 35 [l0, .int i1, l2, l3] [w0] σ = ru d 167 36 [l0, .int i1, l2, l3] [.int i1, w0] σ := q_iload_n t167_35 rfl
theorem t167_36 : decode (mb 167) 36 = .ok (.iconst 3, 1) := by decide +kernel
theorem s167_36 (d : Nat) (l0 : Value) (l1 : Value) (l2 : Value) (l3 : Value) (w0 w1 : Value) (σ : Hs) : ru d 167 36 [l0, l1, l2, l3] [w0, w1] σ = ru d 167 37 [l0, l1, l2, l3] [.int 3, w0, w1] σ := q_iconst t167_36 (by decide +kernel)
theorem t167_37 : decode (mb 167) 37 = .ok (.if_icmp .ne 7, 3) := by decide +kernel
theorem s167_37 (d : Nat) (l0 : Value) (l1 : Value) (l2 : Value) (l3 : Value) (x y : Int32) (w0 : Value) (σ : Hs) : ru d 167 37 [l0, l1, l2, l3] [.int y, .int x, w0] σ = if x = y then ru d 167 40 [l0, l1, l2, l3] [w0] σ else ru d 167 44 [l0, l1, l2, l3] [w0] σ := q_ic_ne t167_37 (by decide +kernel)
theorem t167_40 : decode (mb 167) 40 = .ok (.iconst (-1), 1) := by decide +kernel
theorem s167_40 (d : Nat) (l0 : Value) (l1 : Value) (l2 : Value) (l3 : Value) (w0 : Value) (σ : Hs) : ru d 167 40 [l0, l1, l2, l3] [w0] σ = ru d 167 41 [l0, l1, l2, l3] [.int (-1), w0] σ := q_iconst t167_40 (by decide +kernel)
theorem t167_41 : decode (mb 167) 41 = .ok (.goto 4, 3) := by decide +kernel
theorem s167_41 (d : Nat) (l0 : Value) (l1 : Value) (l2 : Value) (l3 : Value) (w0 w1 : Value) (σ : Hs) : ru d 167 41 [l0, l1, l2, l3] [w0, w1] σ = ru d 167 45 [l0, l1, l2, l3] [w0, w1] σ := q_goto t167_41 (by decide +kernel)
theorem t167_44 : decode (mb 167) 44 = .ok (.iconst 0, 1) := by decide +kernel
theorem s167_44 (d : Nat) (l0 : Value) (l1 : Value) (l2 : Value) (l3 : Value) (w0 : Value) (σ : Hs) : ru d 167 44 [l0, l1, l2, l3] [w0] σ = ru d 167 45 [l0, l1, l2, l3] [.int 0, w0] σ := q_iconst t167_44 (by decide +kernel)
theorem t167_45 : decode (mb 167) 45 = .ok (.iadd, 1) := by decide +kernel
theorem s167_45 (d : Nat) (l0 : Value) (l1 : Value) (l2 : Value) (l3 : Value) (x y : Int32) (σ : Hs) : ru d 167 45 [l0, l1, l2, l3] [.int y, .int x] σ = ru d 167 46 [l0, l1, l2, l3] [.int (x + y)] σ := q_iadd t167_45
theorem t167_46 : decode (mb 167) 46 = .ok (.istore_n 3, 1) := by decide +kernel
theorem s167_46 (d : Nat) (l0 : Value) (l1 : Value) (i2 : Int32) (l3 : Value) (x : Int32) (σ : Hs) : ru d 167 46 [l0, l1, .int i2, l3] [.int x] σ = ru d 167 47 [l0, l1, .int i2, .int x] [] σ := q_istore_n t167_46 ⟨Nat.le_of_ble_eq_true rfl, rfl⟩ rfl
theorem t167_47 : decode (mb 167) 47 = .ok (.iload_n 2, 1) := by decide +kernel
theorem s167_47 (d : Nat) (l0 : Value) (l1 : Value) (i2 : Int32) (l3 : Value) (σ : Hs) : ru d 167 47 [l0, l1, .int i2, l3] [] σ = ru d 167 48 [l0, l1, .int i2, l3] [.int i2] σ := q_iload_n t167_47 rfl
theorem t167_48 : decode (mb 167) 48 = .ok (.iconst 0, 1) := by decide +kernel
theorem s167_48 (d : Nat) (l0 : Value) (l1 : Value) (l2 : Value) (l3 : Value) (w0 : Value) (σ : Hs) : ru d 167 48 [l0, l1, l2, l3] [w0] σ = ru d 167 49 [l0, l1, l2, l3] [.int 0, w0] σ := q_iconst t167_48 (by decide +kernel)
theorem t167_49 : decode (mb 167) 49 = .ok (.iconst 2, 1) := by decide +kernel
theorem s167_49 (d : Nat) (l0 : Value) (l1 : Value) (l2 : Value) (l3 : Value) (w0 w1 : Value) (σ : Hs) : ru d 167 49 [l0, l1, l2, l3] [w0, w1] σ = ru d 167 50 [l0, l1, l2, l3] [.int 2, w0, w1] σ := q_iconst t167_49 (by decide +kernel)
theorem t167_50 : decode (mb 167) 50 = .ok (.invokestatic 81, 3) := by decide +kernel
theorem s167_50 (d : Nat) (l0 : Value) (l1 : Value) (l2 : Value) (l3 : Value) (v0 v1 v2 : Value) (σ : Hs) : ru d 167 50 [l0, l1, l2, l3] [v2, v1, v0] σ = kont (callD d 112 [v0, v1, v2] σ) d 167 53 [l0, l1, l2, l3] [] := q_invs t167_50 mo167 (by decide +kernel) K8_81 mj112 (Nat.le_of_ble_eq_true rfl) rfl rfl (Nat.le_of_ble_eq_true rfl)
theorem t167_53 : decode (mb 167) 53 = .ok (.ifCond .eq 20, 3) := by decide +kernel
theorem s167_53 (d : Nat) (l0 : Value) (l1 : Value) (l2 : Value) (l3 : Value) (x : Int32) (σ : Hs) : ru d 167 53 [l0, l1, l2, l3] [.int x] σ = if x = 0 then ru d 167 73 [l0, l1, l2, l3] [] σ else ru d 167 56 [l0, l1, l2, l3] [] σ := q_if_eq t167_53 (by decide +kernel)
theorem t167_56 : decode (mb 167) 56 = .ok (.iload_n 3, 1) := by decide +kernel
theorem s167_56 (d : Nat) (l0 : Value) (l1 : Value) (l2 : Value) (i3 : Int32) (σ : Hs) : ru d 167 56 [l0, l1, l2, .int i3] [] σ = ru d 167 57 [l0, l1, l2, .int i3] [.int i3] σ := q_iload_n t167_56 rfl
theorem t167_57 : decode (mb 167) 57 = .ok (.iconst 0, 1) := by decide +kernel
theorem s167_57 (d : Nat) (l0 : Value) (l1 : Value) (l2 : Value) (l3 : Value) (w0 : Value) (σ : Hs) : ru d 167 57 [l0, l1, l2, l3] [w0] σ = ru d 167 58 [l0, l1, l2, l3] [.int 0, w0] σ := q_iconst t167_57 (by decide +kernel)
theorem t167_58 : decode (mb 167) 58 = .ok (.iconst 2, 1) := by decide +kernel
theorem s167_58 (d : Nat) (l0 : Value) (l1 : Value) (l2 : Value) (l3 : Value) (w0 w1 : Value) (σ : Hs) : ru d 167 58 [l0, l1, l2, l3] [w0, w1] σ = ru d 167 59 [l0, l1, l2, l3] [.int 2, w0, w1] σ := q_iconst t167_58 (by decide +kernel)
theorem t167_59 : decode (mb 167) 59 = .ok (.invokestatic 81, 3) := by decide +kernel
theorem s167_59 (d : Nat) (l0 : Value) (l1 : Value) (l2 : Value) (l3 : Value) (v0 v1 v2 : Value) (σ : Hs) : ru d 167 59 [l0, l1, l2, l3] [v2, v1, v0] σ = kont (callD d 112 [v0, v1, v2] σ) d 167 62 [l0, l1, l2, l3] [] := q_invs t167_59 mo167 (by decide +kernel) K8_81 mj112 (Nat.le_of_ble_eq_true rfl) rfl rfl (Nat.le_of_ble_eq_true rfl)
theorem t167_62 : decode (mb 167) 62 = .ok (.ifCond .eq 11, 3) := by decide +kernel
theorem s167_62 (d : Nat) (l0 : Value) (l1 : Value) (l2 : Value) (l3 : Value) (x : Int32) (σ : Hs) : ru d 167 62 [l0, l1, l2, l3] [.int x] σ = if x = 0 then ru d 167 73 [l0, l1, l2, l3] [] σ else ru d 167 65 [l0, l1, l2, l3] [] σ := q_if_eq t167_62 (by decide +kernel)
theorem t167_65 : decode (mb 167) 65 = .ok (.iconst 3, 1) := by decide +kernel
theorem s167_65 (d : Nat) (l0 : Value) (l1 : Value) (l2 : Value) (l3 : Value) (σ : Hs) : ru d 167 65 [l0, l1, l2, l3] [] σ = ru d 167 66 [l0, l1, l2, l3] [.int 3] σ := q_iconst t167_65 (by decide +kernel)
theorem t167_66 : decode (mb 167) 66 = .ok (.iload_n 3, 1) := by decide +kernel
theorem s167_66 (d : Nat) (l0 : Value) (l1 : Value) (l2 : Value) (i3 : Int32) (w0 : Value) (σ : Hs) : ru d 167 66 [l0, l1, l2, .int i3] [w0] σ = ru d 167 67 [l0, l1, l2, .int i3] [.int i3, w0] σ := q_iload_n t167_66 rfl
theorem t167_67 : decode (mb 167) 67 = .ok (.imul, 1) := by decide +kernel
theorem s167_67 (d : Nat) (l0 : Value) (l1 : Value) (l2 : Value) (l3 : Value) (x y : Int32) (σ : Hs) : ru d 167 67 [l0, l1, l2, l3] [.int y, .int x] σ = ru d 167 68 [l0, l1, l2, l3] [.int (x * y)] σ := q_imul t167_67
theorem t167_68 : decode (mb 167) 68 = .ok (.iload_n 2, 1) := by decide +kernel
theorem s167_68 (d : Nat) (l0 : Value) (l1 : Value) (i2 : Int32) (l3 : Value) (w0 : Value) (σ : Hs) : ru d 167 68 [l0, l1, .int i2, l3] [w0] σ = ru d 167 69 [l0, l1, .int i2, l3] [.int i2, w0] σ := q_iload_n t167_68 rfl
theorem t167_69 : decode (mb 167) 69 = .ok (.iadd, 1) := by decide +kernel
theorem s167_69 (d : Nat) (l0 : Value) (l1 : Value) (l2 : Value) (l3 : Value) (x y : Int32) (σ : Hs) : ru d 167 69 [l0, l1, l2, l3] [.int y, .int x] σ = ru d 167 70 [l0, l1, l2, l3] [.int (x + y)] σ := q_iadd t167_69
theorem t167_70 : decode (mb 167) 70 = .ok (.goto 4, 3) := by decide +kernel
theorem s167_70 (d : Nat) (l0 : Value) (l1 : Value) (l2 : Value) (l3 : Value) (w0 : Value) (σ : Hs) : ru d 167 70 [l0, l1, l2, l3] [w0] σ = ru d 167 74 [l0, l1, l2, l3] [w0] σ := q_goto t167_70 (by decide +kernel)
theorem t167_73 : decode (mb 167) 73 = .ok (.iconst (-1), 1) := by decide +kernel
theorem s167_73 (d : Nat) (l0 : Value) (l1 : Value) (l2 : Value) (l3 : Value) (σ : Hs) : ru d 167 73 [l0, l1, l2, l3] [] σ = ru d 167 74 [l0, l1, l2, l3] [.int (-1)] σ := q_iconst t167_73 (by decide +kernel)
theorem t167_74 : decode (mb 167) 74 = .ok (.ireturn, 1) := by decide +kernel
theorem s167_74 (d : Nat) (l0 : Value) (l1 : Value) (l2 : Value) (l3 : Value) (x : Int32) (σ : Hs) : ru d 167 74 [l0, l1, l2, l3] [.int x] σ = some (some (.int x), σ) := q_ireti t167_74 mr167
theorem c167 (d : Nat) (x0 : Int32) (x1 : Int32) (σ : Hs) : callD (d + 1) 167 [.int x0, .int x1] σ = ru d 167 0 [.int x0, .int x1, uu, uu] [] σ := callD_ru ml167 rfl rfl (Nat.le_of_ble_eq_true rfl)
-- 168: Model.lies()V
theorem t168_0 : decode (mb 168) 0 = .ok (.aload_n 0, 1) := by decide +kernel
theorem s168_0 (d : Nat) (a0 : Nat) (l1 : Value) (l2 : Value) (l3 : Value) (l4 : Value) (l5 : Value) (σ : Hs) : ru d 168 0 [.ref a0, l1, l2, l3, l4, l5] [] σ = ru d 168 1 [.ref a0, l1, l2, l3, l4, l5] [.ref a0] σ := q_aload_n t168_0 rfl
theorem t168_1 : decode (mb 168) 1 = .ok (.getfield 9, 3) := by decide +kernel
theorem s168_1_o87 (d : Nat) (l0 : Value) (l1 : Value) (l2 : Value) (l3 : Value) (l4 : Value) (l5 : Value) (σ : Hs) : ru d 168 1 [l0, l1, l2, l3, l4, l5] [.ref 87] σ = ru d 168 4 [l0, l1, l2, l3, l4, l5] [.ref 88] σ := q_getf t168_1 mo168 F8_9 rfl rfl
theorem t168_4 : decode (mb 168) 4 = .ok (.iconst 4, 1) := by decide +kernel
theorem s168_4 (d : Nat) (l0 : Value) (l1 : Value) (l2 : Value) (l3 : Value) (l4 : Value) (l5 : Value) (w0 : Value) (σ : Hs) : ru d 168 4 [l0, l1, l2, l3, l4, l5] [w0] σ = ru d 168 5 [l0, l1, l2, l3, l4, l5] [.int 4, w0] σ := q_iconst t168_4 (by decide +kernel)
theorem t168_5 : decode (mb 168) 5 = .ok (.iaload, 1) := by decide +kernel
theorem s168_5_o88 (d : Nat) (l0 : Value) (l1 : Value) (l2 : Value) (l3 : Value) (l4 : Value) (l5 : Value) (i : Int32) (σ : Hs) : ru d 168 5 [l0, l1, l2, l3, l4, l5] [.int i, .ref 88] σ = gd (vp_in i 545) (ru d 168 6 [l0, l1, l2, l3, l4, l5] [.int (σ 88 i.toNatClampNeg)] σ) := q_iald t168_5 rfl (by decide +kernel) rfl
theorem t168_6 : decode (mb 168) 6 = .ok (.bipush 60, 2) := by decide +kernel
theorem s168_6 (d : Nat) (l0 : Value) (l1 : Value) (l2 : Value) (l3 : Value) (l4 : Value) (l5 : Value) (w0 : Value) (σ : Hs) : ru d 168 6 [l0, l1, l2, l3, l4, l5] [w0] σ = ru d 168 8 [l0, l1, l2, l3, l4, l5] [.int 60, w0] σ := q_bipush t168_6 (by decide +kernel)
theorem t168_8 : decode (mb 168) 8 = .ok (.idiv, 1) := by decide +kernel
theorem s168_8 (d : Nat) (l0 : Value) (l1 : Value) (l2 : Value) (l3 : Value) (l4 : Value) (l5 : Value) (x y : Int32) (σ : Hs) : ru d 168 8 [l0, l1, l2, l3, l4, l5] [.int y, .int x] σ = gd (¬ y = 0) (ru d 168 9 [l0, l1, l2, l3, l4, l5] [.int (x / y)] σ) := q_idiv t168_8
theorem t168_9 : decode (mb 168) 9 = .ok (.istore_n 1, 1) := by decide +kernel
theorem s168_9 (d : Nat) (a0 : Nat) (l1 : Value) (l2 : Value) (l3 : Value) (l4 : Value) (l5 : Value) (x : Int32) (σ : Hs) : ru d 168 9 [.ref a0, l1, l2, l3, l4, l5] [.int x] σ = ru d 168 10 [.ref a0, .int x, l2, l3, l4, l5] [] σ := q_istore_n t168_9 ⟨Nat.le_of_ble_eq_true rfl, rfl⟩ rfl
theorem t168_10 : decode (mb 168) 10 = .ok (.aload_n 0, 1) := by decide +kernel
theorem s168_10 (d : Nat) (a0 : Nat) (l1 : Value) (l2 : Value) (l3 : Value) (l4 : Value) (l5 : Value) (σ : Hs) : ru d 168 10 [.ref a0, l1, l2, l3, l4, l5] [] σ = ru d 168 11 [.ref a0, l1, l2, l3, l4, l5] [.ref a0] σ := q_aload_n t168_10 rfl
theorem t168_11 : decode (mb 168) 11 = .ok (.getfield 241, 3) := by decide +kernel
theorem s168_11_o87 (d : Nat) (l0 : Value) (l1 : Value) (l2 : Value) (l3 : Value) (l4 : Value) (l5 : Value) (σ : Hs) : ru d 168 11 [l0, l1, l2, l3, l4, l5] [.ref 87] σ = ru d 168 14 [l0, l1, l2, l3, l4, l5] [.int (σ 87 17)] σ := q_getf t168_11 mo168 F8_241 rfl rfl
theorem t168_14 : decode (mb 168) 14 = .ok (.i2l, 1) := by decide +kernel
theorem s168_14 (d : Nat) (l0 : Value) (l1 : Value) (l2 : Value) (l3 : Value) (l4 : Value) (l5 : Value) (x : Int32) (σ : Hs) : ru d 168 14 [l0, l1, l2, l3, l4, l5] [.int x] σ = ru d 168 15 [l0, l1, l2, l3, l4, l5] [.long x.toInt64] σ := q_i2l t168_14
theorem t168_15 : decode (mb 168) 15 = .ok (.aload_n 0, 1) := by decide +kernel
theorem s168_15 (d : Nat) (a0 : Nat) (l1 : Value) (l2 : Value) (l3 : Value) (l4 : Value) (l5 : Value) (w0 : Value) (σ : Hs) : ru d 168 15 [.ref a0, l1, l2, l3, l4, l5] [w0] σ = ru d 168 16 [.ref a0, l1, l2, l3, l4, l5] [.ref a0, w0] σ := q_aload_n t168_15 rfl
theorem t168_16 : decode (mb 168) 16 = .ok (.iconst 2, 1) := by decide +kernel
theorem s168_16 (d : Nat) (l0 : Value) (l1 : Value) (l2 : Value) (l3 : Value) (l4 : Value) (l5 : Value) (w0 w1 : Value) (σ : Hs) : ru d 168 16 [l0, l1, l2, l3, l4, l5] [w0, w1] σ = ru d 168 17 [l0, l1, l2, l3, l4, l5] [.int 2, w0, w1] σ := q_iconst t168_16 (by decide +kernel)
theorem t168_17 : decode (mb 168) 17 = .ok (.iload_n 1, 1) := by decide +kernel
theorem s168_17 (d : Nat) (l0 : Value) (i1 : Int32) (l2 : Value) (l3 : Value) (l4 : Value) (l5 : Value) (w0 w1 w2 : Value) (σ : Hs) : ru d 168 17 [l0, .int i1, l2, l3, l4, l5] [w0, w1, w2] σ = ru d 168 18 [l0, .int i1, l2, l3, l4, l5] [.int i1, w0, w1, w2] σ := q_iload_n t168_17 rfl
theorem t168_18 : decode (mb 168) 18 = .ok (.aload_n 0, 1) := by decide +kernel
theorem s168_18 (d : Nat) (a0 : Nat) (l1 : Value) (l2 : Value) (l3 : Value) (l4 : Value) (l5 : Value) (w0 w1 w2 w3 : Value) (σ : Hs) : ru d 168 18 [.ref a0, l1, l2, l3, l4, l5] [w0, w1, w2, w3] σ = ru d 168 19 [.ref a0, l1, l2, l3, l4, l5] [.ref a0, w0, w1, w2, w3] σ := q_aload_n t168_18 rfl
theorem t168_19 : decode (mb 168) 19 = .ok (.getfield 9, 3) := by decide +kernel
theorem s168_19_o87 (d : Nat) (l0 : Value) (l1 : Value) (l2 : Value) (l3 : Value) (l4 : Value) (l5 : Value) (w0 w1 w2 w3 : Value) (σ : Hs) : ru d 168 19 [l0, l1, l2, l3, l4, l5] [.ref 87, w0, w1, w2, w3] σ = ru d 168 22 [l0, l1, l2, l3, l4, l5] [.ref 88, w0, w1, w2, w3] σ := q_getf t168_19 mo168 F8_9 rfl rfl
theorem t168_22 : decode (mb 168) 22 = .ok (.iconst 5, 1) := by decide +kernel
theorem s168_22 (d : Nat) (l0 : Value) (l1 : Value) (l2 : Value) (l3 : Value) (l4 : Value) (l5 : Value) (w0 w1 w2 w3 w4 : Value) (σ : Hs) : ru d 168 22 [l0, l1, l2, l3, l4, l5] [w0, w1, w2, w3, w4] σ = ru d 168 23 [l0, l1, l2, l3, l4, l5] [.int 5, w0, w1, w2, w3, w4] σ := q_iconst t168_22 (by decide +kernel)
theorem t168_23 : decode (mb 168) 23 = .ok (.iaload, 1) := by decide +kernel
theorem s168_23_o88 (d : Nat) (l0 : Value) (l1 : Value) (l2 : Value) (l3 : Value) (l4 : Value) (l5 : Value) (i : Int32) (w0 w1 w2 w3 : Value) (σ : Hs) : ru d 168 23 [l0, l1, l2, l3, l4, l5] [.int i, .ref 88, w0, w1, w2, w3] σ = gd (vp_in i 545) (ru d 168 24 [l0, l1, l2, l3, l4, l5] [.int (σ 88 i.toNatClampNeg), w0, w1, w2, w3] σ) := q_iald t168_23 rfl (by decide +kernel) rfl
theorem t168_24 : decode (mb 168) 24 = .ok (.aload_n 0, 1) := by decide +kernel
theorem s168_24 (d : Nat) (a0 : Nat) (l1 : Value) (l2 : Value) (l3 : Value) (l4 : Value) (l5 : Value) (w0 w1 w2 w3 w4 : Value) (σ : Hs) : ru d 168 24 [.ref a0, l1, l2, l3, l4, l5] [w0, w1, w2, w3, w4] σ = ru d 168 25 [.ref a0, l1, l2, l3, l4, l5] [.ref a0, w0, w1, w2, w3, w4] σ := q_aload_n t168_24 rfl
theorem t168_25 : decode (mb 168) 25 = .ok (.getfield 241, 3) := by decide +kernel
theorem s168_25_o87 (d : Nat) (l0 : Value) (l1 : Value) (l2 : Value) (l3 : Value) (l4 : Value) (l5 : Value) (w0 w1 w2 w3 w4 : Value) (σ : Hs) : ru d 168 25 [l0, l1, l2, l3, l4, l5] [.ref 87, w0, w1, w2, w3, w4] σ = ru d 168 28 [l0, l1, l2, l3, l4, l5] [.int (σ 87 17), w0, w1, w2, w3, w4] σ := q_getf t168_25 mo168 F8_241 rfl rfl
theorem t168_28 : decode (mb 168) 28 = .ok (.iconst 0, 1) := by decide +kernel
theorem s168_28 (d : Nat) (l0 : Value) (l1 : Value) (l2 : Value) (l3 : Value) (l4 : Value) (l5 : Value) (w0 w1 w2 w3 w4 w5 : Value) (σ : Hs) : ru d 168 28 [l0, l1, l2, l3, l4, l5] [w0, w1, w2, w3, w4, w5] σ = ru d 168 29 [l0, l1, l2, l3, l4, l5] [.int 0, w0, w1, w2, w3, w4, w5] σ := q_iconst t168_28 (by decide +kernel)
theorem t168_29 : decode (mb 168) 29 = .ok (.invokevirtual 223, 3) := by decide +kernel
theorem s168_29_o87 (d : Nat) (l0 : Value) (l1 : Value) (l2 : Value) (l3 : Value) (l4 : Value) (l5 : Value) (v1 v2 v3 v4 v5 : Value) (w0 : Int64) (σ : Hs) : ru d 168 29 [l0, l1, l2, l3, l4, l5] [v5, v4, v3, v2, v1, .ref 87, .long w0] σ = kont (callD d 158 [.ref 87, v1, v2, v3, v4, v5] σ) d 168 32 [l0, l1, l2, l3, l4, l5] [.long w0] := q_invv t168_29 mo168 K8_223 mj158 rfl rfl rfl rfl (Nat.le_of_ble_eq_true rfl)
theorem t168_32 : decode (mb 168) 32 = .ok (.iconst 0, 1) := by decide +kernel
theorem s168_32 (d : Nat) (l0 : Value) (l1 : Value) (l2 : Value) (l3 : Value) (l4 : Value) (l5 : Value) (w0 w1 : Value) (σ : Hs) : ru d 168 32 [l0, l1, l2, l3, l4, l5] [w0, w1] σ = ru d 168 33 [l0, l1, l2, l3, l4, l5] [.int 0, w0, w1] σ := q_iconst t168_32 (by decide +kernel)
theorem t168_33 : decode (mb 168) 33 = .ok (.bipush 100, 2) := by decide +kernel
theorem s168_33 (d : Nat) (l0 : Value) (l1 : Value) (l2 : Value) (l3 : Value) (l4 : Value) (l5 : Value) (w0 w1 w2 : Value) (σ : Hs) : ru d 168 33 [l0, l1, l2, l3, l4, l5] [w0, w1, w2] σ = ru d 168 35 [l0, l1, l2, l3, l4, l5] [.int 100, w0, w1, w2] σ := q_bipush t168_33 (by decide +kernel)
theorem t168_35 : decode (mb 168) 35 = .ok (.invokestatic 227, 3) := by decide +kernel
theorem s168_35 (d : Nat) (l0 : Value) (l1 : Value) (l2 : Value) (l3 : Value) (l4 : Value) (l5 : Value) (v0 v1 v2 : Value) (w0 : Int64) (σ : Hs) : ru d 168 35 [l0, l1, l2, l3, l4, l5] [v2, v1, v0, .long w0] σ = kont (callD d 114 [v0, v1, v2] σ) d 168 38 [l0, l1, l2, l3, l4, l5] [.long w0] := q_invs t168_35 mo168 (by decide +kernel) K8_227 mj114 (Nat.le_of_ble_eq_true rfl) rfl rfl (Nat.le_of_ble_eq_true rfl)
theorem t168_38 : decode (mb 168) 38 = .ok (.i2l, 1) := by decide +kernel
theorem s168_38 (d : Nat) (l0 : Value) (l1 : Value) (l2 : Value) (l3 : Value) (l4 : Value) (l5 : Value) (x : Int32) (w0 : Value) (σ : Hs) : ru d 168 38 [l0, l1, l2, l3, l4, l5] [.int x, w0] σ = ru d 168 39 [l0, l1, l2, l3, l4, l5] [.long x.toInt64, w0] σ := q_i2l t168_38
theorem t168_39 : decode (mb 168) 39 = .ok (.lmul, 1) := by decide +kernel
theorem s168_39 (d : Nat) (l0 : Value) (l1 : Value) (l2 : Value) (l3 : Value) (l4 : Value) (l5 : Value) (x y : Int64) (σ : Hs) : ru d 168 39 [l0, l1, l2, l3, l4, l5] [.long y, .long x] σ = ru d 168 40 [l0, l1, l2, l3, l4, l5] [.long (x * y)] σ := q_lmul t168_39
theorem t168_40 : decode (mb 168) 40 = .ok (.ldc2_w 247, 3) := by decide +kernel
theorem s168_40 (d : Nat) (l0 : Value) (l1 : Value) (l2 : Value) (l3 : Value) (l4 : Value) (l5 : Value) (w0 : Value) (σ : Hs) : ru d 168 40 [l0, l1, l2, l3, l4, l5] [w0] σ = ru d 168 43 [l0, l1, l2, l3, l4, l5] [.long 100, w0] σ := q_ldc2 t168_40 mo168 L8_247
theorem t168_43 : decode (mb 168) 43 = .ok (.ldiv, 1) := by decide +kernel
theorem s168_43 (d : Nat) (l0 : Value) (l1 : Value) (l2 : Value) (l3 : Value) (l4 : Value) (l5 : Value) (x y : Int64) (σ : Hs) : ru d 168 43 [l0, l1, l2, l3, l4, l5] [.long y, .long x] σ = gd (¬ y = 0) (ru d 168 44 [l0, l1, l2, l3, l4, l5] [.long (x / y)] σ) := q_ldiv t168_43
theorem t168_44 : decode (mb 168) 44 = .ok (.l2i, 1) := by decide +kernel
theorem s168_44 (d : Nat) (l0 : Value) (l1 : Value) (l2 : Value) (l3 : Value) (l4 : Value) (l5 : Value) (x : Int64) (σ : Hs) : ru d 168 44 [l0, l1, l2, l3, l4, l5] [.long x] σ = ru d 168 45 [l0, l1, l2, l3, l4, l5] [.int x.toInt32] σ := q_l2i t168_44
theorem t168_45 : decode (mb 168) 45 = .ok (.istore_n 2, 1) := by decide +kernel
theorem s168_45 (d : Nat) (l0 : Value) (i1 : Int32) (l2 : Value) (l3 : Value) (l4 : Value) (l5 : Value) (x : Int32) (σ : Hs) : ru d 168 45 [l0, .int i1, l2, l3, l4, l5] [.int x] σ = ru d 168 46 [l0, .int i1, .int x, l3, l4, l5] [] σ := q_istore_n t168_45 ⟨Nat.le_of_ble_eq_true rfl, rfl⟩ rfl
theorem t168_46 : decode (mb 168) 46 = .ok (.aload_n 0, 1) := by decide +kernel
theorem s168_46 (d : Nat) (a0 : Nat) (l1 : Value) (l2 : Value) (l3 : Value) (l4 : Value) (l5 : Value) (σ : Hs) : ru d 168 46 [.ref a0, l1, l2, l3, l4, l5] [] σ = ru d 168 47 [.ref a0, l1, l2, l3, l4, l5] [.ref a0] σ := q_aload_n t168_46 rfl
theorem t168_47 : decode (mb 168) 47 = .ok (.getfield 9, 3) := by decide +kernel
theorem s168_47_o87 (d : Nat) (l0 : Value) (l1 : Value) (l2 : Value) (l3 : Value) (l4 : Value) (l5 : Value) (σ : Hs) : ru d 168 47 [l0, l1, l2, l3, l4, l5] [.ref 87] σ = ru d 168 50 [l0, l1, l2, l3, l4, l5] [.ref 88] σ := q_getf t168_47 mo168 F8_9 rfl rfl
theorem t168_50 : decode (mb 168) 50 = .ok (.bipush 8, 2) := by decide +kernel
theorem s168_50 (d : Nat) (l0 : Value) (l1 : Value) (l2 : Value) (l3 : Value) (l4 : Value) (l5 : Value) (w0 : Value) (σ : Hs) : ru d 168 50 [l0, l1, l2, l3, l4, l5] [w0] σ = ru d 168 52 [l0, l1, l2, l3, l4, l5] [.int 8, w0] σ := q_bipush t168_50 (by decide +kernel)
theorem t168_52 : decode (mb 168) 52 = .ok (.iaload, 1) := by decide +kernel
theorem s168_52_o88 (d : Nat) (l0 : Value) (l1 : Value) (l2 : Value) (l3 : Value) (l4 : Value) (l5 : Value) (i : Int32) (σ : Hs) : ru d 168 52 [l0, l1, l2, l3, l4, l5] [.int i, .ref 88] σ = gd (vp_in i 545) (ru d 168 53 [l0, l1, l2, l3, l4, l5] [.int (σ 88 i.toNatClampNeg)] σ) := q_iald t168_52 rfl (by decide +kernel) rfl
theorem t168_53 : decode (mb 168) 53 = .ok (.istore_n 3, 1) := by decide +kernel
theorem s168_53 (d : Nat) (l0 : Value) (l1 : Value) (i2 : Int32) (l3 : Value) (l4 : Value) (l5 : Value) (x : Int32) (σ : Hs) : ru d 168 53 [l0, l1, .int i2, l3, l4, l5] [.int x] σ = ru d 168 54 [l0, l1, .int i2, .int x, l4, l5] [] σ := q_istore_n t168_53 ⟨Nat.le_of_ble_eq_true rfl, rfl⟩ rfl
theorem t168_54 : decode (mb 168) 54 = .ok (.iload_n 3, 1) := by decide +kernel
theorem s168_54 (d : Nat) (l0 : Value) (l1 : Value) (l2 : Value) (i3 : Int32) (l4 : Value) (l5 : Value) (σ : Hs) : ru d 168 54 [l0, l1, l2, .int i3, l4, l5] [] σ = ru d 168 55 [l0, l1, l2, .int i3, l4, l5] [.int i3] σ := q_iload_n t168_54 rfl
theorem t168_55 : decode (mb 168) 55 = .ok (.ifCond .lt 103, 3) := by decide +kernel
theorem s168_55 (d : Nat) (l0 : Value) (l1 : Value) (l2 : Value) (l3 : Value) (l4 : Value) (l5 : Value) (x : Int32) (σ : Hs) : ru d 168 55 [l0, l1, l2, l3, l4, l5] [.int x] σ = if x < 0 then ru d 168 158 [l0, l1, l2, l3, l4, l5] [] σ else ru d 168 58 [l0, l1, l2, l3, l4, l5] [] σ := q_if_lt t168_55 (by decide +kernel)
theorem t168_58 : decode (mb 168) 58 = .ok (.sipush 224, 3) := by decide +kernel
theorem s168_58 (d : Nat) (l0 : Value) (l1 : Value) (l2 : Value) (l3 : Value) (l4 : Value) (l5 : Value) (σ : Hs) : ru d 168 58 [l0, l1, l2, l3, l4, l5] [] σ = ru d 168 61 [l0, l1, l2, l3, l4, l5] [.int 224] σ := q_sipush t168_58 (by decide +kernel)
theorem t168_61 : decode (mb 168) 61 = .ok (.iconst 3, 1) := by decide +kernel
theorem s168_61 (d : Nat) (l0 : Value) (l1 : Value) (l2 : Value) (l3 : Value) (l4 : Value) (l5 : Value) (w0 : Value) (σ : Hs) : ru d 168 61 [l0, l1, l2, l3, l4, l5] [w0] σ = ru d 168 62 [l0, l1, l2, l3, l4, l5] [.int 3, w0] σ := q_iconst t168_61 (by decide +kernel)
theorem t168_62 : decode (mb 168) 62 = .ok (.iload_n 3, 1) := by decide +kernel
theorem s168_62 (d : Nat) (l0 : Value) (l1 : Value) (l2 : Value) (i3 : Int32) (l4 : Value) (l5 : Value) (w0 w1 : Value) (σ : Hs) : ru d 168 62 [l0, l1, l2, .int i3, l4, l5] [w0, w1] σ = ru d 168 63 [l0, l1, l2, .int i3, l4, l5] [.int i3, w0, w1] σ := q_iload_n t168_62 rfl
theorem t168_63 : decode (mb 168) 63 = .ok (.imul, 1) := by decide +kernel
theorem s168_63 (d : Nat) (l0 : Value) (l1 : Value) (l2 : Value) (l3 : Value) (l4 : Value) (l5 : Value) (x y : Int32) (w0 : Value) (σ : Hs) : ru d 168 63 [l0, l1, l2, l3, l4, l5] [.int y, .int x, w0] σ = ru d 168 64 [l0, l1, l2, l3, l4, l5] [.int (x * y), w0] σ := q_imul t168_63
theorem t168_64 : decode (mb 168) 64 = .ok (.iadd, 1) := by decide +kernel
theorem s168_64 (d : Nat) (l0 : Value) (l1 : Value) (l2 : Value) (l3 : Value) (l4 : Value) (l5 : Value) (x y : Int32) (σ : Hs) : ru d 168 64 [l0, l1, l2, l3, l4, l5] [.int y, .int x] σ = ru d 168 65 [l0, l1, l2, l3, l4, l5] [.int (x + y)] σ := q_iadd t168_64
theorem t168_65 : decode (mb 168) 65 = .ok (.istore 4, 2) := by decide +kernel
theorem s168_65 (d : Nat) (l0 : Value) (l1 : Value) (l2 : Value) (i3 : Int32) (l4 : Value) (l5 : Value) (x : Int32) (σ : Hs) : ru d 168 65 [l0, l1, l2, .int i3, l4, l5] [.int x] σ = ru d 168 67 [l0, l1, l2, .int i3, .int x, l5] [] σ := q_istore t168_65 ⟨Nat.le_of_ble_eq_true rfl, rfl⟩ rfl
theorem t168_67 : decode (mb 168) 67 = .ok (.iload_n 2, 1) := by decide +kernel
theorem s168_67 (d : Nat) (l0 : Value) (l1 : Value) (i2 : Int32) (l3 : Value) (l4 : Value) (l5 : Value) (σ : Hs) : ru d 168 67 [l0, l1, .int i2, l3, l4, l5] [] σ = ru d 168 68 [l0, l1, .int i2, l3, l4, l5] [.int i2] σ := q_iload_n t168_67 rfl
theorem t168_68 : decode (mb 168) 68 = .ok (.iconst 2, 1) := by decide +kernel
theorem s168_68 (d : Nat) (l0 : Value) (l1 : Value) (l2 : Value) (l3 : Value) (l4 : Value) (l5 : Value) (w0 : Value) (σ : Hs) : ru d 168 68 [l0, l1, l2, l3, l4, l5] [w0] σ = ru d 168 69 [l0, l1, l2, l3, l4, l5] [.int 2, w0] σ := q_iconst t168_68 (by decide +kernel)
theorem t168_69 : decode (mb 168) 69 = .ok (.idiv, 1) := by decide +kernel
theorem s168_69 (d : Nat) (l0 : Value) (l1 : Value) (l2 : Value) (l3 : Value) (l4 : Value) (l5 : Value) (x y : Int32) (σ : Hs) : ru d 168 69 [l0, l1, l2, l3, l4, l5] [.int y, .int x] σ = gd (¬ y = 0) (ru d 168 70 [l0, l1, l2, l3, l4, l5] [.int (x / y)] σ) := q_idiv t168_69
theorem t168_70 : decode (mb 168) 70 = .ok (.istore 5, 2) := by decide +kernel
theorem s168_70 (d : Nat) (l0 : Value) (l1 : Value) (l2 : Value) (l3 : Value) (i4 : Int32) (l5 : Value) (x : Int32) (σ : Hs) : ru d 168 70 [l0, l1, l2, l3, .int i4, l5] [.int x] σ = ru d 168 72 [l0, l1, l2, l3, .int i4, .int x] [] σ := q_istore t168_70 ⟨Nat.le_of_ble_eq_true rfl, rfl⟩ rfl
theorem t168_72 : decode (mb 168) 72 = .ok (.aload_n 0, 1) := by decide +kernel
theorem s168_72 (d : Nat) (a0 : Nat) (l1 : Value) (l2 : Value) (l3 : Value) (l4 : Value) (l5 : Value) (σ : Hs) : ru d 168 72 [.ref a0, l1, l2, l3, l4, l5] [] σ = ru d 168 73 [.ref a0, l1, l2, l3, l4, l5] [.ref a0] σ := q_aload_n t168_72 rfl
theorem t168_73 : decode (mb 168) 73 = .ok (.getfield 9, 3) := by decide +kernel
theorem s168_73_o87 (d : Nat) (l0 : Value) (l1 : Value) (l2 : Value) (l3 : Value) (l4 : Value) (l5 : Value) (σ : Hs) : ru d 168 73 [l0, l1, l2, l3, l4, l5] [.ref 87] σ = ru d 168 76 [l0, l1, l2, l3, l4, l5] [.ref 88] σ := q_getf t168_73 mo168 F8_9 rfl rfl
theorem t168_76 : decode (mb 168) 76 = .ok (.iload 4, 2) := by decide +kernel
theorem s168_76 (d : Nat) (l0 : Value) (l1 : Value) (l2 : Value) (l3 : Value) (i4 : Int32) (l5 : Value) (w0 : Value) (σ : Hs) : ru d 168 76 [l0, l1, l2, l3, .int i4, l5] [w0] σ = ru d 168 78 [l0, l1, l2, l3, .int i4, l5] [.int i4, w0] σ := q_iload t168_76 rfl
theorem t168_78 : decode (mb 168) 78 = .ok (.iconst 0, 1) := by decide +kernel
theorem s168_78 (d : Nat) (l0 : Value) (l1 : Value) (l2 : Value) (l3 : Value) (l4 : Value) (l5 : Value) (w0 w1 : Value) (σ : Hs) : ru d 168 78 [l0, l1, l2, l3, l4, l5] [w0, w1] σ = ru d 168 79 [l0, l1, l2, l3, l4, l5] [.int 0, w0, w1] σ := q_iconst t168_78 (by decide +kernel)
theorem t168_79 : decode (mb 168) 79 = .ok (.iadd, 1) := by decide +kernel
theorem s168_79 (d : Nat) (l0 : Value) (l1 : Value) (l2 : Value) (l3 : Value) (l4 : Value) (l5 : Value) (x y : Int32) (w0 : Value) (σ : Hs) : ru d 168 79 [l0, l1, l2, l3, l4, l5] [.int y, .int x, w0] σ = ru d 168 80 [l0, l1, l2, l3, l4, l5] [.int (x + y), w0] σ := q_iadd t168_79
theorem t168_80 : decode (mb 168) 80 = .ok (.aload_n 0, 1) := by decide +kernel
theorem s168_80 (d : Nat) (a0 : Nat) (l1 : Value) (l2 : Value) (l3 : Value) (l4 : Value) (l5 : Value) (w0 w1 : Value) (σ : Hs) : ru d 168 80 [.ref a0, l1, l2, l3, l4, l5] [w0, w1] σ = ru d 168 81 [.ref a0, l1, l2, l3, l4, l5] [.ref a0, w0, w1] σ := q_aload_n t168_80 rfl
theorem t168_81 : decode (mb 168) 81 = .ok (.getfield 9, 3) := by decide +kernel
theorem s168_81_o87 (d : Nat) (l0 : Value) (l1 : Value) (l2 : Value) (l3 : Value) (l4 : Value) (l5 : Value) (w0 w1 : Value) (σ : Hs) : ru d 168 81 [l0, l1, l2, l3, l4, l5] [.ref 87, w0, w1] σ = ru d 168 84 [l0, l1, l2, l3, l4, l5] [.ref 88, w0, w1] σ := q_getf t168_81 mo168 F8_9 rfl rfl
theorem t168_84 : decode (mb 168) 84 = .ok (.iload 4, 2) := by decide +kernel
theorem s168_84 (d : Nat) (l0 : Value) (l1 : Value) (l2 : Value) (l3 : Value) (i4 : Int32) (l5 : Value) (w0 w1 w2 : Value) (σ : Hs) : ru d 168 84 [l0, l1, l2, l3, .int i4, l5] [w0, w1, w2] σ = ru d 168 86 [l0, l1, l2, l3, .int i4, l5] [.int i4, w0, w1, w2] σ := q_iload t168_84 rfl
theorem t168_86 : decode (mb 168) 86 = .ok (.iconst 0, 1) := by decide +kernel
theorem s168_86 (d : Nat) (l0 : Value) (l1 : Value) (l2 : Value) (l3 : Value) (l4 : Value) (l5 : Value) (w0 w1 w2 w3 : Value) (σ : Hs) : ru d 168 86 [l0, l1, l2, l3, l4, l5] [w0, w1, w2, w3] σ = ru d 168 87 [l0, l1, l2, l3, l4, l5] [.int 0, w0, w1, w2, w3] σ := q_iconst t168_86 (by decide +kernel)
theorem t168_87 : decode (mb 168) 87 = .ok (.iadd, 1) := by decide +kernel
theorem s168_87 (d : Nat) (l0 : Value) (l1 : Value) (l2 : Value) (l3 : Value) (l4 : Value) (l5 : Value) (x y : Int32) (w0 w1 w2 : Value) (σ : Hs) : ru d 168 87 [l0, l1, l2, l3, l4, l5] [.int y, .int x, w0, w1, w2] σ = ru d 168 88 [l0, l1, l2, l3, l4, l5] [.int (x + y), w0, w1, w2] σ := q_iadd t168_87
theorem t168_88 : decode (mb 168) 88 = .ok (.iaload, 1) := by decide +kernel
theorem s168_88_o88 (d : Nat) (l0 : Value) (l1 : Value) (l2 : Value) (l3 : Value) (l4 : Value) (l5 : Value) (i : Int32) (w0 w1 : Value) (σ : Hs) : ru d 168 88 [l0, l1, l2, l3, l4, l5] [.int i, .ref 88, w0, w1] σ = gd (vp_in i 545) (ru d 168 89 [l0, l1, l2, l3, l4, l5] [.int (σ 88 i.toNatClampNeg), w0, w1] σ) := q_iald t168_88 rfl (by decide +kernel) rfl
theorem t168_89 : decode (mb 168) 89 = .ok (.iload 5, 2) := by decide +kernel
theorem s168_89 (d : Nat) (l0 : Value) (l1 : Value) (l2 : Value) (l3 : Value) (l4 : Value) (i5 : Int32) (w0 w1 w2 : Value) (σ : Hs) : ru d 168 89 [l0, l1, l2, l3, l4, .int i5] [w0, w1, w2] σ = ru d 168 91 [l0, l1, l2, l3, l4, .int i5] [.int i5, w0, w1, w2] σ := q_iload t168_89 rfl
theorem t168_91 : decode (mb 168) 91 = .ok (.invokestatic 244, 3) := by decide +kernel
theorem s168_91 (d : Nat) (l0 : Value) (l1 : Value) (l2 : Value) (l3 : Value) (l4 : Value) (l5 : Value) (v0 v1 : Value) (w0 : Int32) (w1 : Nat) (σ : Hs) : ru d 168 91 [l0, l1, l2, l3, l4, l5] [v1, v0, .int w0, .ref w1] σ = kont (callD d 163 [v0, v1] σ) d 168 94 [l0, l1, l2, l3, l4, l5] [.int w0, .ref w1] := q_invs t168_91 mo168 (by decide +kernel) K8_244 mj163 (Nat.le_of_ble_eq_true rfl) rfl rfl (Nat.le_of_ble_eq_true rfl)
theorem t168_94 : decode (mb 168) 94 = .ok (.iastore, 1) := by decide +kernel
theorem s168_94_o88 (d : Nat) (l0 : Value) (l1 : Value) (l2 : Value) (l3 : Value) (l4 : Value) (l5 : Value) (i x : Int32) (σ : Hs) : ru d 168 94 [l0, l1, l2, l3, l4, l5] [.int x, .int i, .ref 88] σ = gd (vp_in i 545) (ru d 168 95 [l0, l1, l2, l3, l4, l5] [] (up2 σ 88 i.toNatClampNeg x)) := q_iast t168_94 (by decide +kernel) rfl rfl
theorem t168_95 : decode (mb 168) 95 = .ok (.aload_n 0, 1) := by decide +kernel
theorem s168_95 (d : Nat) (a0 : Nat) (l1 : Value) (l2 : Value) (l3 : Value) (l4 : Value) (l5 : Value) (σ : Hs) : ru d 168 95 [.ref a0, l1, l2, l3, l4, l5] [] σ = ru d 168 96 [.ref a0, l1, l2, l3, l4, l5] [.ref a0] σ := q_aload_n t168_95 rfl
theorem t168_96 : decode (mb 168) 96 = .ok (.getfield 9, 3) := by decide +kernel
theorem s168_96_o87 (d : Nat) (l0 : Value) (l1 : Value) (l2 : Value) (l3 : Value) (l4 : Value) (l5 : Value) (σ : Hs) : ru d 168 96 [l0, l1, l2, l3, l4, l5] [.ref 87] σ = ru d 168 99 [l0, l1, l2, l3, l4, l5] [.ref 88] σ := q_getf t168_96 mo168 F8_9 rfl rfl
theorem t168_99 : decode (mb 168) 99 = .ok (.iload 4, 2) := by decide +kernel
theorem s168_99 (d : Nat) (l0 : Value) (l1 : Value) (l2 : Value) (l3 : Value) (i4 : Int32) (l5 : Value) (w0 : Value) (σ : Hs) : ru d 168 99 [l0, l1, l2, l3, .int i4, l5] [w0] σ = ru d 168 101 [l0, l1, l2, l3, .int i4, l5] [.int i4, w0] σ := q_iload t168_99 rfl
theorem t168_101 : decode (mb 168) 101 = .ok (.iconst 1, 1) := by decide +kernel
theorem s168_101 (d : Nat) (l0 : Value) (l1 : Value) (l2 : Value) (l3 : Value) (l4 : Value) (l5 : Value) (w0 w1 : Value) (σ : Hs) : ru d 168 101 [l0, l1, l2, l3, l4, l5] [w0, w1] σ = ru d 168 102 [l0, l1, l2, l3, l4, l5] [.int 1, w0, w1] σ := q_iconst t168_101 (by decide +kernel)
theorem t168_102 : decode (mb 168) 102 = .ok (.iadd, 1) := by decide +kernel
theorem s168_102 (d : Nat) (l0 : Value) (l1 : Value) (l2 : Value) (l3 : Value) (l4 : Value) (l5 : Value) (x y : Int32) (w0 : Value) (σ : Hs) : ru d 168 102 [l0, l1, l2, l3, l4, l5] [.int y, .int x, w0] σ = ru d 168 103 [l0, l1, l2, l3, l4, l5] [.int (x + y), w0] σ := q_iadd t168_102
theorem t168_103 : decode (mb 168) 103 = .ok (.aload_n 0, 1) := by decide +kernel
theorem s168_103 (d : Nat) (a0 : Nat) (l1 : Value) (l2 : Value) (l3 : Value) (l4 : Value) (l5 : Value) (w0 w1 : Value) (σ : Hs) : ru d 168 103 [.ref a0, l1, l2, l3, l4, l5] [w0, w1] σ = ru d 168 104 [.ref a0, l1, l2, l3, l4, l5] [.ref a0, w0, w1] σ := q_aload_n t168_103 rfl
theorem t168_104 : decode (mb 168) 104 = .ok (.getfield 9, 3) := by decide +kernel
theorem s168_104_o87 (d : Nat) (l0 : Value) (l1 : Value) (l2 : Value) (l3 : Value) (l4 : Value) (l5 : Value) (w0 w1 : Value) (σ : Hs) : ru d 168 104 [l0, l1, l2, l3, l4, l5] [.ref 87, w0, w1] σ = ru d 168 107 [l0, l1, l2, l3, l4, l5] [.ref 88, w0, w1] σ := q_getf t168_104 mo168 F8_9 rfl rfl
theorem t168_107 : decode (mb 168) 107 = .ok (.iload 4, 2) := by decide +kernel
theorem s168_107 (d : Nat) (l0 : Value) (l1 : Value) (l2 : Value) (l3 : Value) (i4 : Int32) (l5 : Value) (w0 w1 w2 : Value) (σ : Hs) : ru d 168 107 [l0, l1, l2, l3, .int i4, l5] [w0, w1, w2] σ = ru d 168 109 [l0, l1, l2, l3, .int i4, l5] [.int i4, w0, w1, w2] σ := q_iload t168_107 rfl
theorem t168_109 : decode (mb 168) 109 = .ok (.iconst 1, 1) := by decide +kernel
theorem s168_109 (d : Nat) (l0 : Value) (l1 : Value) (l2 : Value) (l3 : Value) (l4 : Value) (l5 : Value) (w0 w1 w2 w3 : Value) (σ : Hs) : ru d 168 109 [l0, l1, l2, l3, l4, l5] [w0, w1, w2, w3] σ = ru d 168 110 [l0, l1, l2, l3, l4, l5] [.int 1, w0, w1, w2, w3] σ := q_iconst t168_109 (by decide +kernel)
theorem t168_110 : decode (mb 168) 110 = .ok (.iadd, 1) := by decide +kernel
theorem s168_110 (d : Nat) (l0 : Value) (l1 : Value) (l2 : Value) (l3 : Value) (l4 : Value) (l5 : Value) (x y : Int32) (w0 w1 w2 : Value) (σ : Hs) : ru d 168 110 [l0, l1, l2, l3, l4, l5] [.int y, .int x, w0, w1, w2] σ = ru d 168 111 [l0, l1, l2, l3, l4, l5] [.int (x + y), w0, w1, w2] σ := q_iadd t168_110
theorem t168_111 : decode (mb 168) 111 = .ok (.iaload, 1) := by decide +kernel
theorem s168_111_o88 (d : Nat) (l0 : Value) (l1 : Value) (l2 : Value) (l3 : Value) (l4 : Value) (l5 : Value) (i : Int32) (w0 w1 : Value) (σ : Hs) : ru d 168 111 [l0, l1, l2, l3, l4, l5] [.int i, .ref 88, w0, w1] σ = gd (vp_in i 545) (ru d 168 112 [l0, l1, l2, l3, l4, l5] [.int (σ 88 i.toNatClampNeg), w0, w1] σ) := q_iald t168_111 rfl (by decide +kernel) rfl
theorem t168_112 : decode (mb 168) 112 = .ok (.aload_n 0, 1) := by decide +kernel
theorem s168_112 (d : Nat) (a0 : Nat) (l1 : Value) (l2 : Value) (l3 : Value) (l4 : Value) (l5 : Value) (w0 w1 w2 : Value) (σ : Hs) : ru d 168 112 [.ref a0, l1, l2, l3, l4, l5] [w0, w1, w2] σ = ru d 168 113 [.ref a0, l1, l2, l3, l4, l5] [.ref a0, w0, w1, w2] σ := q_aload_n t168_112 rfl
theorem t168_113 : decode (mb 168) 113 = .ok (.getfield 9, 3) := by decide +kernel
theorem s168_113_o87 (d : Nat) (l0 : Value) (l1 : Value) (l2 : Value) (l3 : Value) (l4 : Value) (l5 : Value) (w0 w1 w2 : Value) (σ : Hs) : ru d 168 113 [l0, l1, l2, l3, l4, l5] [.ref 87, w0, w1, w2] σ = ru d 168 116 [l0, l1, l2, l3, l4, l5] [.ref 88, w0, w1, w2] σ := q_getf t168_113 mo168 F8_9 rfl rfl
theorem t168_116 : decode (mb 168) 116 = .ok (.iload 4, 2) := by decide +kernel
theorem s168_116 (d : Nat) (l0 : Value) (l1 : Value) (l2 : Value) (l3 : Value) (i4 : Int32) (l5 : Value) (w0 w1 w2 w3 : Value) (σ : Hs) : ru d 168 116 [l0, l1, l2, l3, .int i4, l5] [w0, w1, w2, w3] σ = ru d 168 118 [l0, l1, l2, l3, .int i4, l5] [.int i4, w0, w1, w2, w3] σ := q_iload t168_116 rfl
theorem t168_118 : decode (mb 168) 118 = .ok (.iconst 2, 1) := by decide +kernel
theorem s168_118 (d : Nat) (l0 : Value) (l1 : Value) (l2 : Value) (l3 : Value) (l4 : Value) (l5 : Value) (w0 w1 w2 w3 w4 : Value) (σ : Hs) : ru d 168 118 [l0, l1, l2, l3, l4, l5] [w0, w1, w2, w3, w4] σ = ru d 168 119 [l0, l1, l2, l3, l4, l5] [.int 2, w0, w1, w2, w3, w4] σ := q_iconst t168_118 (by decide +kernel)
theorem t168_119 : decode (mb 168) 119 = .ok (.iadd, 1) := by decide +kernel
theorem s168_119 (d : Nat) (l0 : Value) (l1 : Value) (l2 : Value) (l3 : Value) (l4 : Value) (l5 : Value) (x y : Int32) (w0 w1 w2 w3 : Value) (σ : Hs) : ru d 168 119 [l0, l1, l2, l3, l4, l5] [.int y, .int x, w0, w1, w2, w3] σ = ru d 168 120 [l0, l1, l2, l3, l4, l5] [.int (x + y), w0, w1, w2, w3] σ := q_iadd t168_119
theorem t168_120 : decode (mb 168) 120 = .ok (.iaload, 1) := by decide +kernel
theorem s168_120_o88 (d : Nat) (l0 : Value) (l1 : Value) (l2 : Value) (l3 : Value) (l4 : Value) (l5 : Value) (i : Int32) (w0 w1 w2 : Value) (σ : Hs) : ru d 168 120 [l0, l1, l2, l3, l4, l5] [.int i, .ref 88, w0, w1, w2] σ = gd (vp_in i 545) (ru d 168 121 [l0, l1, l2, l3, l4, l5] [.int (σ 88 i.toNatClampNeg), w0, w1, w2] σ) := q_iald t168_120 rfl (by decide +kernel) rfl
theorem t168_121 : decode (mb 168) 121 = .ok (.iload_n 1, 1) := by decide +kernel
theorem s168_121 (d : Nat) (l0 : Value) (i1 : Int32) (l2 : Value) (l3 : Value) (l4 : Value) (l5 : Value) (w0 w1 w2 w3 : Value) (σ : Hs) : ru d 168 121 [l0, .int i1, l2, l3, l4, l5] [w0, w1, w2, w3] σ = ru d 168 122 [l0, .int i1, l2, l3, l4, l5] [.int i1, w0, w1, w2, w3] σ := q_iload_n t168_121 rfl
theorem t168_122 : decode (mb 168) 122 = .ok (.invokestatic 249, 3) := by decide +kernel
theorem s168_122 (d : Nat) (l0 : Value) (l1 : Value) (l2 : Value) (l3 : Value) (l4 : Value) (l5 : Value) (v0 v1 : Value) (w0 : Int32) (w1 : Int32) (w2 : Nat) (σ : Hs) : ru d 168 122 [l0, l1, l2, l3, l4, l5] [v1, v0, .int w0, .int w1, .ref w2] σ = kont (callD d 113 [v0, v1] σ) d 168 125 [l0, l1, l2, l3, l4, l5] [.int w0, .int w1, .ref w2] := q_invs t168_122 mo168 (by decide +kernel) K8_249 mj113 (Nat.le_of_ble_eq_true rfl) rfl rfl (Nat.le_of_ble_eq_true rfl)
theorem t168_125 : decode (mb 168) 125 = .ok (.ifCond .eq 8, 3) := by decide +kernel
theorem s168_125 (d : Nat) (l0 : Value) (l1 : Value) (l2 : Value) (l3 : Value) (l4 : Value) (l5 : Value) (x : Int32) (w0 w1 w2 : Value) (σ : Hs) : ru d 168 125 [l0, l1, l2, l3, l4, l5] [.int x, w0, w1, w2] σ = if x = 0 then ru d 168 133 [l0, l1, l2, l3, l4, l5] [w0, w1, w2] σ else ru d 168 128 [l0, l1, l2, l3, l4, l5] [w0, w1, w2] σ := q_if_eq t168_125 (by decide +kernel)
theorem t168_128 : decode (mb 168) 128 = .ok (.iload 5, 2) := by decide +kernel
theorem s168_128 (d : Nat) (l0 : Value) (l1 : Value) (l2 : Value) (l3 : Value) (l4 : Value) (i5 : Int32) (w0 w1 w2 : Value) (σ : Hs) : ru d 168 128 [l0, l1, l2, l3, l4, .int i5] [w0, w1, w2] σ = ru d 168 130 [l0, l1, l2, l3, l4, .int i5] [.int i5, w0, w1, w2] σ := q_iload t168_128 rfl
theorem t168_130 : decode (mb 168) 130 = .ok (.goto 4, 3) := by decide +kernel
theorem s168_130 (d : Nat) (l0 : Value) (l1 : Value) (l2 : Value) (l3 : Value) (l4 : Value) (l5 : Value) (w0 w1 w2 w3 : Value) (σ : Hs) : ru d 168 130 [l0, l1, l2, l3, l4, l5] [w0, w1, w2, w3] σ = ru d 168 134 [l0, l1, l2, l3, l4, l5] [w0, w1, w2, w3] σ := q_goto t168_130 (by decide +kernel)
theorem t168_133 : decode (mb 168) 133 = .ok (.iconst 0, 1) := by decide +kernel
theorem s168_133 (d : Nat) (l0 : Value) (l1 : Value) (l2 : Value) (l3 : Value) (l4 : Value) (l5 : Value) (w0 w1 w2 : Value) (σ : Hs) : ru d 168 133 [l0, l1, l2, l3, l4, l5] [w0, w1, w2] σ = ru d 168 134 [l0, l1, l2, l3, l4, l5] [.int 0, w0, w1, w2] σ := q_iconst t168_133 (by decide +kernel)
theorem t168_134 : decode (mb 168) 134 = .ok (.invokestatic 244, 3) := by decide +kernel
theorem s168_134 (d : Nat) (l0 : Value) (l1 : Value) (l2 : Value) (l3 : Value) (l4 : Value) (l5 : Value) (v0 v1 : Value) (w0 : Int32) (w1 : Nat) (σ : Hs) : ru d 168 134 [l0, l1, l2, l3, l4, l5] [v1, v0, .int w0, .ref w1] σ = kont (callD d 163 [v0, v1] σ) d 168 137 [l0, l1, l2, l3, l4, l5] [.int w0, .ref w1] := q_invs t168_134 mo168 (by decide +kernel) K8_244 mj163 (Nat.le_of_ble_eq_true rfl) rfl rfl (Nat.le_of_ble_eq_true rfl)
theorem t168_137 : decode (mb 168) 137 = .ok (.iastore, 1) := by decide +kernel
theorem s168_137_o88 (d : Nat) (l0 : Value) (l1 : Value) (l2 : Value) (l3 : Value) (l4 : Value) (l5 : Value) (i x : Int32) (σ : Hs) : ru d 168 137 [l0, l1, l2, l3, l4, l5] [.int x, .int i, .ref 88] σ = gd (vp_in i 545) (ru d 168 138 [l0, l1, l2, l3, l4, l5] [] (up2 σ 88 i.toNatClampNeg x)) := q_iast t168_137 (by decide +kernel) rfl rfl
theorem t168_138 : decode (mb 168) 138 = .ok (.iload_n 2, 1) := by decide +kernel
theorem s168_138 (d : Nat) (l0 : Value) (l1 : Value) (i2 : Int32) (l3 : Value) (l4 : Value) (l5 : Value) (σ : Hs) : ru d 168 138 [l0, l1, .int i2, l3, l4, l5] [] σ = ru d 168 139 [l0, l1, .int i2, l3, l4, l5] [.int i2] σ := q_iload_n t168_138 rfl
theorem t168_139 : decode (mb 168) 139 = .ok (.iload 5, 2) := by decide +kernel
theorem s168_139 (d : Nat) (l0 : Value) (l1 : Value) (l2 : Value) (l3 : Value) (l4 : Value) (i5 : Int32) (w0 : Value) (σ : Hs) : ru d 168 139 [l0, l1, l2, l3, l4, .int i5] [w0] σ = ru d 168 141 [l0, l1, l2, l3, l4, .int i5] [.int i5, w0] σ := q_iload t168_139 rfl
theorem t168_141 : decode (mb 168) 141 = .ok (.isub, 1) := by decide +kernel
theorem s168_141 (d : Nat) (l0 : Value) (l1 : Value) (l2 : Value) (l3 : Value) (l4 : Value) (l5 : Value) (x y : Int32) (σ : Hs) : ru d 168 141 [l0, l1, l2, l3, l4, l5] [.int y, .int x] σ = ru d 168 142 [l0, l1, l2, l3, l4, l5] [.int (x - y)] σ := q_isub t168_141
theorem t168_142 : decode (mb 168) 142 = .ok (.istore_n 2, 1) := by decide +kernel
theorem s168_142 (d : Nat) (l0 : Value) (i1 : Int32) (l2 : Value) (l3 : Value) (l4 : Value) (l5 : Value) (x : Int32) (σ : Hs) : ru d 168 142 [l0, .int i1, l2, l3, l4, l5] [.int x] σ = ru d 168 143 [l0, .int i1, .int x, l3, l4, l5] [] σ := q_istore_n t168_142 ⟨Nat.le_of_ble_eq_true rfl, rfl⟩ rfl
theorem t168_143 : decode (mb 168) 143 = .ok (.iload_n 3, 1) := by decide +kernel
theorem s168_143 (d : Nat) (l0 : Value) (l1 : Value) (l2 : Value) (i3 : Int32) (l4 : Value) (l5 : Value) (σ : Hs) : ru d 168 143 [l0, l1, l2, .int i3, l4, l5] [] σ = ru d 168 144 [l0, l1, l2, .int i3, l4, l5] [.int i3] σ := q_iload_n t168_143 rfl
theorem t168_144 : decode (mb 168) 144 = .ok (.aload_n 0, 1) := by decide +kernel
theorem s168_144 (d : Nat) (a0 : Nat) (l1 : Value) (l2 : Value) (l3 : Value) (l4 : Value) (l5 : Value) (w0 : Value) (σ : Hs) : ru d 168 144 [.ref a0, l1, l2, l3, l4, l5] [w0] σ = ru d 168 145 [.ref a0, l1, l2, l3, l4, l5] [.ref a0, w0] σ := q_aload_n t168_144 rfl
theorem t168_145 : decode (mb 168) 145 = .ok (.getfield 9, 3) := by decide +kernel
theorem s168_145_o87 (d : Nat) (l0 : Value) (l1 : Value) (l2 : Value) (l3 : Value) (l4 : Value) (l5 : Value) (w0 : Value) (σ : Hs) : ru d 168 145 [l0, l1, l2, l3, l4, l5] [.ref 87, w0] σ = ru d 168 148 [l0, l1, l2, l3, l4, l5] [.ref 88, w0] σ := q_getf t168_145 mo168 F8_9 rfl rfl
theorem t168_148 : decode (mb 168) 148 = .ok (.bipush 6, 2) := by decide +kernel
theorem s168_148 (d : Nat) (l0 : Value) (l1 : Value) (l2 : Value) (l3 : Value) (l4 : Value) (l5 : Value) (w0 w1 : Value) (σ : Hs) : ru d 168 148 [l0, l1, l2, l3, l4, l5] [w0, w1] σ = ru d 168 150 [l0, l1, l2, l3, l4, l5] [.int 6, w0, w1] σ := q_bipush t168_148 (by decide +kernel)
theorem t168_150 : decode (mb 168) 150 = .ok (.iaload, 1) := by decide +kernel
theorem s168_150_o88 (d : Nat) (l0 : Value) (l1 : Value) (l2 : Value) (l3 : Value) (l4 : Value) (l5 : Value) (i : Int32) (w0 : Value) (σ : Hs) : ru d 168 150 [l0, l1, l2, l3, l4, l5] [.int i, .ref 88, w0] σ = gd (vp_in i 545) (ru d 168 151 [l0, l1, l2, l3, l4, l5] [.int (σ 88 i.toNatClampNeg), w0] σ) := q_iald t168_150 rfl (by decide +kernel) rfl
theorem t168_151 : decode (mb 168) 151 = .ok (.invokestatic 252, 3) := by decide +kernel
theorem s168_151 (d : Nat) (l0 : Value) (l1 : Value) (l2 : Value) (l3 : Value) (l4 : Value) (l5 : Value) (v0 v1 : Value) (σ : Hs) : ru d 168 151 [l0, l1, l2, l3, l4, l5] [v1, v0] σ = kont (callD d 167 [v0, v1] σ) d 168 154 [l0, l1, l2, l3, l4, l5] [] := q_invs t168_151 mo168 (by decide +kernel) K8_252 mj167 (Nat.le_of_ble_eq_true rfl) rfl rfl (Nat.le_of_ble_eq_true rfl)
theorem t168_154 : decode (mb 168) 154 = .ok (.istore_n 3, 1) := by decide +kernel
theorem s168_154 (d : Nat) (l0 : Value) (l1 : Value) (i2 : Int32) (l3 : Value) (l4 : Value) (l5 : Value) (x : Int32) (σ : Hs) : ru d 168 154 [l0, l1, .int i2, l3, l4, l5] [.int x] σ = ru d 168 155 [l0, l1, .int i2, .int x, l4, l5] [] σ := q_istore_n t168_154 ⟨Nat.le_of_ble_eq_true rfl, rfl⟩ rfl
theorem t168_155 : decode (mb 168) 155 = .ok (.goto (-101), 3) := by decide +kernel
theorem s168_155 (d : Nat) (l0 : Value) (l1 : Value) (l2 : Value) (l3 : Value) (l4 : Value) (l5 : Value) (σ : Hs) : ru d 168 155 [l0, l1, l2, l3, l4, l5] [] σ = ru d 168 54 [l0, l1, l2, l3, l4, l5] [] σ := q_goto t168_155 (by decide +kernel)
theorem t168_158 : decode (mb 168) 158 = .ok (.return_, 1) := by decide +kernel
theorem s168_158 (d : Nat) (l0 : Value) (l1 : Value) (l2 : Value) (l3 : Value) (l4 : Value) (l5 : Value) (σ : Hs) : ru d 168 158 [l0, l1, l2, l3, l4, l5] [] σ = some (none, σ) := q_vret t168_158 mr168
theorem c168 (d : Nat) (x0 : Nat) (σ : Hs) : callD (d + 1) 168 [.ref x0] σ = ru d 168 0 [.ref x0, uu, uu, uu, uu, uu] [] σ := callD_ru ml168 rfl rfl (Nat.le_of_ble_eq_true rfl)
-- 169: Model.minute()V
theorem t169_0 : decode (mb 169) 0 = .ok (.aload_n 0, 1) := by decide +kernel
theorem s169_0 (d : Nat) (a0 : Nat) (l1 : Value) (σ : Hs) : ru d 169 0 [.ref a0, l1] [] σ = ru d 169 1 [.ref a0, l1] [.ref a0] σ := q_aload_n t169_0 rfl
theorem t169_1 : decode (mb 169) 1 = .ok (.iconst 0, 1) := by decide +kernel
theorem s169_1 (d : Nat) (l0 : Value) (l1 : Value) (w0 : Value) (σ : Hs) : ru d 169 1 [l0, l1] [w0] σ = ru d 169 2 [l0, l1] [.int 0, w0] σ := q_iconst t169_1 (by decide +kernel)
theorem t169_2 : decode (mb 169) 2 = .ok (.putfield 241, 3) := by decide +kernel
theorem s169_2_o87 (d : Nat) (l0 : Value) (l1 : Value) (x : Int32) (σ : Hs) : ru d 169 2 [l0, l1] [.int x, .ref 87] σ = ru d 169 5 [l0, l1] [] (up2 σ 87 17 x) := q_puti t169_2 mo169 F8_241 (by decide +kernel) rfl rfl
theorem t169_5 : decode (mb 169) 5 = .ok (.iconst 0, 1) := by decide +kernel
theorem s169_5 (d : Nat) (l0 : Value) (l1 : Value) (σ : Hs) : ru d 169 5 [l0, l1] [] σ = ru d 169 6 [l0, l1] [.int 0] σ := q_iconst t169_5 (by decide +kernel)
theorem t169_6 : decode (mb 169) 6 = .ok (.istore_n 1, 1) := by decide +kernel
theorem s169_6 (d : Nat) (a0 : Nat) (l1 : Value) (x : Int32) (σ : Hs) : ru d 169 6 [.ref a0, l1] [.int x] σ = ru d 169 7 [.ref a0, .int x] [] σ := q_istore_n t169_6 ⟨Nat.le_of_ble_eq_true rfl, rfl⟩ rfl
theorem t169_7 : decode (mb 169) 7 = .ok (.iload_n 1, 1) := by decide +kernel
theorem s169_7 (d : Nat) (l0 : Value) (i1 : Int32) (σ : Hs) : ru d 169 7 [l0, .int i1] [] σ = ru d 169 8 [l0, .int i1] [.int i1] σ := q_iload_n t169_7 rfl
theorem t169_8 : decode (mb 169) 8 = .ok (.bipush 30, 2) := by decide +kernel
theorem s169_8 (d : Nat) (l0 : Value) (l1 : Value) (w0 : Value) (σ : Hs) : ru d 169 8 [l0, l1] [w0] σ = ru d 169 10 [l0, l1] [.int 30, w0] σ := q_bipush t169_8 (by decide +kernel)
theorem t169_10 : decode (mb 169) 10 = .ok (.if_icmp .ge 38, 3) := by decide +kernel
theorem s169_10 (d : Nat) (l0 : Value) (l1 : Value) (x y : Int32) (σ : Hs) : ru d 169 10 [l0, l1] [.int y, .int x] σ = if y ≤ x then ru d 169 48 [l0, l1] [] σ else ru d 169 13 [l0, l1] [] σ := q_ic_ge t169_10 (by decide +kernel)
theorem t169_13 : decode (mb 169) 13 = .ok (.aload_n 0, 1) := by decide +kernel
theorem s169_13 (d : Nat) (a0 : Nat) (l1 : Value) (σ : Hs) : ru d 169 13 [.ref a0, l1] [] σ = ru d 169 14 [.ref a0, l1] [.ref a0] σ := q_aload_n t169_13 rfl
theorem t169_14 : decode (mb 169) 14 = .ok (.iload_n 1, 1) := by decide +kernel
theorem s169_14 (d : Nat) (l0 : Value) (i1 : Int32) (w0 : Value) (σ : Hs) : ru d 169 14 [l0, .int i1] [w0] σ = ru d 169 15 [l0, .int i1] [.int i1, w0] σ := q_iload_n t169_14 rfl
theorem t169_15 : decode (mb 169) 15 = .ok (.invokevirtual 88, 3) := by decide +kernel
theorem s169_15_o87 (d : Nat) (l0 : Value) (l1 : Value) (v1 : Value) (σ : Hs) : ru d 169 15 [l0, l1] [v1, .ref 87] σ = kont (callD d 121 [.ref 87, v1] σ) d 169 18 [l0, l1] [] := q_invv t169_15 mo169 K8_88 mj121 rfl rfl rfl rfl (Nat.le_of_ble_eq_true rfl)
theorem t169_18 : decode (mb 169) 18 = .ok (.ifCond .eq 24, 3) := by decide +kernel
theorem s169_18 (d : Nat) (l0 : Value) (l1 : Value) (x : Int32) (σ : Hs) : ru d 169 18 [l0, l1] [.int x] σ = if x = 0 then ru d 169 42 [l0, l1] [] σ else ru d 169 21 [l0, l1] [] σ := q_if_eq t169_18 (by decide +kernel)
theorem t169_21 : decode (mb 169) 21 = .ok (.aload_n 0, 1) := by decide +kernel
theorem s169_21 (d : Nat) (a0 : Nat) (l1 : Value) (σ : Hs) : ru d 169 21 [.ref a0, l1] [] σ = ru d 169 22 [.ref a0, l1] [.ref a0] σ := q_aload_n t169_21 rfl
theorem t169_22 : decode (mb 169) 22 = .ok (.iload_n 1, 1) := by decide +kernel
theorem s169_22 (d : Nat) (l0 : Value) (i1 : Int32) (w0 : Value) (σ : Hs) : ru d 169 22 [l0, .int i1] [w0] σ = ru d 169 23 [l0, .int i1] [.int i1, w0] σ := q_iload_n t169_22 rfl
theorem t169_23 : decode (mb 169) 23 = .ok (.invokevirtual 142, 3) := by decide +kernel
theorem s169_23_o87 (d : Nat) (l0 : Value) (l1 : Value) (v1 : Value) (σ : Hs) : ru d 169 23 [l0, l1] [v1, .ref 87] σ = kont (callD d 122 [.ref 87, v1] σ) d 169 26 [l0, l1] [] := q_invv t169_23 mo169 K8_142 mj122 rfl rfl rfl rfl (Nat.le_of_ble_eq_true rfl)
theorem t169_26 : decode (mb 169) 26 = .ok (.ifCond .eq 11, 3) := by decide +kernel
theorem s169_26 (d : Nat) (l0 : Value) (l1 : Value) (x : Int32) (σ : Hs) : ru d 169 26 [l0, l1] [.int x] σ = if x = 0 then ru d 169 37 [l0, l1] [] σ else ru d 169 29 [l0, l1] [] σ := q_if_eq t169_26 (by decide +kernel)
theorem t169_29 : decode (mb 169) 29 = .ok (.aload_n 0, 1) := by decide +kernel
theorem s169_29 (d : Nat) (a0 : Nat) (l1 : Value) (σ : Hs) : ru d 169 29 [.ref a0, l1] [] σ = ru d 169 30 [.ref a0, l1] [.ref a0] σ := q_aload_n t169_29 rfl
theorem t169_30 : decode (mb 169) 30 = .ok (.iload_n 1, 1) := by decide +kernel
theorem s169_30 (d : Nat) (l0 : Value) (i1 : Int32) (w0 : Value) (σ : Hs) : ru d 169 30 [l0, .int i1] [w0] σ = ru d 169 31 [l0, .int i1] [.int i1, w0] σ := q_iload_n t169_30 rfl
theorem t169_31 : decode (mb 169) 31 = .ok (.invokevirtual 255, 3) := by decide +kernel
theorem s169_31_o87 (d : Nat) (l0 : Value) (l1 : Value) (v1 : Value) (σ : Hs) : ru d 169 31 [l0, l1] [v1, .ref 87] σ = kont (callD d 165 [.ref 87, v1] σ) d 169 34 [l0, l1] [] := q_invv t169_31 mo169 K8_255 mj165 rfl rfl rfl rfl (Nat.le_of_ble_eq_true rfl)
theorem t169_34 : decode (mb 169) 34 = .ok (.ifCond .eq 8, 3) := by decide +kernel
theorem s169_34 (d : Nat) (l0 : Value) (l1 : Value) (x : Int32) (σ : Hs) : ru d 169 34 [l0, l1] [.int x] σ = if x = 0 then ru d 169 42 [l0, l1] [] σ else ru d 169 37 [l0, l1] [] σ := q_if_eq t169_34 (by decide +kernel)
theorem t169_37 : decode (mb 169) 37 = .ok (.aload_n 0, 1) := by decide +kernel
theorem s169_37 (d : Nat) (a0 : Nat) (l1 : Value) (σ : Hs) : ru d 169 37 [.ref a0, l1] [] σ = ru d 169 38 [.ref a0, l1] [.ref a0] σ := q_aload_n t169_37 rfl
theorem t169_38 : decode (mb 169) 38 = .ok (.iload_n 1, 1) := by decide +kernel
theorem s169_38 (d : Nat) (l0 : Value) (i1 : Int32) (w0 : Value) (σ : Hs) : ru d 169 38 [l0, .int i1] [w0] σ = ru d 169 39 [l0, .int i1] [.int i1, w0] σ := q_iload_n t169_38 rfl
theorem t169_39 : decode (mb 169) 39 = .ok (.invokevirtual 258, 3) := by decide +kernel
theorem s169_39_o87 (d : Nat) (l0 : Value) (l1 : Value) (v1 : Value) (σ : Hs) : ru d 169 39 [l0, l1] [v1, .ref 87] σ = kont (callD d 166 [.ref 87, v1] σ) d 169 42 [l0, l1] [] := q_invv t169_39 mo169 K8_258 mj166 rfl rfl rfl rfl (Nat.le_of_ble_eq_true rfl)
theorem t169_42 : decode (mb 169) 42 = .ok (.iinc 1 1, 3) := by decide +kernel
theorem s169_42 (d : Nat) (a0 : Nat) (i1 : Int32) (σ : Hs) : ru d 169 42 [.ref a0, .int i1] [] σ = ru d 169 45 [.ref a0, .int (i1 + 1)] [] σ := q_iinc t169_42 ⟨Nat.le_of_ble_eq_true rfl, rfl⟩ rfl (by decide +kernel) rfl
theorem t169_45 : decode (mb 169) 45 = .ok (.goto (-38), 3) := by decide +kernel
theorem s169_45 (d : Nat) (l0 : Value) (l1 : Value) (σ : Hs) : ru d 169 45 [l0, l1] [] σ = ru d 169 7 [l0, l1] [] σ := q_goto t169_45 (by decide +kernel)
theorem t169_48 : decode (mb 169) 48 = .ok (.aload_n 0, 1) := by decide +kernel
theorem s169_48 (d : Nat) (a0 : Nat) (l1 : Value) (σ : Hs) : ru d 169 48 [.ref a0, l1] [] σ = ru d 169 49 [.ref a0, l1] [.ref a0] σ := q_aload_n t169_48 rfl
theorem t169_49 : decode (mb 169) 49 = .ok (.invokevirtual 261, 3) := by decide +kernel
theorem s169_49_o87 (d : Nat) (l0 : Value) (l1 : Value) (σ : Hs) : ru d 169 49 [l0, l1] [.ref 87] σ = kont (callD d 168 [.ref 87] σ) d 169 52 [l0, l1] [] := q_invv t169_49 mo169 K8_261 mj168 rfl rfl rfl rfl (Nat.le_of_ble_eq_true rfl)
theorem t169_52 : decode (mb 169) 52 = .ok (.aload_n 0, 1) := by decide +kernel
theorem s169_52 (d : Nat) (a0 : Nat) (l1 : Value) (σ : Hs) : ru d 169 52 [.ref a0, l1] [] σ = ru d 169 53 [.ref a0, l1] [.ref a0] σ := q_aload_n t169_52 rfl
theorem t169_53 : decode (mb 169) 53 = .ok (.getfield 9, 3) := by decide +kernel
theorem s169_53_o87 (d : Nat) (l0 : Value) (l1 : Value) (σ : Hs) : ru d 169 53 [l0, l1] [.ref 87] σ = ru d 169 56 [l0, l1] [.ref 88] σ := q_getf t169_53 mo169 F8_9 rfl rfl
theorem t169_56 : decode (mb 169) 56 = .ok (.bipush 12, 2) := by decide +kernel
theorem s169_56 (d : Nat) (l0 : Value) (l1 : Value) (w0 : Value) (σ : Hs) : ru d 169 56 [l0, l1] [w0] σ = ru d 169 58 [l0, l1] [.int 12, w0] σ := q_bipush t169_56 (by decide +kernel)
theorem t169_58 : decode (mb 169) 58 = .ok (.aload_n 0, 1) := by decide +kernel
theorem s169_58 (d : Nat) (a0 : Nat) (l1 : Value) (w0 w1 : Value) (σ : Hs) : ru d 169 58 [.ref a0, l1] [w0, w1] σ = ru d 169 59 [.ref a0, l1] [.ref a0, w0, w1] σ := q_aload_n t169_58 rfl
theorem t169_59 : decode (mb 169) 59 = .ok (.getfield 9, 3) := by decide +kernel
theorem s169_59_o87 (d : Nat) (l0 : Value) (l1 : Value) (w0 w1 : Value) (σ : Hs) : ru d 169 59 [l0, l1] [.ref 87, w0, w1] σ = ru d 169 62 [l0, l1] [.ref 88, w0, w1] σ := q_getf t169_59 mo169 F8_9 rfl rfl
theorem t169_62 : decode (mb 169) 62 = .ok (.bipush 12, 2) := by decide +kernel
theorem s169_62 (d : Nat) (l0 : Value) (l1 : Value) (w0 w1 w2 : Value) (σ : Hs) : ru d 169 62 [l0, l1] [w0, w1, w2] σ = ru d 169 64 [l0, l1] [.int 12, w0, w1, w2] σ := q_bipush t169_62 (by decide +kernel)
theorem t169_64 : decode (mb 169) 64 = .ok (.iaload, 1) := by decide +kernel
theorem s169_64_o88 (d : Nat) (l0 : Value) (l1 : Value) (i : Int32) (w0 w1 : Value) (σ : Hs) : ru d 169 64 [l0, l1] [.int i, .ref 88, w0, w1] σ = gd (vp_in i 545) (ru d 169 65 [l0, l1] [.int (σ 88 i.toNatClampNeg), w0, w1] σ) := q_iald t169_64 rfl (by decide +kernel) rfl
theorem t169_65 : decode (mb 169) 65 = .ok (.aload_n 0, 1) := by decide +kernel
theorem s169_65 (d : Nat) (a0 : Nat) (l1 : Value) (w0 w1 w2 : Value) (σ : Hs) : ru d 169 65 [.ref a0, l1] [w0, w1, w2] σ = ru d 169 66 [.ref a0, l1] [.ref a0, w0, w1, w2] σ := q_aload_n t169_65 rfl
theorem t169_66 : decode (mb 169) 66 = .ok (.getfield 241, 3) := by decide +kernel
theorem s169_66_o87 (d : Nat) (l0 : Value) (l1 : Value) (w0 w1 w2 : Value) (σ : Hs) : ru d 169 66 [l0, l1] [.ref 87, w0, w1, w2] σ = ru d 169 69 [l0, l1] [.int (σ 87 17), w0, w1, w2] σ := q_getf t169_66 mo169 F8_241 rfl rfl
theorem t169_69 : decode (mb 169) 69 = .ok (.invokestatic 244, 3) := by decide +kernel
theorem s169_69 (d : Nat) (l0 : Value) (l1 : Value) (v0 v1 : Value) (w0 : Int32) (w1 : Nat) (σ : Hs) : ru d 169 69 [l0, l1] [v1, v0, .int w0, .ref w1] σ = kont (callD d 163 [v0, v1] σ) d 169 72 [l0, l1] [.int w0, .ref w1] := q_invs t169_69 mo169 (by decide +kernel) K8_244 mj163 (Nat.le_of_ble_eq_true rfl) rfl rfl (Nat.le_of_ble_eq_true rfl)
theorem t169_72 : decode (mb 169) 72 = .ok (.iastore, 1) := by decide +kernel
theorem s169_72_o88 (d : Nat) (l0 : Value) (l1 : Value) (i x : Int32) (σ : Hs) : ru d 169 72 [l0, l1] [.int x, .int i, .ref 88] σ = gd (vp_in i 545) (ru d 169 73 [l0, l1] [] (up2 σ 88 i.toNatClampNeg x)) := q_iast t169_72 (by decide +kernel) rfl rfl
theorem t169_73 : decode (mb 169) 73 = .ok (.aload_n 0, 1) := by decide +kernel
theorem s169_73 (d : Nat) (a0 : Nat) (l1 : Value) (σ : Hs) : ru d 169 73 [.ref a0, l1] [] σ = ru d 169 74 [.ref a0, l1] [.ref a0] σ := q_aload_n t169_73 rfl
theorem t169_74 : decode (mb 169) 74 = .ok (.getfield 9, 3) := by decide +kernel
theorem s169_74_o87 (d : Nat) (l0 : Value) (l1 : Value) (σ : Hs) : ru d 169 74 [l0, l1] [.ref 87] σ = ru d 169 77 [l0, l1] [.ref 88] σ := q_getf t169_74 mo169 F8_9 rfl rfl
theorem t169_77 : decode (mb 169) 77 = .ok (.iconst 4, 1) := by decide +kernel
theorem s169_77 (d : Nat) (l0 : Value) (l1 : Value) (w0 : Value) (σ : Hs) : ru d 169 77 [l0, l1] [w0] σ = ru d 169 78 [l0, l1] [.int 4, w0] σ := q_iconst t169_77 (by decide +kernel)
theorem t169_78 : decode (mb 169) 78 = .ok (.aload_n 0, 1) := by decide +kernel
theorem s169_78 (d : Nat) (a0 : Nat) (l1 : Value) (w0 w1 : Value) (σ : Hs) : ru d 169 78 [.ref a0, l1] [w0, w1] σ = ru d 169 79 [.ref a0, l1] [.ref a0, w0, w1] σ := q_aload_n t169_78 rfl
theorem t169_79 : decode (mb 169) 79 = .ok (.getfield 9, 3) := by decide +kernel
theorem s169_79_o87 (d : Nat) (l0 : Value) (l1 : Value) (w0 w1 : Value) (σ : Hs) : ru d 169 79 [l0, l1] [.ref 87, w0, w1] σ = ru d 169 82 [l0, l1] [.ref 88, w0, w1] σ := q_getf t169_79 mo169 F8_9 rfl rfl
theorem t169_82 : decode (mb 169) 82 = .ok (.iconst 4, 1) := by decide +kernel
theorem s169_82 (d : Nat) (l0 : Value) (l1 : Value) (w0 w1 w2 : Value) (σ : Hs) : ru d 169 82 [l0, l1] [w0, w1, w2] σ = ru d 169 83 [l0, l1] [.int 4, w0, w1, w2] σ := q_iconst t169_82 (by decide +kernel)
theorem t169_83 : decode (mb 169) 83 = .ok (.iaload, 1) := by decide +kernel
theorem s169_83_o88 (d : Nat) (l0 : Value) (l1 : Value) (i : Int32) (w0 w1 : Value) (σ : Hs) : ru d 169 83 [l0, l1] [.int i, .ref 88, w0, w1] σ = gd (vp_in i 545) (ru d 169 84 [l0, l1] [.int (σ 88 i.toNatClampNeg), w0, w1] σ) := q_iald t169_83 rfl (by decide +kernel) rfl
theorem t169_84 : decode (mb 169) 84 = .ok (.iconst 1, 1) := by decide +kernel
theorem s169_84 (d : Nat) (l0 : Value) (l1 : Value) (w0 w1 w2 : Value) (σ : Hs) : ru d 169 84 [l0, l1] [w0, w1, w2] σ = ru d 169 85 [l0, l1] [.int 1, w0, w1, w2] σ := q_iconst t169_84 (by decide +kernel)
theorem t169_85 : decode (mb 169) 85 = .ok (.iadd, 1) := by decide +kernel
theorem s169_85 (d : Nat) (l0 : Value) (l1 : Value) (x y : Int32) (w0 w1 : Value) (σ : Hs) : ru d 169 85 [l0, l1] [.int y, .int x, w0, w1] σ = ru d 169 86 [l0, l1] [.int (x + y), w0, w1] σ := q_iadd t169_85
theorem t169_86 : decode (mb 169) 86 = .ok (.sipush 1440, 3) := by decide +kernel
theorem s169_86 (d : Nat) (l0 : Value) (l1 : Value) (w0 w1 w2 : Value) (σ : Hs) : ru d 169 86 [l0, l1] [w0, w1, w2] σ = ru d 169 89 [l0, l1] [.int 1440, w0, w1, w2] σ := q_sipush t169_86 (by decide +kernel)
theorem t169_89 : decode (mb 169) 89 = .ok (.irem, 1) := by decide +kernel
theorem s169_89 (d : Nat) (l0 : Value) (l1 : Value) (x y : Int32) (w0 w1 : Value) (σ : Hs) : ru d 169 89 [l0, l1] [.int y, .int x, w0, w1] σ = gd (¬ y = 0) (ru d 169 90 [l0, l1] [.int (x - x / y * y), w0, w1] σ) := q_irem t169_89
theorem t169_90 : decode (mb 169) 90 = .ok (.iastore, 1) := by decide +kernel
theorem s169_90_o88 (d : Nat) (l0 : Value) (l1 : Value) (i x : Int32) (σ : Hs) : ru d 169 90 [l0, l1] [.int x, .int i, .ref 88] σ = gd (vp_in i 545) (ru d 169 91 [l0, l1] [] (up2 σ 88 i.toNatClampNeg x)) := q_iast t169_90 (by decide +kernel) rfl rfl
theorem t169_91 : decode (mb 169) 91 = .ok (.aload_n 0, 1) := by decide +kernel
theorem s169_91 (d : Nat) (a0 : Nat) (l1 : Value) (σ : Hs) : ru d 169 91 [.ref a0, l1] [] σ = ru d 169 92 [.ref a0, l1] [.ref a0] σ := q_aload_n t169_91 rfl
theorem t169_92 : decode (mb 169) 92 = .ok (.getfield 9, 3) := by decide +kernel
theorem s169_92_o87 (d : Nat) (l0 : Value) (l1 : Value) (σ : Hs) : ru d 169 92 [l0, l1] [.ref 87] σ = ru d 169 95 [l0, l1] [.ref 88] σ := q_getf t169_92 mo169 F8_9 rfl rfl
theorem t169_95 : decode (mb 169) 95 = .ok (.iconst 0, 1) := by decide +kernel
theorem s169_95 (d : Nat) (l0 : Value) (l1 : Value) (w0 : Value) (σ : Hs) : ru d 169 95 [l0, l1] [w0] σ = ru d 169 96 [l0, l1] [.int 0, w0] σ := q_iconst t169_95 (by decide +kernel)
theorem t169_96 : decode (mb 169) 96 = .ok (.dup2, 1) := by decide +kernel
theorem s169_96 (d : Nat) (l0 : Value) (l1 : Value) (x0 : Int32) (x1 : Nat) (σ : Hs) : ru d 169 96 [l0, l1] [.int x0, .ref x1] σ = ru d 169 97 [l0, l1] [.int x0, .ref x1, .int x0, .ref x1] σ := q_dup2 t169_96 rfl rfl
theorem t169_97 : decode (mb 169) 97 = .ok (.iaload, 1) := by decide +kernel
theorem s169_97_o88 (d : Nat) (l0 : Value) (l1 : Value) (i : Int32) (w0 w1 : Value) (σ : Hs) : ru d 169 97 [l0, l1] [.int i, .ref 88, w0, w1] σ = gd (vp_in i 545) (ru d 169 98 [l0, l1] [.int (σ 88 i.toNatClampNeg), w0, w1] σ) := q_iald t169_97 rfl (by decide +kernel) rfl
theorem t169_98 : decode (mb 169) 98 = .ok (.iconst 1, 1) := by decide +kernel
theorem s169_98 (d : Nat) (l0 : Value) (l1 : Value) (w0 w1 w2 : Value) (σ : Hs) : ru d 169 98 [l0, l1] [w0, w1, w2] σ = ru d 169 99 [l0, l1] [.int 1, w0, w1, w2] σ := q_iconst t169_98 (by decide +kernel)
theorem t169_99 : decode (mb 169) 99 = .ok (.iadd, 1) := by decide +kernel
theorem s169_99 (d : Nat) (l0 : Value) (l1 : Value) (x y : Int32) (w0 w1 : Value) (σ : Hs) : ru d 169 99 [l0, l1] [.int y, .int x, w0, w1] σ = ru d 169 100 [l0, l1] [.int (x + y), w0, w1] σ := q_iadd t169_99
theorem t169_100 : decode (mb 169) 100 = .ok (.iastore, 1) := by decide +kernel
theorem s169_100_o88 (d : Nat) (l0 : Value) (l1 : Value) (i x : Int32) (σ : Hs) : ru d 169 100 [l0, l1] [.int x, .int i, .ref 88] σ = gd (vp_in i 545) (ru d 169 101 [l0, l1] [] (up2 σ 88 i.toNatClampNeg x)) := q_iast t169_100 (by decide +kernel) rfl rfl
theorem t169_101 : decode (mb 169) 101 = .ok (.return_, 1) := by decide +kernel
theorem s169_101 (d : Nat) (l0 : Value) (l1 : Value) (σ : Hs) : ru d 169 101 [l0, l1] [] σ = some (none, σ) := q_vret t169_101 mr169
theorem c169 (d : Nat) (x0 : Nat) (σ : Hs) : callD (d + 1) 169 [.ref x0] σ = ru d 169 0 [.ref x0, uu] [] σ := callD_ru ml169 rfl rfl (Nat.le_of_ble_eq_true rfl)
-- 170: Model.minutesGo(I)V
theorem t170_0 : decode (mb 170) 0 = .ok (.iconst 0, 1) := by decide +kernel
theorem s170_0 (d : Nat) (l0 : Value) (l1 : Value) (l2 : Value) (σ : Hs) : ru d 170 0 [l0, l1, l2] [] σ = ru d 170 1 [l0, l1, l2] [.int 0] σ := q_iconst t170_0 (by decide +kernel)
theorem t170_1 : decode (mb 170) 1 = .ok (.istore_n 2, 1) := by decide +kernel
theorem s170_1 (d : Nat) (l0 : Value) (i1 : Int32) (l2 : Value) (x : Int32) (σ : Hs) : ru d 170 1 [l0, .int i1, l2] [.int x] σ = ru d 170 2 [l0, .int i1, .int x] [] σ := q_istore_n t170_1 ⟨Nat.le_of_ble_eq_true rfl, rfl⟩ rfl
theorem t170_2 : decode (mb 170) 2 = .ok (.iload_n 2, 1) := by decide +kernel
theorem s170_2 (d : Nat) (l0 : Value) (l1 : Value) (i2 : Int32) (σ : Hs) : ru d 170 2 [l0, l1, .int i2] [] σ = ru d 170 3 [l0, l1, .int i2] [.int i2] σ := q_iload_n t170_2 rfl
theorem t170_3 : decode (mb 170) 3 = .ok (.iload_n 1, 1) := by decide +kernel
theorem s170_3 (d : Nat) (l0 : Value) (i1 : Int32) (l2 : Value) (w0 : Value) (σ : Hs) : ru d 170 3 [l0, .int i1, l2] [w0] σ = ru d 170 4 [l0, .int i1, l2] [.int i1, w0] σ := q_iload_n t170_3 rfl
theorem t170_4 : decode (mb 170) 4 = .ok (.if_icmp .ge 13, 3) := by decide +kernel
theorem s170_4 (d : Nat) (l0 : Value) (l1 : Value) (l2 : Value) (x y : Int32) (σ : Hs) : ru d 170 4 [l0, l1, l2] [.int y, .int x] σ = if y ≤ x then ru d 170 17 [l0, l1, l2] [] σ else ru d 170 7 [l0, l1, l2] [] σ := q_ic_ge t170_4 (by decide +kernel)
theorem t170_7 : decode (mb 170) 7 = .ok (.aload_n 0, 1) := by decide +kernel
theorem s170_7 (d : Nat) (a0 : Nat) (l1 : Value) (l2 : Value) (σ : Hs) : ru d 170 7 [.ref a0, l1, l2] [] σ = ru d 170 8 [.ref a0, l1, l2] [.ref a0] σ := q_aload_n t170_7 rfl
theorem t170_8 : decode (mb 170) 8 = .ok (.invokevirtual 264, 3) := by decide +kernel
theorem s170_8_o87 (d : Nat) (l0 : Value) (l1 : Value) (l2 : Value) (σ : Hs) : ru d 170 8 [l0, l1, l2] [.ref 87] σ = kont (callD d 169 [.ref 87] σ) d 170 11 [l0, l1, l2] [] := q_invv t170_8 mo170 K8_264 mj169 rfl rfl rfl rfl (Nat.le_of_ble_eq_true rfl)
theorem t170_11 : decode (mb 170) 11 = .ok (.iinc 2 1, 3) := by decide +kernel
theorem s170_11 (d : Nat) (l0 : Value) (i1 : Int32) (i2 : Int32) (σ : Hs) : ru d 170 11 [l0, .int i1, .int i2] [] σ = ru d 170 14 [l0, .int i1, .int (i2 + 1)] [] σ := q_iinc t170_11 ⟨Nat.le_of_ble_eq_true rfl, rfl⟩ rfl (by decide +kernel) rfl
theorem t170_14 : decode (mb 170) 14 = .ok (.goto (-12), 3) := by decide +kernel
theorem s170_14 (d : Nat) (l0 : Value) (l1 : Value) (l2 : Value) (σ : Hs) : ru d 170 14 [l0, l1, l2] [] σ = ru d 170 2 [l0, l1, l2] [] σ := q_goto t170_14 (by decide +kernel)
theorem t170_17 : decode (mb 170) 17 = .ok (.return_, 1) := by decide +kernel
theorem s170_17 (d : Nat) (l0 : Value) (l1 : Value) (l2 : Value) (σ : Hs) : ru d 170 17 [l0, l1, l2] [] σ = some (none, σ) := q_vret t170_17 mr170
theorem c170 (d : Nat) (x0 : Nat) (x1 : Int32) (σ : Hs) : callD (d + 1) 170 [.ref x0, .int x1] σ = ru d 170 0 [.ref x0, .int x1, uu] [] σ := callD_ru ml170 rfl rfl (Nat.le_of_ble_eq_true rfl)
-- 171: Model.whyNot(I)I
theorem t171_0 : decode (mb 171) 0 = .ok (.iload_n 1, 1) := by decide +kernel
theorem s171_0 (d : Nat) (l0 : Value) (i1 : Int32) (σ : Hs) : ru d 171 0 [l0, .int i1] [] σ = ru d 171 1 [l0, .int i1] [.int i1] σ := q_iload_n t171_0 rfl
theorem t171_1 : decode (mb 171) 1 = .ok (.iconst 1, 1) := by decide +kernel
theorem s171_1 (d : Nat) (l0 : Value) (l1 : Value) (w0 : Value) (σ : Hs) : ru d 171 1 [l0, l1] [w0] σ = ru d 171 2 [l0, l1] [.int 1, w0] σ := q_iconst t171_1 (by decide +kernel)
theorem t171_2 : decode (mb 171) 2 = .ok (.sipush 200, 3) := by decide +kernel
theorem s171_2 (d : Nat) (l0 : Value) (l1 : Value) (w0 w1 : Value) (σ : Hs) : ru d 171 2 [l0, l1] [w0, w1] σ = ru d 171 5 [l0, l1] [.int 200, w0, w1] σ := q_sipush t171_2 (by decide +kernel)
theorem t171_5 : decode (mb 171) 5 = .ok (.invokestatic 81, 3) := by decide +kernel
theorem s171_5 (d : Nat) (l0 : Value) (l1 : Value) (v0 v1 v2 : Value) (σ : Hs) : ru d 171 5 [l0, l1] [v2, v1, v0] σ = kont (callD d 112 [v0, v1, v2] σ) d 171 8 [l0, l1] [] := q_invs t171_5 mo171 (by decide +kernel) K8_81 mj112 (Nat.le_of_ble_eq_true rfl) rfl rfl (Nat.le_of_ble_eq_true rfl)
theorem t171_8 : decode (mb 171) 8 = .ok (.ifCond .ne 8, 3) := by decide +kernel
theorem s171_8 (d : Nat) (l0 : Value) (l1 : Value) (x : Int32) (σ : Hs) : ru d 171 8 [l0, l1] [.int x] σ = if x = 0 then ru d 171 11 [l0, l1] [] σ else ru d 171 16 [l0, l1] [] σ := q_if_ne t171_8 (by decide +kernel)
theorem t171_11 : decode (mb 171) 11 = .ok (.ldc 104, 2) := by decide +kernel
theorem s171_11 (d : Nat) (l0 : Value) (l1 : Value) (σ : Hs) : ru d 171 11 [l0, l1] [] σ = ru d 171 13 [l0, l1] [.int (-1000001)] σ := q_ldc t171_11 mo171 C8_104
theorem t171_13 : decode (mb 171) 13 = .ok (.goto 23, 3) := by decide +kernel
theorem s171_13 (d : Nat) (l0 : Value) (l1 : Value) (w0 : Value) (σ : Hs) : ru d 171 13 [l0, l1] [w0] σ = ru d 171 36 [l0, l1] [w0] σ := q_goto t171_13 (by decide +kernel)
theorem t171_16 : decode (mb 171) 16 = .ok (.aload_n 0, 1) := by decide +kernel
theorem s171_16 (d : Nat) (a0 : Nat) (l1 : Value) (σ : Hs) : ru d 171 16 [.ref a0, l1] [] σ = ru d 171 17 [.ref a0, l1] [.ref a0] σ := q_aload_n t171_16 rfl
theorem t171_17 : decode (mb 171) 17 = .ok (.getfield 9, 3) := by decide +kernel
theorem s171_17_o87 (d : Nat) (l0 : Value) (l1 : Value) (σ : Hs) : ru d 171 17 [l0, l1] [.ref 87] σ = ru d 171 20 [l0, l1] [.ref 88] σ := q_getf t171_17 mo171 F8_9 rfl rfl
theorem t171_20 : decode (mb 171) 20 = .ok (.iconst 0, 1) := by decide +kernel
theorem s171_20 (d : Nat) (l0 : Value) (l1 : Value) (w0 : Value) (σ : Hs) : ru d 171 20 [l0, l1] [w0] σ = ru d 171 21 [l0, l1] [.int 0, w0] σ := q_iconst t171_20 (by decide +kernel)
theorem t171_21 : decode (mb 171) 21 = .ok (.iaload, 1) := by decide +kernel
theorem s171_21_o88 (d : Nat) (l0 : Value) (l1 : Value) (i : Int32) (σ : Hs) : ru d 171 21 [l0, l1] [.int i, .ref 88] σ = gd (vp_in i 545) (ru d 171 22 [l0, l1] [.int (σ 88 i.toNatClampNeg)] σ) := q_iald t171_21 rfl (by decide +kernel) rfl
theorem t171_22 : decode (mb 171) 22 = .ok (.iload_n 1, 1) := by decide +kernel
theorem s171_22 (d : Nat) (l0 : Value) (i1 : Int32) (w0 : Value) (σ : Hs) : ru d 171 22 [l0, .int i1] [w0] σ = ru d 171 23 [l0, .int i1] [.int i1, w0] σ := q_iload_n t171_22 rfl
theorem t171_23 : decode (mb 171) 23 = .ok (.iadd, 1) := by decide +kernel
theorem s171_23 (d : Nat) (l0 : Value) (l1 : Value) (x y : Int32) (σ : Hs) : ru d 171 23 [l0, l1] [.int y, .int x] σ = ru d 171 24 [l0, l1] [.int (x + y)] σ := q_iadd t171_23
theorem t171_24 : decode (mb 171) 24 = .ok (.ldc_w 267, 3) := by decide +kernel
theorem s171_24 (d : Nat) (l0 : Value) (l1 : Value) (w0 : Value) (σ : Hs) : ru d 171 24 [l0, l1] [w0] σ = ru d 171 27 [l0, l1] [.int 99999, w0] σ := q_ldcw t171_24 mo171 C8_267
theorem t171_27 : decode (mb 171) 27 = .ok (.if_icmp .le 8, 3) := by decide +kernel
theorem s171_27 (d : Nat) (l0 : Value) (l1 : Value) (x y : Int32) (σ : Hs) : ru d 171 27 [l0, l1] [.int y, .int x] σ = if x ≤ y then ru d 171 35 [l0, l1] [] σ else ru d 171 30 [l0, l1] [] σ := q_ic_le t171_27 (by decide +kernel)
theorem t171_30 : decode (mb 171) 30 = .ok (.ldc 149, 2) := by decide +kernel
theorem s171_30 (d : Nat) (l0 : Value) (l1 : Value) (σ : Hs) : ru d 171 30 [l0, l1] [] σ = ru d 171 32 [l0, l1] [.int (-1000003)] σ := q_ldc t171_30 mo171 C8_149
theorem t171_32 : decode (mb 171) 32 = .ok (.goto 4, 3) := by decide +kernel
theorem s171_32 (d : Nat) (l0 : Value) (l1 : Value) (w0 : Value) (σ : Hs) : ru d 171 32 [l0, l1] [w0] σ = ru d 171 36 [l0, l1] [w0] σ := q_goto t171_32 (by decide +kernel)
theorem t171_35 : decode (mb 171) 35 = .ok (.iconst 0, 1) := by decide +kernel
theorem s171_35 (d : Nat) (l0 : Value) (l1 : Value) (σ : Hs) : ru d 171 35 [l0, l1] [] σ = ru d 171 36 [l0, l1] [.int 0] σ := q_iconst t171_35 (by decide +kernel)
theorem t171_36 : decode (mb 171) 36 = .ok (.ireturn, 1) := by decide +kernel
theorem s171_36 (d : Nat) (l0 : Value) (l1 : Value) (x : Int32) (σ : Hs) : ru d 171 36 [l0, l1] [.int x] σ = some (some (.int x), σ) := q_ireti t171_36 mr171
theorem c171 (d : Nat) (x0 : Nat) (x1 : Int32) (σ : Hs) : callD (d + 1) 171 [.ref x0, .int x1] σ = ru d 171 0 [.ref x0, .int x1] [] σ := callD_ru ml171 rfl rfl (Nat.le_of_ble_eq_true rfl)
-- 172: Model.minutes(I)I
theorem t172_0 : decode (mb 172) 0 = .ok (.aload_n 0, 1) := by decide +kernel
theorem s172_0 (d : Nat) (a0 : Nat) (l1 : Value) (l2 : Value) (σ : Hs) : ru d 172 0 [.ref a0, l1, l2] [] σ = ru d 172 1 [.ref a0, l1, l2] [.ref a0] σ := q_aload_n t172_0 rfl
theorem t172_1 : decode (mb 172) 1 = .ok (.iload_n 1, 1) := by decide +kernel
theorem s172_1 (d : Nat) (l0 : Value) (i1 : Int32) (l2 : Value) (w0 : Value) (σ : Hs) : ru d 172 1 [l0, .int i1, l2] [w0] σ = ru d 172 2 [l0, .int i1, l2] [.int i1, w0] σ := q_iload_n t172_1 rfl
theorem t172_2 : decode (mb 172) 2 = .ok (.invokevirtual 268, 3) := by decide +kernel
theorem s172_2_o87 (d : Nat) (l0 : Value) (l1 : Value) (l2 : Value) (v1 : Value) (σ : Hs) : ru d 172 2 [l0, l1, l2] [v1, .ref 87] σ = kont (callD d 171 [.ref 87, v1] σ) d 172 5 [l0, l1, l2] [] := q_invv t172_2 mo172 K8_268 mj171 rfl rfl rfl rfl (Nat.le_of_ble_eq_true rfl)
theorem t172_5 : decode (mb 172) 5 = .ok (.istore_n 2, 1) := by decide +kernel
theorem s172_5 (d : Nat) (l0 : Value) (i1 : Int32) (l2 : Value) (x : Int32) (σ : Hs) : ru d 172 5 [l0, .int i1, l2] [.int x] σ = ru d 172 6 [l0, .int i1, .int x] [] σ := q_istore_n t172_5 ⟨Nat.le_of_ble_eq_true rfl, rfl⟩ rfl
theorem t172_6 : decode (mb 172) 6 = .ok (.iload_n 2, 1) := by decide +kernel
theorem s172_6 (d : Nat) (l0 : Value) (l1 : Value) (i2 : Int32) (σ : Hs) : ru d 172 6 [l0, l1, .int i2] [] σ = ru d 172 7 [l0, l1, .int i2] [.int i2] σ := q_iload_n t172_6 rfl
theorem t172_7 : decode (mb 172) 7 = .ok (.ifCond .eq 9, 3) := by decide +kernel
theorem s172_7 (d : Nat) (l0 : Value) (l1 : Value) (l2 : Value) (x : Int32) (σ : Hs) : ru d 172 7 [l0, l1, l2] [.int x] σ = if x = 0 then ru d 172 16 [l0, l1, l2] [] σ else ru d 172 10 [l0, l1, l2] [] σ := q_if_eq t172_7 (by decide +kernel)
theorem t172_10 : decode (mb 172) 10 = .ok (.aload_n 0, 1) := by decide +kernel
theorem s172_10 (d : Nat) (a0 : Nat) (l1 : Value) (l2 : Value) (σ : Hs) : ru d 172 10 [.ref a0, l1, l2] [] σ = ru d 172 11 [.ref a0, l1, l2] [.ref a0] σ := q_aload_n t172_10 rfl
theorem t172_11 : decode (mb 172) 11 = .ok (.iload_n 2, 1) := by decide +kernel
theorem s172_11 (d : Nat) (l0 : Value) (l1 : Value) (i2 : Int32) (w0 : Value) (σ : Hs) : ru d 172 11 [l0, l1, .int i2] [w0] σ = ru d 172 12 [l0, l1, .int i2] [.int i2, w0] σ := q_iload_n t172_11 rfl
theorem t172_12 : decode (mb 172) 12 = .ok (.invokevirtual 105, 3) := by decide +kernel
theorem s172_12_o87 (d : Nat) (l0 : Value) (l1 : Value) (l2 : Value) (v1 : Value) (σ : Hs) : ru d 172 12 [l0, l1, l2] [v1, .ref 87] σ = kont (callD d 111 [.ref 87, v1] σ) d 172 15 [l0, l1, l2] [] := q_invv t172_12 mo172 K8_105 mj111 rfl rfl rfl rfl (Nat.le_of_ble_eq_true rfl)
theorem t172_15 : decode (mb 172) 15 = .ok (.ireturn, 1) := by decide +kernel
theorem s172_15 (d : Nat) (l0 : Value) (l1 : Value) (l2 : Value) (x : Int32) (σ : Hs) : ru d 172 15 [l0, l1, l2] [.int x] σ = some (some (.int x), σ) := q_ireti t172_15 mr172
theorem t172_16 : decode (mb 172) 16 = .ok (.aload_n 0, 1) := by decide +kernel
theorem s172_16 (d : Nat) (a0 : Nat) (l1 : Value) (l2 : Value) (σ : Hs) : ru d 172 16 [.ref a0, l1, l2] [] σ = ru d 172 17 [.ref a0, l1, l2] [.ref a0] σ := q_aload_n t172_16 rfl
theorem t172_17 : decode (mb 172) 17 = .ok (.iload_n 1, 1) := by decide +kernel
theorem s172_17 (d : Nat) (l0 : Value) (i1 : Int32) (l2 : Value) (w0 : Value) (σ : Hs) : ru d 172 17 [l0, .int i1, l2] [w0] σ = ru d 172 18 [l0, .int i1, l2] [.int i1, w0] σ := q_iload_n t172_17 rfl
theorem t172_18 : decode (mb 172) 18 = .ok (.invokevirtual 271, 3) := by decide +kernel
theorem s172_18_o87 (d : Nat) (l0 : Value) (l1 : Value) (l2 : Value) (v1 : Value) (σ : Hs) : ru d 172 18 [l0, l1, l2] [v1, .ref 87] σ = kont (callD d 170 [.ref 87, v1] σ) d 172 21 [l0, l1, l2] [] := q_invv t172_18 mo172 K8_271 mj170 rfl rfl rfl rfl (Nat.le_of_ble_eq_true rfl)
theorem t172_21 : decode (mb 172) 21 = .ok (.aload_n 0, 1) := by decide +kernel
theorem s172_21 (d : Nat) (a0 : Nat) (l1 : Value) (l2 : Value) (σ : Hs) : ru d 172 21 [.ref a0, l1, l2] [] σ = ru d 172 22 [.ref a0, l1, l2] [.ref a0] σ := q_aload_n t172_21 rfl
theorem t172_22 : decode (mb 172) 22 = .ok (.getfield 9, 3) := by decide +kernel
theorem s172_22_o87 (d : Nat) (l0 : Value) (l1 : Value) (l2 : Value) (σ : Hs) : ru d 172 22 [l0, l1, l2] [.ref 87] σ = ru d 172 25 [l0, l1, l2] [.ref 88] σ := q_getf t172_22 mo172 F8_9 rfl rfl
theorem t172_25 : decode (mb 172) 25 = .ok (.iconst 0, 1) := by decide +kernel
theorem s172_25 (d : Nat) (l0 : Value) (l1 : Value) (l2 : Value) (w0 : Value) (σ : Hs) : ru d 172 25 [l0, l1, l2] [w0] σ = ru d 172 26 [l0, l1, l2] [.int 0, w0] σ := q_iconst t172_25 (by decide +kernel)
theorem t172_26 : decode (mb 172) 26 = .ok (.iaload, 1) := by decide +kernel
theorem s172_26_o88 (d : Nat) (l0 : Value) (l1 : Value) (l2 : Value) (i : Int32) (σ : Hs) : ru d 172 26 [l0, l1, l2] [.int i, .ref 88] σ = gd (vp_in i 545) (ru d 172 27 [l0, l1, l2] [.int (σ 88 i.toNatClampNeg)] σ) := q_iald t172_26 rfl (by decide +kernel) rfl
theorem t172_27 : decode (mb 172) 27 = .ok (.ireturn, 1) := by decide +kernel
theorem s172_27 (d : Nat) (l0 : Value) (l1 : Value) (l2 : Value) (x : Int32) (σ : Hs) : ru d 172 27 [l0, l1, l2] [.int x] σ = some (some (.int x), σ) := q_ireti t172_27 mr172
theorem c172 (d : Nat) (x0 : Nat) (x1 : Int32) (σ : Hs) : callD (d + 1) 172 [.ref x0, .int x1] σ = ru d 172 0 [.ref x0, .int x1, uu] [] σ := callD_ru ml172 rfl rfl (Nat.le_of_ble_eq_true rfl)
-- 173: Model.drawn(I)I
theorem t173_0 : decode (mb 173) 0 = .ok (.aload_n 0, 1) := by decide +kernel
theorem s173_0 (d : Nat) (a0 : Nat) (l1 : Value) (σ : Hs) : ru d 173 0 [.ref a0, l1] [] σ = ru d 173 1 [.ref a0, l1] [.ref a0] σ := q_aload_n t173_0 rfl
theorem t173_1 : decode (mb 173) 1 = .ok (.getfield 9, 3) := by decide +kernel
theorem s173_1_o87 (d : Nat) (l0 : Value) (l1 : Value) (σ : Hs) : ru d 173 1 [l0, l1] [.ref 87] σ = ru d 173 4 [l0, l1] [.ref 88] σ := q_getf t173_1 mo173 F8_9 rfl rfl
theorem t173_4 : decode (mb 173) 4 = .ok (.iconst 3, 1) := by decide +kernel
theorem s173_4 (d : Nat) (l0 : Value) (l1 : Value) (w0 : Value) (σ : Hs) : ru d 173 4 [l0, l1] [w0] σ = ru d 173 5 [l0, l1] [.int 3, w0] σ := q_iconst t173_4 (by decide +kernel)
theorem t173_5 : decode (mb 173) 5 = .ok (.aload_n 0, 1) := by decide +kernel
theorem s173_5 (d : Nat) (a0 : Nat) (l1 : Value) (w0 w1 : Value) (σ : Hs) : ru d 173 5 [.ref a0, l1] [w0, w1] σ = ru d 173 6 [.ref a0, l1] [.ref a0, w0, w1] σ := q_aload_n t173_5 rfl
theorem t173_6 : decode (mb 173) 6 = .ok (.getfield 9, 3) := by decide +kernel
theorem s173_6_o87 (d : Nat) (l0 : Value) (l1 : Value) (w0 w1 : Value) (σ : Hs) : ru d 173 6 [l0, l1] [.ref 87, w0, w1] σ = ru d 173 9 [l0, l1] [.ref 88, w0, w1] σ := q_getf t173_6 mo173 F8_9 rfl rfl
theorem t173_9 : decode (mb 173) 9 = .ok (.iconst 3, 1) := by decide +kernel
theorem s173_9 (d : Nat) (l0 : Value) (l1 : Value) (w0 w1 w2 : Value) (σ : Hs) : ru d 173 9 [l0, l1] [w0, w1, w2] σ = ru d 173 10 [l0, l1] [.int 3, w0, w1, w2] σ := q_iconst t173_9 (by decide +kernel)
theorem t173_10 : decode (mb 173) 10 = .ok (.iaload, 1) := by decide +kernel
theorem s173_10_o88 (d : Nat) (l0 : Value) (l1 : Value) (i : Int32) (w0 w1 : Value) (σ : Hs) : ru d 173 10 [l0, l1] [.int i, .ref 88, w0, w1] σ = gd (vp_in i 545) (ru d 173 11 [l0, l1] [.int (σ 88 i.toNatClampNeg), w0, w1] σ) := q_iald t173_10 rfl (by decide +kernel) rfl
theorem t173_11 : decode (mb 173) 11 = .ok (.ldc_w 274, 3) := by decide +kernel
theorem s173_11 (d : Nat) (l0 : Value) (l1 : Value) (w0 w1 w2 : Value) (σ : Hs) : ru d 173 11 [l0, l1] [w0, w1, w2] σ = ru d 173 14 [l0, l1] [.int 1103515245, w0, w1, w2] σ := q_ldcw t173_11 mo173 C8_274
theorem t173_14 : decode (mb 173) 14 = .ok (.imul, 1) := by decide +kernel
theorem s173_14 (d : Nat) (l0 : Value) (l1 : Value) (x y : Int32) (w0 w1 : Value) (σ : Hs) : ru d 173 14 [l0, l1] [.int y, .int x, w0, w1] σ = ru d 173 15 [l0, l1] [.int (x * y), w0, w1] σ := q_imul t173_14
theorem t173_15 : decode (mb 173) 15 = .ok (.sipush 12345, 3) := by decide +kernel
theorem s173_15 (d : Nat) (l0 : Value) (l1 : Value) (w0 w1 w2 : Value) (σ : Hs) : ru d 173 15 [l0, l1] [w0, w1, w2] σ = ru d 173 18 [l0, l1] [.int 12345, w0, w1, w2] σ := q_sipush t173_15 (by decide +kernel)
theorem t173_18 : decode (mb 173) 18 = .ok (.iadd, 1) := by decide +kernel
theorem s173_18 (d : Nat) (l0 : Value) (l1 : Value) (x y : Int32) (w0 w1 : Value) (σ : Hs) : ru d 173 18 [l0, l1] [.int y, .int x, w0, w1] σ = ru d 173 19 [l0, l1] [.int (x + y), w0, w1] σ := q_iadd t173_18
theorem t173_19 : decode (mb 173) 19 = .ok (.iastore, 1) := by decide +kernel
theorem s173_19_o88 (d : Nat) (l0 : Value) (l1 : Value) (i x : Int32) (σ : Hs) : ru d 173 19 [l0, l1] [.int x, .int i, .ref 88] σ = gd (vp_in i 545) (ru d 173 20 [l0, l1] [] (up2 σ 88 i.toNatClampNeg x)) := q_iast t173_19 (by decide +kernel) rfl rfl
theorem t173_20 : decode (mb 173) 20 = .ok (.aload_n 0, 1) := by decide +kernel
theorem s173_20 (d : Nat) (a0 : Nat) (l1 : Value) (σ : Hs) : ru d 173 20 [.ref a0, l1] [] σ = ru d 173 21 [.ref a0, l1] [.ref a0] σ := q_aload_n t173_20 rfl
theorem t173_21 : decode (mb 173) 21 = .ok (.getfield 9, 3) := by decide +kernel
theorem s173_21_o87 (d : Nat) (l0 : Value) (l1 : Value) (σ : Hs) : ru d 173 21 [l0, l1] [.ref 87] σ = ru d 173 24 [l0, l1] [.ref 88] σ := q_getf t173_21 mo173 F8_9 rfl rfl
theorem t173_24 : decode (mb 173) 24 = .ok (.iconst 3, 1) := by decide +kernel
theorem s173_24 (d : Nat) (l0 : Value) (l1 : Value) (w0 : Value) (σ : Hs) : ru d 173 24 [l0, l1] [w0] σ = ru d 173 25 [l0, l1] [.int 3, w0] σ := q_iconst t173_24 (by decide +kernel)
theorem t173_25 : decode (mb 173) 25 = .ok (.iaload, 1) := by decide +kernel
theorem s173_25_o88 (d : Nat) (l0 : Value) (l1 : Value) (i : Int32) (σ : Hs) : ru d 173 25 [l0, l1] [.int i, .ref 88] σ = gd (vp_in i 545) (ru d 173 26 [l0, l1] [.int (σ 88 i.toNatClampNeg)] σ) := q_iald t173_25 rfl (by decide +kernel) rfl
theorem t173_26 : decode (mb 173) 26 = .ok (.bipush 8, 2) := by decide +kernel
theorem s173_26 (d : Nat) (l0 : Value) (l1 : Value) (w0 : Value) (σ : Hs) : ru d 173 26 [l0, l1] [w0] σ = ru d 173 28 [l0, l1] [.int 8, w0] σ := q_bipush t173_26 (by decide +kernel)
theorem t173_28 : decode (mb 173) 28 = .ok (.iushr, 1) := by decide +kernel
theorem s173_28 (d : Nat) (l0 : Value) (l1 : Value) (x y : Int32) (σ : Hs) : ru d 173 28 [l0, l1] [.int y, .int x] σ = ru d 173 29 [l0, l1] [.int ((x.toUInt32 >>> (y.toUInt32 &&& Int32.toUInt32 31)).toInt32)] σ := q_iushr t173_28
theorem t173_29 : decode (mb 173) 29 = .ok (.iload_n 1, 1) := by decide +kernel
theorem s173_29 (d : Nat) (l0 : Value) (i1 : Int32) (w0 : Value) (σ : Hs) : ru d 173 29 [l0, .int i1] [w0] σ = ru d 173 30 [l0, .int i1] [.int i1, w0] σ := q_iload_n t173_29 rfl
theorem t173_30 : decode (mb 173) 30 = .ok (.irem, 1) := by decide +kernel
theorem s173_30 (d : Nat) (l0 : Value) (l1 : Value) (x y : Int32) (σ : Hs) : ru d 173 30 [l0, l1] [.int y, .int x] σ = gd (¬ y = 0) (ru d 173 31 [l0, l1] [.int (x - x / y * y)] σ) := q_irem t173_30
theorem t173_31 : decode (mb 173) 31 = .ok (.ireturn, 1) := by decide +kernel
theorem s173_31 (d : Nat) (l0 : Value) (l1 : Value) (x : Int32) (σ : Hs) : ru d 173 31 [l0, l1] [.int x] σ = some (some (.int x), σ) := q_ireti t173_31 mr173
theorem c173 (d : Nat) (x0 : Nat) (x1 : Int32) (σ : Hs) : callD (d + 1) 173 [.ref x0, .int x1] σ = ru d 173 0 [.ref x0, .int x1] [] σ := callD_ru ml173 rfl rfl (Nat.le_of_ble_eq_true rfl)
-- 174: Model.gusts(I)I
theorem t174_0 : decode (mb 174) 0 = .ok (.aload_n 0, 1) := by decide +kernel
theorem s174_0 (d : Nat) (a0 : Nat) (l1 : Value) (l2 : Value) (l3 : Value) (l4 : Value) (σ : Hs) : ru d 174 0 [.ref a0, l1, l2, l3, l4] [] σ = ru d 174 1 [.ref a0, l1, l2, l3, l4] [.ref a0] σ := q_aload_n t174_0 rfl
theorem t174_1 : decode (mb 174) 1 = .ok (.iload_n 1, 1) := by decide +kernel
theorem s174_1 (d : Nat) (l0 : Value) (i1 : Int32) (l2 : Value) (l3 : Value) (l4 : Value) (w0 : Value) (σ : Hs) : ru d 174 1 [l0, .int i1, l2, l3, l4] [w0] σ = ru d 174 2 [l0, .int i1, l2, l3, l4] [.int i1, w0] σ := q_iload_n t174_1 rfl
theorem t174_2 : decode (mb 174) 2 = .ok (.invokevirtual 268, 3) := by decide +kernel
theorem s174_2_o87 (d : Nat) (l0 : Value) (l1 : Value) (l2 : Value) (l3 : Value) (l4 : Value) (v1 : Value) (σ : Hs) : ru d 174 2 [l0, l1, l2, l3, l4] [v1, .ref 87] σ = kont (callD d 171 [.ref 87, v1] σ) d 174 5 [l0, l1, l2, l3, l4] [] := q_invv t174_2 mo174 K8_268 mj171 rfl rfl rfl rfl (Nat.le_of_ble_eq_true rfl)
theorem t174_5 : decode (mb 174) 5 = .ok (.istore_n 2, 1) := by decide +kernel
theorem s174_5 (d : Nat) (l0 : Value) (i1 : Int32) (l2 : Value) (l3 : Value) (l4 : Value) (x : Int32) (σ : Hs) : ru d 174 5 [l0, .int i1, l2, l3, l4] [.int x] σ = ru d 174 6 [l0, .int i1, .int x, l3, l4] [] σ := q_istore_n t174_5 ⟨Nat.le_of_ble_eq_true rfl, rfl⟩ rfl
theorem t174_6 : decode (mb 174) 6 = .ok (.iload_n 2, 1) := by decide +kernel
theorem s174_6 (d : Nat) (l0 : Value) (l1 : Value) (i2 : Int32) (l3 : Value) (l4 : Value) (σ : Hs) : ru d 174 6 [l0, l1, .int i2, l3, l4] [] σ = ru d 174 7 [l0, l1, .int i2, l3, l4] [.int i2] σ := q_iload_n t174_6 rfl
theorem t174_7 : decode (mb 174) 7 = .ok (.ifCond .eq 9, 3) := by decide +kernel
theorem s174_7 (d : Nat) (l0 : Value) (l1 : Value) (l2 : Value) (l3 : Value) (l4 : Value) (x : Int32) (σ : Hs) : ru d 174 7 [l0, l1, l2, l3, l4] [.int x] σ = if x = 0 then ru d 174 16 [l0, l1, l2, l3, l4] [] σ else ru d 174 10 [l0, l1, l2, l3, l4] [] σ := q_if_eq t174_7 (by decide +kernel)
theorem t174_10 : decode (mb 174) 10 = .ok (.aload_n 0, 1) := by decide +kernel
theorem s174_10 (d : Nat) (a0 : Nat) (l1 : Value) (l2 : Value) (l3 : Value) (l4 : Value) (σ : Hs) : ru d 174 10 [.ref a0, l1, l2, l3, l4] [] σ = ru d 174 11 [.ref a0, l1, l2, l3, l4] [.ref a0] σ := q_aload_n t174_10 rfl
theorem t174_11 : decode (mb 174) 11 = .ok (.iload_n 2, 1) := by decide +kernel
theorem s174_11 (d : Nat) (l0 : Value) (l1 : Value) (i2 : Int32) (l3 : Value) (l4 : Value) (w0 : Value) (σ : Hs) : ru d 174 11 [l0, l1, .int i2, l3, l4] [w0] σ = ru d 174 12 [l0, l1, .int i2, l3, l4] [.int i2, w0] σ := q_iload_n t174_11 rfl
theorem t174_12 : decode (mb 174) 12 = .ok (.invokevirtual 105, 3) := by decide +kernel
theorem s174_12_o87 (d : Nat) (l0 : Value) (l1 : Value) (l2 : Value) (l3 : Value) (l4 : Value) (v1 : Value) (σ : Hs) : ru d 174 12 [l0, l1, l2, l3, l4] [v1, .ref 87] σ = kont (callD d 111 [.ref 87, v1] σ) d 174 15 [l0, l1, l2, l3, l4] [] := q_invv t174_12 mo174 K8_105 mj111 rfl rfl rfl rfl (Nat.le_of_ble_eq_true rfl)
theorem t174_15 : decode (mb 174) 15 = .ok (.ireturn, 1) := by decide +kernel
theorem s174_15 (d : Nat) (l0 : Value) (l1 : Value) (l2 : Value) (l3 : Value) (l4 : Value) (x : Int32) (σ : Hs) : ru d 174 15 [l0, l1, l2, l3, l4] [.int x] σ = some (some (.int x), σ) := q_ireti t174_15 mr174
theorem t174_16 : decode (mb 174) 16 = .ok (.iconst 0, 1) := by decide +kernel
theorem s174_16 (d : Nat) (l0 : Value) (l1 : Value) (l2 : Value) (l3 : Value) (l4 : Value) (σ : Hs) : ru d 174 16 [l0, l1, l2, l3, l4] [] σ = ru d 174 17 [l0, l1, l2, l3, l4] [.int 0] σ := q_iconst t174_16 (by decide +kernel)
theorem t174_17 : decode (mb 174) 17 = .ok (.istore_n 3, 1) := by decide +kernel
theorem s174_17 (d : Nat) (l0 : Value) (l1 : Value) (i2 : Int32) (l3 : Value) (l4 : Value) (x : Int32) (σ : Hs) : ru d 174 17 [l0, l1, .int i2, l3, l4] [.int x] σ = ru d 174 18 [l0, l1, .int i2, .int x, l4] [] σ := q_istore_n t174_17 ⟨Nat.le_of_ble_eq_true rfl, rfl⟩ rfl
theorem t174_18 : decode (mb 174) 18 = .ok (.iload_n 3, 1) := by decide +kernel
theorem s174_18 (d : Nat) (l0 : Value) (l1 : Value) (l2 : Value) (i3 : Int32) (l4 : Value) (σ : Hs) : ru d 174 18 [l0, l1, l2, .int i3, l4] [] σ = ru d 174 19 [l0, l1, l2, .int i3, l4] [.int i3] σ := q_iload_n t174_18 rfl
theorem t174_19 : decode (mb 174) 19 = .ok (.iload_n 1, 1) := by decide +kernel
theorem s174_19 (d : Nat) (l0 : Value) (i1 : Int32) (l2 : Value) (l3 : Value) (l4 : Value) (w0 : Value) (σ : Hs) : ru d 174 19 [l0, .int i1, l2, l3, l4] [w0] σ = ru d 174 20 [l0, .int i1, l2, l3, l4] [.int i1, w0] σ := q_iload_n t174_19 rfl
theorem t174_20 : decode (mb 174) 20 = .ok (.if_icmp .ge 34, 3) := by decide +kernel
theorem s174_20 (d : Nat) (l0 : Value) (l1 : Value) (l2 : Value) (l3 : Value) (l4 : Value) (x y : Int32) (σ : Hs) : ru d 174 20 [l0, l1, l2, l3, l4] [.int y, .int x] σ = if y ≤ x then ru d 174 54 [l0, l1, l2, l3, l4] [] σ else ru d 174 23 [l0, l1, l2, l3, l4] [] σ := q_ic_ge t174_20 (by decide +kernel)
theorem t174_23 : decode (mb 174) 23 = .ok (.aload_n 0, 1) := by decide +kernel
theorem s174_23 (d : Nat) (a0 : Nat) (l1 : Value) (l2 : Value) (l3 : Value) (l4 : Value) (σ : Hs) : ru d 174 23 [.ref a0, l1, l2, l3, l4] [] σ = ru d 174 24 [.ref a0, l1, l2, l3, l4] [.ref a0] σ := q_aload_n t174_23 rfl
theorem t174_24 : decode (mb 174) 24 = .ok (.iconst 5, 1) := by decide +kernel
theorem s174_24 (d : Nat) (l0 : Value) (l1 : Value) (l2 : Value) (l3 : Value) (l4 : Value) (w0 : Value) (σ : Hs) : ru d 174 24 [l0, l1, l2, l3, l4] [w0] σ = ru d 174 25 [l0, l1, l2, l3, l4] [.int 5, w0] σ := q_iconst t174_24 (by decide +kernel)
theorem t174_25 : decode (mb 174) 25 = .ok (.aload_n 0, 1) := by decide +kernel
theorem s174_25 (d : Nat) (a0 : Nat) (l1 : Value) (l2 : Value) (l3 : Value) (l4 : Value) (w0 w1 : Value) (σ : Hs) : ru d 174 25 [.ref a0, l1, l2, l3, l4] [w0, w1] σ = ru d 174 26 [.ref a0, l1, l2, l3, l4] [.ref a0, w0, w1] σ := q_aload_n t174_25 rfl
theorem t174_26 : decode (mb 174) 26 = .ok (.bipush 100, 2) := by decide +kernel
theorem s174_26 (d : Nat) (l0 : Value) (l1 : Value) (l2 : Value) (l3 : Value) (l4 : Value) (w0 w1 w2 : Value) (σ : Hs) : ru d 174 26 [l0, l1, l2, l3, l4] [w0, w1, w2] σ = ru d 174 28 [l0, l1, l2, l3, l4] [.int 100, w0, w1, w2] σ := q_bipush t174_26 (by decide +kernel)
theorem t174_28 : decode (mb 174) 28 = .ok (.invokevirtual 275, 3) := by decide +kernel
theorem s174_28_o87 (d : Nat) (l0 : Value) (l1 : Value) (l2 : Value) (l3 : Value) (l4 : Value) (v1 : Value) (w0 : Int32) (w1 : Nat) (σ : Hs) : ru d 174 28 [l0, l1, l2, l3, l4] [v1, .ref 87, .int w0, .ref w1] σ = kont (callD d 173 [.ref 87, v1] σ) d 174 31 [l0, l1, l2, l3, l4] [.int w0, .ref w1] := q_invv t174_28 mo174 K8_275 mj173 rfl rfl rfl rfl (Nat.le_of_ble_eq_true rfl)
theorem t174_31 : decode (mb 174) 31 = .ok (.invokevirtual 135, 3) := by decide +kernel
theorem s174_31_o87 (d : Nat) (l0 : Value) (l1 : Value) (l2 : Value) (l3 : Value) (l4 : Value) (v1 v2 : Value) (σ : Hs) : ru d 174 31 [l0, l1, l2, l3, l4] [v2, v1, .ref 87] σ = kont (callD d 116 [.ref 87, v1, v2] σ) d 174 34 [l0, l1, l2, l3, l4] [] := q_invv t174_31 mo174 K8_135 mj116 rfl rfl rfl rfl (Nat.le_of_ble_eq_true rfl)
theorem t174_34 : decode (mb 174) 34 = .ok (.istore 4, 2) := by decide +kernel
theorem s174_34 (d : Nat) (l0 : Value) (l1 : Value) (l2 : Value) (i3 : Int32) (l4 : Value) (x : Int32) (σ : Hs) : ru d 174 34 [l0, l1, l2, .int i3, l4] [.int x] σ = ru d 174 36 [l0, l1, l2, .int i3, .int x] [] σ := q_istore t174_34 ⟨Nat.le_of_ble_eq_true rfl, rfl⟩ rfl
theorem t174_36 : decode (mb 174) 36 = .ok (.aload_n 0, 1) := by decide +kernel
theorem s174_36 (d : Nat) (a0 : Nat) (l1 : Value) (l2 : Value) (l3 : Value) (l4 : Value) (σ : Hs) : ru d 174 36 [.ref a0, l1, l2, l3, l4] [] σ = ru d 174 37 [.ref a0, l1, l2, l3, l4] [.ref a0] σ := q_aload_n t174_36 rfl
theorem t174_37 : decode (mb 174) 37 = .ok (.invokevirtual 264, 3) := by decide +kernel
theorem s174_37_o87 (d : Nat) (l0 : Value) (l1 : Value) (l2 : Value) (l3 : Value) (l4 : Value) (σ : Hs) : ru d 174 37 [l0, l1, l2, l3, l4] [.ref 87] σ = kont (callD d 169 [.ref 87] σ) d 174 40 [l0, l1, l2, l3, l4] [] := q_invv t174_37 mo174 K8_264 mj169 rfl rfl rfl rfl (Nat.le_of_ble_eq_true rfl)
theorem t174_40 : decode (mb 174) 40 = .ok (.aload_n 0, 1) := by decide +kernel
theorem s174_40 (d : Nat) (a0 : Nat) (l1 : Value) (l2 : Value) (l3 : Value) (l4 : Value) (σ : Hs) : ru d 174 40 [.ref a0, l1, l2, l3, l4] [] σ = ru d 174 41 [.ref a0, l1, l2, l3, l4] [.ref a0] σ := q_aload_n t174_40 rfl
theorem t174_41 : decode (mb 174) 41 = .ok (.getfield 9, 3) := by decide +kernel
theorem s174_41_o87 (d : Nat) (l0 : Value) (l1 : Value) (l2 : Value) (l3 : Value) (l4 : Value) (σ : Hs) : ru d 174 41 [l0, l1, l2, l3, l4] [.ref 87] σ = ru d 174 44 [l0, l1, l2, l3, l4] [.ref 88] σ := q_getf t174_41 mo174 F8_9 rfl rfl
theorem t174_44 : decode (mb 174) 44 = .ok (.iconst 5, 1) := by decide +kernel
theorem s174_44 (d : Nat) (l0 : Value) (l1 : Value) (l2 : Value) (l3 : Value) (l4 : Value) (w0 : Value) (σ : Hs) : ru d 174 44 [l0, l1, l2, l3, l4] [w0] σ = ru d 174 45 [l0, l1, l2, l3, l4] [.int 5, w0] σ := q_iconst t174_44 (by decide +kernel)
theorem t174_45 : decode (mb 174) 45 = .ok (.iload 4, 2) := by decide +kernel
theorem s174_45 (d : Nat) (l0 : Value) (l1 : Value) (l2 : Value) (l3 : Value) (i4 : Int32) (w0 w1 : Value) (σ : Hs) : ru d 174 45 [l0, l1, l2, l3, .int i4] [w0, w1] σ = ru d 174 47 [l0, l1, l2, l3, .int i4] [.int i4, w0, w1] σ := q_iload t174_45 rfl
theorem t174_47 : decode (mb 174) 47 = .ok (.iastore, 1) := by decide +kernel
theorem s174_47_o88 (d : Nat) (l0 : Value) (l1 : Value) (l2 : Value) (l3 : Value) (l4 : Value) (i x : Int32) (σ : Hs) : ru d 174 47 [l0, l1, l2, l3, l4] [.int x, .int i, .ref 88] σ = gd (vp_in i 545) (ru d 174 48 [l0, l1, l2, l3, l4] [] (up2 σ 88 i.toNatClampNeg x)) := q_iast t174_47 (by decide +kernel) rfl rfl
theorem t174_48 : decode (mb 174) 48 = .ok (.iinc 3 1, 3) := by decide +kernel
theorem s174_48 (d : Nat) (l0 : Value) (l1 : Value) (i2 : Int32) (i3 : Int32) (l4 : Value) (σ : Hs) : ru d 174 48 [l0, l1, .int i2, .int i3, l4] [] σ = ru d 174 51 [l0, l1, .int i2, .int (i3 + 1), l4] [] σ := q_iinc t174_48 ⟨Nat.le_of_ble_eq_true rfl, rfl⟩ rfl (by decide +kernel) rfl
theorem t174_51 : decode (mb 174) 51 = .ok (.goto (-33), 3) := by decide +kernel
theorem s174_51 (d : Nat) (l0 : Value) (l1 : Value) (l2 : Value) (l3 : Value) (l4 : Value) (σ : Hs) : ru d 174 51 [l0, l1, l2, l3, l4] [] σ = ru d 174 18 [l0, l1, l2, l3, l4] [] σ := q_goto t174_51 (by decide +kernel)
theorem t174_54 : decode (mb 174) 54 = .ok (.aload_n 0, 1) := by decide +kernel
theorem s174_54 (d : Nat) (a0 : Nat) (l1 : Value) (l2 : Value) (l3 : Value) (l4 : Value) (σ : Hs) : ru d 174 54 [.ref a0, l1, l2, l3, l4] [] σ = ru d 174 55 [.ref a0, l1, l2, l3, l4] [.ref a0] σ := q_aload_n t174_54 rfl
theorem t174_55 : decode (mb 174) 55 = .ok (.getfield 9, 3) := by decide +kernel
theorem s174_55_o87 (d : Nat) (l0 : Value) (l1 : Value) (l2 : Value) (l3 : Value) (l4 : Value) (σ : Hs) : ru d 174 55 [l0, l1, l2, l3, l4] [.ref 87] σ = ru d 174 58 [l0, l1, l2, l3, l4] [.ref 88] σ := q_getf t174_55 mo174 F8_9 rfl rfl
theorem t174_58 : decode (mb 174) 58 = .ok (.iconst 0, 1) := by decide +kernel
theorem s174_58 (d : Nat) (l0 : Value) (l1 : Value) (l2 : Value) (l3 : Value) (l4 : Value) (w0 : Value) (σ : Hs) : ru d 174 58 [l0, l1, l2, l3, l4] [w0] σ = ru d 174 59 [l0, l1, l2, l3, l4] [.int 0, w0] σ := q_iconst t174_58 (by decide +kernel)
theorem t174_59 : decode (mb 174) 59 = .ok (.iaload, 1) := by decide +kernel
theorem s174_59_o88 (d : Nat) (l0 : Value) (l1 : Value) (l2 : Value) (l3 : Value) (l4 : Value) (i : Int32) (σ : Hs) : ru d 174 59 [l0, l1, l2, l3, l4] [.int i, .ref 88] σ = gd (vp_in i 545) (ru d 174 60 [l0, l1, l2, l3, l4] [.int (σ 88 i.toNatClampNeg)] σ) := q_iald t174_59 rfl (by decide +kernel) rfl
theorem t174_60 : decode (mb 174) 60 = .ok (.ireturn, 1) := by decide +kernel
theorem s174_60 (d : Nat) (l0 : Value) (l1 : Value) (l2 : Value) (l3 : Value) (l4 : Value) (x : Int32) (σ : Hs) : ru d 174 60 [l0, l1, l2, l3, l4] [.int x] σ = some (some (.int x), σ) := q_ireti t174_60 mr174
theorem c174 (d : Nat) (x0 : Nat) (x1 : Int32) (σ : Hs) : callD (d + 1) 174 [.ref x0, .int x1] σ = ru d 174 0 [.ref x0, .int x1, uu, uu, uu] [] σ := callD_ru ml174 rfl rfl (Nat.le_of_ble_eq_true rfl)
-- 175: Model.seed(I)I
theorem t175_0 : decode (mb 175) 0 = .ok (.aload_n 0, 1) := by decide +kernel
theorem s175_0 (d : Nat) (a0 : Nat) (l1 : Value) (σ : Hs) : ru d 175 0 [.ref a0, l1] [] σ = ru d 175 1 [.ref a0, l1] [.ref a0] σ := q_aload_n t175_0 rfl
theorem t175_1 : decode (mb 175) 1 = .ok (.iconst 3, 1) := by decide +kernel
theorem s175_1 (d : Nat) (l0 : Value) (l1 : Value) (w0 : Value) (σ : Hs) : ru d 175 1 [l0, l1] [w0] σ = ru d 175 2 [l0, l1] [.int 3, w0] σ := q_iconst t175_1 (by decide +kernel)
theorem t175_2 : decode (mb 175) 2 = .ok (.iload_n 1, 1) := by decide +kernel
theorem s175_2 (d : Nat) (l0 : Value) (i1 : Int32) (w0 w1 : Value) (σ : Hs) : ru d 175 2 [l0, .int i1] [w0, w1] σ = ru d 175 3 [l0, .int i1] [.int i1, w0, w1] σ := q_iload_n t175_2 rfl
theorem t175_3 : decode (mb 175) 3 = .ok (.invokevirtual 135, 3) := by decide +kernel
theorem s175_3_o87 (d : Nat) (l0 : Value) (l1 : Value) (v1 v2 : Value) (σ : Hs) : ru d 175 3 [l0, l1] [v2, v1, .ref 87] σ = kont (callD d 116 [.ref 87, v1, v2] σ) d 175 6 [l0, l1] [] := q_invv t175_3 mo175 K8_135 mj116 rfl rfl rfl rfl (Nat.le_of_ble_eq_true rfl)
theorem t175_6 : decode (mb 175) 6 = .ok (.ireturn, 1) := by decide +kernel
theorem s175_6 (d : Nat) (l0 : Value) (l1 : Value) (x : Int32) (σ : Hs) : ru d 175 6 [l0, l1] [.int x] σ = some (some (.int x), σ) := q_ireti t175_6 mr175
theorem c175 (d : Nat) (x0 : Nat) (x1 : Int32) (σ : Hs) : callD (d + 1) 175 [.ref x0, .int x1] σ = ru d 175 0 [.ref x0, .int x1] [] σ := callD_ru ml175 rfl rfl (Nat.le_of_ble_eq_true rfl)
-- 176: Model.isGarden(I)Z
theorem t176_0 : decode (mb 176) 0 = .ok (.iload_n 0, 1) := by decide +kernel
theorem s176_0 (d : Nat) (i0 : Int32) (σ : Hs) : ru d 176 0 [.int i0] [] σ = ru d 176 1 [.int i0] [.int i0] σ := q_iload_n t176_0 rfl
theorem t176_1 : decode (mb 176) 1 = .ok (.iconst 0, 1) := by decide +kernel
theorem s176_1 (d : Nat) (l0 : Value) (w0 : Value) (σ : Hs) : ru d 176 1 [l0] [w0] σ = ru d 176 2 [l0] [.int 0, w0] σ := q_iconst t176_1 (by decide +kernel)
theorem t176_2 : decode (mb 176) 2 = .ok (.bipush 8, 2) := by decide +kernel
theorem s176_2 (d : Nat) (l0 : Value) (w0 w1 : Value) (σ : Hs) : ru d 176 2 [l0] [w0, w1] σ = ru d 176 4 [l0] [.int 8, w0, w1] σ := q_bipush t176_2 (by decide +kernel)
theorem t176_4 : decode (mb 176) 4 = .ok (.invokestatic 81, 3) := by decide +kernel
theorem s176_4 (d : Nat) (l0 : Value) (v0 v1 v2 : Value) (σ : Hs) : ru d 176 4 [l0] [v2, v1, v0] σ = kont (callD d 112 [v0, v1, v2] σ) d 176 7 [l0] [] := q_invs t176_4 mo176 (by decide +kernel) K8_81 mj112 (Nat.le_of_ble_eq_true rfl) rfl rfl (Nat.le_of_ble_eq_true rfl)
theorem t176_7 : decode (mb 176) 7 = .ok (.ireturn, 1) := by decide +kernel
theorem s176_7 (d : Nat) (l0 : Value) (x : Int32) (hx : isB x) (σ : Hs) : ru d 176 7 [l0] [.int x] σ = some (some (.int x), σ) := q_iretz t176_7 mr176 hx
theorem c176 (d : Nat) (x0 : Int32) (σ : Hs) : callD (d + 1) 176 [.int x0] σ = ru d 176 0 [.int x0] [] σ := callD_ru ml176 rfl rfl (Nat.le_of_ble_eq_true rfl)
-- 177: Model.washing(III)I
theorem t177_0 : decode (mb 177) 0 = .ok (.iload_n 1, 1) := by decide +kernel
theorem s177_0 (d : Nat) (l0 : Value) (i1 : Int32) (l2 : Value) (l3 : Value) (l4 : Value) (l5 : Value) (σ : Hs) : ru d 177 0 [l0, .int i1, l2, l3, l4, l5] [] σ = ru d 177 1 [l0, .int i1, l2, l3, l4, l5] [.int i1] σ := q_iload_n t177_0 rfl
theorem t177_1 : decode (mb 177) 1 = .ok (.invokestatic 278, 3) := by decide +kernel
theorem s177_1 (d : Nat) (l0 : Value) (l1 : Value) (l2 : Value) (l3 : Value) (l4 : Value) (l5 : Value) (v0 : Value) (σ : Hs) : ru d 177 1 [l0, l1, l2, l3, l4, l5] [v0] σ = kont (callD d 176 [v0] σ) d 177 4 [l0, l1, l2, l3, l4, l5] [] := q_invs t177_1 mo177 (by decide +kernel) K8_278 mj176 (Nat.le_of_ble_eq_true rfl) rfl rfl (Nat.le_of_ble_eq_true rfl)
theorem t177_4 : decode (mb 177) 4 = .ok (.ifCond .eq 23, 3) := by decide +kernel
theorem s177_4 (d : Nat) (l0 : Value) (l1 : Value) (l2 : Value) (l3 : Value) (l4 : Value) (l5 : Value) (x : Int32) (σ : Hs) : ru d 177 4 [l0, l1, l2, l3, l4, l5] [.int x] σ = if x = 0 then ru d 177 27 [l0, l1, l2, l3, l4, l5] [] σ else ru d 177 7 [l0, l1, l2, l3, l4, l5] [] σ := q_if_eq t177_4 (by decide +kernel)
theorem t177_7 : decode (mb 177) 7 = .ok (.iload_n 2, 1) := by decide +kernel
theorem s177_7 (d : Nat) (l0 : Value) (l1 : Value) (i2 : Int32) (l3 : Value) (l4 : Value) (l5 : Value) (σ : Hs) : ru d 177 7 [l0, l1, .int i2, l3, l4, l5] [] σ = ru d 177 8 [l0, l1, .int i2, l3, l4, l5] [.int i2] σ := q_iload_n t177_7 rfl
theorem t177_8 : decode (mb 177) 8 = .ok (.iconst 0, 1) := by decide +kernel
theorem s177_8 (d : Nat) (l0 : Value) (l1 : Value) (l2 : Value) (l3 : Value) (l4 : Value) (l5 : Value) (w0 : Value) (σ : Hs) : ru d 177 8 [l0, l1, l2, l3, l4, l5] [w0] σ = ru d 177 9 [l0, l1, l2, l3, l4, l5] [.int 0, w0] σ := q_iconst t177_8 (by decide +kernel)
theorem t177_9 : decode (mb 177) 9 = .ok (.bipush 23, 2) := by decide +kernel
theorem s177_9 (d : Nat) (l0 : Value) (l1 : Value) (l2 : Value) (l3 : Value) (l4 : Value) (l5 : Value) (w0 w1 : Value) (σ : Hs) : ru d 177 9 [l0, l1, l2, l3, l4, l5] [w0, w1] σ = ru d 177 11 [l0, l1, l2, l3, l4, l5] [.int 23, w0, w1] σ := q_bipush t177_9 (by decide +kernel)
theorem t177_11 : decode (mb 177) 11 = .ok (.invokestatic 81, 3) := by decide +kernel
theorem s177_11 (d : Nat) (l0 : Value) (l1 : Value) (l2 : Value) (l3 : Value) (l4 : Value) (l5 : Value) (v0 v1 v2 : Value) (σ : Hs) : ru d 177 11 [l0, l1, l2, l3, l4, l5] [v2, v1, v0] σ = kont (callD d 112 [v0, v1, v2] σ) d 177 14 [l0, l1, l2, l3, l4, l5] [] := q_invs t177_11 mo177 (by decide +kernel) K8_81 mj112 (Nat.le_of_ble_eq_true rfl) rfl rfl (Nat.le_of_ble_eq_true rfl)
theorem t177_14 : decode (mb 177) 14 = .ok (.ifCond .eq 13, 3) := by decide +kernel
theorem s177_14 (d : Nat) (l0 : Value) (l1 : Value) (l2 : Value) (l3 : Value) (l4 : Value) (l5 : Value) (x : Int32) (σ : Hs) : ru d 177 14 [l0, l1, l2, l3, l4, l5] [.int x] σ = if x = 0 then ru d 177 27 [l0, l1, l2, l3, l4, l5] [] σ else ru d 177 17 [l0, l1, l2, l3, l4, l5] [] σ := q_if_eq t177_14 (by decide +kernel)
theorem t177_17 : decode (mb 177) 17 = .ok (.iload_n 3, 1) := by decide +kernel
theorem s177_17 (d : Nat) (l0 : Value) (l1 : Value) (l2 : Value) (i3 : Int32) (l4 : Value) (l5 : Value) (σ : Hs) : ru d 177 17 [l0, l1, l2, .int i3, l4, l5] [] σ = ru d 177 18 [l0, l1, l2, .int i3, l4, l5] [.int i3] σ := q_iload_n t177_17 rfl
theorem t177_18 : decode (mb 177) 18 = .ok (.iconst 0, 1) := by decide +kernel
theorem s177_18 (d : Nat) (l0 : Value) (l1 : Value) (l2 : Value) (l3 : Value) (l4 : Value) (l5 : Value) (w0 : Value) (σ : Hs) : ru d 177 18 [l0, l1, l2, l3, l4, l5] [w0] σ = ru d 177 19 [l0, l1, l2, l3, l4, l5] [.int 0, w0] σ := q_iconst t177_18 (by decide +kernel)
theorem t177_19 : decode (mb 177) 19 = .ok (.bipush 23, 2) := by decide +kernel
theorem s177_19 (d : Nat) (l0 : Value) (l1 : Value) (l2 : Value) (l3 : Value) (l4 : Value) (l5 : Value) (w0 w1 : Value) (σ : Hs) : ru d 177 19 [l0, l1, l2, l3, l4, l5] [w0, w1] σ = ru d 177 21 [l0, l1, l2, l3, l4, l5] [.int 23, w0, w1] σ := q_bipush t177_19 (by decide +kernel)
theorem t177_21 : decode (mb 177) 21 = .ok (.invokestatic 81, 3) := by decide +kernel
theorem s177_21 (d : Nat) (l0 : Value) (l1 : Value) (l2 : Value) (l3 : Value) (l4 : Value) (l5 : Value) (v0 v1 v2 : Value) (σ : Hs) : ru d 177 21 [l0, l1, l2, l3, l4, l5] [v2, v1, v0] σ = kont (callD d 112 [v0, v1, v2] σ) d 177 24 [l0, l1, l2, l3, l4, l5] [] := q_invs t177_21 mo177 (by decide +kernel) K8_81 mj112 (Nat.le_of_ble_eq_true rfl) rfl rfl (Nat.le_of_ble_eq_true rfl)
theorem t177_24 : decode (mb 177) 24 = .ok (.ifCond .ne 10, 3) := by decide +kernel
theorem s177_24 (d : Nat) (l0 : Value) (l1 : Value) (l2 : Value) (l3 : Value) (l4 : Value) (l5 : Value) (x : Int32) (σ : Hs) : ru d 177 24 [l0, l1, l2, l3, l4, l5] [.int x] σ = if x = 0 then ru d 177 27 [l0, l1, l2, l3, l4, l5] [] σ else ru d 177 34 [l0, l1, l2, l3, l4, l5] [] σ := q_if_ne t177_24 (by decide +kernel)
theorem t177_27 : decode (mb 177) 27 = .ok (.aload_n 0, 1) := by decide +kernel
theorem s177_27 (d : Nat) (a0 : Nat) (l1 : Value) (l2 : Value) (l3 : Value) (l4 : Value) (l5 : Value) (σ : Hs) : ru d 177 27 [.ref a0, l1, l2, l3, l4, l5] [] σ = ru d 177 28 [.ref a0, l1, l2, l3, l4, l5] [.ref a0] σ := q_aload_n t177_27 rfl
theorem t177_28 : decode (mb 177) 28 = .ok (.ldc 104, 2) := by decide +kernel
theorem s177_28 (d : Nat) (l0 : Value) (l1 : Value) (l2 : Value) (l3 : Value) (l4 : Value) (l5 : Value) (w0 : Value) (σ : Hs) : ru d 177 28 [l0, l1, l2, l3, l4, l5] [w0] σ = ru d 177 30 [l0, l1, l2, l3, l4, l5] [.int (-1000001), w0] σ := q_ldc t177_28 mo177 C8_104
theorem t177_30 : decode (mb 177) 30 = .ok (.invokevirtual 105, 3) := by decide +kernel
theorem s177_30_o87 (d : Nat) (l0 : Value) (l1 : Value) (l2 : Value) (l3 : Value) (l4 : Value) (l5 : Value) (v1 : Value) (σ : Hs) : ru d 177 30 [l0, l1, l2, l3, l4, l5] [v1, .ref 87] σ = kont (callD d 111 [.ref 87, v1] σ) d 177 33 [l0, l1, l2, l3, l4, l5] [] := q_invv t177_30 mo177 K8_105 mj111 rfl rfl rfl rfl (Nat.le_of_ble_eq_true rfl)
theorem t177_33 : decode (mb 177) 33 = .ok (.ireturn, 1) := by decide +kernel
theorem s177_33 (d : Nat) (l0 : Value) (l1 : Value) (l2 : Value) (l3 : Value) (l4 : Value) (l5 : Value) (x : Int32) (σ : Hs) : ru d 177 33 [l0, l1, l2, l3, l4, l5] [.int x] σ = some (some (.int x), σ) := q_ireti t177_33 mr177
theorem t177_34 : decode (mb 177) 34 = .ok (.iconst 0, 1) := by decide +kernel
theorem s177_34 (d : Nat) (l0 : Value) (l1 : Value) (l2 : Value) (l3 : Value) (l4 : Value) (l5 : Value) (σ : Hs) : ru d 177 34 [l0, l1, l2, l3, l4, l5] [] σ = ru d 177 35 [l0, l1, l2, l3, l4, l5] [.int 0] σ := q_iconst t177_34 (by decide +kernel)
theorem t177_35 : decode (mb 177) 35 = .ok (.istore 4, 2) := by decide +kernel
theorem s177_35 (d : Nat) (l0 : Value) (l1 : Value) (l2 : Value) (i3 : Int32) (l4 : Value) (l5 : Value) (x : Int32) (σ : Hs) : ru d 177 35 [l0, l1, l2, .int i3, l4, l5] [.int x] σ = ru d 177 37 [l0, l1, l2, .int i3, .int x, l5] [] σ := q_istore t177_35 ⟨Nat.le_of_ble_eq_true rfl, rfl⟩ rfl
theorem t177_37 : decode (mb 177) 37 = .ok (.iload_n 2, 1) := by decide +kernel
theorem s177_37 (d : Nat) (l0 : Value) (l1 : Value) (i2 : Int32) (l3 : Value) (l4 : Value) (l5 : Value) (σ : Hs) : ru d 177 37 [l0, l1, .int i2, l3, l4, l5] [] σ = ru d 177 38 [l0, l1, .int i2, l3, l4, l5] [.int i2] σ := q_iload_n t177_37 rfl
theorem t177_38 : decode (mb 177) 38 = .ok (.istore 5, 2) := by decide +kernel
theorem s177_38 (d : Nat) (l0 : Value) (l1 : Value) (l2 : Value) (l3 : Value) (i4 : Int32) (l5 : Value) (x : Int32) (σ : Hs) : ru d 177 38 [l0, l1, l2, l3, .int i4, l5] [.int x] σ = ru d 177 40 [l0, l1, l2, l3, .int i4, .int x] [] σ := q_istore t177_38 ⟨Nat.le_of_ble_eq_true rfl, rfl⟩ rfl
theorem t177_40 : decode (mb 177) 40 = .ok (.iload 5, 2) := by decide +kernel
theorem s177_40 (d : Nat) (l0 : Value) (l1 : Value) (l2 : Value) (l3 : Value) (l4 : Value) (i5 : Int32) (σ : Hs) : ru d 177 40 [l0, l1, l2, l3, l4, .int i5] [] σ = ru d 177 42 [l0, l1, l2, l3, l4, .int i5] [.int i5] σ := q_iload t177_40 rfl
theorem t177_42 : decode (mb 177) 42 = .ok (.iload_n 3, 1) := by decide +kernel
theorem s177_42 (d : Nat) (l0 : Value) (l1 : Value) (l2 : Value) (i3 : Int32) (l4 : Value) (l5 : Value) (w0 : Value) (σ : Hs) : ru d 177 42 [l0, l1, l2, .int i3, l4, l5] [w0] σ = ru d 177 43 [l0, l1, l2, .int i3, l4, l5] [.int i3, w0] σ := q_iload_n t177_42 rfl
theorem t177_43 : decode (mb 177) 43 = .ok (.if_icmp .gt 18, 3) := by decide +kernel
theorem s177_43 (d : Nat) (l0 : Value) (l1 : Value) (l2 : Value) (l3 : Value) (l4 : Value) (l5 : Value) (x y : Int32) (σ : Hs) : ru d 177 43 [l0, l1, l2, l3, l4, l5] [.int y, .int x] σ = if y < x then ru d 177 61 [l0, l1, l2, l3, l4, l5] [] σ else ru d 177 46 [l0, l1, l2, l3, l4, l5] [] σ := q_ic_gt t177_43 (by decide +kernel)
theorem t177_46 : decode (mb 177) 46 = .ok (.iload 4, 2) := by decide +kernel
theorem s177_46 (d : Nat) (l0 : Value) (l1 : Value) (l2 : Value) (l3 : Value) (i4 : Int32) (l5 : Value) (σ : Hs) : ru d 177 46 [l0, l1, l2, l3, .int i4, l5] [] σ = ru d 177 48 [l0, l1, l2, l3, .int i4, l5] [.int i4] σ := q_iload t177_46 rfl
theorem t177_48 : decode (mb 177) 48 = .ok (.iconst 1, 1) := by decide +kernel
theorem s177_48 (d : Nat) (l0 : Value) (l1 : Value) (l2 : Value) (l3 : Value) (l4 : Value) (l5 : Value) (w0 : Value) (σ : Hs) : ru d 177 48 [l0, l1, l2, l3, l4, l5] [w0] σ = ru d 177 49 [l0, l1, l2, l3, l4, l5] [.int 1, w0] σ := q_iconst t177_48 (by decide +kernel)
theorem t177_49 : decode (mb 177) 49 = .ok (.iload 5, 2) := by decide +kernel
theorem s177_49 (d : Nat) (l0 : Value) (l1 : Value) (l2 : Value) (l3 : Value) (l4 : Value) (i5 : Int32) (w0 w1 : Value) (σ : Hs) : ru d 177 49 [l0, l1, l2, l3, l4, .int i5] [w0, w1] σ = ru d 177 51 [l0, l1, l2, l3, l4, .int i5] [.int i5, w0, w1] σ := q_iload t177_49 rfl
theorem t177_51 : decode (mb 177) 51 = .ok (.ishl, 1) := by decide +kernel
theorem s177_51 (d : Nat) (l0 : Value) (l1 : Value) (l2 : Value) (l3 : Value) (l4 : Value) (l5 : Value) (x y : Int32) (w0 : Value) (σ : Hs) : ru d 177 51 [l0, l1, l2, l3, l4, l5] [.int y, .int x, w0] σ = ru d 177 52 [l0, l1, l2, l3, l4, l5] [.int (x <<< (y &&& 31)), w0] σ := q_ishl t177_51
theorem t177_52 : decode (mb 177) 52 = .ok (.ior, 1) := by decide +kernel
theorem s177_52 (d : Nat) (l0 : Value) (l1 : Value) (l2 : Value) (l3 : Value) (l4 : Value) (l5 : Value) (x y : Int32) (σ : Hs) : ru d 177 52 [l0, l1, l2, l3, l4, l5] [.int y, .int x] σ = ru d 177 53 [l0, l1, l2, l3, l4, l5] [.int (x ||| y)] σ := q_ior t177_52
theorem t177_53 : decode (mb 177) 53 = .ok (.istore 4, 2) := by decide +kernel
theorem s177_53 (d : Nat) (l0 : Value) (l1 : Value) (l2 : Value) (i3 : Int32) (l4 : Value) (l5 : Value) (x : Int32) (σ : Hs) : ru d 177 53 [l0, l1, l2, .int i3, l4, l5] [.int x] σ = ru d 177 55 [l0, l1, l2, .int i3, .int x, l5] [] σ := q_istore t177_53 ⟨Nat.le_of_ble_eq_true rfl, rfl⟩ rfl
theorem t177_55 : decode (mb 177) 55 = .ok (.iinc 5 1, 3) := by decide +kernel
theorem s177_55 (d : Nat) (l0 : Value) (l1 : Value) (l2 : Value) (l3 : Value) (i4 : Int32) (i5 : Int32) (σ : Hs) : ru d 177 55 [l0, l1, l2, l3, .int i4, .int i5] [] σ = ru d 177 58 [l0, l1, l2, l3, .int i4, .int (i5 + 1)] [] σ := q_iinc t177_55 ⟨Nat.le_of_ble_eq_true rfl, rfl⟩ rfl (by decide +kernel) rfl
theorem t177_58 : decode (mb 177) 58 = .ok (.goto (-18), 3) := by decide +kernel
theorem s177_58 (d : Nat) (l0 : Value) (l1 : Value) (l2 : Value) (l3 : Value) (l4 : Value) (l5 : Value) (σ : Hs) : ru d 177 58 [l0, l1, l2, l3, l4, l5] [] σ = ru d 177 40 [l0, l1, l2, l3, l4, l5] [] σ := q_goto t177_58 (by decide +kernel)
theorem t177_61 : decode (mb 177) 61 = .ok (.aload_n 0, 1) := by decide +kernel
theorem s177_61 (d : Nat) (a0 : Nat) (l1 : Value) (l2 : Value) (l3 : Value) (l4 : Value) (l5 : Value) (σ : Hs) : ru d 177 61 [.ref a0, l1, l2, l3, l4, l5] [] σ = ru d 177 62 [.ref a0, l1, l2, l3, l4, l5] [.ref a0] σ := q_aload_n t177_61 rfl
theorem t177_62 : decode (mb 177) 62 = .ok (.getfield 9, 3) := by decide +kernel
theorem s177_62_o87 (d : Nat) (l0 : Value) (l1 : Value) (l2 : Value) (l3 : Value) (l4 : Value) (l5 : Value) (σ : Hs) : ru d 177 62 [l0, l1, l2, l3, l4, l5] [.ref 87] σ = ru d 177 65 [l0, l1, l2, l3, l4, l5] [.ref 88] σ := q_getf t177_62 mo177 F8_9 rfl rfl
theorem t177_65 : decode (mb 177) 65 = .ok (.sipush 224, 3) := by decide +kernel
theorem s177_65 (d : Nat) (l0 : Value) (l1 : Value) (l2 : Value) (l3 : Value) (l4 : Value) (l5 : Value) (w0 : Value) (σ : Hs) : ru d 177 65 [l0, l1, l2, l3, l4, l5] [w0] σ = ru d 177 68 [l0, l1, l2, l3, l4, l5] [.int 224, w0] σ := q_sipush t177_65 (by decide +kernel)
theorem t177_68 : decode (mb 177) 68 = .ok (.iconst 3, 1) := by decide +kernel
theorem s177_68 (d : Nat) (l0 : Value) (l1 : Value) (l2 : Value) (l3 : Value) (l4 : Value) (l5 : Value) (w0 w1 : Value) (σ : Hs) : ru d 177 68 [l0, l1, l2, l3, l4, l5] [w0, w1] σ = ru d 177 69 [l0, l1, l2, l3, l4, l5] [.int 3, w0, w1] σ := q_iconst t177_68 (by decide +kernel)
theorem t177_69 : decode (mb 177) 69 = .ok (.iload_n 1, 1) := by decide +kernel
theorem s177_69 (d : Nat) (l0 : Value) (i1 : Int32) (l2 : Value) (l3 : Value) (l4 : Value) (l5 : Value) (w0 w1 w2 : Value) (σ : Hs) : ru d 177 69 [l0, .int i1, l2, l3, l4, l5] [w0, w1, w2] σ = ru d 177 70 [l0, .int i1, l2, l3, l4, l5] [.int i1, w0, w1, w2] σ := q_iload_n t177_69 rfl
theorem t177_70 : decode (mb 177) 70 = .ok (.imul, 1) := by decide +kernel
theorem s177_70 (d : Nat) (l0 : Value) (l1 : Value) (l2 : Value) (l3 : Value) (l4 : Value) (l5 : Value) (x y : Int32) (w0 w1 : Value) (σ : Hs) : ru d 177 70 [l0, l1, l2, l3, l4, l5] [.int y, .int x, w0, w1] σ = ru d 177 71 [l0, l1, l2, l3, l4, l5] [.int (x * y), w0, w1] σ := q_imul t177_70
theorem t177_71 : decode (mb 177) 71 = .ok (.iadd, 1) := by decide +kernel
theorem s177_71 (d : Nat) (l0 : Value) (l1 : Value) (l2 : Value) (l3 : Value) (l4 : Value) (l5 : Value) (x y : Int32) (w0 : Value) (σ : Hs) : ru d 177 71 [l0, l1, l2, l3, l4, l5] [.int y, .int x, w0] σ = ru d 177 72 [l0, l1, l2, l3, l4, l5] [.int (x + y), w0] σ := q_iadd t177_71
theorem t177_72 : decode (mb 177) 72 = .ok (.iconst 2, 1) := by decide +kernel
theorem s177_72 (d : Nat) (l0 : Value) (l1 : Value) (l2 : Value) (l3 : Value) (l4 : Value) (l5 : Value) (w0 w1 : Value) (σ : Hs) : ru d 177 72 [l0, l1, l2, l3, l4, l5] [w0, w1] σ = ru d 177 73 [l0, l1, l2, l3, l4, l5] [.int 2, w0, w1] σ := q_iconst t177_72 (by decide +kernel)
theorem t177_73 : decode (mb 177) 73 = .ok (.iadd, 1) := by decide +kernel
theorem s177_73 (d : Nat) (l0 : Value) (l1 : Value) (l2 : Value) (l3 : Value) (l4 : Value) (l5 : Value) (x y : Int32) (w0 : Value) (σ : Hs) : ru d 177 73 [l0, l1, l2, l3, l4, l5] [.int y, .int x, w0] σ = ru d 177 74 [l0, l1, l2, l3, l4, l5] [.int (x + y), w0] σ := q_iadd t177_73
theorem t177_74 : decode (mb 177) 74 = .ok (.iload 4, 2) := by decide +kernel
theorem s177_74 (d : Nat) (l0 : Value) (l1 : Value) (l2 : Value) (l3 : Value) (i4 : Int32) (l5 : Value) (w0 w1 : Value) (σ : Hs) : ru d 177 74 [l0, l1, l2, l3, .int i4, l5] [w0, w1] σ = ru d 177 76 [l0, l1, l2, l3, .int i4, l5] [.int i4, w0, w1] σ := q_iload t177_74 rfl
theorem t177_76 : decode (mb 177) 76 = .ok (.iastore, 1) := by decide +kernel
theorem s177_76_o88 (d : Nat) (l0 : Value) (l1 : Value) (l2 : Value) (l3 : Value) (l4 : Value) (l5 : Value) (i x : Int32) (σ : Hs) : ru d 177 76 [l0, l1, l2, l3, l4, l5] [.int x, .int i, .ref 88] σ = gd (vp_in i 545) (ru d 177 77 [l0, l1, l2, l3, l4, l5] [] (up2 σ 88 i.toNatClampNeg x)) := q_iast t177_76 (by decide +kernel) rfl rfl
theorem t177_77 : decode (mb 177) 77 = .ok (.iconst 0, 1) := by decide +kernel
theorem s177_77 (d : Nat) (l0 : Value) (l1 : Value) (l2 : Value) (l3 : Value) (l4 : Value) (l5 : Value) (σ : Hs) : ru d 177 77 [l0, l1, l2, l3, l4, l5] [] σ = ru d 177 78 [l0, l1, l2, l3, l4, l5] [.int 0] σ := q_iconst t177_77 (by decide +kernel)
theorem t177_78 : decode (mb 177) 78 = .ok (.iload_n 3, 1) := by decide +kernel
theorem s177_78 (d : Nat) (l0 : Value) (l1 : Value) (l2 : Value) (i3 : Int32) (l4 : Value) (l5 : Value) (w0 : Value) (σ : Hs) : ru d 177 78 [l0, l1, l2, .int i3, l4, l5] [w0] σ = ru d 177 79 [l0, l1, l2, .int i3, l4, l5] [.int i3, w0] σ := q_iload_n t177_78 rfl
theorem t177_79 : decode (mb 177) 79 = .ok (.iload_n 2, 1) := by decide +kernel
theorem s177_79 (d : Nat) (l0 : Value) (l1 : Value) (i2 : Int32) (l3 : Value) (l4 : Value) (l5 : Value) (w0 w1 : Value) (σ : Hs) : ru d 177 79 [l0, l1, .int i2, l3, l4, l5] [w0, w1] σ = ru d 177 80 [l0, l1, .int i2, l3, l4, l5] [.int i2, w0, w1] σ := q_iload_n t177_79 rfl
theorem t177_80 : decode (mb 177) 80 = .ok (.isub, 1) := by decide +kernel
theorem s177_80 (d : Nat) (l0 : Value) (l1 : Value) (l2 : Value) (l3 : Value) (l4 : Value) (l5 : Value) (x y : Int32) (w0 : Value) (σ : Hs) : ru d 177 80 [l0, l1, l2, l3, l4, l5] [.int y, .int x, w0] σ = ru d 177 81 [l0, l1, l2, l3, l4, l5] [.int (x - y), w0] σ := q_isub t177_80
theorem t177_81 : decode (mb 177) 81 = .ok (.iconst 1, 1) := by decide +kernel
theorem s177_81 (d : Nat) (l0 : Value) (l1 : Value) (l2 : Value) (l3 : Value) (l4 : Value) (l5 : Value) (w0 w1 : Value) (σ : Hs) : ru d 177 81 [l0, l1, l2, l3, l4, l5] [w0, w1] σ = ru d 177 82 [l0, l1, l2, l3, l4, l5] [.int 1, w0, w1] σ := q_iconst t177_81 (by decide +kernel)
theorem t177_82 : decode (mb 177) 82 = .ok (.iadd, 1) := by decide +kernel
theorem s177_82 (d : Nat) (l0 : Value) (l1 : Value) (l2 : Value) (l3 : Value) (l4 : Value) (l5 : Value) (x y : Int32) (w0 : Value) (σ : Hs) : ru d 177 82 [l0, l1, l2, l3, l4, l5] [.int y, .int x, w0] σ = ru d 177 83 [l0, l1, l2, l3, l4, l5] [.int (x + y), w0] σ := q_iadd t177_82
theorem t177_83 : decode (mb 177) 83 = .ok (.invokestatic 74, 3) := by decide +kernel
theorem s177_83 (d : Nat) (l0 : Value) (l1 : Value) (l2 : Value) (l3 : Value) (l4 : Value) (l5 : Value) (x y : Int32) (σ : Hs) : ru d 177 83 [l0, l1, l2, l3, l4, l5] [.int y, .int x] σ = ru d 177 86 [l0, l1, l2, l3, l4, l5] [.int (jmax x y)] σ := q_mx t177_83 mo177 (by decide +kernel) (by decide +kernel) (Nat.le_of_ble_eq_true rfl)
theorem t177_86 : decode (mb 177) 86 = .ok (.ireturn, 1) := by decide +kernel
theorem s177_86 (d : Nat) (l0 : Value) (l1 : Value) (l2 : Value) (l3 : Value) (l4 : Value) (l5 : Value) (x : Int32) (σ : Hs) : ru d 177 86 [l0, l1, l2, l3, l4, l5] [.int x] σ = some (some (.int x), σ) := q_ireti t177_86 mr177
theorem c177 (d : Nat) (x0 : Nat) (x1 : Int32) (x2 : Int32) (x3 : Int32) (σ : Hs) : callD (d + 1) 177 [.ref x0, .int x1, .int x2, .int x3] σ = ru d 177 0 [.ref x0, .int x1, .int x2, .int x3, uu, uu] [] σ := callD_ru ml177 rfl rfl (Nat.le_of_ble_eq_true rfl)
-- 178: Model.garden(II)I
theorem t178_0 : decode (mb 178) 0 = .ok (.iload_n 1, 1) := by decide +kernel
theorem s178_0 (d : Nat) (l0 : Value) (i1 : Int32) (l2 : Value) (σ : Hs) : ru d 178 0 [l0, .int i1, l2] [] σ = ru d 178 1 [l0, .int i1, l2] [.int i1] σ := q_iload_n t178_0 rfl
theorem t178_1 : decode (mb 178) 1 = .ok (.invokestatic 278, 3) := by decide +kernel
theorem s178_1 (d : Nat) (l0 : Value) (l1 : Value) (l2 : Value) (v0 : Value) (σ : Hs) : ru d 178 1 [l0, l1, l2] [v0] σ = kont (callD d 176 [v0] σ) d 178 4 [l0, l1, l2] [] := q_invs t178_1 mo178 (by decide +kernel) K8_278 mj176 (Nat.le_of_ble_eq_true rfl) rfl rfl (Nat.le_of_ble_eq_true rfl)
theorem t178_4 : decode (mb 178) 4 = .ok (.ifCond .eq 29, 3) := by decide +kernel
theorem s178_4 (d : Nat) (l0 : Value) (l1 : Value) (l2 : Value) (x : Int32) (σ : Hs) : ru d 178 4 [l0, l1, l2] [.int x] σ = if x = 0 then ru d 178 33 [l0, l1, l2] [] σ else ru d 178 7 [l0, l1, l2] [] σ := q_if_eq t178_4 (by decide +kernel)
theorem t178_7 : decode (mb 178) 7 = .ok (.iload_n 2, 1) := by decide +kernel
theorem s178_7 (d : Nat) (l0 : Value) (l1 : Value) (i2 : Int32) (σ : Hs) : ru d 178 7 [l0, l1, .int i2] [] σ = ru d 178 8 [l0, l1, .int i2] [.int i2] σ := q_iload_n t178_7 rfl
theorem t178_8 : decode (mb 178) 8 = .ok (.iconst 0, 1) := by decide +kernel
theorem s178_8 (d : Nat) (l0 : Value) (l1 : Value) (l2 : Value) (w0 : Value) (σ : Hs) : ru d 178 8 [l0, l1, l2] [w0] σ = ru d 178 9 [l0, l1, l2] [.int 0, w0] σ := q_iconst t178_8 (by decide +kernel)
theorem t178_9 : decode (mb 178) 9 = .ok (.iconst 2, 1) := by decide +kernel
theorem s178_9 (d : Nat) (l0 : Value) (l1 : Value) (l2 : Value) (w0 w1 : Value) (σ : Hs) : ru d 178 9 [l0, l1, l2] [w0, w1] σ = ru d 178 10 [l0, l1, l2] [.int 2, w0, w1] σ := q_iconst t178_9 (by decide +kernel)
theorem t178_10 : decode (mb 178) 10 = .ok (.invokestatic 81, 3) := by decide +kernel
theorem s178_10 (d : Nat) (l0 : Value) (l1 : Value) (l2 : Value) (v0 v1 v2 : Value) (σ : Hs) : ru d 178 10 [l0, l1, l2] [v2, v1, v0] σ = kont (callD d 112 [v0, v1, v2] σ) d 178 13 [l0, l1, l2] [] := q_invs t178_10 mo178 (by decide +kernel) K8_81 mj112 (Nat.le_of_ble_eq_true rfl) rfl rfl (Nat.le_of_ble_eq_true rfl)
theorem t178_13 : decode (mb 178) 13 = .ok (.ifCond .eq 20, 3) := by decide +kernel
theorem s178_13 (d : Nat) (l0 : Value) (l1 : Value) (l2 : Value) (x : Int32) (σ : Hs) : ru d 178 13 [l0, l1, l2] [.int x] σ = if x = 0 then ru d 178 33 [l0, l1, l2] [] σ else ru d 178 16 [l0, l1, l2] [] σ := q_if_eq t178_13 (by decide +kernel)
theorem t178_16 : decode (mb 178) 16 = .ok (.aload_n 0, 1) := by decide +kernel
theorem s178_16 (d : Nat) (a0 : Nat) (l1 : Value) (l2 : Value) (σ : Hs) : ru d 178 16 [.ref a0, l1, l2] [] σ = ru d 178 17 [.ref a0, l1, l2] [.ref a0] σ := q_aload_n t178_16 rfl
theorem t178_17 : decode (mb 178) 17 = .ok (.getfield 9, 3) := by decide +kernel
theorem s178_17_o87 (d : Nat) (l0 : Value) (l1 : Value) (l2 : Value) (σ : Hs) : ru d 178 17 [l0, l1, l2] [.ref 87] σ = ru d 178 20 [l0, l1, l2] [.ref 88] σ := q_getf t178_17 mo178 F8_9 rfl rfl
theorem t178_20 : decode (mb 178) 20 = .ok (.sipush 224, 3) := by decide +kernel
theorem s178_20 (d : Nat) (l0 : Value) (l1 : Value) (l2 : Value) (w0 : Value) (σ : Hs) : ru d 178 20 [l0, l1, l2] [w0] σ = ru d 178 23 [l0, l1, l2] [.int 224, w0] σ := q_sipush t178_20 (by decide +kernel)
theorem t178_23 : decode (mb 178) 23 = .ok (.iconst 3, 1) := by decide +kernel
theorem s178_23 (d : Nat) (l0 : Value) (l1 : Value) (l2 : Value) (w0 w1 : Value) (σ : Hs) : ru d 178 23 [l0, l1, l2] [w0, w1] σ = ru d 178 24 [l0, l1, l2] [.int 3, w0, w1] σ := q_iconst t178_23 (by decide +kernel)
theorem t178_24 : decode (mb 178) 24 = .ok (.iload_n 1, 1) := by decide +kernel
theorem s178_24 (d : Nat) (l0 : Value) (i1 : Int32) (l2 : Value) (w0 w1 w2 : Value) (σ : Hs) : ru d 178 24 [l0, .int i1, l2] [w0, w1, w2] σ = ru d 178 25 [l0, .int i1, l2] [.int i1, w0, w1, w2] σ := q_iload_n t178_24 rfl
theorem t178_25 : decode (mb 178) 25 = .ok (.imul, 1) := by decide +kernel
theorem s178_25 (d : Nat) (l0 : Value) (l1 : Value) (l2 : Value) (x y : Int32) (w0 w1 : Value) (σ : Hs) : ru d 178 25 [l0, l1, l2] [.int y, .int x, w0, w1] σ = ru d 178 26 [l0, l1, l2] [.int (x * y), w0, w1] σ := q_imul t178_25
theorem t178_26 : decode (mb 178) 26 = .ok (.iadd, 1) := by decide +kernel
theorem s178_26 (d : Nat) (l0 : Value) (l1 : Value) (l2 : Value) (x y : Int32) (w0 : Value) (σ : Hs) : ru d 178 26 [l0, l1, l2] [.int y, .int x, w0] σ = ru d 178 27 [l0, l1, l2] [.int (x + y), w0] σ := q_iadd t178_26
theorem t178_27 : decode (mb 178) 27 = .ok (.iload_n 2, 1) := by decide +kernel
theorem s178_27 (d : Nat) (l0 : Value) (l1 : Value) (i2 : Int32) (w0 w1 : Value) (σ : Hs) : ru d 178 27 [l0, l1, .int i2] [w0, w1] σ = ru d 178 28 [l0, l1, .int i2] [.int i2, w0, w1] σ := q_iload_n t178_27 rfl
theorem t178_28 : decode (mb 178) 28 = .ok (.iadd, 1) := by decide +kernel
theorem s178_28 (d : Nat) (l0 : Value) (l1 : Value) (l2 : Value) (x y : Int32) (w0 : Value) (σ : Hs) : ru d 178 28 [l0, l1, l2] [.int y, .int x, w0] σ = ru d 178 29 [l0, l1, l2] [.int (x + y), w0] σ := q_iadd t178_28
theorem t178_29 : decode (mb 178) 29 = .ok (.iaload, 1) := by decide +kernel
theorem s178_29_o88 (d : Nat) (l0 : Value) (l1 : Value) (l2 : Value) (i : Int32) (σ : Hs) : ru d 178 29 [l0, l1, l2] [.int i, .ref 88] σ = gd (vp_in i 545) (ru d 178 30 [l0, l1, l2] [.int (σ 88 i.toNatClampNeg)] σ) := q_iald t178_29 rfl (by decide +kernel) rfl
theorem t178_30 : decode (mb 178) 30 = .ok (.goto 9, 3) := by decide +kernel
theorem s178_30 (d : Nat) (l0 : Value) (l1 : Value) (l2 : Value) (w0 : Value) (σ : Hs) : ru d 178 30 [l0, l1, l2] [w0] σ = ru d 178 39 [l0, l1, l2] [w0] σ := q_goto t178_30 (by decide +kernel)
theorem t178_33 : decode (mb 178) 33 = .ok (.aload_n 0, 1) := by decide +kernel
theorem s178_33 (d : Nat) (a0 : Nat) (l1 : Value) (l2 : Value) (σ : Hs) : ru d 178 33 [.ref a0, l1, l2] [] σ = ru d 178 34 [.ref a0, l1, l2] [.ref a0] σ := q_aload_n t178_33 rfl
theorem t178_34 : decode (mb 178) 34 = .ok (.ldc 104, 2) := by decide +kernel
theorem s178_34 (d : Nat) (l0 : Value) (l1 : Value) (l2 : Value) (w0 : Value) (σ : Hs) : ru d 178 34 [l0, l1, l2] [w0] σ = ru d 178 36 [l0, l1, l2] [.int (-1000001), w0] σ := q_ldc t178_34 mo178 C8_104
theorem t178_36 : decode (mb 178) 36 = .ok (.invokevirtual 105, 3) := by decide +kernel
theorem s178_36_o87 (d : Nat) (l0 : Value) (l1 : Value) (l2 : Value) (v1 : Value) (σ : Hs) : ru d 178 36 [l0, l1, l2] [v1, .ref 87] σ = kont (callD d 111 [.ref 87, v1] σ) d 178 39 [l0, l1, l2] [] := q_invv t178_36 mo178 K8_105 mj111 rfl rfl rfl rfl (Nat.le_of_ble_eq_true rfl)
theorem t178_39 : decode (mb 178) 39 = .ok (.ireturn, 1) := by decide +kernel
theorem s178_39 (d : Nat) (l0 : Value) (l1 : Value) (l2 : Value) (x : Int32) (σ : Hs) : ru d 178 39 [l0, l1, l2] [.int x] σ = some (some (.int x), σ) := q_ireti t178_39 mr178
theorem c178 (d : Nat) (x0 : Nat) (x1 : Int32) (x2 : Int32) (σ : Hs) : callD (d + 1) 178 [.ref x0, .int x1, .int x2] σ = ru d 178 0 [.ref x0, .int x1, .int x2] [] σ := callD_ru ml178 rfl rfl (Nat.le_of_ble_eq_true rfl)
-- 179: Model.ofHeap(I)I
theorem t179_0 : decode (mb 179) 0 = .ok (.iconst 0, 1) := by decide +kernel
theorem s179_0 (d : Nat) (l0 : Value) (l1 : Value) (l2 : Value) (l3 : Value) (σ : Hs) : ru d 179 0 [l0, l1, l2, l3] [] σ = ru d 179 1 [l0, l1, l2, l3] [.int 0] σ := q_iconst t179_0 (by decide +kernel)
theorem t179_1 : decode (mb 179) 1 = .ok (.istore_n 2, 1) := by decide +kernel
theorem s179_1 (d : Nat) (l0 : Value) (i1 : Int32) (l2 : Value) (l3 : Value) (x : Int32) (σ : Hs) : ru d 179 1 [l0, .int i1, l2, l3] [.int x] σ = ru d 179 2 [l0, .int i1, .int x, l3] [] σ := q_istore_n t179_1 ⟨Nat.le_of_ble_eq_true rfl, rfl⟩ rfl
theorem t179_2 : decode (mb 179) 2 = .ok (.iload_n 1, 1) := by decide +kernel
theorem s179_2 (d : Nat) (l0 : Value) (i1 : Int32) (l2 : Value) (l3 : Value) (σ : Hs) : ru d 179 2 [l0, .int i1, l2, l3] [] σ = ru d 179 3 [l0, .int i1, l2, l3] [.int i1] σ := q_iload_n t179_2 rfl
theorem t179_3 : decode (mb 179) 3 = .ok (.tableswitch 96 0 7 #[45, 51, 58, 96, 96, 96, 64, 90], 45) := by decide +kernel
theorem f179_3 (x : Int32) : (tsw 0 7 #[45, 51, 58, 96, 96, 96, 64, 90] 96 x.toInt).bind (tgt 3) = some (if x = 0 then 48 else (if x = 1 then 54 else (if x = 2 then 61 else (if x = 3 then 99 else (if x = 4 then 99 else (if x = 5 then 99 else (if x = 6 then 67 else (if x = 7 then 93 else 99)))))))) := by
  by_cases h0 : x = 0
  · subst h0; decide +kernel
  by_cases h1 : x = 1
  · subst h1; decide +kernel
  by_cases h2 : x = 2
  · subst h2; decide +kernel
  by_cases h3 : x = 3
  · subst h3; decide +kernel
  by_cases h4 : x = 4
  · subst h4; decide +kernel
  by_cases h5 : x = 5
  · subst h5; decide +kernel
  by_cases h6 : x = 6
  · subst h6; decide +kernel
  by_cases h7 : x = 7
  · subst h7; decide +kernel
  have e0 : ¬ x.toInt = 0 := fun h => h0 (Int32.toInt_inj.mp (h.trans (by decide +kernel)))
  have e1 : ¬ x.toInt = 1 := fun h => h1 (Int32.toInt_inj.mp (h.trans (by decide +kernel)))
  have e2 : ¬ x.toInt = 2 := fun h => h2 (Int32.toInt_inj.mp (h.trans (by decide +kernel)))
  have e3 : ¬ x.toInt = 3 := fun h => h3 (Int32.toInt_inj.mp (h.trans (by decide +kernel)))
  have e4 : ¬ x.toInt = 4 := fun h => h4 (Int32.toInt_inj.mp (h.trans (by decide +kernel)))
  have e5 : ¬ x.toInt = 5 := fun h => h5 (Int32.toInt_inj.mp (h.trans (by decide +kernel)))
  have e6 : ¬ x.toInt = 6 := fun h => h6 (Int32.toInt_inj.mp (h.trans (by decide +kernel)))
  have e7 : ¬ x.toInt = 7 := fun h => h7 (Int32.toInt_inj.mp (h.trans (by decide +kernel)))
  have e : x.toInt < 0 ∨ 7 < x.toInt := by omega
  unfold tsw
  rw [if_pos e, if_neg h0, if_neg h1, if_neg h2, if_neg h3, if_neg h4, if_neg h5, if_neg h6, if_neg h7]
  decide +kernel
theorem s179_3 (d : Nat) (l0 : Value) (l1 : Value) (l2 : Value) (l3 : Value) (x : Int32) (σ : Hs) : ru d 179 3 [l0, l1, l2, l3] [.int x] σ = if x = 0 then ru d 179 48 [l0, l1, l2, l3] [] σ else if x = 1 then ru d 179 54 [l0, l1, l2, l3] [] σ else if x = 2 then ru d 179 61 [l0, l1, l2, l3] [] σ else if x = 3 then ru d 179 99 [l0, l1, l2, l3] [] σ else if x = 4 then ru d 179 99 [l0, l1, l2, l3] [] σ else if x = 5 then ru d 179 99 [l0, l1, l2, l3] [] σ else if x = 6 then ru d 179 67 [l0, l1, l2, l3] [] σ else if x = 7 then ru d 179 93 [l0, l1, l2, l3] [] σ else ru d 179 99 [l0, l1, l2, l3] [] σ := by
  refine (q_tsw t179_3 (fun x => (if x = 0 then 48 else (if x = 1 then 54 else (if x = 2 then 61 else (if x = 3 then 99 else (if x = 4 then 99 else (if x = 5 then 99 else (if x = 6 then 67 else (if x = 7 then 93 else 99))))))))) (f179_3 x)).trans ?_
  by_cases h0 : x = 0
  · rw [if_pos h0, if_pos h0]
  rw [if_neg h0, if_neg h0]
  by_cases h1 : x = 1
  · rw [if_pos h1, if_pos h1]
  rw [if_neg h1, if_neg h1]
  by_cases h2 : x = 2
  · rw [if_pos h2, if_pos h2]
  rw [if_neg h2, if_neg h2]
  by_cases h3 : x = 3
  · rw [if_pos h3, if_pos h3]
  rw [if_neg h3, if_neg h3]
  by_cases h4 : x = 4
  · rw [if_pos h4, if_pos h4]
  rw [if_neg h4, if_neg h4]
  by_cases h5 : x = 5
  · rw [if_pos h5, if_pos h5]
  rw [if_neg h5, if_neg h5]
  by_cases h6 : x = 6
  · rw [if_pos h6, if_pos h6]
  rw [if_neg h6, if_neg h6]
  by_cases h7 : x = 7
  · rw [if_pos h7, if_pos h7]
  rw [if_neg h7, if_neg h7]
theorem t179_48 : decode (mb 179) 48 = .ok (.aload_n 0, 1) := by decide +kernel
theorem s179_48 (d : Nat) (a0 : Nat) (l1 : Value) (l2 : Value) (l3 : Value) (σ : Hs) : ru d 179 48 [.ref a0, l1, l2, l3] [] σ = ru d 179 49 [.ref a0, l1, l2, l3] [.ref a0] σ := q_aload_n t179_48 rfl
theorem t179_49 : decode (mb 179) 49 = .ok (.iconst 2, 1) := by decide +kernel
theorem s179_49 (d : Nat) (l0 : Value) (l1 : Value) (l2 : Value) (l3 : Value) (w0 : Value) (σ : Hs) : ru d 179 49 [l0, l1, l2, l3] [w0] σ = ru d 179 50 [l0, l1, l2, l3] [.int 2, w0] σ := q_iconst t179_49 (by decide +kernel)
theorem t179_50 : decode (mb 179) 50 = .ok (.invokevirtual 221, 3) := by decide +kernel
theorem s179_50_o87 (d : Nat) (l0 : Value) (l1 : Value) (l2 : Value) (l3 : Value) (v1 : Value) (σ : Hs) : ru d 179 50 [l0, l1, l2, l3] [v1, .ref 87] σ = kont (callD d 159 [.ref 87, v1] σ) d 179 53 [l0, l1, l2, l3] [] := q_invv t179_50 mo179 K8_221 mj159 rfl rfl rfl rfl (Nat.le_of_ble_eq_true rfl)
theorem t179_53 : decode (mb 179) 53 = .ok (.ireturn, 1) := by decide +kernel
theorem s179_53 (d : Nat) (l0 : Value) (l1 : Value) (l2 : Value) (l3 : Value) (x : Int32) (σ : Hs) : ru d 179 53 [l0, l1, l2, l3] [.int x] σ = some (some (.int x), σ) := q_ireti t179_53 mr179
theorem t179_54 : decode (mb 179) 54 = .ok (.aload_n 0, 1) := by decide +kernel
theorem s179_54 (d : Nat) (a0 : Nat) (l1 : Value) (l2 : Value) (l3 : Value) (σ : Hs) : ru d 179 54 [.ref a0, l1, l2, l3] [] σ = ru d 179 55 [.ref a0, l1, l2, l3] [.ref a0] σ := q_aload_n t179_54 rfl
theorem t179_55 : decode (mb 179) 55 = .ok (.bipush 6, 2) := by decide +kernel
theorem s179_55 (d : Nat) (l0 : Value) (l1 : Value) (l2 : Value) (l3 : Value) (w0 : Value) (σ : Hs) : ru d 179 55 [l0, l1, l2, l3] [w0] σ = ru d 179 57 [l0, l1, l2, l3] [.int 6, w0] σ := q_bipush t179_55 (by decide +kernel)
theorem t179_57 : decode (mb 179) 57 = .ok (.invokevirtual 221, 3) := by decide +kernel
theorem s179_57_o87 (d : Nat) (l0 : Value) (l1 : Value) (l2 : Value) (l3 : Value) (v1 : Value) (σ : Hs) : ru d 179 57 [l0, l1, l2, l3] [v1, .ref 87] σ = kont (callD d 159 [.ref 87, v1] σ) d 179 60 [l0, l1, l2, l3] [] := q_invv t179_57 mo179 K8_221 mj159 rfl rfl rfl rfl (Nat.le_of_ble_eq_true rfl)
theorem t179_60 : decode (mb 179) 60 = .ok (.ireturn, 1) := by decide +kernel
theorem s179_60 (d : Nat) (l0 : Value) (l1 : Value) (l2 : Value) (l3 : Value) (x : Int32) (σ : Hs) : ru d 179 60 [l0, l1, l2, l3] [.int x] σ = some (some (.int x), σ) := q_ireti t179_60 mr179
theorem t179_61 : decode (mb 179) 61 = .ok (.aload_n 0, 1) := by decide +kernel
theorem s179_61 (d : Nat) (a0 : Nat) (l1 : Value) (l2 : Value) (l3 : Value) (σ : Hs) : ru d 179 61 [.ref a0, l1, l2, l3] [] σ = ru d 179 62 [.ref a0, l1, l2, l3] [.ref a0] σ := q_aload_n t179_61 rfl
theorem t179_62 : decode (mb 179) 62 = .ok (.iconst 5, 1) := by decide +kernel
theorem s179_62 (d : Nat) (l0 : Value) (l1 : Value) (l2 : Value) (l3 : Value) (w0 : Value) (σ : Hs) : ru d 179 62 [l0, l1, l2, l3] [w0] σ = ru d 179 63 [l0, l1, l2, l3] [.int 5, w0] σ := q_iconst t179_62 (by decide +kernel)
theorem t179_63 : decode (mb 179) 63 = .ok (.invokevirtual 221, 3) := by decide +kernel
theorem s179_63_o87 (d : Nat) (l0 : Value) (l1 : Value) (l2 : Value) (l3 : Value) (v1 : Value) (σ : Hs) : ru d 179 63 [l0, l1, l2, l3] [v1, .ref 87] σ = kont (callD d 159 [.ref 87, v1] σ) d 179 66 [l0, l1, l2, l3] [] := q_invv t179_63 mo179 K8_221 mj159 rfl rfl rfl rfl (Nat.le_of_ble_eq_true rfl)
theorem t179_66 : decode (mb 179) 66 = .ok (.ireturn, 1) := by decide +kernel
theorem s179_66 (d : Nat) (l0 : Value) (l1 : Value) (l2 : Value) (l3 : Value) (x : Int32) (σ : Hs) : ru d 179 66 [l0, l1, l2, l3] [.int x] σ = some (some (.int x), σ) := q_ireti t179_66 mr179
theorem t179_67 : decode (mb 179) 67 = .ok (.iconst 0, 1) := by decide +kernel
theorem s179_67 (d : Nat) (l0 : Value) (l1 : Value) (l2 : Value) (l3 : Value) (σ : Hs) : ru d 179 67 [l0, l1, l2, l3] [] σ = ru d 179 68 [l0, l1, l2, l3] [.int 0] σ := q_iconst t179_67 (by decide +kernel)
theorem t179_68 : decode (mb 179) 68 = .ok (.istore_n 3, 1) := by decide +kernel
theorem s179_68 (d : Nat) (l0 : Value) (l1 : Value) (i2 : Int32) (l3 : Value) (x : Int32) (σ : Hs) : ru d 179 68 [l0, l1, .int i2, l3] [.int x] σ = ru d 179 69 [l0, l1, .int i2, .int x] [] σ := q_istore_n t179_68 ⟨Nat.le_of_ble_eq_true rfl, rfl⟩ rfl
theorem t179_69 : decode (mb 179) 69 = .ok (.iload_n 3, 1) := by decide +kernel
theorem s179_69 (d : Nat) (l0 : Value) (l1 : Value) (l2 : Value) (i3 : Int32) (σ : Hs) : ru d 179 69 [l0, l1, l2, .int i3] [] σ = ru d 179 70 [l0, l1, l2, .int i3] [.int i3] σ := q_iload_n t179_69 rfl
theorem t179_70 : decode (mb 179) 70 = .ok (.bipush 6, 2) := by decide +kernel
theorem s179_70 (d : Nat) (l0 : Value) (l1 : Value) (l2 : Value) (l3 : Value) (w0 : Value) (σ : Hs) : ru d 179 70 [l0, l1, l2, l3] [w0] σ = ru d 179 72 [l0, l1, l2, l3] [.int 6, w0] σ := q_bipush t179_70 (by decide +kernel)
theorem t179_72 : decode (mb 179) 72 = .ok (.if_icmp .ge 19, 3) := by decide +kernel
theorem s179_72 (d : Nat) (l0 : Value) (l1 : Value) (l2 : Value) (l3 : Value) (x y : Int32) (σ : Hs) : ru d 179 72 [l0, l1, l2, l3] [.int y, .int x] σ = if y ≤ x then ru d 179 91 [l0, l1, l2, l3] [] σ else ru d 179 75 [l0, l1, l2, l3] [] σ := q_ic_ge t179_72 (by decide +kernel)
theorem t179_75 : decode (mb 179) 75 = .ok (.iload_n 2, 1) := by decide +kernel
theorem s179_75 (d : Nat) (l0 : Value) (l1 : Value) (i2 : Int32) (l3 : Value) (σ : Hs) : ru d 179 75 [l0, l1, .int i2, l3] [] σ = ru d 179 76 [l0, l1, .int i2, l3] [.int i2] σ := q_iload_n t179_75 rfl
theorem t179_76 : decode (mb 179) 76 = .ok (.aload_n 0, 1) := by decide +kernel
theorem s179_76 (d : Nat) (a0 : Nat) (l1 : Value) (l2 : Value) (l3 : Value) (w0 : Value) (σ : Hs) : ru d 179 76 [.ref a0, l1, l2, l3] [w0] σ = ru d 179 77 [.ref a0, l1, l2, l3] [.ref a0, w0] σ := q_aload_n t179_76 rfl
theorem t179_77 : decode (mb 179) 77 = .ok (.iload_n 3, 1) := by decide +kernel
theorem s179_77 (d : Nat) (l0 : Value) (l1 : Value) (l2 : Value) (i3 : Int32) (w0 w1 : Value) (σ : Hs) : ru d 179 77 [l0, l1, l2, .int i3] [w0, w1] σ = ru d 179 78 [l0, l1, l2, .int i3] [.int i3, w0, w1] σ := q_iload_n t179_77 rfl
theorem t179_78 : decode (mb 179) 78 = .ok (.invokevirtual 92, 3) := by decide +kernel
theorem s179_78_o87 (d : Nat) (l0 : Value) (l1 : Value) (l2 : Value) (l3 : Value) (v1 : Value) (w0 : Int32) (σ : Hs) : ru d 179 78 [l0, l1, l2, l3] [v1, .ref 87, .int w0] σ = kont (callD d 123 [.ref 87, v1] σ) d 179 81 [l0, l1, l2, l3] [.int w0] := q_invv t179_78 mo179 K8_92 mj123 rfl rfl rfl rfl (Nat.le_of_ble_eq_true rfl)
theorem t179_81 : decode (mb 179) 81 = .ok (.invokestatic 74, 3) := by decide +kernel
theorem s179_81 (d : Nat) (l0 : Value) (l1 : Value) (l2 : Value) (l3 : Value) (x y : Int32) (σ : Hs) : ru d 179 81 [l0, l1, l2, l3] [.int y, .int x] σ = ru d 179 84 [l0, l1, l2, l3] [.int (jmax x y)] σ := q_mx t179_81 mo179 (by decide +kernel) (by decide +kernel) (Nat.le_of_ble_eq_true rfl)
theorem t179_84 : decode (mb 179) 84 = .ok (.istore_n 2, 1) := by decide +kernel
theorem s179_84 (d : Nat) (l0 : Value) (i1 : Int32) (l2 : Value) (l3 : Value) (x : Int32) (σ : Hs) : ru d 179 84 [l0, .int i1, l2, l3] [.int x] σ = ru d 179 85 [l0, .int i1, .int x, l3] [] σ := q_istore_n t179_84 ⟨Nat.le_of_ble_eq_true rfl, rfl⟩ rfl
theorem t179_85 : decode (mb 179) 85 = .ok (.iinc 3 1, 3) := by decide +kernel
theorem s179_85 (d : Nat) (l0 : Value) (l1 : Value) (i2 : Int32) (i3 : Int32) (σ : Hs) : ru d 179 85 [l0, l1, .int i2, .int i3] [] σ = ru d 179 88 [l0, l1, .int i2, .int (i3 + 1)] [] σ := q_iinc t179_85 ⟨Nat.le_of_ble_eq_true rfl, rfl⟩ rfl (by decide +kernel) rfl
theorem t179_88 : decode (mb 179) 88 = .ok (.goto (-19), 3) := by decide +kernel
theorem s179_88 (d : Nat) (l0 : Value) (l1 : Value) (l2 : Value) (l3 : Value) (σ : Hs) : ru d 179 88 [l0, l1, l2, l3] [] σ = ru d 179 69 [l0, l1, l2, l3] [] σ := q_goto t179_88 (by decide +kernel)
theorem t179_91 : decode (mb 179) 91 = .ok (.iload_n 2, 1) := by decide +kernel
theorem s179_91 (d : Nat) (l0 : Value) (l1 : Value) (i2 : Int32) (l3 : Value) (σ : Hs) : ru d 179 91 [l0, l1, .int i2, l3] [] σ = ru d 179 92 [l0, l1, .int i2, l3] [.int i2] σ := q_iload_n t179_91 rfl
theorem t179_92 : decode (mb 179) 92 = .ok (.ireturn, 1) := by decide +kernel
theorem s179_92 (d : Nat) (l0 : Value) (l1 : Value) (l2 : Value) (l3 : Value) (x : Int32) (σ : Hs) : ru d 179 92 [l0, l1, l2, l3] [.int x] σ = some (some (.int x), σ) := q_ireti t179_92 mr179
theorem t179_93 : decode (mb 179) 93 = .ok (.aload_n 0, 1) := by decide +kernel
theorem s179_93 (d : Nat) (a0 : Nat) (l1 : Value) (l2 : Value) (l3 : Value) (σ : Hs) : ru d 179 93 [.ref a0, l1, l2, l3] [] σ = ru d 179 94 [.ref a0, l1, l2, l3] [.ref a0] σ := q_aload_n t179_93 rfl
theorem t179_94 : decode (mb 179) 94 = .ok (.iconst 3, 1) := by decide +kernel
theorem s179_94 (d : Nat) (l0 : Value) (l1 : Value) (l2 : Value) (l3 : Value) (w0 : Value) (σ : Hs) : ru d 179 94 [l0, l1, l2, l3] [w0] σ = ru d 179 95 [l0, l1, l2, l3] [.int 3, w0] σ := q_iconst t179_94 (by decide +kernel)
theorem t179_95 : decode (mb 179) 95 = .ok (.invokevirtual 221, 3) := by decide +kernel
theorem s179_95_o87 (d : Nat) (l0 : Value) (l1 : Value) (l2 : Value) (l3 : Value) (v1 : Value) (σ : Hs) : ru d 179 95 [l0, l1, l2, l3] [v1, .ref 87] σ = kont (callD d 159 [.ref 87, v1] σ) d 179 98 [l0, l1, l2, l3] [] := q_invv t179_95 mo179 K8_221 mj159 rfl rfl rfl rfl (Nat.le_of_ble_eq_true rfl)
theorem t179_98 : decode (mb 179) 98 = .ok (.ireturn, 1) := by decide +kernel
theorem s179_98 (d : Nat) (l0 : Value) (l1 : Value) (l2 : Value) (l3 : Value) (x : Int32) (σ : Hs) : ru d 179 98 [l0, l1, l2, l3] [.int x] σ = some (some (.int x), σ) := q_ireti t179_98 mr179
theorem t179_99 : decode (mb 179) 99 = .ok (.aload_n 0, 1) := by decide +kernel
theorem s179_99 (d : Nat) (a0 : Nat) (l1 : Value) (l2 : Value) (l3 : Value) (σ : Hs) : ru d 179 99 [.ref a0, l1, l2, l3] [] σ = ru d 179 100 [.ref a0, l1, l2, l3] [.ref a0] σ := q_aload_n t179_99 rfl
theorem t179_100 : decode (mb 179) 100 = .ok (.getfield 9, 3) := by decide +kernel
theorem s179_100_o87 (d : Nat) (l0 : Value) (l1 : Value) (l2 : Value) (l3 : Value) (σ : Hs) : ru d 179 100 [l0, l1, l2, l3] [.ref 87] σ = ru d 179 103 [l0, l1, l2, l3] [.ref 88] σ := q_getf t179_100 mo179 F8_9 rfl rfl
theorem t179_103 : decode (mb 179) 103 = .ok (.bipush 10, 2) := by decide +kernel
theorem s179_103 (d : Nat) (l0 : Value) (l1 : Value) (l2 : Value) (l3 : Value) (w0 : Value) (σ : Hs) : ru d 179 103 [l0, l1, l2, l3] [w0] σ = ru d 179 105 [l0, l1, l2, l3] [.int 10, w0] σ := q_bipush t179_103 (by decide +kernel)
theorem t179_105 : decode (mb 179) 105 = .ok (.iload_n 1, 1) := by decide +kernel
theorem s179_105 (d : Nat) (l0 : Value) (i1 : Int32) (l2 : Value) (l3 : Value) (w0 w1 : Value) (σ : Hs) : ru d 179 105 [l0, .int i1, l2, l3] [w0, w1] σ = ru d 179 106 [l0, .int i1, l2, l3] [.int i1, w0, w1] σ := q_iload_n t179_105 rfl
theorem t179_106 : decode (mb 179) 106 = .ok (.iadd, 1) := by decide +kernel
theorem s179_106 (d : Nat) (l0 : Value) (l1 : Value) (l2 : Value) (l3 : Value) (x y : Int32) (w0 : Value) (σ : Hs) : ru d 179 106 [l0, l1, l2, l3] [.int y, .int x, w0] σ = ru d 179 107 [l0, l1, l2, l3] [.int (x + y), w0] σ := q_iadd t179_106
theorem t179_107 : decode (mb 179) 107 = .ok (.iconst 3, 1) := by decide +kernel
theorem s179_107 (d : Nat) (l0 : Value) (l1 : Value) (l2 : Value) (l3 : Value) (w0 w1 : Value) (σ : Hs) : ru d 179 107 [l0, l1, l2, l3] [w0, w1] σ = ru d 179 108 [l0, l1, l2, l3] [.int 3, w0, w1] σ := q_iconst t179_107 (by decide +kernel)
theorem t179_108 : decode (mb 179) 108 = .ok (.isub, 1) := by decide +kernel
theorem s179_108 (d : Nat) (l0 : Value) (l1 : Value) (l2 : Value) (l3 : Value) (x y : Int32) (w0 : Value) (σ : Hs) : ru d 179 108 [l0, l1, l2, l3] [.int y, .int x, w0] σ = ru d 179 109 [l0, l1, l2, l3] [.int (x - y), w0] σ := q_isub t179_108
theorem t179_109 : decode (mb 179) 109 = .ok (.iaload, 1) := by decide +kernel
theorem s179_109_o88 (d : Nat) (l0 : Value) (l1 : Value) (l2 : Value) (l3 : Value) (i : Int32) (σ : Hs) : ru d 179 109 [l0, l1, l2, l3] [.int i, .ref 88] σ = gd (vp_in i 545) (ru d 179 110 [l0, l1, l2, l3] [.int (σ 88 i.toNatClampNeg)] σ) := q_iald t179_109 rfl (by decide +kernel) rfl
theorem t179_110 : decode (mb 179) 110 = .ok (.ireturn, 1) := by decide +kernel
theorem s179_110 (d : Nat) (l0 : Value) (l1 : Value) (l2 : Value) (l3 : Value) (x : Int32) (σ : Hs) : ru d 179 110 [l0, l1, l2, l3] [.int x] σ = some (some (.int x), σ) := q_ireti t179_110 mr179
theorem c179 (d : Nat) (x0 : Nat) (x1 : Int32) (σ : Hs) : callD (d + 1) 179 [.ref x0, .int x1] σ = ru d 179 0 [.ref x0, .int x1, uu, uu] [] σ := callD_ru ml179 rfl rfl (Nat.le_of_ble_eq_true rfl)
-- 180: Model.heap(I)I
theorem t180_0 : decode (mb 180) 0 = .ok (.iload_n 1, 1) := by decide +kernel
theorem s180_0 (d : Nat) (l0 : Value) (i1 : Int32) (σ : Hs) : ru d 180 0 [l0, .int i1] [] σ = ru d 180 1 [l0, .int i1] [.int i1] σ := q_iload_n t180_0 rfl
theorem t180_1 : decode (mb 180) 1 = .ok (.iconst 0, 1) := by decide +kernel
theorem s180_1 (d : Nat) (l0 : Value) (l1 : Value) (w0 : Value) (σ : Hs) : ru d 180 1 [l0, l1] [w0] σ = ru d 180 2 [l0, l1] [.int 0, w0] σ := q_iconst t180_1 (by decide +kernel)
theorem t180_2 : decode (mb 180) 2 = .ok (.bipush 7, 2) := by decide +kernel
theorem s180_2 (d : Nat) (l0 : Value) (l1 : Value) (w0 w1 : Value) (σ : Hs) : ru d 180 2 [l0, l1] [w0, w1] σ = ru d 180 4 [l0, l1] [.int 7, w0, w1] σ := q_bipush t180_2 (by decide +kernel)
theorem t180_4 : decode (mb 180) 4 = .ok (.invokestatic 81, 3) := by decide +kernel
theorem s180_4 (d : Nat) (l0 : Value) (l1 : Value) (v0 v1 v2 : Value) (σ : Hs) : ru d 180 4 [l0, l1] [v2, v1, v0] σ = kont (callD d 112 [v0, v1, v2] σ) d 180 7 [l0, l1] [] := q_invs t180_4 mo180 (by decide +kernel) K8_81 mj112 (Nat.le_of_ble_eq_true rfl) rfl rfl (Nat.le_of_ble_eq_true rfl)
theorem t180_7 : decode (mb 180) 7 = .ok (.ifCond .eq 11, 3) := by decide +kernel
theorem s180_7 (d : Nat) (l0 : Value) (l1 : Value) (x : Int32) (σ : Hs) : ru d 180 7 [l0, l1] [.int x] σ = if x = 0 then ru d 180 18 [l0, l1] [] σ else ru d 180 10 [l0, l1] [] σ := q_if_eq t180_7 (by decide +kernel)
theorem t180_10 : decode (mb 180) 10 = .ok (.aload_n 0, 1) := by decide +kernel
theorem s180_10 (d : Nat) (a0 : Nat) (l1 : Value) (σ : Hs) : ru d 180 10 [.ref a0, l1] [] σ = ru d 180 11 [.ref a0, l1] [.ref a0] σ := q_aload_n t180_10 rfl
theorem t180_11 : decode (mb 180) 11 = .ok (.iload_n 1, 1) := by decide +kernel
theorem s180_11 (d : Nat) (l0 : Value) (i1 : Int32) (w0 : Value) (σ : Hs) : ru d 180 11 [l0, .int i1] [w0] σ = ru d 180 12 [l0, .int i1] [.int i1, w0] σ := q_iload_n t180_11 rfl
theorem t180_12 : decode (mb 180) 12 = .ok (.invokevirtual 281, 3) := by decide +kernel
theorem s180_12_o87 (d : Nat) (l0 : Value) (l1 : Value) (v1 : Value) (σ : Hs) : ru d 180 12 [l0, l1] [v1, .ref 87] σ = kont (callD d 179 [.ref 87, v1] σ) d 180 15 [l0, l1] [] := q_invv t180_12 mo180 K8_281 mj179 rfl rfl rfl rfl (Nat.le_of_ble_eq_true rfl)
theorem t180_15 : decode (mb 180) 15 = .ok (.goto 9, 3) := by decide +kernel
theorem s180_15 (d : Nat) (l0 : Value) (l1 : Value) (w0 : Value) (σ : Hs) : ru d 180 15 [l0, l1] [w0] σ = ru d 180 24 [l0, l1] [w0] σ := q_goto t180_15 (by decide +kernel)
theorem t180_18 : decode (mb 180) 18 = .ok (.aload_n 0, 1) := by decide +kernel
theorem s180_18 (d : Nat) (a0 : Nat) (l1 : Value) (σ : Hs) : ru d 180 18 [.ref a0, l1] [] σ = ru d 180 19 [.ref a0, l1] [.ref a0] σ := q_aload_n t180_18 rfl
theorem t180_19 : decode (mb 180) 19 = .ok (.ldc 104, 2) := by decide +kernel
theorem s180_19 (d : Nat) (l0 : Value) (l1 : Value) (w0 : Value) (σ : Hs) : ru d 180 19 [l0, l1] [w0] σ = ru d 180 21 [l0, l1] [.int (-1000001), w0] σ := q_ldc t180_19 mo180 C8_104
theorem t180_21 : decode (mb 180) 21 = .ok (.invokevirtual 105, 3) := by decide +kernel
theorem s180_21_o87 (d : Nat) (l0 : Value) (l1 : Value) (v1 : Value) (σ : Hs) : ru d 180 21 [l0, l1] [v1, .ref 87] σ = kont (callD d 111 [.ref 87, v1] σ) d 180 24 [l0, l1] [] := q_invv t180_21 mo180 K8_105 mj111 rfl rfl rfl rfl (Nat.le_of_ble_eq_true rfl)
theorem t180_24 : decode (mb 180) 24 = .ok (.ireturn, 1) := by decide +kernel
theorem s180_24 (d : Nat) (l0 : Value) (l1 : Value) (x : Int32) (σ : Hs) : ru d 180 24 [l0, l1] [.int x] σ = some (some (.int x), σ) := q_ireti t180_24 mr180
theorem c180 (d : Nat) (x0 : Nat) (x1 : Int32) (σ : Hs) : callD (d + 1) 180 [.ref x0, .int x1] σ = ru d 180 0 [.ref x0, .int x1] [] σ := callD_ru ml180 rfl rfl (Nat.le_of_ble_eq_true rfl)
-- 181: Model.isAhead(I)Z
theorem t181_0 : decode (mb 181) 0 = .ok (.iload_n 0, 1) := by decide +kernel
theorem s181_0 (d : Nat) (i0 : Int32) (σ : Hs) : ru d 181 0 [.int i0] [] σ = ru d 181 1 [.int i0] [.int i0] σ := q_iload_n t181_0 rfl
theorem t181_1 : decode (mb 181) 1 = .ok (.iconst 0, 1) := by decide +kernel
theorem s181_1 (d : Nat) (l0 : Value) (w0 : Value) (σ : Hs) : ru d 181 1 [l0] [w0] σ = ru d 181 2 [l0] [.int 0, w0] σ := q_iconst t181_1 (by decide +kernel)
theorem t181_2 : decode (mb 181) 2 = .ok (.bipush 60, 2) := by decide +kernel
theorem s181_2 (d : Nat) (l0 : Value) (w0 w1 : Value) (σ : Hs) : ru d 181 2 [l0] [w0, w1] σ = ru d 181 4 [l0] [.int 60, w0, w1] σ := q_bipush t181_2 (by decide +kernel)
theorem t181_4 : decode (mb 181) 4 = .ok (.invokestatic 81, 3) := by decide +kernel
theorem s181_4 (d : Nat) (l0 : Value) (v0 v1 v2 : Value) (σ : Hs) : ru d 181 4 [l0] [v2, v1, v0] σ = kont (callD d 112 [v0, v1, v2] σ) d 181 7 [l0] [] := q_invs t181_4 mo181 (by decide +kernel) K8_81 mj112 (Nat.le_of_ble_eq_true rfl) rfl rfl (Nat.le_of_ble_eq_true rfl)
theorem t181_7 : decode (mb 181) 7 = .ok (.ireturn, 1) := by decide +kernel
theorem s181_7 (d : Nat) (l0 : Value) (x : Int32) (hx : isB x) (σ : Hs) : ru d 181 7 [l0] [.int x] σ = some (some (.int x), σ) := q_iretz t181_7 mr181 hx
theorem c181 (d : Nat) (x0 : Int32) (σ : Hs) : callD (d + 1) 181 [.int x0] σ = ru d 181 0 [.int x0] [] σ := callD_ru ml181 rfl rfl (Nat.le_of_ble_eq_true rfl)
-- 182: Model.then(II)I
theorem t182_0 : decode (mb 182) 0 = .ok (.iload_n 1, 1) := by decide +kernel
theorem s182_0 (d : Nat) (l0 : Value) (i1 : Int32) (l2 : Value) (σ : Hs) : ru d 182 0 [l0, .int i1, l2] [] σ = ru d 182 1 [l0, .int i1, l2] [.int i1] σ := q_iload_n t182_0 rfl
theorem t182_1 : decode (mb 182) 1 = .ok (.invokestatic 284, 3) := by decide +kernel
theorem s182_1 (d : Nat) (l0 : Value) (l1 : Value) (l2 : Value) (v0 : Value) (σ : Hs) : ru d 182 1 [l0, l1, l2] [v0] σ = kont (callD d 181 [v0] σ) d 182 4 [l0, l1, l2] [] := q_invs t182_1 mo182 (by decide +kernel) K8_284 mj181 (Nat.le_of_ble_eq_true rfl) rfl rfl (Nat.le_of_ble_eq_true rfl)
theorem t182_4 : decode (mb 182) 4 = .ok (.ifCond .eq 13, 3) := by decide +kernel
theorem s182_4 (d : Nat) (l0 : Value) (l1 : Value) (l2 : Value) (x : Int32) (σ : Hs) : ru d 182 4 [l0, l1, l2] [.int x] σ = if x = 0 then ru d 182 17 [l0, l1, l2] [] σ else ru d 182 7 [l0, l1, l2] [] σ := q_if_eq t182_4 (by decide +kernel)
theorem t182_7 : decode (mb 182) 7 = .ok (.iload_n 2, 1) := by decide +kernel
theorem s182_7 (d : Nat) (l0 : Value) (l1 : Value) (i2 : Int32) (σ : Hs) : ru d 182 7 [l0, l1, .int i2] [] σ = ru d 182 8 [l0, l1, .int i2] [.int i2] σ := q_iload_n t182_7 rfl
theorem t182_8 : decode (mb 182) 8 = .ok (.iconst 0, 1) := by decide +kernel
theorem s182_8 (d : Nat) (l0 : Value) (l1 : Value) (l2 : Value) (w0 : Value) (σ : Hs) : ru d 182 8 [l0, l1, l2] [w0] σ = ru d 182 9 [l0, l1, l2] [.int 0, w0] σ := q_iconst t182_8 (by decide +kernel)
theorem t182_9 : decode (mb 182) 9 = .ok (.bipush 7, 2) := by decide +kernel
theorem s182_9 (d : Nat) (l0 : Value) (l1 : Value) (l2 : Value) (w0 w1 : Value) (σ : Hs) : ru d 182 9 [l0, l1, l2] [w0, w1] σ = ru d 182 11 [l0, l1, l2] [.int 7, w0, w1] σ := q_bipush t182_9 (by decide +kernel)
theorem t182_11 : decode (mb 182) 11 = .ok (.invokestatic 81, 3) := by decide +kernel
theorem s182_11 (d : Nat) (l0 : Value) (l1 : Value) (l2 : Value) (v0 v1 v2 : Value) (σ : Hs) : ru d 182 11 [l0, l1, l2] [v2, v1, v0] σ = kont (callD d 112 [v0, v1, v2] σ) d 182 14 [l0, l1, l2] [] := q_invs t182_11 mo182 (by decide +kernel) K8_81 mj112 (Nat.le_of_ble_eq_true rfl) rfl rfl (Nat.le_of_ble_eq_true rfl)
theorem t182_14 : decode (mb 182) 14 = .ok (.ifCond .ne 10, 3) := by decide +kernel
theorem s182_14 (d : Nat) (l0 : Value) (l1 : Value) (l2 : Value) (x : Int32) (σ : Hs) : ru d 182 14 [l0, l1, l2] [.int x] σ = if x = 0 then ru d 182 17 [l0, l1, l2] [] σ else ru d 182 24 [l0, l1, l2] [] σ := q_if_ne t182_14 (by decide +kernel)
theorem t182_17 : decode (mb 182) 17 = .ok (.aload_n 0, 1) := by decide +kernel
theorem s182_17 (d : Nat) (a0 : Nat) (l1 : Value) (l2 : Value) (σ : Hs) : ru d 182 17 [.ref a0, l1, l2] [] σ = ru d 182 18 [.ref a0, l1, l2] [.ref a0] σ := q_aload_n t182_17 rfl
theorem t182_18 : decode (mb 182) 18 = .ok (.ldc 104, 2) := by decide +kernel
theorem s182_18 (d : Nat) (l0 : Value) (l1 : Value) (l2 : Value) (w0 : Value) (σ : Hs) : ru d 182 18 [l0, l1, l2] [w0] σ = ru d 182 20 [l0, l1, l2] [.int (-1000001), w0] σ := q_ldc t182_18 mo182 C8_104
theorem t182_20 : decode (mb 182) 20 = .ok (.invokevirtual 105, 3) := by decide +kernel
theorem s182_20_o87 (d : Nat) (l0 : Value) (l1 : Value) (l2 : Value) (v1 : Value) (σ : Hs) : ru d 182 20 [l0, l1, l2] [v1, .ref 87] σ = kont (callD d 111 [.ref 87, v1] σ) d 182 23 [l0, l1, l2] [] := q_invv t182_20 mo182 K8_105 mj111 rfl rfl rfl rfl (Nat.le_of_ble_eq_true rfl)
theorem t182_23 : decode (mb 182) 23 = .ok (.ireturn, 1) := by decide +kernel
theorem s182_23 (d : Nat) (l0 : Value) (l1 : Value) (l2 : Value) (x : Int32) (σ : Hs) : ru d 182 23 [l0, l1, l2] [.int x] σ = some (some (.int x), σ) := q_ireti t182_23 mr182
theorem t182_24 : decode (mb 182) 24 = .ok (.aload_n 0, 1) := by decide +kernel
theorem s182_24 (d : Nat) (a0 : Nat) (l1 : Value) (l2 : Value) (σ : Hs) : ru d 182 24 [.ref a0, l1, l2] [] σ = ru d 182 25 [.ref a0, l1, l2] [.ref a0] σ := q_aload_n t182_24 rfl
theorem t182_25 : decode (mb 182) 25 = .ok (.getfield 9, 3) := by decide +kernel
theorem s182_25_o87 (d : Nat) (l0 : Value) (l1 : Value) (l2 : Value) (σ : Hs) : ru d 182 25 [l0, l1, l2] [.ref 87] σ = ru d 182 28 [l0, l1, l2] [.ref 88] σ := q_getf t182_25 mo182 F8_9 rfl rfl
theorem t182_28 : decode (mb 182) 28 = .ok (.aload_n 0, 1) := by decide +kernel
theorem s182_28 (d : Nat) (a0 : Nat) (l1 : Value) (l2 : Value) (w0 : Value) (σ : Hs) : ru d 182 28 [.ref a0, l1, l2] [w0] σ = ru d 182 29 [.ref a0, l1, l2] [.ref a0, w0] σ := q_aload_n t182_28 rfl
theorem t182_29 : decode (mb 182) 29 = .ok (.getfield 16, 3) := by decide +kernel
theorem s182_29_o87 (d : Nat) (l0 : Value) (l1 : Value) (l2 : Value) (w0 : Value) (σ : Hs) : ru d 182 29 [l0, l1, l2] [.ref 87, w0] σ = ru d 182 32 [l0, l1, l2] [.ref 90, w0] σ := q_getf t182_29 mo182 F8_16 rfl rfl
theorem t182_32 : decode (mb 182) 32 = .ok (.invokestatic 77, 3) := by decide +kernel
theorem s182_32 (d : Nat) (l0 : Value) (l1 : Value) (l2 : Value) (v0 v1 : Value) (σ : Hs) : ru d 182 32 [l0, l1, l2] [v1, v0] σ = kont (callD d 115 [v0, v1] σ) d 182 35 [l0, l1, l2] [] := q_invs t182_32 mo182 (by decide +kernel) K8_77 mj115 (Nat.le_of_ble_eq_true rfl) rfl rfl (Nat.le_of_ble_eq_true rfl)
theorem t182_35 : decode (mb 182) 35 = .ok (.aload_n 0, 1) := by decide +kernel
theorem s182_35 (d : Nat) (a0 : Nat) (l1 : Value) (l2 : Value) (σ : Hs) : ru d 182 35 [.ref a0, l1, l2] [] σ = ru d 182 36 [.ref a0, l1, l2] [.ref a0] σ := q_aload_n t182_35 rfl
theorem t182_36 : decode (mb 182) 36 = .ok (.iload_n 1, 1) := by decide +kernel
theorem s182_36 (d : Nat) (l0 : Value) (i1 : Int32) (l2 : Value) (w0 : Value) (σ : Hs) : ru d 182 36 [l0, .int i1, l2] [w0] σ = ru d 182 37 [l0, .int i1, l2] [.int i1, w0] σ := q_iload_n t182_36 rfl
theorem t182_37 : decode (mb 182) 37 = .ok (.invokevirtual 271, 3) := by decide +kernel
theorem s182_37_o87 (d : Nat) (l0 : Value) (l1 : Value) (l2 : Value) (v1 : Value) (σ : Hs) : ru d 182 37 [l0, l1, l2] [v1, .ref 87] σ = kont (callD d 170 [.ref 87, v1] σ) d 182 40 [l0, l1, l2] [] := q_invv t182_37 mo182 K8_271 mj170 rfl rfl rfl rfl (Nat.le_of_ble_eq_true rfl)
theorem t182_40 : decode (mb 182) 40 = .ok (.aload_n 0, 1) := by decide +kernel
theorem s182_40 (d : Nat) (a0 : Nat) (l1 : Value) (l2 : Value) (σ : Hs) : ru d 182 40 [.ref a0, l1, l2] [] σ = ru d 182 41 [.ref a0, l1, l2] [.ref a0] σ := q_aload_n t182_40 rfl
theorem t182_41 : decode (mb 182) 41 = .ok (.aload_n 0, 1) := by decide +kernel
theorem s182_41 (d : Nat) (a0 : Nat) (l1 : Value) (l2 : Value) (w0 : Value) (σ : Hs) : ru d 182 41 [.ref a0, l1, l2] [w0] σ = ru d 182 42 [.ref a0, l1, l2] [.ref a0, w0] σ := q_aload_n t182_41 rfl
theorem t182_42 : decode (mb 182) 42 = .ok (.iload_n 2, 1) := by decide +kernel
theorem s182_42 (d : Nat) (l0 : Value) (l1 : Value) (i2 : Int32) (w0 w1 : Value) (σ : Hs) : ru d 182 42 [l0, l1, .int i2] [w0, w1] σ = ru d 182 43 [l0, l1, .int i2] [.int i2, w0, w1] σ := q_iload_n t182_42 rfl
theorem t182_43 : decode (mb 182) 43 = .ok (.invokevirtual 281, 3) := by decide +kernel
theorem s182_43_o87 (d : Nat) (l0 : Value) (l1 : Value) (l2 : Value) (v1 : Value) (w0 : Nat) (σ : Hs) : ru d 182 43 [l0, l1, l2] [v1, .ref 87, .ref w0] σ = kont (callD d 179 [.ref 87, v1] σ) d 182 46 [l0, l1, l2] [.ref w0] := q_invv t182_43 mo182 K8_281 mj179 rfl rfl rfl rfl (Nat.le_of_ble_eq_true rfl)
theorem t182_46 : decode (mb 182) 46 = .ok (.invokevirtual 287, 3) := by decide +kernel
theorem s182_46_o87 (d : Nat) (l0 : Value) (l1 : Value) (l2 : Value) (v1 : Value) (σ : Hs) : ru d 182 46 [l0, l1, l2] [v1, .ref 87] σ = kont (callD d 117 [.ref 87, v1] σ) d 182 49 [l0, l1, l2] [] := q_invv t182_46 mo182 K8_287 mj117 rfl rfl rfl rfl (Nat.le_of_ble_eq_true rfl)
theorem t182_49 : decode (mb 182) 49 = .ok (.ireturn, 1) := by decide +kernel
theorem s182_49 (d : Nat) (l0 : Value) (l1 : Value) (l2 : Value) (x : Int32) (σ : Hs) : ru d 182 49 [l0, l1, l2] [.int x] σ = some (some (.int x), σ) := q_ireti t182_49 mr182
theorem c182 (d : Nat) (x0 : Nat) (x1 : Int32) (x2 : Int32) (σ : Hs) : callD (d + 1) 182 [.ref x0, .int x1, .int x2] σ = ru d 182 0 [.ref x0, .int x1, .int x2] [] σ := callD_ru ml182 rfl rfl (Nat.le_of_ble_eq_true rfl)
-- 183: Model.gardenThen(III)I
theorem t183_0 : decode (mb 183) 0 = .ok (.iload_n 1, 1) := by decide +kernel
theorem s183_0 (d : Nat) (l0 : Value) (i1 : Int32) (l2 : Value) (l3 : Value) (σ : Hs) : ru d 183 0 [l0, .int i1, l2, l3] [] σ = ru d 183 1 [l0, .int i1, l2, l3] [.int i1] σ := q_iload_n t183_0 rfl
theorem t183_1 : decode (mb 183) 1 = .ok (.invokestatic 284, 3) := by decide +kernel
theorem s183_1 (d : Nat) (l0 : Value) (l1 : Value) (l2 : Value) (l3 : Value) (v0 : Value) (σ : Hs) : ru d 183 1 [l0, l1, l2, l3] [v0] σ = kont (callD d 181 [v0] σ) d 183 4 [l0, l1, l2, l3] [] := q_invs t183_1 mo183 (by decide +kernel) K8_284 mj181 (Nat.le_of_ble_eq_true rfl) rfl rfl (Nat.le_of_ble_eq_true rfl)
theorem t183_4 : decode (mb 183) 4 = .ok (.ifCond .eq 19, 3) := by decide +kernel
theorem s183_4 (d : Nat) (l0 : Value) (l1 : Value) (l2 : Value) (l3 : Value) (x : Int32) (σ : Hs) : ru d 183 4 [l0, l1, l2, l3] [.int x] σ = if x = 0 then ru d 183 23 [l0, l1, l2, l3] [] σ else ru d 183 7 [l0, l1, l2, l3] [] σ := q_if_eq t183_4 (by decide +kernel)
theorem t183_7 : decode (mb 183) 7 = .ok (.iload_n 2, 1) := by decide +kernel
theorem s183_7 (d : Nat) (l0 : Value) (l1 : Value) (i2 : Int32) (l3 : Value) (σ : Hs) : ru d 183 7 [l0, l1, .int i2, l3] [] σ = ru d 183 8 [l0, l1, .int i2, l3] [.int i2] σ := q_iload_n t183_7 rfl
theorem t183_8 : decode (mb 183) 8 = .ok (.invokestatic 278, 3) := by decide +kernel
theorem s183_8 (d : Nat) (l0 : Value) (l1 : Value) (l2 : Value) (l3 : Value) (v0 : Value) (σ : Hs) : ru d 183 8 [l0, l1, l2, l3] [v0] σ = kont (callD d 176 [v0] σ) d 183 11 [l0, l1, l2, l3] [] := q_invs t183_8 mo183 (by decide +kernel) K8_278 mj176 (Nat.le_of_ble_eq_true rfl) rfl rfl (Nat.le_of_ble_eq_true rfl)
theorem t183_11 : decode (mb 183) 11 = .ok (.ifCond .eq 12, 3) := by decide +kernel
theorem s183_11 (d : Nat) (l0 : Value) (l1 : Value) (l2 : Value) (l3 : Value) (x : Int32) (σ : Hs) : ru d 183 11 [l0, l1, l2, l3] [.int x] σ = if x = 0 then ru d 183 23 [l0, l1, l2, l3] [] σ else ru d 183 14 [l0, l1, l2, l3] [] σ := q_if_eq t183_11 (by decide +kernel)
theorem t183_14 : decode (mb 183) 14 = .ok (.iload_n 3, 1) := by decide +kernel
theorem s183_14 (d : Nat) (l0 : Value) (l1 : Value) (l2 : Value) (i3 : Int32) (σ : Hs) : ru d 183 14 [l0, l1, l2, .int i3] [] σ = ru d 183 15 [l0, l1, l2, .int i3] [.int i3] σ := q_iload_n t183_14 rfl
theorem t183_15 : decode (mb 183) 15 = .ok (.iconst 0, 1) := by decide +kernel
theorem s183_15 (d : Nat) (l0 : Value) (l1 : Value) (l2 : Value) (l3 : Value) (w0 : Value) (σ : Hs) : ru d 183 15 [l0, l1, l2, l3] [w0] σ = ru d 183 16 [l0, l1, l2, l3] [.int 0, w0] σ := q_iconst t183_15 (by decide +kernel)
theorem t183_16 : decode (mb 183) 16 = .ok (.iconst 2, 1) := by decide +kernel
theorem s183_16 (d : Nat) (l0 : Value) (l1 : Value) (l2 : Value) (l3 : Value) (w0 w1 : Value) (σ : Hs) : ru d 183 16 [l0, l1, l2, l3] [w0, w1] σ = ru d 183 17 [l0, l1, l2, l3] [.int 2, w0, w1] σ := q_iconst t183_16 (by decide +kernel)
theorem t183_17 : decode (mb 183) 17 = .ok (.invokestatic 81, 3) := by decide +kernel
theorem s183_17 (d : Nat) (l0 : Value) (l1 : Value) (l2 : Value) (l3 : Value) (v0 v1 v2 : Value) (σ : Hs) : ru d 183 17 [l0, l1, l2, l3] [v2, v1, v0] σ = kont (callD d 112 [v0, v1, v2] σ) d 183 20 [l0, l1, l2, l3] [] := q_invs t183_17 mo183 (by decide +kernel) K8_81 mj112 (Nat.le_of_ble_eq_true rfl) rfl rfl (Nat.le_of_ble_eq_true rfl)
theorem t183_20 : decode (mb 183) 20 = .ok (.ifCond .ne 10, 3) := by decide +kernel
theorem s183_20 (d : Nat) (l0 : Value) (l1 : Value) (l2 : Value) (l3 : Value) (x : Int32) (σ : Hs) : ru d 183 20 [l0, l1, l2, l3] [.int x] σ = if x = 0 then ru d 183 23 [l0, l1, l2, l3] [] σ else ru d 183 30 [l0, l1, l2, l3] [] σ := q_if_ne t183_20 (by decide +kernel)
theorem t183_23 : decode (mb 183) 23 = .ok (.aload_n 0, 1) := by decide +kernel
theorem s183_23 (d : Nat) (a0 : Nat) (l1 : Value) (l2 : Value) (l3 : Value) (σ : Hs) : ru d 183 23 [.ref a0, l1, l2, l3] [] σ = ru d 183 24 [.ref a0, l1, l2, l3] [.ref a0] σ := q_aload_n t183_23 rfl
theorem t183_24 : decode (mb 183) 24 = .ok (.ldc 104, 2) := by decide +kernel
theorem s183_24 (d : Nat) (l0 : Value) (l1 : Value) (l2 : Value) (l3 : Value) (w0 : Value) (σ : Hs) : ru d 183 24 [l0, l1, l2, l3] [w0] σ = ru d 183 26 [l0, l1, l2, l3] [.int (-1000001), w0] σ := q_ldc t183_24 mo183 C8_104
theorem t183_26 : decode (mb 183) 26 = .ok (.invokevirtual 105, 3) := by decide +kernel
theorem s183_26_o87 (d : Nat) (l0 : Value) (l1 : Value) (l2 : Value) (l3 : Value) (v1 : Value) (σ : Hs) : ru d 183 26 [l0, l1, l2, l3] [v1, .ref 87] σ = kont (callD d 111 [.ref 87, v1] σ) d 183 29 [l0, l1, l2, l3] [] := q_invv t183_26 mo183 K8_105 mj111 rfl rfl rfl rfl (Nat.le_of_ble_eq_true rfl)
theorem t183_29 : decode (mb 183) 29 = .ok (.ireturn, 1) := by decide +kernel
theorem s183_29 (d : Nat) (l0 : Value) (l1 : Value) (l2 : Value) (l3 : Value) (x : Int32) (σ : Hs) : ru d 183 29 [l0, l1, l2, l3] [.int x] σ = some (some (.int x), σ) := q_ireti t183_29 mr183
theorem t183_30 : decode (mb 183) 30 = .ok (.aload_n 0, 1) := by decide +kernel
theorem s183_30 (d : Nat) (a0 : Nat) (l1 : Value) (l2 : Value) (l3 : Value) (σ : Hs) : ru d 183 30 [.ref a0, l1, l2, l3] [] σ = ru d 183 31 [.ref a0, l1, l2, l3] [.ref a0] σ := q_aload_n t183_30 rfl
theorem t183_31 : decode (mb 183) 31 = .ok (.getfield 9, 3) := by decide +kernel
theorem s183_31_o87 (d : Nat) (l0 : Value) (l1 : Value) (l2 : Value) (l3 : Value) (σ : Hs) : ru d 183 31 [l0, l1, l2, l3] [.ref 87] σ = ru d 183 34 [l0, l1, l2, l3] [.ref 88] σ := q_getf t183_31 mo183 F8_9 rfl rfl
theorem t183_34 : decode (mb 183) 34 = .ok (.aload_n 0, 1) := by decide +kernel
theorem s183_34 (d : Nat) (a0 : Nat) (l1 : Value) (l2 : Value) (l3 : Value) (w0 : Value) (σ : Hs) : ru d 183 34 [.ref a0, l1, l2, l3] [w0] σ = ru d 183 35 [.ref a0, l1, l2, l3] [.ref a0, w0] σ := q_aload_n t183_34 rfl
theorem t183_35 : decode (mb 183) 35 = .ok (.getfield 16, 3) := by decide +kernel
theorem s183_35_o87 (d : Nat) (l0 : Value) (l1 : Value) (l2 : Value) (l3 : Value) (w0 : Value) (σ : Hs) : ru d 183 35 [l0, l1, l2, l3] [.ref 87, w0] σ = ru d 183 38 [l0, l1, l2, l3] [.ref 90, w0] σ := q_getf t183_35 mo183 F8_16 rfl rfl
theorem t183_38 : decode (mb 183) 38 = .ok (.invokestatic 77, 3) := by decide +kernel
theorem s183_38 (d : Nat) (l0 : Value) (l1 : Value) (l2 : Value) (l3 : Value) (v0 v1 : Value) (σ : Hs) : ru d 183 38 [l0, l1, l2, l3] [v1, v0] σ = kont (callD d 115 [v0, v1] σ) d 183 41 [l0, l1, l2, l3] [] := q_invs t183_38 mo183 (by decide +kernel) K8_77 mj115 (Nat.le_of_ble_eq_true rfl) rfl rfl (Nat.le_of_ble_eq_true rfl)
theorem t183_41 : decode (mb 183) 41 = .ok (.aload_n 0, 1) := by decide +kernel
theorem s183_41 (d : Nat) (a0 : Nat) (l1 : Value) (l2 : Value) (l3 : Value) (σ : Hs) : ru d 183 41 [.ref a0, l1, l2, l3] [] σ = ru d 183 42 [.ref a0, l1, l2, l3] [.ref a0] σ := q_aload_n t183_41 rfl
theorem t183_42 : decode (mb 183) 42 = .ok (.iload_n 1, 1) := by decide +kernel
theorem s183_42 (d : Nat) (l0 : Value) (i1 : Int32) (l2 : Value) (l3 : Value) (w0 : Value) (σ : Hs) : ru d 183 42 [l0, .int i1, l2, l3] [w0] σ = ru d 183 43 [l0, .int i1, l2, l3] [.int i1, w0] σ := q_iload_n t183_42 rfl
theorem t183_43 : decode (mb 183) 43 = .ok (.invokevirtual 271, 3) := by decide +kernel
theorem s183_43_o87 (d : Nat) (l0 : Value) (l1 : Value) (l2 : Value) (l3 : Value) (v1 : Value) (σ : Hs) : ru d 183 43 [l0, l1, l2, l3] [v1, .ref 87] σ = kont (callD d 170 [.ref 87, v1] σ) d 183 46 [l0, l1, l2, l3] [] := q_invv t183_43 mo183 K8_271 mj170 rfl rfl rfl rfl (Nat.le_of_ble_eq_true rfl)
theorem t183_46 : decode (mb 183) 46 = .ok (.aload_n 0, 1) := by decide +kernel
theorem s183_46 (d : Nat) (a0 : Nat) (l1 : Value) (l2 : Value) (l3 : Value) (σ : Hs) : ru d 183 46 [.ref a0, l1, l2, l3] [] σ = ru d 183 47 [.ref a0, l1, l2, l3] [.ref a0] σ := q_aload_n t183_46 rfl
theorem t183_47 : decode (mb 183) 47 = .ok (.aload_n 0, 1) := by decide +kernel
theorem s183_47 (d : Nat) (a0 : Nat) (l1 : Value) (l2 : Value) (l3 : Value) (w0 : Value) (σ : Hs) : ru d 183 47 [.ref a0, l1, l2, l3] [w0] σ = ru d 183 48 [.ref a0, l1, l2, l3] [.ref a0, w0] σ := q_aload_n t183_47 rfl
theorem t183_48 : decode (mb 183) 48 = .ok (.getfield 9, 3) := by decide +kernel
theorem s183_48_o87 (d : Nat) (l0 : Value) (l1 : Value) (l2 : Value) (l3 : Value) (w0 : Value) (σ : Hs) : ru d 183 48 [l0, l1, l2, l3] [.ref 87, w0] σ = ru d 183 51 [l0, l1, l2, l3] [.ref 88, w0] σ := q_getf t183_48 mo183 F8_9 rfl rfl
theorem t183_51 : decode (mb 183) 51 = .ok (.sipush 224, 3) := by decide +kernel
theorem s183_51 (d : Nat) (l0 : Value) (l1 : Value) (l2 : Value) (l3 : Value) (w0 w1 : Value) (σ : Hs) : ru d 183 51 [l0, l1, l2, l3] [w0, w1] σ = ru d 183 54 [l0, l1, l2, l3] [.int 224, w0, w1] σ := q_sipush t183_51 (by decide +kernel)
theorem t183_54 : decode (mb 183) 54 = .ok (.iconst 3, 1) := by decide +kernel
theorem s183_54 (d : Nat) (l0 : Value) (l1 : Value) (l2 : Value) (l3 : Value) (w0 w1 w2 : Value) (σ : Hs) : ru d 183 54 [l0, l1, l2, l3] [w0, w1, w2] σ = ru d 183 55 [l0, l1, l2, l3] [.int 3, w0, w1, w2] σ := q_iconst t183_54 (by decide +kernel)
theorem t183_55 : decode (mb 183) 55 = .ok (.iload_n 2, 1) := by decide +kernel
theorem s183_55 (d : Nat) (l0 : Value) (l1 : Value) (i2 : Int32) (l3 : Value) (w0 w1 w2 w3 : Value) (σ : Hs) : ru d 183 55 [l0, l1, .int i2, l3] [w0, w1, w2, w3] σ = ru d 183 56 [l0, l1, .int i2, l3] [.int i2, w0, w1, w2, w3] σ := q_iload_n t183_55 rfl
theorem t183_56 : decode (mb 183) 56 = .ok (.imul, 1) := by decide +kernel
theorem s183_56 (d : Nat) (l0 : Value) (l1 : Value) (l2 : Value) (l3 : Value) (x y : Int32) (w0 w1 w2 : Value) (σ : Hs) : ru d 183 56 [l0, l1, l2, l3] [.int y, .int x, w0, w1, w2] σ = ru d 183 57 [l0, l1, l2, l3] [.int (x * y), w0, w1, w2] σ := q_imul t183_56
theorem t183_57 : decode (mb 183) 57 = .ok (.iadd, 1) := by decide +kernel
theorem s183_57 (d : Nat) (l0 : Value) (l1 : Value) (l2 : Value) (l3 : Value) (x y : Int32) (w0 w1 : Value) (σ : Hs) : ru d 183 57 [l0, l1, l2, l3] [.int y, .int x, w0, w1] σ = ru d 183 58 [l0, l1, l2, l3] [.int (x + y), w0, w1] σ := q_iadd t183_57
theorem t183_58 : decode (mb 183) 58 = .ok (.iload_n 3, 1) := by decide +kernel
theorem s183_58 (d : Nat) (l0 : Value) (l1 : Value) (l2 : Value) (i3 : Int32) (w0 w1 w2 : Value) (σ : Hs) : ru d 183 58 [l0, l1, l2, .int i3] [w0, w1, w2] σ = ru d 183 59 [l0, l1, l2, .int i3] [.int i3, w0, w1, w2] σ := q_iload_n t183_58 rfl
theorem t183_59 : decode (mb 183) 59 = .ok (.iadd, 1) := by decide +kernel
theorem s183_59 (d : Nat) (l0 : Value) (l1 : Value) (l2 : Value) (l3 : Value) (x y : Int32) (w0 w1 : Value) (σ : Hs) : ru d 183 59 [l0, l1, l2, l3] [.int y, .int x, w0, w1] σ = ru d 183 60 [l0, l1, l2, l3] [.int (x + y), w0, w1] σ := q_iadd t183_59
theorem t183_60 : decode (mb 183) 60 = .ok (.iaload, 1) := by decide +kernel
theorem s183_60_o88 (d : Nat) (l0 : Value) (l1 : Value) (l2 : Value) (l3 : Value) (i : Int32) (w0 : Value) (σ : Hs) : ru d 183 60 [l0, l1, l2, l3] [.int i, .ref 88, w0] σ = gd (vp_in i 545) (ru d 183 61 [l0, l1, l2, l3] [.int (σ 88 i.toNatClampNeg), w0] σ) := q_iald t183_60 rfl (by decide +kernel) rfl
theorem t183_61 : decode (mb 183) 61 = .ok (.invokevirtual 287, 3) := by decide +kernel
theorem s183_61_o87 (d : Nat) (l0 : Value) (l1 : Value) (l2 : Value) (l3 : Value) (v1 : Value) (σ : Hs) : ru d 183 61 [l0, l1, l2, l3] [v1, .ref 87] σ = kont (callD d 117 [.ref 87, v1] σ) d 183 64 [l0, l1, l2, l3] [] := q_invv t183_61 mo183 K8_287 mj117 rfl rfl rfl rfl (Nat.le_of_ble_eq_true rfl)
theorem t183_64 : decode (mb 183) 64 = .ok (.ireturn, 1) := by decide +kernel
theorem s183_64 (d : Nat) (l0 : Value) (l1 : Value) (l2 : Value) (l3 : Value) (x : Int32) (σ : Hs) : ru d 183 64 [l0, l1, l2, l3] [.int x] σ = some (some (.int x), σ) := q_ireti t183_64 mr183
theorem c183 (d : Nat) (x0 : Nat) (x1 : Int32) (x2 : Int32) (x3 : Int32) (σ : Hs) : callD (d + 1) 183 [.ref x0, .int x1, .int x2, .int x3] σ = ru d 183 0 [.ref x0, .int x1, .int x2, .int x3] [] σ := callD_ru ml183 rfl rfl (Nat.le_of_ble_eq_true rfl)
-- 184: Model.bothered()J
theorem t184_0 : decode (mb 184) 0 = .ok (.lconst 0, 1) := by decide +kernel
theorem s184_0 (d : Nat) (l0 : Value) (l1 : Value) (l2 : Value) (l3 : Value) (σ : Hs) : ru d 184 0 [l0, l1, l2, l3] [] σ = ru d 184 1 [l0, l1, l2, l3] [.long 0] σ := q_lconst t184_0 (by decide +kernel)
theorem t184_1 : decode (mb 184) 1 = .ok (.lstore_n 1, 1) := by decide +kernel
theorem s184_1 (d : Nat) (a0 : Nat) (l1 : Value) (l2 : Value) (l3 : Value) (x : Int64) (σ : Hs) : ru d 184 1 [.ref a0, l1, l2, l3] [.long x] σ = ru d 184 2 [.ref a0, .long x, uu, l3] [] σ := q_lstore_n t184_1 ⟨Nat.le_of_ble_eq_true rfl, rfl⟩ rfl
theorem t184_2 : decode (mb 184) 2 = .ok (.iconst 0, 1) := by decide +kernel
theorem s184_2 (d : Nat) (l0 : Value) (l1 : Value) (l2 : Value) (l3 : Value) (σ : Hs) : ru d 184 2 [l0, l1, l2, l3] [] σ = ru d 184 3 [l0, l1, l2, l3] [.int 0] σ := q_iconst t184_2 (by decide +kernel)
theorem t184_3 : decode (mb 184) 3 = .ok (.istore_n 3, 1) := by decide +kernel
theorem s184_3 (d : Nat) (l0 : Value) (l1 : Value) (l3 : Value) (x : Int32) (σ : Hs) : ru d 184 3 [l0, l1, uu, l3] [.int x] σ = ru d 184 4 [l0, l1, uu, .int x] [] σ := q_istore_n t184_3 ⟨Nat.le_of_ble_eq_true rfl, rfl⟩ rfl
theorem t184_4 : decode (mb 184) 4 = .ok (.iload_n 3, 1) := by decide +kernel
theorem s184_4 (d : Nat) (l0 : Value) (l1 : Value) (l2 : Value) (i3 : Int32) (σ : Hs) : ru d 184 4 [l0, l1, l2, .int i3] [] σ = ru d 184 5 [l0, l1, l2, .int i3] [.int i3] σ := q_iload_n t184_4 rfl
theorem t184_5 : decode (mb 184) 5 = .ok (.bipush 9, 2) := by decide +kernel
theorem s184_5 (d : Nat) (l0 : Value) (l1 : Value) (l2 : Value) (l3 : Value) (w0 : Value) (σ : Hs) : ru d 184 5 [l0, l1, l2, l3] [w0] σ = ru d 184 7 [l0, l1, l2, l3] [.int 9, w0] σ := q_bipush t184_5 (by decide +kernel)
theorem t184_7 : decode (mb 184) 7 = .ok (.if_icmp .ge 27, 3) := by decide +kernel
theorem s184_7 (d : Nat) (l0 : Value) (l1 : Value) (l2 : Value) (l3 : Value) (x y : Int32) (σ : Hs) : ru d 184 7 [l0, l1, l2, l3] [.int y, .int x] σ = if y ≤ x then ru d 184 34 [l0, l1, l2, l3] [] σ else ru d 184 10 [l0, l1, l2, l3] [] σ := q_ic_ge t184_7 (by decide +kernel)
theorem t184_10 : decode (mb 184) 10 = .ok (.lload_n 1, 1) := by decide +kernel
theorem s184_10 (d : Nat) (l0 : Value) (j1 : Int64) (l2 : Value) (l3 : Value) (σ : Hs) : ru d 184 10 [l0, .long j1, l2, l3] [] σ = ru d 184 11 [l0, .long j1, l2, l3] [.long j1] σ := q_lload_n t184_10 rfl
theorem t184_11 : decode (mb 184) 11 = .ok (.aload_n 0, 1) := by decide +kernel
theorem s184_11 (d : Nat) (a0 : Nat) (l1 : Value) (l2 : Value) (l3 : Value) (w0 : Value) (σ : Hs) : ru d 184 11 [.ref a0, l1, l2, l3] [w0] σ = ru d 184 12 [.ref a0, l1, l2, l3] [.ref a0, w0] σ := q_aload_n t184_11 rfl
theorem t184_12 : decode (mb 184) 12 = .ok (.getfield 9, 3) := by decide +kernel
theorem s184_12_o87 (d : Nat) (l0 : Value) (l1 : Value) (l2 : Value) (l3 : Value) (w0 : Value) (σ : Hs) : ru d 184 12 [l0, l1, l2, l3] [.ref 87, w0] σ = ru d 184 15 [l0, l1, l2, l3] [.ref 88, w0] σ := q_getf t184_12 mo184 F8_9 rfl rfl
theorem t184_15 : decode (mb 184) 15 = .ok (.sipush 224, 3) := by decide +kernel
theorem s184_15 (d : Nat) (l0 : Value) (l1 : Value) (l2 : Value) (l3 : Value) (w0 w1 : Value) (σ : Hs) : ru d 184 15 [l0, l1, l2, l3] [w0, w1] σ = ru d 184 18 [l0, l1, l2, l3] [.int 224, w0, w1] σ := q_sipush t184_15 (by decide +kernel)
theorem t184_18 : decode (mb 184) 18 = .ok (.iconst 3, 1) := by decide +kernel
theorem s184_18 (d : Nat) (l0 : Value) (l1 : Value) (l2 : Value) (l3 : Value) (w0 w1 w2 : Value) (σ : Hs) : ru d 184 18 [l0, l1, l2, l3] [w0, w1, w2] σ = ru d 184 19 [l0, l1, l2, l3] [.int 3, w0, w1, w2] σ := q_iconst t184_18 (by decide +kernel)
theorem t184_19 : decode (mb 184) 19 = .ok (.iload_n 3, 1) := by decide +kernel
theorem s184_19 (d : Nat) (l0 : Value) (l1 : Value) (l2 : Value) (i3 : Int32) (w0 w1 w2 w3 : Value) (σ : Hs) : ru d 184 19 [l0, l1, l2, .int i3] [w0, w1, w2, w3] σ = ru d 184 20 [l0, l1, l2, .int i3] [.int i3, w0, w1, w2, w3] σ := q_iload_n t184_19 rfl
theorem t184_20 : decode (mb 184) 20 = .ok (.imul, 1) := by decide +kernel
theorem s184_20 (d : Nat) (l0 : Value) (l1 : Value) (l2 : Value) (l3 : Value) (x y : Int32) (w0 w1 w2 : Value) (σ : Hs) : ru d 184 20 [l0, l1, l2, l3] [.int y, .int x, w0, w1, w2] σ = ru d 184 21 [l0, l1, l2, l3] [.int (x * y), w0, w1, w2] σ := q_imul t184_20
theorem t184_21 : decode (mb 184) 21 = .ok (.iadd, 1) := by decide +kernel
theorem s184_21 (d : Nat) (l0 : Value) (l1 : Value) (l2 : Value) (l3 : Value) (x y : Int32) (w0 w1 : Value) (σ : Hs) : ru d 184 21 [l0, l1, l2, l3] [.int y, .int x, w0, w1] σ = ru d 184 22 [l0, l1, l2, l3] [.int (x + y), w0, w1] σ := q_iadd t184_21
theorem t184_22 : decode (mb 184) 22 = .ok (.iconst 1, 1) := by decide +kernel
theorem s184_22 (d : Nat) (l0 : Value) (l1 : Value) (l2 : Value) (l3 : Value) (w0 w1 w2 : Value) (σ : Hs) : ru d 184 22 [l0, l1, l2, l3] [w0, w1, w2] σ = ru d 184 23 [l0, l1, l2, l3] [.int 1, w0, w1, w2] σ := q_iconst t184_22 (by decide +kernel)
theorem t184_23 : decode (mb 184) 23 = .ok (.iadd, 1) := by decide +kernel
theorem s184_23 (d : Nat) (l0 : Value) (l1 : Value) (l2 : Value) (l3 : Value) (x y : Int32) (w0 w1 : Value) (σ : Hs) : ru d 184 23 [l0, l1, l2, l3] [.int y, .int x, w0, w1] σ = ru d 184 24 [l0, l1, l2, l3] [.int (x + y), w0, w1] σ := q_iadd t184_23
theorem t184_24 : decode (mb 184) 24 = .ok (.iaload, 1) := by decide +kernel
theorem s184_24_o88 (d : Nat) (l0 : Value) (l1 : Value) (l2 : Value) (l3 : Value) (i : Int32) (w0 : Value) (σ : Hs) : ru d 184 24 [l0, l1, l2, l3] [.int i, .ref 88, w0] σ = gd (vp_in i 545) (ru d 184 25 [l0, l1, l2, l3] [.int (σ 88 i.toNatClampNeg), w0] σ) := q_iald t184_24 rfl (by decide +kernel) rfl
theorem t184_25 : decode (mb 184) 25 = .ok (.i2l, 1) := by decide +kernel
theorem s184_25 (d : Nat) (l0 : Value) (l1 : Value) (l2 : Value) (l3 : Value) (x : Int32) (w0 : Value) (σ : Hs) : ru d 184 25 [l0, l1, l2, l3] [.int x, w0] σ = ru d 184 26 [l0, l1, l2, l3] [.long x.toInt64, w0] σ := q_i2l t184_25
theorem t184_26 : decode (mb 184) 26 = .ok (.ladd, 1) := by decide +kernel
theorem s184_26 (d : Nat) (l0 : Value) (l1 : Value) (l2 : Value) (l3 : Value) (x y : Int64) (σ : Hs) : ru d 184 26 [l0, l1, l2, l3] [.long y, .long x] σ = ru d 184 27 [l0, l1, l2, l3] [.long (x + y)] σ := q_ladd t184_26
theorem t184_27 : decode (mb 184) 27 = .ok (.lstore_n 1, 1) := by decide +kernel
theorem s184_27 (d : Nat) (a0 : Nat) (l1 : Value) (l2 : Value) (l3 : Value) (x : Int64) (σ : Hs) : ru d 184 27 [.ref a0, l1, l2, l3] [.long x] σ = ru d 184 28 [.ref a0, .long x, uu, l3] [] σ := q_lstore_n t184_27 ⟨Nat.le_of_ble_eq_true rfl, rfl⟩ rfl
theorem t184_28 : decode (mb 184) 28 = .ok (.iinc 3 1, 3) := by decide +kernel
theorem s184_28 (d : Nat) (l0 : Value) (l1 : Value) (i3 : Int32) (σ : Hs) : ru d 184 28 [l0, l1, uu, .int i3] [] σ = ru d 184 31 [l0, l1, uu, .int (i3 + 1)] [] σ := q_iinc t184_28 ⟨Nat.le_of_ble_eq_true rfl, rfl⟩ rfl (by decide +kernel) rfl
theorem t184_31 : decode (mb 184) 31 = .ok (.goto (-27), 3) := by decide +kernel
theorem s184_31 (d : Nat) (l0 : Value) (l1 : Value) (l2 : Value) (l3 : Value) (σ : Hs) : ru d 184 31 [l0, l1, l2, l3] [] σ = ru d 184 4 [l0, l1, l2, l3] [] σ := q_goto t184_31 (by decide +kernel)
theorem t184_34 : decode (mb 184) 34 = .ok (.lload_n 1, 1) := by decide +kernel
theorem s184_34 (d : Nat) (l0 : Value) (j1 : Int64) (l2 : Value) (l3 : Value) (σ : Hs) : ru d 184 34 [l0, .long j1, l2, l3] [] σ = ru d 184 35 [l0, .long j1, l2, l3] [.long j1] σ := q_lload_n t184_34 rfl
theorem t184_35 : decode (mb 184) 35 = .ok (.lreturn, 1) := by decide +kernel
theorem s184_35 (d : Nat) (l0 : Value) (l1 : Value) (l2 : Value) (l3 : Value) (x : Int64) (σ : Hs) : ru d 184 35 [l0, l1, l2, l3] [.long x] σ = some (some (.long x), σ) := q_lret t184_35 mr184
theorem c184 (d : Nat) (x0 : Nat) (σ : Hs) : callD (d + 1) 184 [.ref x0] σ = ru d 184 0 [.ref x0, uu, uu, uu] [] σ := callD_ru ml184 rfl rfl (Nat.le_of_ble_eq_true rfl)
