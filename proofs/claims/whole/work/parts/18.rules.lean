-- 164: Model.more(II)I
theorem t164_0 : decode (mb 164) 0 = .ok (.ldc2_w 230, 3) := by decide +kernel
theorem s164_0 (d : Nat) (l0 : Value) (l1 : Value) (σ : Hs) : ru d 164 0 [l0, l1] [] σ = ru d 164 3 [l0, l1] [.long 1999999999] σ := q_ldc2 t164_0 mo164 L8_230
theorem t164_3 : decode (mb 164) 3 = .ok (.iload_n 0, 1) := by decide +kernel
theorem s164_3 (d : Nat) (i0 : Int32) (l1 : Value) (w0 : Value) (σ : Hs) : ru d 164 3 [.int i0, l1] [w0] σ = ru d 164 4 [.int i0, l1] [.int i0, w0] σ := q_iload_n t164_3 rfl
theorem t164_4 : decode (mb 164) 4 = .ok (.i2l, 1) := by decide +kernel
theorem s164_4 (d : Nat) (l0 : Value) (l1 : Value) (x : Int32) (w0 : Value) (σ : Hs) : ru d 164 4 [l0, l1] [.int x, w0] σ = ru d 164 5 [l0, l1] [.long x.toInt64, w0] σ := q_i2l t164_4
theorem t164_5 : decode (mb 164) 5 = .ok (.iload_n 1, 1) := by decide +kernel
theorem s164_5 (d : Nat) (l0 : Value) (i1 : Int32) (w0 w1 : Value) (σ : Hs) : ru d 164 5 [l0, .int i1] [w0, w1] σ = ru d 164 6 [l0, .int i1] [.int i1, w0, w1] σ := q_iload_n t164_5 rfl
theorem t164_6 : decode (mb 164) 6 = .ok (.i2l, 1) := by decide +kernel
theorem s164_6 (d : Nat) (l0 : Value) (l1 : Value) (x : Int32) (w0 w1 : Value) (σ : Hs) : ru d 164 6 [l0, l1] [.int x, w0, w1] σ = ru d 164 7 [l0, l1] [.long x.toInt64, w0, w1] σ := q_i2l t164_6
theorem t164_7 : decode (mb 164) 7 = .ok (.ladd, 1) := by decide +kernel
theorem s164_7 (d : Nat) (l0 : Value) (l1 : Value) (x y : Int64) (w0 : Value) (σ : Hs) : ru d 164 7 [l0, l1] [.long y, .long x, w0] σ = ru d 164 8 [l0, l1] [.long (x + y), w0] σ := q_ladd t164_7
theorem t164_8 : decode (mb 164) 8 = .ok (.invokestatic 232, 3) := by decide +kernel
theorem s164_8 (d : Nat) (l0 : Value) (l1 : Value) (x y : Int64) (σ : Hs) : ru d 164 8 [l0, l1] [.long y, .long x] σ = ru d 164 11 [l0, l1] [.long (jminL x y)] σ := q_mj t164_8 mo164 (by decide +kernel) (by decide +kernel) (by decide +kernel) (by decide +kernel) (Nat.le_of_ble_eq_true rfl)
theorem t164_11 : decode (mb 164) 11 = .ok (.l2i, 1) := by decide +kernel
theorem s164_11 (d : Nat) (l0 : Value) (l1 : Value) (x : Int64) (σ : Hs) : ru d 164 11 [l0, l1] [.long x] σ = ru d 164 12 [l0, l1] [.int x.toInt32] σ := q_l2i t164_11
theorem t164_12 : decode (mb 164) 12 = .ok (.ireturn, 1) := by decide +kernel
theorem s164_12 (d : Nat) (l0 : Value) (l1 : Value) (x : Int32) (σ : Hs) : ru d 164 12 [l0, l1] [.int x] σ = some (some (.int x), σ) := q_ireti t164_12 mr164
theorem c164 (d : Nat) (x0 : Int32) (x1 : Int32) (σ : Hs) : callD (d + 1) 164 [.int x0, .int x1] σ = ru d 164 0 [.int x0, .int x1] [] σ := callD_ru ml164 rfl rfl (Nat.le_of_ble_eq_true rfl)
-- 165: Model.warms(II)V
theorem t165_0 : decode (mb 165) 0 = .ok (.aload_n 0, 1) := by decide +kernel
theorem s165_0 (d : Nat) (a0 : Nat) (l1 : Value) (l2 : Value) (σ : Hs) : ru d 165 0 [.ref a0, l1, l2] [] σ = ru d 165 1 [.ref a0, l1, l2] [.ref a0] σ := q_aload_n t165_0 rfl
theorem t165_1 : decode (mb 165) 1 = .ok (.iload_n 1, 1) := by decide +kernel
theorem s165_1 (d : Nat) (l0 : Value) (i1 : Int32) (l2 : Value) (w0 : Value) (σ : Hs) : ru d 165 1 [l0, .int i1, l2] [w0] σ = ru d 165 2 [l0, .int i1, l2] [.int i1, w0] σ := q_iload_n t165_1 rfl
theorem t165_2 : decode (mb 165) 2 = .ok (.iconst 5, 1) := by decide +kernel
theorem s165_2 (d : Nat) (l0 : Value) (l1 : Value) (l2 : Value) (w0 w1 : Value) (σ : Hs) : ru d 165 2 [l0, l1, l2] [w0, w1] σ = ru d 165 3 [l0, l1, l2] [.int 5, w0, w1] σ := q_iconst t165_2 (by decide +kernel)
theorem t165_3 : decode (mb 165) 3 = .ok (.aload_n 0, 1) := by decide +kernel
theorem s165_3 (d : Nat) (a0 : Nat) (l1 : Value) (l2 : Value) (w0 w1 w2 : Value) (σ : Hs) : ru d 165 3 [.ref a0, l1, l2] [w0, w1, w2] σ = ru d 165 4 [.ref a0, l1, l2] [.ref a0, w0, w1, w2] σ := q_aload_n t165_3 rfl
theorem t165_4 : decode (mb 165) 4 = .ok (.iload_n 1, 1) := by decide +kernel
theorem s165_4 (d : Nat) (l0 : Value) (i1 : Int32) (l2 : Value) (w0 w1 w2 w3 : Value) (σ : Hs) : ru d 165 4 [l0, .int i1, l2] [w0, w1, w2, w3] σ = ru d 165 5 [l0, .int i1, l2] [.int i1, w0, w1, w2, w3] σ := q_iload_n t165_4 rfl
theorem t165_5 : decode (mb 165) 5 = .ok (.iconst 5, 1) := by decide +kernel
theorem s165_5 (d : Nat) (l0 : Value) (l1 : Value) (l2 : Value) (w0 w1 w2 w3 w4 : Value) (σ : Hs) : ru d 165 5 [l0, l1, l2] [w0, w1, w2, w3, w4] σ = ru d 165 6 [l0, l1, l2] [.int 5, w0, w1, w2, w3, w4] σ := q_iconst t165_5 (by decide +kernel)
theorem t165_6 : decode (mb 165) 6 = .ok (.invokevirtual 85, 3) := by decide +kernel
theorem s165_6_o87 (d : Nat) (l0 : Value) (l1 : Value) (l2 : Value) (v1 v2 : Value) (w0 : Int32) (w1 : Int32) (w2 : Nat) (σ : Hs) : ru d 165 6 [l0, l1, l2] [v2, v1, .ref 87, .int w0, .int w1, .ref w2] σ = kont (callD d 119 [.ref 87, v1, v2] σ) d 165 9 [l0, l1, l2] [.int w0, .int w1, .ref w2] := q_invv t165_6 mo165 K8_85 mj119 rfl rfl rfl rfl (Nat.le_of_ble_eq_true rfl)
theorem t165_9 : decode (mb 165) 9 = .ok (.iload_n 2, 1) := by decide +kernel
theorem s165_9 (d : Nat) (l0 : Value) (l1 : Value) (i2 : Int32) (w0 w1 w2 w3 : Value) (σ : Hs) : ru d 165 9 [l0, l1, .int i2] [w0, w1, w2, w3] σ = ru d 165 10 [l0, l1, .int i2] [.int i2, w0, w1, w2, w3] σ := q_iload_n t165_9 rfl
theorem t165_10 : decode (mb 165) 10 = .ok (.iadd, 1) := by decide +kernel
theorem s165_10 (d : Nat) (l0 : Value) (l1 : Value) (l2 : Value) (x y : Int32) (w0 w1 w2 : Value) (σ : Hs) : ru d 165 10 [l0, l1, l2] [.int y, .int x, w0, w1, w2] σ = ru d 165 11 [l0, l1, l2] [.int (x + y), w0, w1, w2] σ := q_iadd t165_10
theorem t165_11 : decode (mb 165) 11 = .ok (.iconst 0, 1) := by decide +kernel
theorem s165_11 (d : Nat) (l0 : Value) (l1 : Value) (l2 : Value) (w0 w1 w2 w3 : Value) (σ : Hs) : ru d 165 11 [l0, l1, l2] [w0, w1, w2, w3] σ = ru d 165 12 [l0, l1, l2] [.int 0, w0, w1, w2, w3] σ := q_iconst t165_11 (by decide +kernel)
theorem t165_12 : decode (mb 165) 12 = .ok (.sipush 9999, 3) := by decide +kernel
theorem s165_12 (d : Nat) (l0 : Value) (l1 : Value) (l2 : Value) (w0 w1 w2 w3 w4 : Value) (σ : Hs) : ru d 165 12 [l0, l1, l2] [w0, w1, w2, w3, w4] σ = ru d 165 15 [l0, l1, l2] [.int 9999, w0, w1, w2, w3, w4] σ := q_sipush t165_12 (by decide +kernel)
theorem t165_15 : decode (mb 165) 15 = .ok (.invokestatic 227, 3) := by decide +kernel
theorem s165_15 (d : Nat) (l0 : Value) (l1 : Value) (l2 : Value) (v0 v1 v2 : Value) (w0 : Int32) (w1 : Int32) (w2 : Nat) (σ : Hs) : ru d 165 15 [l0, l1, l2] [v2, v1, v0, .int w0, .int w1, .ref w2] σ = kont (callD d 115 [v0, v1, v2] σ) d 165 18 [l0, l1, l2] [.int w0, .int w1, .ref w2] := q_invs t165_15 mo165 (by decide +kernel) K8_227 mj115 (Nat.le_of_ble_eq_true rfl) rfl rfl (Nat.le_of_ble_eq_true rfl)
theorem t165_18 : decode (mb 165) 18 = .ok (.invokevirtual 96, 3) := by decide +kernel
theorem s165_18_o87 (d : Nat) (l0 : Value) (l1 : Value) (l2 : Value) (v1 v2 v3 : Value) (σ : Hs) : ru d 165 18 [l0, l1, l2] [v3, v2, v1, .ref 87] σ = kont (callD d 120 [.ref 87, v1, v2, v3] σ) d 165 21 [l0, l1, l2] [] := q_invv t165_18 mo165 K8_96 mj120 rfl rfl rfl rfl (Nat.le_of_ble_eq_true rfl)
theorem t165_21 : decode (mb 165) 21 = .ok (.return_, 1) := by decide +kernel
theorem s165_21 (d : Nat) (l0 : Value) (l1 : Value) (l2 : Value) (σ : Hs) : ru d 165 21 [l0, l1, l2] [] σ = some (none, σ) := q_vret t165_21 mr165
theorem c165 (d : Nat) (x0 : Nat) (x1 : Int32) (x2 : Int32) (σ : Hs) : callD (d + 1) 165 [.ref x0, .int x1, .int x2] σ = ru d 165 0 [.ref x0, .int x1, .int x2] [] σ := callD_ru ml165 rfl rfl (Nat.le_of_ble_eq_true rfl)
-- 166: Model.burns(I)Z
theorem t166_0 : decode (mb 166) 0 = .ok (.aload_n 0, 1) := by decide +kernel
theorem s166_0 (d : Nat) (a0 : Nat) (l1 : Value) (l2 : Value) (σ : Hs) : ru d 166 0 [.ref a0, l1, l2] [] σ = ru d 166 1 [.ref a0, l1, l2] [.ref a0] σ := q_aload_n t166_0 rfl
theorem t166_1 : decode (mb 166) 1 = .ok (.iload_n 1, 1) := by decide +kernel
theorem s166_1 (d : Nat) (l0 : Value) (i1 : Int32) (l2 : Value) (w0 : Value) (σ : Hs) : ru d 166 1 [l0, .int i1, l2] [w0] σ = ru d 166 2 [l0, .int i1, l2] [.int i1, w0] σ := q_iload_n t166_1 rfl
theorem t166_2 : decode (mb 166) 2 = .ok (.invokevirtual 235, 3) := by decide +kernel
theorem s166_2_o87 (d : Nat) (l0 : Value) (l1 : Value) (l2 : Value) (v1 : Value) (σ : Hs) : ru d 166 2 [l0, l1, l2] [v1, .ref 87] σ = kont (callD d 163 [.ref 87, v1] σ) d 166 5 [l0, l1, l2] [] := q_invv t166_2 mo166 K8_235 mj163 rfl rfl rfl rfl (Nat.le_of_ble_eq_true rfl)
theorem t166_5 : decode (mb 166) 5 = .ok (.istore_n 2, 1) := by decide +kernel
theorem s166_5 (d : Nat) (l0 : Value) (i1 : Int32) (l2 : Value) (x : Int32) (σ : Hs) : ru d 166 5 [l0, .int i1, l2] [.int x] σ = ru d 166 6 [l0, .int i1, .int x] [] σ := q_istore_n t166_5 ⟨Nat.le_of_ble_eq_true rfl, rfl⟩ rfl
theorem t166_6 : decode (mb 166) 6 = .ok (.aload_n 0, 1) := by decide +kernel
theorem s166_6 (d : Nat) (a0 : Nat) (l1 : Value) (l2 : Value) (σ : Hs) : ru d 166 6 [.ref a0, l1, l2] [] σ = ru d 166 7 [.ref a0, l1, l2] [.ref a0] σ := q_aload_n t166_6 rfl
theorem t166_7 : decode (mb 166) 7 = .ok (.iload_n 1, 1) := by decide +kernel
theorem s166_7 (d : Nat) (l0 : Value) (i1 : Int32) (l2 : Value) (w0 : Value) (σ : Hs) : ru d 166 7 [l0, .int i1, l2] [w0] σ = ru d 166 8 [l0, .int i1, l2] [.int i1, w0] σ := q_iload_n t166_7 rfl
theorem t166_8 : decode (mb 166) 8 = .ok (.iconst 2, 1) := by decide +kernel
theorem s166_8 (d : Nat) (l0 : Value) (l1 : Value) (l2 : Value) (w0 w1 : Value) (σ : Hs) : ru d 166 8 [l0, l1, l2] [w0, w1] σ = ru d 166 9 [l0, l1, l2] [.int 2, w0, w1] σ := q_iconst t166_8 (by decide +kernel)
theorem t166_9 : decode (mb 166) 9 = .ok (.aload_n 0, 1) := by decide +kernel
theorem s166_9 (d : Nat) (a0 : Nat) (l1 : Value) (l2 : Value) (w0 w1 w2 : Value) (σ : Hs) : ru d 166 9 [.ref a0, l1, l2] [w0, w1, w2] σ = ru d 166 10 [.ref a0, l1, l2] [.ref a0, w0, w1, w2] σ := q_aload_n t166_9 rfl
theorem t166_10 : decode (mb 166) 10 = .ok (.iload_n 1, 1) := by decide +kernel
theorem s166_10 (d : Nat) (l0 : Value) (i1 : Int32) (l2 : Value) (w0 w1 w2 w3 : Value) (σ : Hs) : ru d 166 10 [l0, .int i1, l2] [w0, w1, w2, w3] σ = ru d 166 11 [l0, .int i1, l2] [.int i1, w0, w1, w2, w3] σ := q_iload_n t166_10 rfl
theorem t166_11 : decode (mb 166) 11 = .ok (.iconst 2, 1) := by decide +kernel
theorem s166_11 (d : Nat) (l0 : Value) (l1 : Value) (l2 : Value) (w0 w1 w2 w3 w4 : Value) (σ : Hs) : ru d 166 11 [l0, l1, l2] [w0, w1, w2, w3, w4] σ = ru d 166 12 [l0, l1, l2] [.int 2, w0, w1, w2, w3, w4] σ := q_iconst t166_11 (by decide +kernel)
theorem t166_12 : decode (mb 166) 12 = .ok (.invokevirtual 85, 3) := by decide +kernel
theorem s166_12_o87 (d : Nat) (l0 : Value) (l1 : Value) (l2 : Value) (v1 v2 : Value) (w0 : Int32) (w1 : Int32) (w2 : Nat) (σ : Hs) : ru d 166 12 [l0, l1, l2] [v2, v1, .ref 87, .int w0, .int w1, .ref w2] σ = kont (callD d 119 [.ref 87, v1, v2] σ) d 166 15 [l0, l1, l2] [.int w0, .int w1, .ref w2] := q_invv t166_12 mo166 K8_85 mj119 rfl rfl rfl rfl (Nat.le_of_ble_eq_true rfl)
theorem t166_15 : decode (mb 166) 15 = .ok (.iload_n 2, 1) := by decide +kernel
theorem s166_15 (d : Nat) (l0 : Value) (l1 : Value) (i2 : Int32) (w0 w1 w2 w3 : Value) (σ : Hs) : ru d 166 15 [l0, l1, .int i2] [w0, w1, w2, w3] σ = ru d 166 16 [l0, l1, .int i2] [.int i2, w0, w1, w2, w3] σ := q_iload_n t166_15 rfl
theorem t166_16 : decode (mb 166) 16 = .ok (.isub, 1) := by decide +kernel
theorem s166_16 (d : Nat) (l0 : Value) (l1 : Value) (l2 : Value) (x y : Int32) (w0 w1 w2 : Value) (σ : Hs) : ru d 166 16 [l0, l1, l2] [.int y, .int x, w0, w1, w2] σ = ru d 166 17 [l0, l1, l2] [.int (x - y), w0, w1, w2] σ := q_isub t166_16
theorem t166_17 : decode (mb 166) 17 = .ok (.invokevirtual 96, 3) := by decide +kernel
theorem s166_17_o87 (d : Nat) (l0 : Value) (l1 : Value) (l2 : Value) (v1 v2 v3 : Value) (σ : Hs) : ru d 166 17 [l0, l1, l2] [v3, v2, v1, .ref 87] σ = kont (callD d 120 [.ref 87, v1, v2, v3] σ) d 166 20 [l0, l1, l2] [] := q_invv t166_17 mo166 K8_96 mj120 rfl rfl rfl rfl (Nat.le_of_ble_eq_true rfl)
theorem t166_20 : decode (mb 166) 20 = .ok (.aload_n 0, 1) := by decide +kernel
theorem s166_20 (d : Nat) (a0 : Nat) (l1 : Value) (l2 : Value) (σ : Hs) : ru d 166 20 [.ref a0, l1, l2] [] σ = ru d 166 21 [.ref a0, l1, l2] [.ref a0] σ := q_aload_n t166_20 rfl
theorem t166_21 : decode (mb 166) 21 = .ok (.iload_n 1, 1) := by decide +kernel
theorem s166_21 (d : Nat) (l0 : Value) (i1 : Int32) (l2 : Value) (w0 : Value) (σ : Hs) : ru d 166 21 [l0, .int i1, l2] [w0] σ = ru d 166 22 [l0, .int i1, l2] [.int i1, w0] σ := q_iload_n t166_21 rfl
theorem t166_22 : decode (mb 166) 22 = .ok (.iload_n 2, 1) := by decide +kernel
theorem s166_22 (d : Nat) (l0 : Value) (l1 : Value) (i2 : Int32) (w0 w1 : Value) (σ : Hs) : ru d 166 22 [l0, l1, .int i2] [w0, w1] σ = ru d 166 23 [l0, l1, .int i2] [.int i2, w0, w1] σ := q_iload_n t166_22 rfl
theorem t166_23 : decode (mb 166) 23 = .ok (.aload_n 0, 1) := by decide +kernel
theorem s166_23 (d : Nat) (a0 : Nat) (l1 : Value) (l2 : Value) (w0 w1 w2 : Value) (σ : Hs) : ru d 166 23 [.ref a0, l1, l2] [w0, w1, w2] σ = ru d 166 24 [.ref a0, l1, l2] [.ref a0, w0, w1, w2] σ := q_aload_n t166_23 rfl
theorem t166_24 : decode (mb 166) 24 = .ok (.getfield 22, 3) := by decide +kernel
theorem s166_24_o87 (d : Nat) (l0 : Value) (l1 : Value) (l2 : Value) (w0 w1 w2 : Value) (σ : Hs) : ru d 166 24 [l0, l1, l2] [.ref 87, w0, w1, w2] σ = ru d 166 27 [l0, l1, l2] [.ref 92, w0, w1, w2] σ := q_getf t166_24 mo166 F8_22 rfl rfl
theorem t166_27 : decode (mb 166) 27 = .ok (.aload_n 0, 1) := by decide +kernel
theorem s166_27 (d : Nat) (a0 : Nat) (l1 : Value) (l2 : Value) (w0 w1 w2 w3 : Value) (σ : Hs) : ru d 166 27 [.ref a0, l1, l2] [w0, w1, w2, w3] σ = ru d 166 28 [.ref a0, l1, l2] [.ref a0, w0, w1, w2, w3] σ := q_aload_n t166_27 rfl
theorem t166_28 : decode (mb 166) 28 = .ok (.iload_n 1, 1) := by decide +kernel
theorem s166_28 (d : Nat) (l0 : Value) (i1 : Int32) (l2 : Value) (w0 w1 w2 w3 w4 : Value) (σ : Hs) : ru d 166 28 [l0, .int i1, l2] [w0, w1, w2, w3, w4] σ = ru d 166 29 [l0, .int i1, l2] [.int i1, w0, w1, w2, w3, w4] σ := q_iload_n t166_28 rfl
theorem t166_29 : decode (mb 166) 29 = .ok (.iconst 1, 1) := by decide +kernel
theorem s166_29 (d : Nat) (l0 : Value) (l1 : Value) (l2 : Value) (w0 w1 w2 w3 w4 w5 : Value) (σ : Hs) : ru d 166 29 [l0, l1, l2] [w0, w1, w2, w3, w4, w5] σ = ru d 166 30 [l0, l1, l2] [.int 1, w0, w1, w2, w3, w4, w5] σ := q_iconst t166_29 (by decide +kernel)
theorem t166_30 : decode (mb 166) 30 = .ok (.invokevirtual 85, 3) := by decide +kernel
theorem s166_30_o87 (d : Nat) (l0 : Value) (l1 : Value) (l2 : Value) (v1 v2 : Value) (w0 : Nat) (w1 : Int32) (w2 : Int32) (w3 : Nat) (σ : Hs) : ru d 166 30 [l0, l1, l2] [v2, v1, .ref 87, .ref w0, .int w1, .int w2, .ref w3] σ = kont (callD d 119 [.ref 87, v1, v2] σ) d 166 33 [l0, l1, l2] [.ref w0, .int w1, .int w2, .ref w3] := q_invv t166_30 mo166 K8_85 mj119 rfl rfl rfl rfl (Nat.le_of_ble_eq_true rfl)
theorem t166_33 : decode (mb 166) 33 = .ok (.iaload, 1) := by decide +kernel
theorem s166_33_o92 (d : Nat) (l0 : Value) (l1 : Value) (l2 : Value) (i : Int32) (w0 w1 w2 : Value) (σ : Hs) : ru d 166 33 [l0, l1, l2] [.int i, .ref 92, w0, w1, w2] σ = gd (vp_in i 7) (ru d 166 34 [l0, l1, l2] [.int (σ 92 i.toNatClampNeg), w0, w1, w2] σ) := q_iald t166_33 rfl (by decide +kernel) rfl
theorem t166_34 : decode (mb 166) 34 = .ok (.imul, 1) := by decide +kernel
theorem s166_34 (d : Nat) (l0 : Value) (l1 : Value) (l2 : Value) (x y : Int32) (w0 w1 : Value) (σ : Hs) : ru d 166 34 [l0, l1, l2] [.int y, .int x, w0, w1] σ = ru d 166 35 [l0, l1, l2] [.int (x * y), w0, w1] σ := q_imul t166_34
theorem t166_35 : decode (mb 166) 35 = .ok (.invokevirtual 238, 3) := by decide +kernel
theorem s166_35_o87 (d : Nat) (l0 : Value) (l1 : Value) (l2 : Value) (v1 v2 : Value) (σ : Hs) : ru d 166 35 [l0, l1, l2] [v2, v1, .ref 87] σ = kont (callD d 165 [.ref 87, v1, v2] σ) d 166 38 [l0, l1, l2] [] := q_invv t166_35 mo166 K8_238 mj165 rfl rfl rfl rfl (Nat.le_of_ble_eq_true rfl)
theorem t166_38 : decode (mb 166) 38 = .ok (.aload_n 0, 1) := by decide +kernel
theorem s166_38 (d : Nat) (a0 : Nat) (l1 : Value) (l2 : Value) (σ : Hs) : ru d 166 38 [.ref a0, l1, l2] [] σ = ru d 166 39 [.ref a0, l1, l2] [.ref a0] σ := q_aload_n t166_38 rfl
theorem t166_39 : decode (mb 166) 39 = .ok (.dup, 1) := by decide +kernel
theorem s166_39 (d : Nat) (l0 : Value) (l1 : Value) (l2 : Value) (x : Nat) (σ : Hs) : ru d 166 39 [l0, l1, l2] [.ref x] σ = ru d 166 40 [l0, l1, l2] [.ref x, .ref x] σ := q_dup t166_39 rfl
theorem t166_40 : decode (mb 166) 40 = .ok (.getfield 241, 3) := by decide +kernel
theorem s166_40_o87 (d : Nat) (l0 : Value) (l1 : Value) (l2 : Value) (w0 : Value) (σ : Hs) : ru d 166 40 [l0, l1, l2] [.ref 87, w0] σ = ru d 166 43 [l0, l1, l2] [.int (σ 87 17), w0] σ := q_getf t166_40 mo166 F8_241 rfl rfl
theorem t166_43 : decode (mb 166) 43 = .ok (.iload_n 2, 1) := by decide +kernel
theorem s166_43 (d : Nat) (l0 : Value) (l1 : Value) (i2 : Int32) (w0 w1 : Value) (σ : Hs) : ru d 166 43 [l0, l1, .int i2] [w0, w1] σ = ru d 166 44 [l0, l1, .int i2] [.int i2, w0, w1] σ := q_iload_n t166_43 rfl
theorem t166_44 : decode (mb 166) 44 = .ok (.aload_n 0, 1) := by decide +kernel
theorem s166_44 (d : Nat) (a0 : Nat) (l1 : Value) (l2 : Value) (w0 w1 w2 : Value) (σ : Hs) : ru d 166 44 [.ref a0, l1, l2] [w0, w1, w2] σ = ru d 166 45 [.ref a0, l1, l2] [.ref a0, w0, w1, w2] σ := q_aload_n t166_44 rfl
theorem t166_45 : decode (mb 166) 45 = .ok (.iload_n 1, 1) := by decide +kernel
theorem s166_45 (d : Nat) (l0 : Value) (i1 : Int32) (l2 : Value) (w0 w1 w2 w3 : Value) (σ : Hs) : ru d 166 45 [l0, .int i1, l2] [w0, w1, w2, w3] σ = ru d 166 46 [l0, .int i1, l2] [.int i1, w0, w1, w2, w3] σ := q_iload_n t166_45 rfl
theorem t166_46 : decode (mb 166) 46 = .ok (.iconst 3, 1) := by decide +kernel
theorem s166_46 (d : Nat) (l0 : Value) (l1 : Value) (l2 : Value) (w0 w1 w2 w3 w4 : Value) (σ : Hs) : ru d 166 46 [l0, l1, l2] [w0, w1, w2, w3, w4] σ = ru d 166 47 [l0, l1, l2] [.int 3, w0, w1, w2, w3, w4] σ := q_iconst t166_46 (by decide +kernel)
theorem t166_47 : decode (mb 166) 47 = .ok (.invokevirtual 85, 3) := by decide +kernel
theorem s166_47_o87 (d : Nat) (l0 : Value) (l1 : Value) (l2 : Value) (v1 v2 : Value) (w0 : Int32) (w1 : Int32) (w2 : Nat) (σ : Hs) : ru d 166 47 [l0, l1, l2] [v2, v1, .ref 87, .int w0, .int w1, .ref w2] σ = kont (callD d 119 [.ref 87, v1, v2] σ) d 166 50 [l0, l1, l2] [.int w0, .int w1, .ref w2] := q_invv t166_47 mo166 K8_85 mj119 rfl rfl rfl rfl (Nat.le_of_ble_eq_true rfl)
theorem t166_50 : decode (mb 166) 50 = .ok (.bipush 10, 2) := by decide +kernel
theorem s166_50 (d : Nat) (l0 : Value) (l1 : Value) (l2 : Value) (w0 w1 w2 w3 : Value) (σ : Hs) : ru d 166 50 [l0, l1, l2] [w0, w1, w2, w3] σ = ru d 166 52 [l0, l1, l2] [.int 10, w0, w1, w2, w3] σ := q_bipush t166_50 (by decide +kernel)
theorem t166_52 : decode (mb 166) 52 = .ok (.iadd, 1) := by decide +kernel
theorem s166_52 (d : Nat) (l0 : Value) (l1 : Value) (l2 : Value) (x y : Int32) (w0 w1 w2 : Value) (σ : Hs) : ru d 166 52 [l0, l1, l2] [.int y, .int x, w0, w1, w2] σ = ru d 166 53 [l0, l1, l2] [.int (x + y), w0, w1, w2] σ := q_iadd t166_52
theorem t166_53 : decode (mb 166) 53 = .ok (.imul, 1) := by decide +kernel
theorem s166_53 (d : Nat) (l0 : Value) (l1 : Value) (l2 : Value) (x y : Int32) (w0 w1 : Value) (σ : Hs) : ru d 166 53 [l0, l1, l2] [.int y, .int x, w0, w1] σ = ru d 166 54 [l0, l1, l2] [.int (x * y), w0, w1] σ := q_imul t166_53
theorem t166_54 : decode (mb 166) 54 = .ok (.bipush 20, 2) := by decide +kernel
theorem s166_54 (d : Nat) (l0 : Value) (l1 : Value) (l2 : Value) (w0 w1 w2 : Value) (σ : Hs) : ru d 166 54 [l0, l1, l2] [w0, w1, w2] σ = ru d 166 56 [l0, l1, l2] [.int 20, w0, w1, w2] σ := q_bipush t166_54 (by decide +kernel)
theorem t166_56 : decode (mb 166) 56 = .ok (.idiv, 1) := by decide +kernel
theorem s166_56 (d : Nat) (l0 : Value) (l1 : Value) (l2 : Value) (x y : Int32) (w0 w1 : Value) (σ : Hs) : ru d 166 56 [l0, l1, l2] [.int y, .int x, w0, w1] σ = gd (¬ y = 0) (ru d 166 57 [l0, l1, l2] [.int (x / y), w0, w1] σ) := q_idiv t166_56
theorem t166_57 : decode (mb 166) 57 = .ok (.iadd, 1) := by decide +kernel
theorem s166_57 (d : Nat) (l0 : Value) (l1 : Value) (l2 : Value) (x y : Int32) (w0 : Value) (σ : Hs) : ru d 166 57 [l0, l1, l2] [.int y, .int x, w0] σ = ru d 166 58 [l0, l1, l2] [.int (x + y), w0] σ := q_iadd t166_57
theorem t166_58 : decode (mb 166) 58 = .ok (.putfield 241, 3) := by decide +kernel
theorem s166_58_o87 (d : Nat) (l0 : Value) (l1 : Value) (l2 : Value) (x : Int32) (σ : Hs) : ru d 166 58 [l0, l1, l2] [.int x, .ref 87] σ = ru d 166 61 [l0, l1, l2] [] (up2 σ 87 17 x) := q_puti t166_58 mo166 F8_241 (by decide +kernel) rfl rfl
theorem t166_61 : decode (mb 166) 61 = .ok (.aload_n 0, 1) := by decide +kernel
theorem s166_61 (d : Nat) (a0 : Nat) (l1 : Value) (l2 : Value) (σ : Hs) : ru d 166 61 [.ref a0, l1, l2] [] σ = ru d 166 62 [.ref a0, l1, l2] [.ref a0] σ := q_aload_n t166_61 rfl
theorem t166_62 : decode (mb 166) 62 = .ok (.getfield 9, 3) := by decide +kernel
theorem s166_62_o87 (d : Nat) (l0 : Value) (l1 : Value) (l2 : Value) (σ : Hs) : ru d 166 62 [l0, l1, l2] [.ref 87] σ = ru d 166 65 [l0, l1, l2] [.ref 88] σ := q_getf t166_62 mo166 F8_9 rfl rfl
theorem t166_65 : decode (mb 166) 65 = .ok (.bipush 11, 2) := by decide +kernel
theorem s166_65 (d : Nat) (l0 : Value) (l1 : Value) (l2 : Value) (w0 : Value) (σ : Hs) : ru d 166 65 [l0, l1, l2] [w0] σ = ru d 166 67 [l0, l1, l2] [.int 11, w0] σ := q_bipush t166_65 (by decide +kernel)
theorem t166_67 : decode (mb 166) 67 = .ok (.aload_n 0, 1) := by decide +kernel
theorem s166_67 (d : Nat) (a0 : Nat) (l1 : Value) (l2 : Value) (w0 w1 : Value) (σ : Hs) : ru d 166 67 [.ref a0, l1, l2] [w0, w1] σ = ru d 166 68 [.ref a0, l1, l2] [.ref a0, w0, w1] σ := q_aload_n t166_67 rfl
theorem t166_68 : decode (mb 166) 68 = .ok (.getfield 9, 3) := by decide +kernel
theorem s166_68_o87 (d : Nat) (l0 : Value) (l1 : Value) (l2 : Value) (w0 w1 : Value) (σ : Hs) : ru d 166 68 [l0, l1, l2] [.ref 87, w0, w1] σ = ru d 166 71 [l0, l1, l2] [.ref 88, w0, w1] σ := q_getf t166_68 mo166 F8_9 rfl rfl
theorem t166_71 : decode (mb 166) 71 = .ok (.bipush 11, 2) := by decide +kernel
theorem s166_71 (d : Nat) (l0 : Value) (l1 : Value) (l2 : Value) (w0 w1 w2 : Value) (σ : Hs) : ru d 166 71 [l0, l1, l2] [w0, w1, w2] σ = ru d 166 73 [l0, l1, l2] [.int 11, w0, w1, w2] σ := q_bipush t166_71 (by decide +kernel)
theorem t166_73 : decode (mb 166) 73 = .ok (.iaload, 1) := by decide +kernel
theorem s166_73_o88 (d : Nat) (l0 : Value) (l1 : Value) (l2 : Value) (i : Int32) (w0 w1 : Value) (σ : Hs) : ru d 166 73 [l0, l1, l2] [.int i, .ref 88, w0, w1] σ = gd (vp_in i 545) (ru d 166 74 [l0, l1, l2] [.int (σ 88 i.toNatClampNeg), w0, w1] σ) := q_iald t166_73 rfl (by decide +kernel) rfl
theorem t166_74 : decode (mb 166) 74 = .ok (.iload_n 2, 1) := by decide +kernel
theorem s166_74 (d : Nat) (l0 : Value) (l1 : Value) (i2 : Int32) (w0 w1 w2 : Value) (σ : Hs) : ru d 166 74 [l0, l1, .int i2] [w0, w1, w2] σ = ru d 166 75 [l0, l1, .int i2] [.int i2, w0, w1, w2] σ := q_iload_n t166_74 rfl
theorem t166_75 : decode (mb 166) 75 = .ok (.invokestatic 244, 3) := by decide +kernel
theorem s166_75 (d : Nat) (l0 : Value) (l1 : Value) (l2 : Value) (v0 v1 : Value) (w0 : Int32) (w1 : Nat) (σ : Hs) : ru d 166 75 [l0, l1, l2] [v1, v0, .int w0, .ref w1] σ = kont (callD d 164 [v0, v1] σ) d 166 78 [l0, l1, l2] [.int w0, .ref w1] := q_invs t166_75 mo166 (by decide +kernel) K8_244 mj164 (Nat.le_of_ble_eq_true rfl) rfl rfl (Nat.le_of_ble_eq_true rfl)
theorem t166_78 : decode (mb 166) 78 = .ok (.iastore, 1) := by decide +kernel
theorem s166_78_o88 (d : Nat) (l0 : Value) (l1 : Value) (l2 : Value) (i x : Int32) (σ : Hs) : ru d 166 78 [l0, l1, l2] [.int x, .int i, .ref 88] σ = gd (vp_in i 545) (ru d 166 79 [l0, l1, l2] [] (up2 σ 88 i.toNatClampNeg x)) := q_iast t166_78 (by decide +kernel) rfl rfl
theorem t166_79 : decode (mb 166) 79 = .ok (.aload_n 0, 1) := by decide +kernel
theorem s166_79 (d : Nat) (a0 : Nat) (l1 : Value) (l2 : Value) (σ : Hs) : ru d 166 79 [.ref a0, l1, l2] [] σ = ru d 166 80 [.ref a0, l1, l2] [.ref a0] σ := q_aload_n t166_79 rfl
theorem t166_80 : decode (mb 166) 80 = .ok (.iload_n 1, 1) := by decide +kernel
theorem s166_80 (d : Nat) (l0 : Value) (i1 : Int32) (l2 : Value) (w0 : Value) (σ : Hs) : ru d 166 80 [l0, .int i1, l2] [w0] σ = ru d 166 81 [l0, .int i1, l2] [.int i1, w0] σ := q_iload_n t166_80 rfl
theorem t166_81 : decode (mb 166) 81 = .ok (.iconst 2, 1) := by decide +kernel
theorem s166_81 (d : Nat) (l0 : Value) (l1 : Value) (l2 : Value) (w0 w1 : Value) (σ : Hs) : ru d 166 81 [l0, l1, l2] [w0, w1] σ = ru d 166 82 [l0, l1, l2] [.int 2, w0, w1] σ := q_iconst t166_81 (by decide +kernel)
theorem t166_82 : decode (mb 166) 82 = .ok (.invokevirtual 85, 3) := by decide +kernel
theorem s166_82_o87 (d : Nat) (l0 : Value) (l1 : Value) (l2 : Value) (v1 v2 : Value) (σ : Hs) : ru d 166 82 [l0, l1, l2] [v2, v1, .ref 87] σ = kont (callD d 119 [.ref 87, v1, v2] σ) d 166 85 [l0, l1, l2] [] := q_invv t166_82 mo166 K8_85 mj119 rfl rfl rfl rfl (Nat.le_of_ble_eq_true rfl)
theorem t166_85 : decode (mb 166) 85 = .ok (.ifCond .le 5, 3) := by decide +kernel
theorem s166_85 (d : Nat) (l0 : Value) (l1 : Value) (l2 : Value) (x : Int32) (σ : Hs) : ru d 166 85 [l0, l1, l2] [.int x] σ = if x ≤ 0 then ru d 166 90 [l0, l1, l2] [] σ else ru d 166 88 [l0, l1, l2] [] σ := q_if_le t166_85 (by decide +kernel)
theorem t166_88 : decode (mb 166) 88 = .ok (.iconst 1, 1) := by decide +kernel
theorem s166_88 (d : Nat) (l0 : Value) (l1 : Value) (l2 : Value) (σ : Hs) : ru d 166 88 [l0, l1, l2] [] σ = ru d 166 89 [l0, l1, l2] [.int 1] σ := q_iconst t166_88 (by decide +kernel)
theorem t166_89 : decode (mb 166) 89 = .ok (.ireturn, 1) := by decide +kernel
theorem s166_89 (d : Nat) (l0 : Value) (l1 : Value) (l2 : Value) (x : Int32) (hx : isB x) (σ : Hs) : ru d 166 89 [l0, l1, l2] [.int x] σ = some (some (.int x), σ) := q_iretz t166_89 mr166 hx
theorem t166_90 : decode (mb 166) 90 = .ok (.aload_n 0, 1) := by decide +kernel
theorem s166_90 (d : Nat) (a0 : Nat) (l1 : Value) (l2 : Value) (σ : Hs) : ru d 166 90 [.ref a0, l1, l2] [] σ = ru d 166 91 [.ref a0, l1, l2] [.ref a0] σ := q_aload_n t166_90 rfl
theorem t166_91 : decode (mb 166) 91 = .ok (.getfield 9, 3) := by decide +kernel
theorem s166_91_o87 (d : Nat) (l0 : Value) (l1 : Value) (l2 : Value) (σ : Hs) : ru d 166 91 [l0, l1, l2] [.ref 87] σ = ru d 166 94 [l0, l1, l2] [.ref 88] σ := q_getf t166_91 mo166 F8_9 rfl rfl
theorem t166_94 : decode (mb 166) 94 = .ok (.bipush 10, 2) := by decide +kernel
theorem s166_94 (d : Nat) (l0 : Value) (l1 : Value) (l2 : Value) (w0 : Value) (σ : Hs) : ru d 166 94 [l0, l1, l2] [w0] σ = ru d 166 96 [l0, l1, l2] [.int 10, w0] σ := q_bipush t166_94 (by decide +kernel)
theorem t166_96 : decode (mb 166) 96 = .ok (.dup2, 1) := by decide +kernel
theorem s166_96 (d : Nat) (l0 : Value) (l1 : Value) (l2 : Value) (x0 : Int32) (x1 : Nat) (σ : Hs) : ru d 166 96 [l0, l1, l2] [.int x0, .ref x1] σ = ru d 166 97 [l0, l1, l2] [.int x0, .ref x1, .int x0, .ref x1] σ := q_dup2 t166_96 rfl rfl
theorem t166_97 : decode (mb 166) 97 = .ok (.iaload, 1) := by decide +kernel
theorem s166_97_o88 (d : Nat) (l0 : Value) (l1 : Value) (l2 : Value) (i : Int32) (w0 w1 : Value) (σ : Hs) : ru d 166 97 [l0, l1, l2] [.int i, .ref 88, w0, w1] σ = gd (vp_in i 545) (ru d 166 98 [l0, l1, l2] [.int (σ 88 i.toNatClampNeg), w0, w1] σ) := q_iald t166_97 rfl (by decide +kernel) rfl
theorem t166_98 : decode (mb 166) 98 = .ok (.iconst 1, 1) := by decide +kernel
theorem s166_98 (d : Nat) (l0 : Value) (l1 : Value) (l2 : Value) (w0 w1 w2 : Value) (σ : Hs) : ru d 166 98 [l0, l1, l2] [w0, w1, w2] σ = ru d 166 99 [l0, l1, l2] [.int 1, w0, w1, w2] σ := q_iconst t166_98 (by decide +kernel)
theorem t166_99 : decode (mb 166) 99 = .ok (.iadd, 1) := by decide +kernel
theorem s166_99 (d : Nat) (l0 : Value) (l1 : Value) (l2 : Value) (x y : Int32) (w0 w1 : Value) (σ : Hs) : ru d 166 99 [l0, l1, l2] [.int y, .int x, w0, w1] σ = ru d 166 100 [l0, l1, l2] [.int (x + y), w0, w1] σ := q_iadd t166_99
theorem t166_100 : decode (mb 166) 100 = .ok (.iastore, 1) := by decide +kernel
theorem s166_100_o88 (d : Nat) (l0 : Value) (l1 : Value) (l2 : Value) (i x : Int32) (σ : Hs) : ru d 166 100 [l0, l1, l2] [.int x, .int i, .ref 88] σ = gd (vp_in i 545) (ru d 166 101 [l0, l1, l2] [] (up2 σ 88 i.toNatClampNeg x)) := q_iast t166_100 (by decide +kernel) rfl rfl
theorem t166_101 : decode (mb 166) 101 = .ok (.aload_n 0, 1) := by decide +kernel
theorem s166_101 (d : Nat) (a0 : Nat) (l1 : Value) (l2 : Value) (σ : Hs) : ru d 166 101 [.ref a0, l1, l2] [] σ = ru d 166 102 [.ref a0, l1, l2] [.ref a0] σ := q_aload_n t166_101 rfl
theorem t166_102 : decode (mb 166) 102 = .ok (.iload_n 1, 1) := by decide +kernel
theorem s166_102 (d : Nat) (l0 : Value) (i1 : Int32) (l2 : Value) (w0 : Value) (σ : Hs) : ru d 166 102 [l0, .int i1, l2] [w0] σ = ru d 166 103 [l0, .int i1, l2] [.int i1, w0] σ := q_iload_n t166_102 rfl
theorem t166_103 : decode (mb 166) 103 = .ok (.invokevirtual 117, 3) := by decide +kernel
theorem s166_103_o87 (d : Nat) (l0 : Value) (l1 : Value) (l2 : Value) (v1 : Value) (σ : Hs) : ru d 166 103 [l0, l1, l2] [v1, .ref 87] σ = kont (callD d 128 [.ref 87, v1] σ) d 166 106 [l0, l1, l2] [] := q_invv t166_103 mo166 K8_117 mj128 rfl rfl rfl rfl (Nat.le_of_ble_eq_true rfl)
theorem t166_106 : decode (mb 166) 106 = .ok (.iconst 0, 1) := by decide +kernel
theorem s166_106 (d : Nat) (l0 : Value) (l1 : Value) (l2 : Value) (σ : Hs) : ru d 166 106 [l0, l1, l2] [] σ = ru d 166 107 [l0, l1, l2] [.int 0] σ := q_iconst t166_106 (by decide +kernel)
theorem t166_107 : decode (mb 166) 107 = .ok (.ireturn, 1) := by decide +kernel
theorem s166_107 (d : Nat) (l0 : Value) (l1 : Value) (l2 : Value) (x : Int32) (hx : isB x) (σ : Hs) : ru d 166 107 [l0, l1, l2] [.int x] σ = some (some (.int x), σ) := q_iretz t166_107 mr166 hx
theorem c166 (d : Nat) (x0 : Nat) (x1 : Int32) (σ : Hs) : callD (d + 1) 166 [.ref x0, .int x1] σ = ru d 166 0 [.ref x0, .int x1, uu] [] σ := callD_ru ml166 rfl rfl (Nat.le_of_ble_eq_true rfl)
-- 167: Model.glows(I)V
theorem t167_0 : decode (mb 167) 0 = .ok (.iconst 0, 1) := by decide +kernel
theorem s167_0 (d : Nat) (l0 : Value) (l1 : Value) (l2 : Value) (l3 : Value) (l4 : Value) (σ : Hs) : ru d 167 0 [l0, l1, l2, l3, l4] [] σ = ru d 167 1 [l0, l1, l2, l3, l4] [.int 0] σ := q_iconst t167_0 (by decide +kernel)
theorem t167_1 : decode (mb 167) 1 = .ok (.istore_n 2, 1) := by decide +kernel
theorem s167_1 (d : Nat) (l0 : Value) (i1 : Int32) (l2 : Value) (l3 : Value) (l4 : Value) (x : Int32) (σ : Hs) : ru d 167 1 [l0, .int i1, l2, l3, l4] [.int x] σ = ru d 167 2 [l0, .int i1, .int x, l3, l4] [] σ := q_istore_n t167_1 ⟨Nat.le_of_ble_eq_true rfl, rfl⟩ rfl
theorem t167_2 : decode (mb 167) 2 = .ok (.iload_n 2, 1) := by decide +kernel
theorem s167_2 (d : Nat) (l0 : Value) (l1 : Value) (i2 : Int32) (l3 : Value) (l4 : Value) (σ : Hs) : ru d 167 2 [l0, l1, .int i2, l3, l4] [] σ = ru d 167 3 [l0, l1, .int i2, l3, l4] [.int i2] σ := q_iload_n t167_2 rfl
theorem t167_3 : decode (mb 167) 3 = .ok (.iconst 4, 1) := by decide +kernel
theorem s167_3 (d : Nat) (l0 : Value) (l1 : Value) (l2 : Value) (l3 : Value) (l4 : Value) (w0 : Value) (σ : Hs) : ru d 167 3 [l0, l1, l2, l3, l4] [w0] σ = ru d 167 4 [l0, l1, l2, l3, l4] [.int 4, w0] σ := q_iconst t167_3 (by decide +kernel)
theorem t167_4 : decode (mb 167) 4 = .ok (.if_icmp .ge 53, 3) := by decide +kernel
theorem s167_4 (d : Nat) (l0 : Value) (l1 : Value) (l2 : Value) (l3 : Value) (l4 : Value) (x y : Int32) (σ : Hs) : ru d 167 4 [l0, l1, l2, l3, l4] [.int y, .int x] σ = if y ≤ x then ru d 167 57 [l0, l1, l2, l3, l4] [] σ else ru d 167 7 [l0, l1, l2, l3, l4] [] σ := q_ic_ge t167_4 (by decide +kernel)
theorem t167_7 : decode (mb 167) 7 = .ok (.iload_n 1, 1) := by decide +kernel
theorem s167_7 (d : Nat) (l0 : Value) (i1 : Int32) (l2 : Value) (l3 : Value) (l4 : Value) (σ : Hs) : ru d 167 7 [l0, .int i1, l2, l3, l4] [] σ = ru d 167 8 [l0, .int i1, l2, l3, l4] [.int i1] σ := q_iload_n t167_7 rfl
theorem t167_8 : decode (mb 167) 8 = .ok (.iload_n 2, 1) := by decide +kernel
theorem s167_8 (d : Nat) (l0 : Value) (l1 : Value) (i2 : Int32) (l3 : Value) (l4 : Value) (w0 : Value) (σ : Hs) : ru d 167 8 [l0, l1, .int i2, l3, l4] [w0] σ = ru d 167 9 [l0, l1, .int i2, l3, l4] [.int i2, w0] σ := q_iload_n t167_8 rfl
theorem t167_9 : decode (mb 167) 9 = .ok (.invokestatic 121, 3) := by decide +kernel
theorem s167_9 (d : Nat) (l0 : Value) (l1 : Value) (l2 : Value) (l3 : Value) (l4 : Value) (v0 v1 : Value) (σ : Hs) : ru d 167 9 [l0, l1, l2, l3, l4] [v1, v0] σ = kont (callD d 130 [v0, v1] σ) d 167 12 [l0, l1, l2, l3, l4] [] := q_invs t167_9 mo167 (by decide +kernel) K8_121 mj130 (Nat.le_of_ble_eq_true rfl) rfl rfl (Nat.le_of_ble_eq_true rfl)
theorem t167_12 : decode (mb 167) 12 = .ok (.istore_n 3, 1) := by decide +kernel
theorem s167_12 (d : Nat) (l0 : Value) (l1 : Value) (i2 : Int32) (l3 : Value) (l4 : Value) (x : Int32) (σ : Hs) : ru d 167 12 [l0, l1, .int i2, l3, l4] [.int x] σ = ru d 167 13 [l0, l1, .int i2, .int x, l4] [] σ := q_istore_n t167_12 ⟨Nat.le_of_ble_eq_true rfl, rfl⟩ rfl
theorem t167_13 : decode (mb 167) 13 = .ok (.iload_n 3, 1) := by decide +kernel
theorem s167_13 (d : Nat) (l0 : Value) (l1 : Value) (l2 : Value) (i3 : Int32) (l4 : Value) (σ : Hs) : ru d 167 13 [l0, l1, l2, .int i3, l4] [] σ = ru d 167 14 [l0, l1, l2, .int i3, l4] [.int i3] σ := q_iload_n t167_13 rfl
theorem t167_14 : decode (mb 167) 14 = .ok (.ifCond .lt 37, 3) := by decide +kernel
theorem s167_14 (d : Nat) (l0 : Value) (l1 : Value) (l2 : Value) (l3 : Value) (l4 : Value) (x : Int32) (σ : Hs) : ru d 167 14 [l0, l1, l2, l3, l4] [.int x] σ = if x < 0 then ru d 167 51 [l0, l1, l2, l3, l4] [] σ else ru d 167 17 [l0, l1, l2, l3, l4] [] σ := q_if_lt t167_14 (by decide +kernel)
theorem t167_17 : decode (mb 167) 17 = .ok (.aload_n 0, 1) := by decide +kernel
theorem s167_17 (d : Nat) (a0 : Nat) (l1 : Value) (l2 : Value) (l3 : Value) (l4 : Value) (σ : Hs) : ru d 167 17 [.ref a0, l1, l2, l3, l4] [] σ = ru d 167 18 [.ref a0, l1, l2, l3, l4] [.ref a0] σ := q_aload_n t167_17 rfl
theorem t167_18 : decode (mb 167) 18 = .ok (.iload_n 3, 1) := by decide +kernel
theorem s167_18 (d : Nat) (l0 : Value) (l1 : Value) (l2 : Value) (i3 : Int32) (l4 : Value) (w0 : Value) (σ : Hs) : ru d 167 18 [l0, l1, l2, .int i3, l4] [w0] σ = ru d 167 19 [l0, l1, l2, .int i3, l4] [.int i3, w0] σ := q_iload_n t167_18 rfl
theorem t167_19 : decode (mb 167) 19 = .ok (.invokevirtual 88, 3) := by decide +kernel
theorem s167_19_o87 (d : Nat) (l0 : Value) (l1 : Value) (l2 : Value) (l3 : Value) (l4 : Value) (v1 : Value) (σ : Hs) : ru d 167 19 [l0, l1, l2, l3, l4] [v1, .ref 87] σ = kont (callD d 122 [.ref 87, v1] σ) d 167 22 [l0, l1, l2, l3, l4] [] := q_invv t167_19 mo167 K8_88 mj122 rfl rfl rfl rfl (Nat.le_of_ble_eq_true rfl)
theorem t167_22 : decode (mb 167) 22 = .ok (.ifCond .eq 29, 3) := by decide +kernel
theorem s167_22 (d : Nat) (l0 : Value) (l1 : Value) (l2 : Value) (l3 : Value) (l4 : Value) (x : Int32) (σ : Hs) : ru d 167 22 [l0, l1, l2, l3, l4] [.int x] σ = if x = 0 then ru d 167 51 [l0, l1, l2, l3, l4] [] σ else ru d 167 25 [l0, l1, l2, l3, l4] [] σ := q_if_eq t167_22 (by decide +kernel)
theorem t167_25 : decode (mb 167) 25 = .ok (.aload_n 0, 1) := by decide +kernel
theorem s167_25 (d : Nat) (a0 : Nat) (l1 : Value) (l2 : Value) (l3 : Value) (l4 : Value) (σ : Hs) : ru d 167 25 [.ref a0, l1, l2, l3, l4] [] σ = ru d 167 26 [.ref a0, l1, l2, l3, l4] [.ref a0] σ := q_aload_n t167_25 rfl
theorem t167_26 : decode (mb 167) 26 = .ok (.iload_n 1, 1) := by decide +kernel
theorem s167_26 (d : Nat) (l0 : Value) (i1 : Int32) (l2 : Value) (l3 : Value) (l4 : Value) (w0 : Value) (σ : Hs) : ru d 167 26 [l0, .int i1, l2, l3, l4] [w0] σ = ru d 167 27 [l0, .int i1, l2, l3, l4] [.int i1, w0] σ := q_iload_n t167_26 rfl
theorem t167_27 : decode (mb 167) 27 = .ok (.iconst 5, 1) := by decide +kernel
theorem s167_27 (d : Nat) (l0 : Value) (l1 : Value) (l2 : Value) (l3 : Value) (l4 : Value) (w0 w1 : Value) (σ : Hs) : ru d 167 27 [l0, l1, l2, l3, l4] [w0, w1] σ = ru d 167 28 [l0, l1, l2, l3, l4] [.int 5, w0, w1] σ := q_iconst t167_27 (by decide +kernel)
theorem t167_28 : decode (mb 167) 28 = .ok (.invokevirtual 85, 3) := by decide +kernel
theorem s167_28_o87 (d : Nat) (l0 : Value) (l1 : Value) (l2 : Value) (l3 : Value) (l4 : Value) (v1 v2 : Value) (σ : Hs) : ru d 167 28 [l0, l1, l2, l3, l4] [v2, v1, .ref 87] σ = kont (callD d 119 [.ref 87, v1, v2] σ) d 167 31 [l0, l1, l2, l3, l4] [] := q_invv t167_28 mo167 K8_85 mj119 rfl rfl rfl rfl (Nat.le_of_ble_eq_true rfl)
theorem t167_31 : decode (mb 167) 31 = .ok (.bipush 8, 2) := by decide +kernel
theorem s167_31 (d : Nat) (l0 : Value) (l1 : Value) (l2 : Value) (l3 : Value) (l4 : Value) (w0 : Value) (σ : Hs) : ru d 167 31 [l0, l1, l2, l3, l4] [w0] σ = ru d 167 33 [l0, l1, l2, l3, l4] [.int 8, w0] σ := q_bipush t167_31 (by decide +kernel)
theorem t167_33 : decode (mb 167) 33 = .ok (.idiv, 1) := by decide +kernel
theorem s167_33 (d : Nat) (l0 : Value) (l1 : Value) (l2 : Value) (l3 : Value) (l4 : Value) (x y : Int32) (σ : Hs) : ru d 167 33 [l0, l1, l2, l3, l4] [.int y, .int x] σ = gd (¬ y = 0) (ru d 167 34 [l0, l1, l2, l3, l4] [.int (x / y)] σ) := q_idiv t167_33
theorem t167_34 : decode (mb 167) 34 = .ok (.istore 4, 2) := by decide +kernel
theorem s167_34 (d : Nat) (l0 : Value) (l1 : Value) (l2 : Value) (i3 : Int32) (l4 : Value) (x : Int32) (σ : Hs) : ru d 167 34 [l0, l1, l2, .int i3, l4] [.int x] σ = ru d 167 36 [l0, l1, l2, .int i3, .int x] [] σ := q_istore t167_34 ⟨Nat.le_of_ble_eq_true rfl, rfl⟩ rfl
theorem t167_36 : decode (mb 167) 36 = .ok (.aload_n 0, 1) := by decide +kernel
theorem s167_36 (d : Nat) (a0 : Nat) (l1 : Value) (l2 : Value) (l3 : Value) (l4 : Value) (σ : Hs) : ru d 167 36 [.ref a0, l1, l2, l3, l4] [] σ = ru d 167 37 [.ref a0, l1, l2, l3, l4] [.ref a0] σ := q_aload_n t167_36 rfl
theorem t167_37 : decode (mb 167) 37 = .ok (.iload_n 1, 1) := by decide +kernel
theorem s167_37 (d : Nat) (l0 : Value) (i1 : Int32) (l2 : Value) (l3 : Value) (l4 : Value) (w0 : Value) (σ : Hs) : ru d 167 37 [l0, .int i1, l2, l3, l4] [w0] σ = ru d 167 38 [l0, .int i1, l2, l3, l4] [.int i1, w0] σ := q_iload_n t167_37 rfl
theorem t167_38 : decode (mb 167) 38 = .ok (.iload 4, 2) := by decide +kernel
theorem s167_38 (d : Nat) (l0 : Value) (l1 : Value) (l2 : Value) (l3 : Value) (i4 : Int32) (w0 w1 : Value) (σ : Hs) : ru d 167 38 [l0, l1, l2, l3, .int i4] [w0, w1] σ = ru d 167 40 [l0, l1, l2, l3, .int i4] [.int i4, w0, w1] σ := q_iload t167_38 rfl
theorem t167_40 : decode (mb 167) 40 = .ok (.ineg, 1) := by decide +kernel
theorem s167_40 (d : Nat) (l0 : Value) (l1 : Value) (l2 : Value) (l3 : Value) (l4 : Value) (x : Int32) (w0 w1 : Value) (σ : Hs) : ru d 167 40 [l0, l1, l2, l3, l4] [.int x, w0, w1] σ = ru d 167 41 [l0, l1, l2, l3, l4] [.int (-x), w0, w1] σ := q_ineg t167_40
theorem t167_41 : decode (mb 167) 41 = .ok (.invokevirtual 238, 3) := by decide +kernel
theorem s167_41_o87 (d : Nat) (l0 : Value) (l1 : Value) (l2 : Value) (l3 : Value) (l4 : Value) (v1 v2 : Value) (σ : Hs) : ru d 167 41 [l0, l1, l2, l3, l4] [v2, v1, .ref 87] σ = kont (callD d 165 [.ref 87, v1, v2] σ) d 167 44 [l0, l1, l2, l3, l4] [] := q_invv t167_41 mo167 K8_238 mj165 rfl rfl rfl rfl (Nat.le_of_ble_eq_true rfl)
theorem t167_44 : decode (mb 167) 44 = .ok (.aload_n 0, 1) := by decide +kernel
theorem s167_44 (d : Nat) (a0 : Nat) (l1 : Value) (l2 : Value) (l3 : Value) (l4 : Value) (σ : Hs) : ru d 167 44 [.ref a0, l1, l2, l3, l4] [] σ = ru d 167 45 [.ref a0, l1, l2, l3, l4] [.ref a0] σ := q_aload_n t167_44 rfl
theorem t167_45 : decode (mb 167) 45 = .ok (.iload_n 3, 1) := by decide +kernel
theorem s167_45 (d : Nat) (l0 : Value) (l1 : Value) (l2 : Value) (i3 : Int32) (l4 : Value) (w0 : Value) (σ : Hs) : ru d 167 45 [l0, l1, l2, .int i3, l4] [w0] σ = ru d 167 46 [l0, l1, l2, .int i3, l4] [.int i3, w0] σ := q_iload_n t167_45 rfl
theorem t167_46 : decode (mb 167) 46 = .ok (.iload 4, 2) := by decide +kernel
theorem s167_46 (d : Nat) (l0 : Value) (l1 : Value) (l2 : Value) (l3 : Value) (i4 : Int32) (w0 w1 : Value) (σ : Hs) : ru d 167 46 [l0, l1, l2, l3, .int i4] [w0, w1] σ = ru d 167 48 [l0, l1, l2, l3, .int i4] [.int i4, w0, w1] σ := q_iload t167_46 rfl
theorem t167_48 : decode (mb 167) 48 = .ok (.invokevirtual 238, 3) := by decide +kernel
theorem s167_48_o87 (d : Nat) (l0 : Value) (l1 : Value) (l2 : Value) (l3 : Value) (l4 : Value) (v1 v2 : Value) (σ : Hs) : ru d 167 48 [l0, l1, l2, l3, l4] [v2, v1, .ref 87] σ = kont (callD d 165 [.ref 87, v1, v2] σ) d 167 51 [l0, l1, l2, l3, l4] [] := q_invv t167_48 mo167 K8_238 mj165 rfl rfl rfl rfl (Nat.le_of_ble_eq_true rfl)
theorem t167_51 : decode (mb 167) 51 = .ok (.iinc 2 1, 3) := by decide +kernel
theorem s167_51 (d : Nat) (l0 : Value) (i1 : Int32) (i2 : Int32) (l3 : Value) (l4 : Value) (σ : Hs) : ru d 167 51 [l0, .int i1, .int i2, l3, l4] [] σ = ru d 167 54 [l0, .int i1, .int (i2 + 1), l3, l4] [] σ := q_iinc t167_51 ⟨Nat.le_of_ble_eq_true rfl, rfl⟩ rfl (by decide +kernel) rfl
theorem t167_54 : decode (mb 167) 54 = .ok (.goto (-52), 3) := by decide +kernel
theorem s167_54 (d : Nat) (l0 : Value) (l1 : Value) (l2 : Value) (l3 : Value) (l4 : Value) (σ : Hs) : ru d 167 54 [l0, l1, l2, l3, l4] [] σ = ru d 167 2 [l0, l1, l2, l3, l4] [] σ := q_goto t167_54 (by decide +kernel)
theorem t167_57 : decode (mb 167) 57 = .ok (.aload_n 0, 1) := by decide +kernel
theorem s167_57 (d : Nat) (a0 : Nat) (l1 : Value) (l2 : Value) (l3 : Value) (l4 : Value) (σ : Hs) : ru d 167 57 [.ref a0, l1, l2, l3, l4] [] σ = ru d 167 58 [.ref a0, l1, l2, l3, l4] [.ref a0] σ := q_aload_n t167_57 rfl
theorem t167_58 : decode (mb 167) 58 = .ok (.iload_n 1, 1) := by decide +kernel
theorem s167_58 (d : Nat) (l0 : Value) (i1 : Int32) (l2 : Value) (l3 : Value) (l4 : Value) (w0 : Value) (σ : Hs) : ru d 167 58 [l0, .int i1, l2, l3, l4] [w0] σ = ru d 167 59 [l0, .int i1, l2, l3, l4] [.int i1, w0] σ := q_iload_n t167_58 rfl
theorem t167_59 : decode (mb 167) 59 = .ok (.iconst 5, 1) := by decide +kernel
theorem s167_59 (d : Nat) (l0 : Value) (l1 : Value) (l2 : Value) (l3 : Value) (l4 : Value) (w0 w1 : Value) (σ : Hs) : ru d 167 59 [l0, l1, l2, l3, l4] [w0, w1] σ = ru d 167 60 [l0, l1, l2, l3, l4] [.int 5, w0, w1] σ := q_iconst t167_59 (by decide +kernel)
theorem t167_60 : decode (mb 167) 60 = .ok (.invokevirtual 85, 3) := by decide +kernel
theorem s167_60_o87 (d : Nat) (l0 : Value) (l1 : Value) (l2 : Value) (l3 : Value) (l4 : Value) (v1 v2 : Value) (σ : Hs) : ru d 167 60 [l0, l1, l2, l3, l4] [v2, v1, .ref 87] σ = kont (callD d 119 [.ref 87, v1, v2] σ) d 167 63 [l0, l1, l2, l3, l4] [] := q_invv t167_60 mo167 K8_85 mj119 rfl rfl rfl rfl (Nat.le_of_ble_eq_true rfl)
theorem t167_63 : decode (mb 167) 63 = .ok (.istore_n 2, 1) := by decide +kernel
theorem s167_63 (d : Nat) (l0 : Value) (i1 : Int32) (l2 : Value) (l3 : Value) (l4 : Value) (x : Int32) (σ : Hs) : ru d 167 63 [l0, .int i1, l2, l3, l4] [.int x] σ = ru d 167 64 [l0, .int i1, .int x, l3, l4] [] σ := q_istore_n t167_63 ⟨Nat.le_of_ble_eq_true rfl, rfl⟩ rfl
theorem t167_64 : decode (mb 167) 64 = .ok (.aload_n 0, 1) := by decide +kernel
theorem s167_64 (d : Nat) (a0 : Nat) (l1 : Value) (l2 : Value) (l3 : Value) (l4 : Value) (σ : Hs) : ru d 167 64 [.ref a0, l1, l2, l3, l4] [] σ = ru d 167 65 [.ref a0, l1, l2, l3, l4] [.ref a0] σ := q_aload_n t167_64 rfl
theorem t167_65 : decode (mb 167) 65 = .ok (.iload_n 1, 1) := by decide +kernel
theorem s167_65 (d : Nat) (l0 : Value) (i1 : Int32) (l2 : Value) (l3 : Value) (l4 : Value) (w0 : Value) (σ : Hs) : ru d 167 65 [l0, .int i1, l2, l3, l4] [w0] σ = ru d 167 66 [l0, .int i1, l2, l3, l4] [.int i1, w0] σ := q_iload_n t167_65 rfl
theorem t167_66 : decode (mb 167) 66 = .ok (.iconst 3, 1) := by decide +kernel
theorem s167_66 (d : Nat) (l0 : Value) (l1 : Value) (l2 : Value) (l3 : Value) (l4 : Value) (w0 w1 : Value) (σ : Hs) : ru d 167 66 [l0, l1, l2, l3, l4] [w0, w1] σ = ru d 167 67 [l0, l1, l2, l3, l4] [.int 3, w0, w1] σ := q_iconst t167_66 (by decide +kernel)
theorem t167_67 : decode (mb 167) 67 = .ok (.iconst 0, 1) := by decide +kernel
theorem s167_67 (d : Nat) (l0 : Value) (l1 : Value) (l2 : Value) (l3 : Value) (l4 : Value) (w0 w1 w2 : Value) (σ : Hs) : ru d 167 67 [l0, l1, l2, l3, l4] [w0, w1, w2] σ = ru d 167 68 [l0, l1, l2, l3, l4] [.int 0, w0, w1, w2] σ := q_iconst t167_67 (by decide +kernel)
theorem t167_68 : decode (mb 167) 68 = .ok (.aload_n 0, 1) := by decide +kernel
theorem s167_68 (d : Nat) (a0 : Nat) (l1 : Value) (l2 : Value) (l3 : Value) (l4 : Value) (w0 w1 w2 w3 : Value) (σ : Hs) : ru d 167 68 [.ref a0, l1, l2, l3, l4] [w0, w1, w2, w3] σ = ru d 167 69 [.ref a0, l1, l2, l3, l4] [.ref a0, w0, w1, w2, w3] σ := q_aload_n t167_68 rfl
theorem t167_69 : decode (mb 167) 69 = .ok (.iload_n 1, 1) := by decide +kernel
theorem s167_69 (d : Nat) (l0 : Value) (i1 : Int32) (l2 : Value) (l3 : Value) (l4 : Value) (w0 w1 w2 w3 w4 : Value) (σ : Hs) : ru d 167 69 [l0, .int i1, l2, l3, l4] [w0, w1, w2, w3, w4] σ = ru d 167 70 [l0, .int i1, l2, l3, l4] [.int i1, w0, w1, w2, w3, w4] σ := q_iload_n t167_69 rfl
theorem t167_70 : decode (mb 167) 70 = .ok (.iconst 3, 1) := by decide +kernel
theorem s167_70 (d : Nat) (l0 : Value) (l1 : Value) (l2 : Value) (l3 : Value) (l4 : Value) (w0 w1 w2 w3 w4 w5 : Value) (σ : Hs) : ru d 167 70 [l0, l1, l2, l3, l4] [w0, w1, w2, w3, w4, w5] σ = ru d 167 71 [l0, l1, l2, l3, l4] [.int 3, w0, w1, w2, w3, w4, w5] σ := q_iconst t167_70 (by decide +kernel)
theorem t167_71 : decode (mb 167) 71 = .ok (.invokevirtual 85, 3) := by decide +kernel
theorem s167_71_o87 (d : Nat) (l0 : Value) (l1 : Value) (l2 : Value) (l3 : Value) (l4 : Value) (v1 v2 : Value) (w0 : Int32) (w1 : Int32) (w2 : Int32) (w3 : Nat) (σ : Hs) : ru d 167 71 [l0, l1, l2, l3, l4] [v2, v1, .ref 87, .int w0, .int w1, .int w2, .ref w3] σ = kont (callD d 119 [.ref 87, v1, v2] σ) d 167 74 [l0, l1, l2, l3, l4] [.int w0, .int w1, .int w2, .ref w3] := q_invv t167_71 mo167 K8_85 mj119 rfl rfl rfl rfl (Nat.le_of_ble_eq_true rfl)
theorem t167_74 : decode (mb 167) 74 = .ok (.iload_n 2, 1) := by decide +kernel
theorem s167_74 (d : Nat) (l0 : Value) (l1 : Value) (i2 : Int32) (l3 : Value) (l4 : Value) (w0 w1 w2 w3 w4 : Value) (σ : Hs) : ru d 167 74 [l0, l1, .int i2, l3, l4] [w0, w1, w2, w3, w4] σ = ru d 167 75 [l0, l1, .int i2, l3, l4] [.int i2, w0, w1, w2, w3, w4] σ := q_iload_n t167_74 rfl
theorem t167_75 : decode (mb 167) 75 = .ok (.bipush 20, 2) := by decide +kernel
theorem s167_75 (d : Nat) (l0 : Value) (l1 : Value) (l2 : Value) (l3 : Value) (l4 : Value) (w0 w1 w2 w3 w4 w5 : Value) (σ : Hs) : ru d 167 75 [l0, l1, l2, l3, l4] [w0, w1, w2, w3, w4, w5] σ = ru d 167 77 [l0, l1, l2, l3, l4] [.int 20, w0, w1, w2, w3, w4, w5] σ := q_bipush t167_75 (by decide +kernel)
theorem t167_77 : decode (mb 167) 77 = .ok (.idiv, 1) := by decide +kernel
theorem s167_77 (d : Nat) (l0 : Value) (l1 : Value) (l2 : Value) (l3 : Value) (l4 : Value) (x y : Int32) (w0 w1 w2 w3 w4 : Value) (σ : Hs) : ru d 167 77 [l0, l1, l2, l3, l4] [.int y, .int x, w0, w1, w2, w3, w4] σ = gd (¬ y = 0) (ru d 167 78 [l0, l1, l2, l3, l4] [.int (x / y), w0, w1, w2, w3, w4] σ) := q_idiv t167_77
theorem t167_78 : decode (mb 167) 78 = .ok (.isub, 1) := by decide +kernel
theorem s167_78 (d : Nat) (l0 : Value) (l1 : Value) (l2 : Value) (l3 : Value) (l4 : Value) (x y : Int32) (w0 w1 w2 w3 : Value) (σ : Hs) : ru d 167 78 [l0, l1, l2, l3, l4] [.int y, .int x, w0, w1, w2, w3] σ = ru d 167 79 [l0, l1, l2, l3, l4] [.int (x - y), w0, w1, w2, w3] σ := q_isub t167_78
theorem t167_79 : decode (mb 167) 79 = .ok (.invokestatic 74, 3) := by decide +kernel
theorem s167_79 (d : Nat) (l0 : Value) (l1 : Value) (l2 : Value) (l3 : Value) (l4 : Value) (x y : Int32) (w0 : Int32) (w1 : Int32) (w2 : Nat) (σ : Hs) : ru d 167 79 [l0, l1, l2, l3, l4] [.int y, .int x, .int w0, .int w1, .ref w2] σ = ru d 167 82 [l0, l1, l2, l3, l4] [.int (jmax x y), .int w0, .int w1, .ref w2] σ := q_mx t167_79 mo167 (by decide +kernel) (by decide +kernel) (Nat.le_of_ble_eq_true rfl)
theorem t167_82 : decode (mb 167) 82 = .ok (.invokevirtual 96, 3) := by decide +kernel
theorem s167_82_o87 (d : Nat) (l0 : Value) (l1 : Value) (l2 : Value) (l3 : Value) (l4 : Value) (v1 v2 v3 : Value) (σ : Hs) : ru d 167 82 [l0, l1, l2, l3, l4] [v3, v2, v1, .ref 87] σ = kont (callD d 120 [.ref 87, v1, v2, v3] σ) d 167 85 [l0, l1, l2, l3, l4] [] := q_invv t167_82 mo167 K8_96 mj120 rfl rfl rfl rfl (Nat.le_of_ble_eq_true rfl)
theorem t167_85 : decode (mb 167) 85 = .ok (.aload_n 0, 1) := by decide +kernel
theorem s167_85 (d : Nat) (a0 : Nat) (l1 : Value) (l2 : Value) (l3 : Value) (l4 : Value) (σ : Hs) : ru d 167 85 [.ref a0, l1, l2, l3, l4] [] σ = ru d 167 86 [.ref a0, l1, l2, l3, l4] [.ref a0] σ := q_aload_n t167_85 rfl
theorem t167_86 : decode (mb 167) 86 = .ok (.iload_n 1, 1) := by decide +kernel
theorem s167_86 (d : Nat) (l0 : Value) (i1 : Int32) (l2 : Value) (l3 : Value) (l4 : Value) (w0 : Value) (σ : Hs) : ru d 167 86 [l0, .int i1, l2, l3, l4] [w0] σ = ru d 167 87 [l0, .int i1, l2, l3, l4] [.int i1, w0] σ := q_iload_n t167_86 rfl
theorem t167_87 : decode (mb 167) 87 = .ok (.invokevirtual 142, 3) := by decide +kernel
theorem s167_87_o87 (d : Nat) (l0 : Value) (l1 : Value) (l2 : Value) (l3 : Value) (l4 : Value) (v1 : Value) (σ : Hs) : ru d 167 87 [l0, l1, l2, l3, l4] [v1, .ref 87] σ = kont (callD d 123 [.ref 87, v1] σ) d 167 90 [l0, l1, l2, l3, l4] [] := q_invv t167_87 mo167 K8_142 mj123 rfl rfl rfl rfl (Nat.le_of_ble_eq_true rfl)
theorem t167_90 : decode (mb 167) 90 = .ok (.ifCond .ne 42, 3) := by decide +kernel
theorem s167_90 (d : Nat) (l0 : Value) (l1 : Value) (l2 : Value) (l3 : Value) (l4 : Value) (x : Int32) (σ : Hs) : ru d 167 90 [l0, l1, l2, l3, l4] [.int x] σ = if x = 0 then ru d 167 93 [l0, l1, l2, l3, l4] [] σ else ru d 167 132 [l0, l1, l2, l3, l4] [] σ := q_if_ne t167_90 (by decide +kernel)
theorem t167_93 : decode (mb 167) 93 = .ok (.aload_n 0, 1) := by decide +kernel
theorem s167_93 (d : Nat) (a0 : Nat) (l1 : Value) (l2 : Value) (l3 : Value) (l4 : Value) (σ : Hs) : ru d 167 93 [.ref a0, l1, l2, l3, l4] [] σ = ru d 167 94 [.ref a0, l1, l2, l3, l4] [.ref a0] σ := q_aload_n t167_93 rfl
theorem t167_94 : decode (mb 167) 94 = .ok (.iload_n 1, 1) := by decide +kernel
theorem s167_94 (d : Nat) (l0 : Value) (i1 : Int32) (l2 : Value) (l3 : Value) (l4 : Value) (w0 : Value) (σ : Hs) : ru d 167 94 [l0, .int i1, l2, l3, l4] [w0] σ = ru d 167 95 [l0, .int i1, l2, l3, l4] [.int i1, w0] σ := q_iload_n t167_94 rfl
theorem t167_95 : decode (mb 167) 95 = .ok (.iconst 3, 1) := by decide +kernel
theorem s167_95 (d : Nat) (l0 : Value) (l1 : Value) (l2 : Value) (l3 : Value) (l4 : Value) (w0 w1 : Value) (σ : Hs) : ru d 167 95 [l0, l1, l2, l3, l4] [w0, w1] σ = ru d 167 96 [l0, l1, l2, l3, l4] [.int 3, w0, w1] σ := q_iconst t167_95 (by decide +kernel)
theorem t167_96 : decode (mb 167) 96 = .ok (.invokevirtual 85, 3) := by decide +kernel
theorem s167_96_o87 (d : Nat) (l0 : Value) (l1 : Value) (l2 : Value) (l3 : Value) (l4 : Value) (v1 v2 : Value) (σ : Hs) : ru d 167 96 [l0, l1, l2, l3, l4] [v2, v1, .ref 87] σ = kont (callD d 119 [.ref 87, v1, v2] σ) d 167 99 [l0, l1, l2, l3, l4] [] := q_invv t167_96 mo167 K8_85 mj119 rfl rfl rfl rfl (Nat.le_of_ble_eq_true rfl)
theorem t167_99 : decode (mb 167) 99 = .ok (.aload_n 0, 1) := by decide +kernel
theorem s167_99 (d : Nat) (a0 : Nat) (l1 : Value) (l2 : Value) (l3 : Value) (l4 : Value) (w0 : Value) (σ : Hs) : ru d 167 99 [.ref a0, l1, l2, l3, l4] [w0] σ = ru d 167 100 [.ref a0, l1, l2, l3, l4] [.ref a0, w0] σ := q_aload_n t167_99 rfl
theorem t167_100 : decode (mb 167) 100 = .ok (.getfield 9, 3) := by decide +kernel
theorem s167_100_o87 (d : Nat) (l0 : Value) (l1 : Value) (l2 : Value) (l3 : Value) (l4 : Value) (w0 : Value) (σ : Hs) : ru d 167 100 [l0, l1, l2, l3, l4] [.ref 87, w0] σ = ru d 167 103 [l0, l1, l2, l3, l4] [.ref 88, w0] σ := q_getf t167_100 mo167 F8_9 rfl rfl
theorem t167_103 : decode (mb 167) 103 = .ok (.bipush 7, 2) := by decide +kernel
theorem s167_103 (d : Nat) (l0 : Value) (l1 : Value) (l2 : Value) (l3 : Value) (l4 : Value) (w0 w1 : Value) (σ : Hs) : ru d 167 103 [l0, l1, l2, l3, l4] [w0, w1] σ = ru d 167 105 [l0, l1, l2, l3, l4] [.int 7, w0, w1] σ := q_bipush t167_103 (by decide +kernel)
theorem t167_105 : decode (mb 167) 105 = .ok (.iaload, 1) := by decide +kernel
theorem s167_105_o88 (d : Nat) (l0 : Value) (l1 : Value) (l2 : Value) (l3 : Value) (l4 : Value) (i : Int32) (w0 : Value) (σ : Hs) : ru d 167 105 [l0, l1, l2, l3, l4] [.int i, .ref 88, w0] σ = gd (vp_in i 545) (ru d 167 106 [l0, l1, l2, l3, l4] [.int (σ 88 i.toNatClampNeg), w0] σ) := q_iald t167_105 rfl (by decide +kernel) rfl
theorem t167_106 : decode (mb 167) 106 = .ok (.if_icmp .gt 26, 3) := by decide +kernel
theorem s167_106 (d : Nat) (l0 : Value) (l1 : Value) (l2 : Value) (l3 : Value) (l4 : Value) (x y : Int32) (σ : Hs) : ru d 167 106 [l0, l1, l2, l3, l4] [.int y, .int x] σ = if y < x then ru d 167 132 [l0, l1, l2, l3, l4] [] σ else ru d 167 109 [l0, l1, l2, l3, l4] [] σ := q_ic_gt t167_106 (by decide +kernel)
theorem t167_109 : decode (mb 167) 109 = .ok (.iload_n 2, 1) := by decide +kernel
theorem s167_109 (d : Nat) (l0 : Value) (l1 : Value) (i2 : Int32) (l3 : Value) (l4 : Value) (σ : Hs) : ru d 167 109 [l0, l1, .int i2, l3, l4] [] σ = ru d 167 110 [l0, l1, .int i2, l3, l4] [.int i2] σ := q_iload_n t167_109 rfl
theorem t167_110 : decode (mb 167) 110 = .ok (.aload_n 0, 1) := by decide +kernel
theorem s167_110 (d : Nat) (a0 : Nat) (l1 : Value) (l2 : Value) (l3 : Value) (l4 : Value) (w0 : Value) (σ : Hs) : ru d 167 110 [.ref a0, l1, l2, l3, l4] [w0] σ = ru d 167 111 [.ref a0, l1, l2, l3, l4] [.ref a0, w0] σ := q_aload_n t167_110 rfl
theorem t167_111 : decode (mb 167) 111 = .ok (.getfield 25, 3) := by decide +kernel
theorem s167_111_o87 (d : Nat) (l0 : Value) (l1 : Value) (l2 : Value) (l3 : Value) (l4 : Value) (w0 : Value) (σ : Hs) : ru d 167 111 [l0, l1, l2, l3, l4] [.ref 87, w0] σ = ru d 167 114 [l0, l1, l2, l3, l4] [.ref 93, w0] σ := q_getf t167_111 mo167 F8_25 rfl rfl
theorem t167_114 : decode (mb 167) 114 = .ok (.aload_n 0, 1) := by decide +kernel
theorem s167_114 (d : Nat) (a0 : Nat) (l1 : Value) (l2 : Value) (l3 : Value) (l4 : Value) (w0 w1 : Value) (σ : Hs) : ru d 167 114 [.ref a0, l1, l2, l3, l4] [w0, w1] σ = ru d 167 115 [.ref a0, l1, l2, l3, l4] [.ref a0, w0, w1] σ := q_aload_n t167_114 rfl
theorem t167_115 : decode (mb 167) 115 = .ok (.iload_n 1, 1) := by decide +kernel
theorem s167_115 (d : Nat) (l0 : Value) (i1 : Int32) (l2 : Value) (l3 : Value) (l4 : Value) (w0 w1 w2 : Value) (σ : Hs) : ru d 167 115 [l0, .int i1, l2, l3, l4] [w0, w1, w2] σ = ru d 167 116 [l0, .int i1, l2, l3, l4] [.int i1, w0, w1, w2] σ := q_iload_n t167_115 rfl
theorem t167_116 : decode (mb 167) 116 = .ok (.iconst 1, 1) := by decide +kernel
theorem s167_116 (d : Nat) (l0 : Value) (l1 : Value) (l2 : Value) (l3 : Value) (l4 : Value) (w0 w1 w2 w3 : Value) (σ : Hs) : ru d 167 116 [l0, l1, l2, l3, l4] [w0, w1, w2, w3] σ = ru d 167 117 [l0, l1, l2, l3, l4] [.int 1, w0, w1, w2, w3] σ := q_iconst t167_116 (by decide +kernel)
theorem t167_117 : decode (mb 167) 117 = .ok (.invokevirtual 85, 3) := by decide +kernel
theorem s167_117_o87 (d : Nat) (l0 : Value) (l1 : Value) (l2 : Value) (l3 : Value) (l4 : Value) (v1 v2 : Value) (w0 : Nat) (w1 : Int32) (σ : Hs) : ru d 167 117 [l0, l1, l2, l3, l4] [v2, v1, .ref 87, .ref w0, .int w1] σ = kont (callD d 119 [.ref 87, v1, v2] σ) d 167 120 [l0, l1, l2, l3, l4] [.ref w0, .int w1] := q_invv t167_117 mo167 K8_85 mj119 rfl rfl rfl rfl (Nat.le_of_ble_eq_true rfl)
theorem t167_120 : decode (mb 167) 120 = .ok (.iaload, 1) := by decide +kernel
theorem s167_120_o93 (d : Nat) (l0 : Value) (l1 : Value) (l2 : Value) (l3 : Value) (l4 : Value) (i : Int32) (w0 : Value) (σ : Hs) : ru d 167 120 [l0, l1, l2, l3, l4] [.int i, .ref 93, w0] σ = gd (vp_in i 7) (ru d 167 121 [l0, l1, l2, l3, l4] [.int (σ 93 i.toNatClampNeg), w0] σ) := q_iald t167_120 rfl (by decide +kernel) rfl
theorem t167_121 : decode (mb 167) 121 = .ok (.if_icmp .lt 11, 3) := by decide +kernel
theorem s167_121 (d : Nat) (l0 : Value) (l1 : Value) (l2 : Value) (l3 : Value) (l4 : Value) (x y : Int32) (σ : Hs) : ru d 167 121 [l0, l1, l2, l3, l4] [.int y, .int x] σ = if x < y then ru d 167 132 [l0, l1, l2, l3, l4] [] σ else ru d 167 124 [l0, l1, l2, l3, l4] [] σ := q_ic_lt t167_121 (by decide +kernel)
theorem t167_124 : decode (mb 167) 124 = .ok (.aload_n 0, 1) := by decide +kernel
theorem s167_124 (d : Nat) (a0 : Nat) (l1 : Value) (l2 : Value) (l3 : Value) (l4 : Value) (σ : Hs) : ru d 167 124 [.ref a0, l1, l2, l3, l4] [] σ = ru d 167 125 [.ref a0, l1, l2, l3, l4] [.ref a0] σ := q_aload_n t167_124 rfl
theorem t167_125 : decode (mb 167) 125 = .ok (.iload_n 1, 1) := by decide +kernel
theorem s167_125 (d : Nat) (l0 : Value) (i1 : Int32) (l2 : Value) (l3 : Value) (l4 : Value) (w0 : Value) (σ : Hs) : ru d 167 125 [l0, .int i1, l2, l3, l4] [w0] σ = ru d 167 126 [l0, .int i1, l2, l3, l4] [.int i1, w0] σ := q_iload_n t167_125 rfl
theorem t167_126 : decode (mb 167) 126 = .ok (.bipush 6, 2) := by decide +kernel
theorem s167_126 (d : Nat) (l0 : Value) (l1 : Value) (l2 : Value) (l3 : Value) (l4 : Value) (w0 w1 : Value) (σ : Hs) : ru d 167 126 [l0, l1, l2, l3, l4] [w0, w1] σ = ru d 167 128 [l0, l1, l2, l3, l4] [.int 6, w0, w1] σ := q_bipush t167_126 (by decide +kernel)
theorem t167_128 : decode (mb 167) 128 = .ok (.iconst 1, 1) := by decide +kernel
theorem s167_128 (d : Nat) (l0 : Value) (l1 : Value) (l2 : Value) (l3 : Value) (l4 : Value) (w0 w1 w2 : Value) (σ : Hs) : ru d 167 128 [l0, l1, l2, l3, l4] [w0, w1, w2] σ = ru d 167 129 [l0, l1, l2, l3, l4] [.int 1, w0, w1, w2] σ := q_iconst t167_128 (by decide +kernel)
theorem t167_129 : decode (mb 167) 129 = .ok (.invokevirtual 96, 3) := by decide +kernel
theorem s167_129_o87 (d : Nat) (l0 : Value) (l1 : Value) (l2 : Value) (l3 : Value) (l4 : Value) (v1 v2 v3 : Value) (σ : Hs) : ru d 167 129 [l0, l1, l2, l3, l4] [v3, v2, v1, .ref 87] σ = kont (callD d 120 [.ref 87, v1, v2, v3] σ) d 167 132 [l0, l1, l2, l3, l4] [] := q_invv t167_129 mo167 K8_96 mj120 rfl rfl rfl rfl (Nat.le_of_ble_eq_true rfl)
theorem t167_132 : decode (mb 167) 132 = .ok (.aload_n 0, 1) := by decide +kernel
theorem s167_132 (d : Nat) (a0 : Nat) (l1 : Value) (l2 : Value) (l3 : Value) (l4 : Value) (σ : Hs) : ru d 167 132 [.ref a0, l1, l2, l3, l4] [] σ = ru d 167 133 [.ref a0, l1, l2, l3, l4] [.ref a0] σ := q_aload_n t167_132 rfl
theorem t167_133 : decode (mb 167) 133 = .ok (.iload_n 1, 1) := by decide +kernel
theorem s167_133 (d : Nat) (l0 : Value) (i1 : Int32) (l2 : Value) (l3 : Value) (l4 : Value) (w0 : Value) (σ : Hs) : ru d 167 133 [l0, .int i1, l2, l3, l4] [w0] σ = ru d 167 134 [l0, .int i1, l2, l3, l4] [.int i1, w0] σ := q_iload_n t167_133 rfl
theorem t167_134 : decode (mb 167) 134 = .ok (.iload_n 2, 1) := by decide +kernel
theorem s167_134 (d : Nat) (l0 : Value) (l1 : Value) (i2 : Int32) (l3 : Value) (l4 : Value) (w0 w1 : Value) (σ : Hs) : ru d 167 134 [l0, l1, .int i2, l3, l4] [w0, w1] σ = ru d 167 135 [l0, l1, .int i2, l3, l4] [.int i2, w0, w1] σ := q_iload_n t167_134 rfl
theorem t167_135 : decode (mb 167) 135 = .ok (.bipush 10, 2) := by decide +kernel
theorem s167_135 (d : Nat) (l0 : Value) (l1 : Value) (l2 : Value) (l3 : Value) (l4 : Value) (w0 w1 w2 : Value) (σ : Hs) : ru d 167 135 [l0, l1, l2, l3, l4] [w0, w1, w2] σ = ru d 167 137 [l0, l1, l2, l3, l4] [.int 10, w0, w1, w2] σ := q_bipush t167_135 (by decide +kernel)
theorem t167_137 : decode (mb 167) 137 = .ok (.idiv, 1) := by decide +kernel
theorem s167_137 (d : Nat) (l0 : Value) (l1 : Value) (l2 : Value) (l3 : Value) (l4 : Value) (x y : Int32) (w0 w1 : Value) (σ : Hs) : ru d 167 137 [l0, l1, l2, l3, l4] [.int y, .int x, w0, w1] σ = gd (¬ y = 0) (ru d 167 138 [l0, l1, l2, l3, l4] [.int (x / y), w0, w1] σ) := q_idiv t167_137
theorem t167_138 : decode (mb 167) 138 = .ok (.iconst 1, 1) := by decide +kernel
theorem s167_138 (d : Nat) (l0 : Value) (l1 : Value) (l2 : Value) (l3 : Value) (l4 : Value) (w0 w1 w2 : Value) (σ : Hs) : ru d 167 138 [l0, l1, l2, l3, l4] [w0, w1, w2] σ = ru d 167 139 [l0, l1, l2, l3, l4] [.int 1, w0, w1, w2] σ := q_iconst t167_138 (by decide +kernel)
theorem t167_139 : decode (mb 167) 139 = .ok (.iadd, 1) := by decide +kernel
theorem s167_139 (d : Nat) (l0 : Value) (l1 : Value) (l2 : Value) (l3 : Value) (l4 : Value) (x y : Int32) (w0 w1 : Value) (σ : Hs) : ru d 167 139 [l0, l1, l2, l3, l4] [.int y, .int x, w0, w1] σ = ru d 167 140 [l0, l1, l2, l3, l4] [.int (x + y), w0, w1] σ := q_iadd t167_139
theorem t167_140 : decode (mb 167) 140 = .ok (.ineg, 1) := by decide +kernel
theorem s167_140 (d : Nat) (l0 : Value) (l1 : Value) (l2 : Value) (l3 : Value) (l4 : Value) (x : Int32) (w0 w1 : Value) (σ : Hs) : ru d 167 140 [l0, l1, l2, l3, l4] [.int x, w0, w1] σ = ru d 167 141 [l0, l1, l2, l3, l4] [.int (-x), w0, w1] σ := q_ineg t167_140
theorem t167_141 : decode (mb 167) 141 = .ok (.invokevirtual 238, 3) := by decide +kernel
theorem s167_141_o87 (d : Nat) (l0 : Value) (l1 : Value) (l2 : Value) (l3 : Value) (l4 : Value) (v1 v2 : Value) (σ : Hs) : ru d 167 141 [l0, l1, l2, l3, l4] [v2, v1, .ref 87] σ = kont (callD d 165 [.ref 87, v1, v2] σ) d 167 144 [l0, l1, l2, l3, l4] [] := q_invv t167_141 mo167 K8_238 mj165 rfl rfl rfl rfl (Nat.le_of_ble_eq_true rfl)
theorem t167_144 : decode (mb 167) 144 = .ok (.aload_n 0, 1) := by decide +kernel
theorem s167_144 (d : Nat) (a0 : Nat) (l1 : Value) (l2 : Value) (l3 : Value) (l4 : Value) (σ : Hs) : ru d 167 144 [.ref a0, l1, l2, l3, l4] [] σ = ru d 167 145 [.ref a0, l1, l2, l3, l4] [.ref a0] σ := q_aload_n t167_144 rfl
theorem t167_145 : decode (mb 167) 145 = .ok (.iload_n 1, 1) := by decide +kernel
theorem s167_145 (d : Nat) (l0 : Value) (i1 : Int32) (l2 : Value) (l3 : Value) (l4 : Value) (w0 : Value) (σ : Hs) : ru d 167 145 [l0, .int i1, l2, l3, l4] [w0] σ = ru d 167 146 [l0, .int i1, l2, l3, l4] [.int i1, w0] σ := q_iload_n t167_145 rfl
theorem t167_146 : decode (mb 167) 146 = .ok (.invokevirtual 142, 3) := by decide +kernel
theorem s167_146_o87 (d : Nat) (l0 : Value) (l1 : Value) (l2 : Value) (l3 : Value) (l4 : Value) (v1 : Value) (σ : Hs) : ru d 167 146 [l0, l1, l2, l3, l4] [v1, .ref 87] σ = kont (callD d 123 [.ref 87, v1] σ) d 167 149 [l0, l1, l2, l3, l4] [] := q_invv t167_146 mo167 K8_142 mj123 rfl rfl rfl rfl (Nat.le_of_ble_eq_true rfl)
theorem t167_149 : decode (mb 167) 149 = .ok (.ifCond .eq 33, 3) := by decide +kernel
theorem s167_149 (d : Nat) (l0 : Value) (l1 : Value) (l2 : Value) (l3 : Value) (l4 : Value) (x : Int32) (σ : Hs) : ru d 167 149 [l0, l1, l2, l3, l4] [.int x] σ = if x = 0 then ru d 167 182 [l0, l1, l2, l3, l4] [] σ else ru d 167 152 [l0, l1, l2, l3, l4] [] σ := q_if_eq t167_149 (by decide +kernel)
theorem t167_152 : decode (mb 167) 152 = .ok (.aload_n 0, 1) := by decide +kernel
theorem s167_152 (d : Nat) (a0 : Nat) (l1 : Value) (l2 : Value) (l3 : Value) (l4 : Value) (σ : Hs) : ru d 167 152 [.ref a0, l1, l2, l3, l4] [] σ = ru d 167 153 [.ref a0, l1, l2, l3, l4] [.ref a0] σ := q_aload_n t167_152 rfl
theorem t167_153 : decode (mb 167) 153 = .ok (.iload_n 1, 1) := by decide +kernel
theorem s167_153 (d : Nat) (l0 : Value) (i1 : Int32) (l2 : Value) (l3 : Value) (l4 : Value) (w0 : Value) (σ : Hs) : ru d 167 153 [l0, .int i1, l2, l3, l4] [w0] σ = ru d 167 154 [l0, .int i1, l2, l3, l4] [.int i1, w0] σ := q_iload_n t167_153 rfl
theorem t167_154 : decode (mb 167) 154 = .ok (.iconst 5, 1) := by decide +kernel
theorem s167_154 (d : Nat) (l0 : Value) (l1 : Value) (l2 : Value) (l3 : Value) (l4 : Value) (w0 w1 : Value) (σ : Hs) : ru d 167 154 [l0, l1, l2, l3, l4] [w0, w1] σ = ru d 167 155 [l0, l1, l2, l3, l4] [.int 5, w0, w1] σ := q_iconst t167_154 (by decide +kernel)
theorem t167_155 : decode (mb 167) 155 = .ok (.invokevirtual 85, 3) := by decide +kernel
theorem s167_155_o87 (d : Nat) (l0 : Value) (l1 : Value) (l2 : Value) (l3 : Value) (l4 : Value) (v1 v2 : Value) (σ : Hs) : ru d 167 155 [l0, l1, l2, l3, l4] [v2, v1, .ref 87] σ = kont (callD d 119 [.ref 87, v1, v2] σ) d 167 158 [l0, l1, l2, l3, l4] [] := q_invv t167_155 mo167 K8_85 mj119 rfl rfl rfl rfl (Nat.le_of_ble_eq_true rfl)
theorem t167_158 : decode (mb 167) 158 = .ok (.iconst 5, 1) := by decide +kernel
theorem s167_158 (d : Nat) (l0 : Value) (l1 : Value) (l2 : Value) (l3 : Value) (l4 : Value) (w0 : Value) (σ : Hs) : ru d 167 158 [l0, l1, l2, l3, l4] [w0] σ = ru d 167 159 [l0, l1, l2, l3, l4] [.int 5, w0] σ := q_iconst t167_158 (by decide +kernel)
theorem t167_159 : decode (mb 167) 159 = .ok (.if_icmp .lt 15, 3) := by decide +kernel
theorem s167_159 (d : Nat) (l0 : Value) (l1 : Value) (l2 : Value) (l3 : Value) (l4 : Value) (x y : Int32) (σ : Hs) : ru d 167 159 [l0, l1, l2, l3, l4] [.int y, .int x] σ = if x < y then ru d 167 174 [l0, l1, l2, l3, l4] [] σ else ru d 167 162 [l0, l1, l2, l3, l4] [] σ := q_ic_lt t167_159 (by decide +kernel)
theorem t167_162 : decode (mb 167) 162 = .ok (.aload_n 0, 1) := by decide +kernel
theorem s167_162 (d : Nat) (a0 : Nat) (l1 : Value) (l2 : Value) (l3 : Value) (l4 : Value) (σ : Hs) : ru d 167 162 [.ref a0, l1, l2, l3, l4] [] σ = ru d 167 163 [.ref a0, l1, l2, l3, l4] [.ref a0] σ := q_aload_n t167_162 rfl
theorem t167_163 : decode (mb 167) 163 = .ok (.iload_n 1, 1) := by decide +kernel
theorem s167_163 (d : Nat) (l0 : Value) (i1 : Int32) (l2 : Value) (l3 : Value) (l4 : Value) (w0 : Value) (σ : Hs) : ru d 167 163 [l0, .int i1, l2, l3, l4] [w0] σ = ru d 167 164 [l0, .int i1, l2, l3, l4] [.int i1, w0] σ := q_iload_n t167_163 rfl
theorem t167_164 : decode (mb 167) 164 = .ok (.iconst 3, 1) := by decide +kernel
theorem s167_164 (d : Nat) (l0 : Value) (l1 : Value) (l2 : Value) (l3 : Value) (l4 : Value) (w0 w1 : Value) (σ : Hs) : ru d 167 164 [l0, l1, l2, l3, l4] [w0, w1] σ = ru d 167 165 [l0, l1, l2, l3, l4] [.int 3, w0, w1] σ := q_iconst t167_164 (by decide +kernel)
theorem t167_165 : decode (mb 167) 165 = .ok (.invokevirtual 85, 3) := by decide +kernel
theorem s167_165_o87 (d : Nat) (l0 : Value) (l1 : Value) (l2 : Value) (l3 : Value) (l4 : Value) (v1 v2 : Value) (σ : Hs) : ru d 167 165 [l0, l1, l2, l3, l4] [v2, v1, .ref 87] σ = kont (callD d 119 [.ref 87, v1, v2] σ) d 167 168 [l0, l1, l2, l3, l4] [] := q_invv t167_165 mo167 K8_85 mj119 rfl rfl rfl rfl (Nat.le_of_ble_eq_true rfl)
theorem t167_168 : decode (mb 167) 168 = .ok (.sipush 700, 3) := by decide +kernel
theorem s167_168 (d : Nat) (l0 : Value) (l1 : Value) (l2 : Value) (l3 : Value) (l4 : Value) (w0 : Value) (σ : Hs) : ru d 167 168 [l0, l1, l2, l3, l4] [w0] σ = ru d 167 171 [l0, l1, l2, l3, l4] [.int 700, w0] σ := q_sipush t167_168 (by decide +kernel)
theorem t167_171 : decode (mb 167) 171 = .ok (.if_icmp .le 11, 3) := by decide +kernel
theorem s167_171 (d : Nat) (l0 : Value) (l1 : Value) (l2 : Value) (l3 : Value) (l4 : Value) (x y : Int32) (σ : Hs) : ru d 167 171 [l0, l1, l2, l3, l4] [.int y, .int x] σ = if x ≤ y then ru d 167 182 [l0, l1, l2, l3, l4] [] σ else ru d 167 174 [l0, l1, l2, l3, l4] [] σ := q_ic_le t167_171 (by decide +kernel)
theorem t167_174 : decode (mb 167) 174 = .ok (.aload_n 0, 1) := by decide +kernel
theorem s167_174 (d : Nat) (a0 : Nat) (l1 : Value) (l2 : Value) (l3 : Value) (l4 : Value) (σ : Hs) : ru d 167 174 [.ref a0, l1, l2, l3, l4] [] σ = ru d 167 175 [.ref a0, l1, l2, l3, l4] [.ref a0] σ := q_aload_n t167_174 rfl
theorem t167_175 : decode (mb 167) 175 = .ok (.iload_n 1, 1) := by decide +kernel
theorem s167_175 (d : Nat) (l0 : Value) (i1 : Int32) (l2 : Value) (l3 : Value) (l4 : Value) (w0 : Value) (σ : Hs) : ru d 167 175 [l0, .int i1, l2, l3, l4] [w0] σ = ru d 167 176 [l0, .int i1, l2, l3, l4] [.int i1, w0] σ := q_iload_n t167_175 rfl
theorem t167_176 : decode (mb 167) 176 = .ok (.bipush 6, 2) := by decide +kernel
theorem s167_176 (d : Nat) (l0 : Value) (l1 : Value) (l2 : Value) (l3 : Value) (l4 : Value) (w0 w1 : Value) (σ : Hs) : ru d 167 176 [l0, l1, l2, l3, l4] [w0, w1] σ = ru d 167 178 [l0, l1, l2, l3, l4] [.int 6, w0, w1] σ := q_bipush t167_176 (by decide +kernel)
theorem t167_178 : decode (mb 167) 178 = .ok (.iconst 0, 1) := by decide +kernel
theorem s167_178 (d : Nat) (l0 : Value) (l1 : Value) (l2 : Value) (l3 : Value) (l4 : Value) (w0 w1 w2 : Value) (σ : Hs) : ru d 167 178 [l0, l1, l2, l3, l4] [w0, w1, w2] σ = ru d 167 179 [l0, l1, l2, l3, l4] [.int 0, w0, w1, w2] σ := q_iconst t167_178 (by decide +kernel)
theorem t167_179 : decode (mb 167) 179 = .ok (.invokevirtual 96, 3) := by decide +kernel
theorem s167_179_o87 (d : Nat) (l0 : Value) (l1 : Value) (l2 : Value) (l3 : Value) (l4 : Value) (v1 v2 v3 : Value) (σ : Hs) : ru d 167 179 [l0, l1, l2, l3, l4] [v3, v2, v1, .ref 87] σ = kont (callD d 120 [.ref 87, v1, v2, v3] σ) d 167 182 [l0, l1, l2, l3, l4] [] := q_invv t167_179 mo167 K8_96 mj120 rfl rfl rfl rfl (Nat.le_of_ble_eq_true rfl)
theorem t167_182 : decode (mb 167) 182 = .ok (.return_, 1) := by decide +kernel
theorem s167_182 (d : Nat) (l0 : Value) (l1 : Value) (l2 : Value) (l3 : Value) (l4 : Value) (σ : Hs) : ru d 167 182 [l0, l1, l2, l3, l4] [] σ = some (none, σ) := q_vret t167_182 mr167
theorem c167 (d : Nat) (x0 : Nat) (x1 : Int32) (σ : Hs) : callD (d + 1) 167 [.ref x0, .int x1] σ = ru d 167 0 [.ref x0, .int x1, uu, uu, uu] [] σ := callD_ru ml167 rfl rfl (Nat.le_of_ble_eq_true rfl)
-- 168: Model.next(II)I
theorem t168_0 : decode (mb 168) 0 = .ok (.iload_n 0, 1) := by decide +kernel
theorem s168_0 (d : Nat) (i0 : Int32) (l1 : Value) (l2 : Value) (l3 : Value) (σ : Hs) : ru d 168 0 [.int i0, l1, l2, l3] [] σ = ru d 168 1 [.int i0, l1, l2, l3] [.int i0] σ := q_iload_n t168_0 rfl
theorem t168_1 : decode (mb 168) 1 = .ok (.iconst 3, 1) := by decide +kernel
theorem s168_1 (d : Nat) (l0 : Value) (l1 : Value) (l2 : Value) (l3 : Value) (w0 : Value) (σ : Hs) : ru d 168 1 [l0, l1, l2, l3] [w0] σ = ru d 168 2 [l0, l1, l2, l3] [.int 3, w0] σ := q_iconst t168_1 (by decide +kernel)
theorem t168_2 : decode (mb 168) 2 = .ok (.irem, 1) := by decide +kernel
theorem s168_2 (d : Nat) (l0 : Value) (l1 : Value) (l2 : Value) (l3 : Value) (x y : Int32) (σ : Hs) : ru d 168 2 [l0, l1, l2, l3] [.int y, .int x] σ = gd (¬ y = 0) (ru d 168 3 [l0, l1, l2, l3] [.int (x - x / y * y)] σ) := q_irem t168_2
theorem t168_3 : decode (mb 168) 3 = .ok (.iload_n 1, 1) := by decide +kernel
theorem s168_3 (d : Nat) (l0 : Value) (i1 : Int32) (l2 : Value) (l3 : Value) (w0 : Value) (σ : Hs) : ru d 168 3 [l0, .int i1, l2, l3] [w0] σ = ru d 168 4 [l0, .int i1, l2, l3] [.int i1, w0] σ := q_iload_n t168_3 rfl
theorem t168_4 : decode (mb 168) 4 = .ok (.ifCond .ne 7, 3) := by decide +kernel
theorem s168_4 (d : Nat) (l0 : Value) (l1 : Value) (l2 : Value) (l3 : Value) (x : Int32) (w0 : Value) (σ : Hs) : ru d 168 4 [l0, l1, l2, l3] [.int x, w0] σ = if x = 0 then ru d 168 7 [l0, l1, l2, l3] [w0] σ else ru d 168 11 [l0, l1, l2, l3] [w0] σ := q_if_ne t168_4 (by decide +kernel)
theorem t168_7 : decode (mb 168) 7 = .ok (.iconst 1, 1) := by decide +kernel
theorem s168_7 (d : Nat) (l0 : Value) (l1 : Value) (l2 : Value) (l3 : Value) (w0 : Value) (σ : Hs) : ru d 168 7 [l0, l1, l2, l3] [w0] σ = ru d 168 8 [l0, l1, l2, l3] [.int 1, w0] σ := q_iconst t168_7 (by decide +kernel)
theorem t168_8 : decode (mb 168) 8 = .ok (.goto 13, 3) := by decide +kernel
theorem s168_8 (d : Nat) (l0 : Value) (l1 : Value) (l2 : Value) (l3 : Value) (w0 w1 : Value) (σ : Hs) : ru d 168 8 [l0, l1, l2, l3] [w0, w1] σ = ru d 168 21 [l0, l1, l2, l3] [w0, w1] σ := q_goto t168_8 (by decide +kernel)
theorem t168_11 : decode (mb 168) 11 = .ok (.iload_n 1, 1) := by decide +kernel
theorem s168_11 (d : Nat) (l0 : Value) (i1 : Int32) (l2 : Value) (l3 : Value) (w0 : Value) (σ : Hs) : ru d 168 11 [l0, .int i1, l2, l3] [w0] σ = ru d 168 12 [l0, .int i1, l2, l3] [.int i1, w0] σ := q_iload_n t168_11 rfl
theorem t168_12 : decode (mb 168) 12 = .ok (.iconst 2, 1) := by decide +kernel
theorem s168_12 (d : Nat) (l0 : Value) (l1 : Value) (l2 : Value) (l3 : Value) (w0 w1 : Value) (σ : Hs) : ru d 168 12 [l0, l1, l2, l3] [w0, w1] σ = ru d 168 13 [l0, l1, l2, l3] [.int 2, w0, w1] σ := q_iconst t168_12 (by decide +kernel)
theorem t168_13 : decode (mb 168) 13 = .ok (.if_icmp .ne 7, 3) := by decide +kernel
theorem s168_13 (d : Nat) (l0 : Value) (l1 : Value) (l2 : Value) (l3 : Value) (x y : Int32) (w0 : Value) (σ : Hs) : ru d 168 13 [l0, l1, l2, l3] [.int y, .int x, w0] σ = if x = y then ru d 168 16 [l0, l1, l2, l3] [w0] σ else ru d 168 20 [l0, l1, l2, l3] [w0] σ := q_ic_ne t168_13 (by decide +kernel)
theorem t168_16 : decode (mb 168) 16 = .ok (.iconst (-1), 1) := by decide +kernel
theorem s168_16 (d : Nat) (l0 : Value) (l1 : Value) (l2 : Value) (l3 : Value) (w0 : Value) (σ : Hs) : ru d 168 16 [l0, l1, l2, l3] [w0] σ = ru d 168 17 [l0, l1, l2, l3] [.int (-1), w0] σ := q_iconst t168_16 (by decide +kernel)
theorem t168_17 : decode (mb 168) 17 = .ok (.goto 4, 3) := by decide +kernel
theorem s168_17 (d : Nat) (l0 : Value) (l1 : Value) (l2 : Value) (l3 : Value) (w0 w1 : Value) (σ : Hs) : ru d 168 17 [l0, l1, l2, l3] [w0, w1] σ = ru d 168 21 [l0, l1, l2, l3] [w0, w1] σ := q_goto t168_17 (by decide +kernel)
theorem t168_20 : decode (mb 168) 20 = .ok (.iconst 0, 1) := by decide +kernel
theorem s168_20 (d : Nat) (l0 : Value) (l1 : Value) (l2 : Value) (l3 : Value) (w0 : Value) (σ : Hs) : ru d 168 20 [l0, l1, l2, l3] [w0] σ = ru d 168 21 [l0, l1, l2, l3] [.int 0, w0] σ := q_iconst t168_20 (by decide +kernel)
theorem t168_21 : decode (mb 168) 21 = .ok (.iadd, 1) := by decide +kernel
theorem s168_21 (d : Nat) (l0 : Value) (l1 : Value) (l2 : Value) (l3 : Value) (x y : Int32) (σ : Hs) : ru d 168 21 [l0, l1, l2, l3] [.int y, .int x] σ = ru d 168 22 [l0, l1, l2, l3] [.int (x + y)] σ := q_iadd t168_21
theorem t168_22 : decode (mb 168) 22 = .ok (.istore_n 2, 1) := by decide +kernel
theorem s168_22 (d : Nat) (l0 : Value) (i1 : Int32) (l2 : Value) (l3 : Value) (x : Int32) (σ : Hs) : ru d 168 22 [l0, .int i1, l2, l3] [.int x] σ = ru d 168 23 [l0, .int i1, .int x, l3] [] σ := q_istore_n t168_22 ⟨Nat.le_of_ble_eq_true rfl, rfl⟩ rfl
theorem t168_23 : decode (mb 168) 23 = .ok (.iload_n 0, 1) := by decide +kernel
theorem s168_23 (d : Nat) (i0 : Int32) (l1 : Value) (l2 : Value) (l3 : Value) (σ : Hs) : ru d 168 23 [.int i0, l1, l2, l3] [] σ = ru d 168 24 [.int i0, l1, l2, l3] [.int i0] σ := q_iload_n t168_23 rfl
theorem t168_24 : decode (mb 168) 24 = .ok (.iconst 3, 1) := by decide +kernel
theorem s168_24 (d : Nat) (l0 : Value) (l1 : Value) (l2 : Value) (l3 : Value) (w0 : Value) (σ : Hs) : ru d 168 24 [l0, l1, l2, l3] [w0] σ = ru d 168 25 [l0, l1, l2, l3] [.int 3, w0] σ := q_iconst t168_24 (by decide +kernel)
theorem t168_25 : decode (mb 168) 25 = .ok (.idiv, 1) := by decide +kernel
theorem s168_25 (d : Nat) (l0 : Value) (l1 : Value) (l2 : Value) (l3 : Value) (x y : Int32) (σ : Hs) : ru d 168 25 [l0, l1, l2, l3] [.int y, .int x] σ = gd (¬ y = 0) (ru d 168 26 [l0, l1, l2, l3] [.int (x / y)] σ) := q_idiv t168_25
theorem t168_26 : decode (mb 168) 26 = .ok (.iload_n 1, 1) := by decide +kernel
theorem s168_26 (d : Nat) (l0 : Value) (i1 : Int32) (l2 : Value) (l3 : Value) (w0 : Value) (σ : Hs) : ru d 168 26 [l0, .int i1, l2, l3] [w0] σ = ru d 168 27 [l0, .int i1, l2, l3] [.int i1, w0] σ := q_iload_n t168_26 rfl
theorem t168_27 : decode (mb 168) 27 = .ok (.iconst 1, 1) := by decide +kernel
theorem s168_27 (d : Nat) (l0 : Value) (l1 : Value) (l2 : Value) (l3 : Value) (w0 w1 : Value) (σ : Hs) : ru d 168 27 [l0, l1, l2, l3] [w0, w1] σ = ru d 168 28 [l0, l1, l2, l3] [.int 1, w0, w1] σ := q_iconst t168_27 (by decide +kernel)
theorem t168_28 : decode (mb 168) 28 = .ok (.if_icmp .ne 7, 3) := by decide +kernel
theorem s168_28 (d : Nat) (l0 : Value) (l1 : Value) (l2 : Value) (l3 : Value) (x y : Int32) (w0 : Value) (σ : Hs) : ru d 168 28 [l0, l1, l2, l3] [.int y, .int x, w0] σ = if x = y then ru d 168 31 [l0, l1, l2, l3] [w0] σ else ru d 168 35 [l0, l1, l2, l3] [w0] σ := q_ic_ne t168_28 (by decide +kernel)
theorem t168_31 : decode (mb 168) 31 = .ok (.iconst 1, 1) := by decide +kernel
theorem s168_31 (d : Nat) (l0 : Value) (l1 : Value) (l2 : Value) (l3 : Value) (w0 : Value) (σ : Hs) : ru d 168 31 [l0, l1, l2, l3] [w0] σ = ru d 168 32 [l0, l1, l2, l3] [.int 1, w0] σ := q_iconst t168_31 (by decide +kernel)
theorem t168_32 : decode (mb 168) 32 = .ok (.goto 13, 3) := by decide +kernel
theorem s168_32 (d : Nat) (l0 : Value) (l1 : Value) (l2 : Value) (l3 : Value) (w0 w1 : Value) (σ : Hs) : ru d 168 32 [l0, l1, l2, l3] [w0, w1] σ = ru d 168 45 [l0, l1, l2, l3] [w0, w1] σ := q_goto t168_32 (by decide +kernel)
theorem t168_35 : decode (mb 168) 35 = .ok (.iload_n 1, 1) := by decide +kernel
theorem s168_35 (d : Nat) (l0 : Value) (i1 : Int32) (l2 : Value) (l3 : Value) (w0 : Value) (σ : Hs) : ru d 168 35 [l0, .int i1, l2, l3] [w0] σ = ru d 168 36 [l0, .int i1, l2, l3] [.int i1, w0] σ := q_iload_n t168_35 rfl
theorem t168_36 : decode (mb 168) 36 = .ok (.iconst 3, 1) := by decide +kernel
theorem s168_36 (d : Nat) (l0 : Value) (l1 : Value) (l2 : Value) (l3 : Value) (w0 w1 : Value) (σ : Hs) : ru d 168 36 [l0, l1, l2, l3] [w0, w1] σ = ru d 168 37 [l0, l1, l2, l3] [.int 3, w0, w1] σ := q_iconst t168_36 (by decide +kernel)
theorem t168_37 : decode (mb 168) 37 = .ok (.if_icmp .ne 7, 3) := by decide +kernel
theorem s168_37 (d : Nat) (l0 : Value) (l1 : Value) (l2 : Value) (l3 : Value) (x y : Int32) (w0 : Value) (σ : Hs) : ru d 168 37 [l0, l1, l2, l3] [.int y, .int x, w0] σ = if x = y then ru d 168 40 [l0, l1, l2, l3] [w0] σ else ru d 168 44 [l0, l1, l2, l3] [w0] σ := q_ic_ne t168_37 (by decide +kernel)
theorem t168_40 : decode (mb 168) 40 = .ok (.iconst (-1), 1) := by decide +kernel
theorem s168_40 (d : Nat) (l0 : Value) (l1 : Value) (l2 : Value) (l3 : Value) (w0 : Value) (σ : Hs) : ru d 168 40 [l0, l1, l2, l3] [w0] σ = ru d 168 41 [l0, l1, l2, l3] [.int (-1), w0] σ := q_iconst t168_40 (by decide +kernel)
theorem t168_41 : decode (mb 168) 41 = .ok (.goto 4, 3) := by decide +kernel
theorem s168_41 (d : Nat) (l0 : Value) (l1 : Value) (l2 : Value) (l3 : Value) (w0 w1 : Value) (σ : Hs) : ru d 168 41 [l0, l1, l2, l3] [w0, w1] σ = ru d 168 45 [l0, l1, l2, l3] [w0, w1] σ := q_goto t168_41 (by decide +kernel)
theorem t168_44 : decode (mb 168) 44 = .ok (.iconst 0, 1) := by decide +kernel
theorem s168_44 (d : Nat) (l0 : Value) (l1 : Value) (l2 : Value) (l3 : Value) (w0 : Value) (σ : Hs) : ru d 168 44 [l0, l1, l2, l3] [w0] σ = ru d 168 45 [l0, l1, l2, l3] [.int 0, w0] σ := q_iconst t168_44 (by decide +kernel)
theorem t168_45 : decode (mb 168) 45 = .ok (.iadd, 1) := by decide +kernel
theorem s168_45 (d : Nat) (l0 : Value) (l1 : Value) (l2 : Value) (l3 : Value) (x y : Int32) (σ : Hs) : ru d 168 45 [l0, l1, l2, l3] [.int y, .int x] σ = ru d 168 46 [l0, l1, l2, l3] [.int (x + y)] σ := q_iadd t168_45
theorem t168_46 : decode (mb 168) 46 = .ok (.istore_n 3, 1) := by decide +kernel
theorem s168_46 (d : Nat) (l0 : Value) (l1 : Value) (i2 : Int32) (l3 : Value) (x : Int32) (σ : Hs) : ru d 168 46 [l0, l1, .int i2, l3] [.int x] σ = ru d 168 47 [l0, l1, .int i2, .int x] [] σ := q_istore_n t168_46 ⟨Nat.le_of_ble_eq_true rfl, rfl⟩ rfl
theorem t168_47 : decode (mb 168) 47 = .ok (.iload_n 2, 1) := by decide +kernel
theorem s168_47 (d : Nat) (l0 : Value) (l1 : Value) (i2 : Int32) (l3 : Value) (σ : Hs) : ru d 168 47 [l0, l1, .int i2, l3] [] σ = ru d 168 48 [l0, l1, .int i2, l3] [.int i2] σ := q_iload_n t168_47 rfl
theorem t168_48 : decode (mb 168) 48 = .ok (.iconst 0, 1) := by decide +kernel
theorem s168_48 (d : Nat) (l0 : Value) (l1 : Value) (l2 : Value) (l3 : Value) (w0 : Value) (σ : Hs) : ru d 168 48 [l0, l1, l2, l3] [w0] σ = ru d 168 49 [l0, l1, l2, l3] [.int 0, w0] σ := q_iconst t168_48 (by decide +kernel)
theorem t168_49 : decode (mb 168) 49 = .ok (.iconst 2, 1) := by decide +kernel
theorem s168_49 (d : Nat) (l0 : Value) (l1 : Value) (l2 : Value) (l3 : Value) (w0 w1 : Value) (σ : Hs) : ru d 168 49 [l0, l1, l2, l3] [w0, w1] σ = ru d 168 50 [l0, l1, l2, l3] [.int 2, w0, w1] σ := q_iconst t168_49 (by decide +kernel)
theorem t168_50 : decode (mb 168) 50 = .ok (.invokestatic 81, 3) := by decide +kernel
theorem s168_50 (d : Nat) (l0 : Value) (l1 : Value) (l2 : Value) (l3 : Value) (v0 v1 v2 : Value) (σ : Hs) : ru d 168 50 [l0, l1, l2, l3] [v2, v1, v0] σ = kont (callD d 113 [v0, v1, v2] σ) d 168 53 [l0, l1, l2, l3] [] := q_invs t168_50 mo168 (by decide +kernel) K8_81 mj113 (Nat.le_of_ble_eq_true rfl) rfl rfl (Nat.le_of_ble_eq_true rfl)
theorem t168_53 : decode (mb 168) 53 = .ok (.ifCond .eq 20, 3) := by decide +kernel
theorem s168_53 (d : Nat) (l0 : Value) (l1 : Value) (l2 : Value) (l3 : Value) (x : Int32) (σ : Hs) : ru d 168 53 [l0, l1, l2, l3] [.int x] σ = if x = 0 then ru d 168 73 [l0, l1, l2, l3] [] σ else ru d 168 56 [l0, l1, l2, l3] [] σ := q_if_eq t168_53 (by decide +kernel)
theorem t168_56 : decode (mb 168) 56 = .ok (.iload_n 3, 1) := by decide +kernel
theorem s168_56 (d : Nat) (l0 : Value) (l1 : Value) (l2 : Value) (i3 : Int32) (σ : Hs) : ru d 168 56 [l0, l1, l2, .int i3] [] σ = ru d 168 57 [l0, l1, l2, .int i3] [.int i3] σ := q_iload_n t168_56 rfl
theorem t168_57 : decode (mb 168) 57 = .ok (.iconst 0, 1) := by decide +kernel
theorem s168_57 (d : Nat) (l0 : Value) (l1 : Value) (l2 : Value) (l3 : Value) (w0 : Value) (σ : Hs) : ru d 168 57 [l0, l1, l2, l3] [w0] σ = ru d 168 58 [l0, l1, l2, l3] [.int 0, w0] σ := q_iconst t168_57 (by decide +kernel)
theorem t168_58 : decode (mb 168) 58 = .ok (.iconst 2, 1) := by decide +kernel
theorem s168_58 (d : Nat) (l0 : Value) (l1 : Value) (l2 : Value) (l3 : Value) (w0 w1 : Value) (σ : Hs) : ru d 168 58 [l0, l1, l2, l3] [w0, w1] σ = ru d 168 59 [l0, l1, l2, l3] [.int 2, w0, w1] σ := q_iconst t168_58 (by decide +kernel)
theorem t168_59 : decode (mb 168) 59 = .ok (.invokestatic 81, 3) := by decide +kernel
theorem s168_59 (d : Nat) (l0 : Value) (l1 : Value) (l2 : Value) (l3 : Value) (v0 v1 v2 : Value) (σ : Hs) : ru d 168 59 [l0, l1, l2, l3] [v2, v1, v0] σ = kont (callD d 113 [v0, v1, v2] σ) d 168 62 [l0, l1, l2, l3] [] := q_invs t168_59 mo168 (by decide +kernel) K8_81 mj113 (Nat.le_of_ble_eq_true rfl) rfl rfl (Nat.le_of_ble_eq_true rfl)
theorem t168_62 : decode (mb 168) 62 = .ok (.ifCond .eq 11, 3) := by decide +kernel
theorem s168_62 (d : Nat) (l0 : Value) (l1 : Value) (l2 : Value) (l3 : Value) (x : Int32) (σ : Hs) : ru d 168 62 [l0, l1, l2, l3] [.int x] σ = if x = 0 then ru d 168 73 [l0, l1, l2, l3] [] σ else ru d 168 65 [l0, l1, l2, l3] [] σ := q_if_eq t168_62 (by decide +kernel)
theorem t168_65 : decode (mb 168) 65 = .ok (.iconst 3, 1) := by decide +kernel
theorem s168_65 (d : Nat) (l0 : Value) (l1 : Value) (l2 : Value) (l3 : Value) (σ : Hs) : ru d 168 65 [l0, l1, l2, l3] [] σ = ru d 168 66 [l0, l1, l2, l3] [.int 3] σ := q_iconst t168_65 (by decide +kernel)
theorem t168_66 : decode (mb 168) 66 = .ok (.iload_n 3, 1) := by decide +kernel
theorem s168_66 (d : Nat) (l0 : Value) (l1 : Value) (l2 : Value) (i3 : Int32) (w0 : Value) (σ : Hs) : ru d 168 66 [l0, l1, l2, .int i3] [w0] σ = ru d 168 67 [l0, l1, l2, .int i3] [.int i3, w0] σ := q_iload_n t168_66 rfl
theorem t168_67 : decode (mb 168) 67 = .ok (.imul, 1) := by decide +kernel
theorem s168_67 (d : Nat) (l0 : Value) (l1 : Value) (l2 : Value) (l3 : Value) (x y : Int32) (σ : Hs) : ru d 168 67 [l0, l1, l2, l3] [.int y, .int x] σ = ru d 168 68 [l0, l1, l2, l3] [.int (x * y)] σ := q_imul t168_67
theorem t168_68 : decode (mb 168) 68 = .ok (.iload_n 2, 1) := by decide +kernel
theorem s168_68 (d : Nat) (l0 : Value) (l1 : Value) (i2 : Int32) (l3 : Value) (w0 : Value) (σ : Hs) : ru d 168 68 [l0, l1, .int i2, l3] [w0] σ = ru d 168 69 [l0, l1, .int i2, l3] [.int i2, w0] σ := q_iload_n t168_68 rfl
theorem t168_69 : decode (mb 168) 69 = .ok (.iadd, 1) := by decide +kernel
theorem s168_69 (d : Nat) (l0 : Value) (l1 : Value) (l2 : Value) (l3 : Value) (x y : Int32) (σ : Hs) : ru d 168 69 [l0, l1, l2, l3] [.int y, .int x] σ = ru d 168 70 [l0, l1, l2, l3] [.int (x + y)] σ := q_iadd t168_69
theorem t168_70 : decode (mb 168) 70 = .ok (.goto 4, 3) := by decide +kernel
theorem s168_70 (d : Nat) (l0 : Value) (l1 : Value) (l2 : Value) (l3 : Value) (w0 : Value) (σ : Hs) : ru d 168 70 [l0, l1, l2, l3] [w0] σ = ru d 168 74 [l0, l1, l2, l3] [w0] σ := q_goto t168_70 (by decide +kernel)
theorem t168_73 : decode (mb 168) 73 = .ok (.iconst (-1), 1) := by decide +kernel
theorem s168_73 (d : Nat) (l0 : Value) (l1 : Value) (l2 : Value) (l3 : Value) (σ : Hs) : ru d 168 73 [l0, l1, l2, l3] [] σ = ru d 168 74 [l0, l1, l2, l3] [.int (-1)] σ := q_iconst t168_73 (by decide +kernel)
theorem t168_74 : decode (mb 168) 74 = .ok (.ireturn, 1) := by decide +kernel
theorem s168_74 (d : Nat) (l0 : Value) (l1 : Value) (l2 : Value) (l3 : Value) (x : Int32) (σ : Hs) : ru d 168 74 [l0, l1, l2, l3] [.int x] σ = some (some (.int x), σ) := q_ireti t168_74 mr168
theorem c168 (d : Nat) (x0 : Int32) (x1 : Int32) (σ : Hs) : callD (d + 1) 168 [.int x0, .int x1] σ = ru d 168 0 [.int x0, .int x1, uu, uu] [] σ := callD_ru ml168 rfl rfl (Nat.le_of_ble_eq_true rfl)
-- 169: Model.lies()V
theorem t169_0 : decode (mb 169) 0 = .ok (.aload_n 0, 1) := by decide +kernel
theorem s169_0 (d : Nat) (a0 : Nat) (l1 : Value) (l2 : Value) (l3 : Value) (l4 : Value) (l5 : Value) (σ : Hs) : ru d 169 0 [.ref a0, l1, l2, l3, l4, l5] [] σ = ru d 169 1 [.ref a0, l1, l2, l3, l4, l5] [.ref a0] σ := q_aload_n t169_0 rfl
theorem t169_1 : decode (mb 169) 1 = .ok (.getfield 9, 3) := by decide +kernel
theorem s169_1_o87 (d : Nat) (l0 : Value) (l1 : Value) (l2 : Value) (l3 : Value) (l4 : Value) (l5 : Value) (σ : Hs) : ru d 169 1 [l0, l1, l2, l3, l4, l5] [.ref 87] σ = ru d 169 4 [l0, l1, l2, l3, l4, l5] [.ref 88] σ := q_getf t169_1 mo169 F8_9 rfl rfl
theorem t169_4 : decode (mb 169) 4 = .ok (.iconst 4, 1) := by decide +kernel
theorem s169_4 (d : Nat) (l0 : Value) (l1 : Value) (l2 : Value) (l3 : Value) (l4 : Value) (l5 : Value) (w0 : Value) (σ : Hs) : ru d 169 4 [l0, l1, l2, l3, l4, l5] [w0] σ = ru d 169 5 [l0, l1, l2, l3, l4, l5] [.int 4, w0] σ := q_iconst t169_4 (by decide +kernel)
theorem t169_5 : decode (mb 169) 5 = .ok (.iaload, 1) := by decide +kernel
theorem s169_5_o88 (d : Nat) (l0 : Value) (l1 : Value) (l2 : Value) (l3 : Value) (l4 : Value) (l5 : Value) (i : Int32) (σ : Hs) : ru d 169 5 [l0, l1, l2, l3, l4, l5] [.int i, .ref 88] σ = gd (vp_in i 545) (ru d 169 6 [l0, l1, l2, l3, l4, l5] [.int (σ 88 i.toNatClampNeg)] σ) := q_iald t169_5 rfl (by decide +kernel) rfl
theorem t169_6 : decode (mb 169) 6 = .ok (.bipush 60, 2) := by decide +kernel
theorem s169_6 (d : Nat) (l0 : Value) (l1 : Value) (l2 : Value) (l3 : Value) (l4 : Value) (l5 : Value) (w0 : Value) (σ : Hs) : ru d 169 6 [l0, l1, l2, l3, l4, l5] [w0] σ = ru d 169 8 [l0, l1, l2, l3, l4, l5] [.int 60, w0] σ := q_bipush t169_6 (by decide +kernel)
theorem t169_8 : decode (mb 169) 8 = .ok (.idiv, 1) := by decide +kernel
theorem s169_8 (d : Nat) (l0 : Value) (l1 : Value) (l2 : Value) (l3 : Value) (l4 : Value) (l5 : Value) (x y : Int32) (σ : Hs) : ru d 169 8 [l0, l1, l2, l3, l4, l5] [.int y, .int x] σ = gd (¬ y = 0) (ru d 169 9 [l0, l1, l2, l3, l4, l5] [.int (x / y)] σ) := q_idiv t169_8
theorem t169_9 : decode (mb 169) 9 = .ok (.istore_n 1, 1) := by decide +kernel
theorem s169_9 (d : Nat) (a0 : Nat) (l1 : Value) (l2 : Value) (l3 : Value) (l4 : Value) (l5 : Value) (x : Int32) (σ : Hs) : ru d 169 9 [.ref a0, l1, l2, l3, l4, l5] [.int x] σ = ru d 169 10 [.ref a0, .int x, l2, l3, l4, l5] [] σ := q_istore_n t169_9 ⟨Nat.le_of_ble_eq_true rfl, rfl⟩ rfl
theorem t169_10 : decode (mb 169) 10 = .ok (.aload_n 0, 1) := by decide +kernel
theorem s169_10 (d : Nat) (a0 : Nat) (l1 : Value) (l2 : Value) (l3 : Value) (l4 : Value) (l5 : Value) (σ : Hs) : ru d 169 10 [.ref a0, l1, l2, l3, l4, l5] [] σ = ru d 169 11 [.ref a0, l1, l2, l3, l4, l5] [.ref a0] σ := q_aload_n t169_10 rfl
theorem t169_11 : decode (mb 169) 11 = .ok (.getfield 241, 3) := by decide +kernel
theorem s169_11_o87 (d : Nat) (l0 : Value) (l1 : Value) (l2 : Value) (l3 : Value) (l4 : Value) (l5 : Value) (σ : Hs) : ru d 169 11 [l0, l1, l2, l3, l4, l5] [.ref 87] σ = ru d 169 14 [l0, l1, l2, l3, l4, l5] [.int (σ 87 17)] σ := q_getf t169_11 mo169 F8_241 rfl rfl
theorem t169_14 : decode (mb 169) 14 = .ok (.i2l, 1) := by decide +kernel
theorem s169_14 (d : Nat) (l0 : Value) (l1 : Value) (l2 : Value) (l3 : Value) (l4 : Value) (l5 : Value) (x : Int32) (σ : Hs) : ru d 169 14 [l0, l1, l2, l3, l4, l5] [.int x] σ = ru d 169 15 [l0, l1, l2, l3, l4, l5] [.long x.toInt64] σ := q_i2l t169_14
theorem t169_15 : decode (mb 169) 15 = .ok (.aload_n 0, 1) := by decide +kernel
theorem s169_15 (d : Nat) (a0 : Nat) (l1 : Value) (l2 : Value) (l3 : Value) (l4 : Value) (l5 : Value) (w0 : Value) (σ : Hs) : ru d 169 15 [.ref a0, l1, l2, l3, l4, l5] [w0] σ = ru d 169 16 [.ref a0, l1, l2, l3, l4, l5] [.ref a0, w0] σ := q_aload_n t169_15 rfl
theorem t169_16 : decode (mb 169) 16 = .ok (.iconst 2, 1) := by decide +kernel
theorem s169_16 (d : Nat) (l0 : Value) (l1 : Value) (l2 : Value) (l3 : Value) (l4 : Value) (l5 : Value) (w0 w1 : Value) (σ : Hs) : ru d 169 16 [l0, l1, l2, l3, l4, l5] [w0, w1] σ = ru d 169 17 [l0, l1, l2, l3, l4, l5] [.int 2, w0, w1] σ := q_iconst t169_16 (by decide +kernel)
theorem t169_17 : decode (mb 169) 17 = .ok (.iload_n 1, 1) := by decide +kernel
theorem s169_17 (d : Nat) (l0 : Value) (i1 : Int32) (l2 : Value) (l3 : Value) (l4 : Value) (l5 : Value) (w0 w1 w2 : Value) (σ : Hs) : ru d 169 17 [l0, .int i1, l2, l3, l4, l5] [w0, w1, w2] σ = ru d 169 18 [l0, .int i1, l2, l3, l4, l5] [.int i1, w0, w1, w2] σ := q_iload_n t169_17 rfl
theorem t169_18 : decode (mb 169) 18 = .ok (.aload_n 0, 1) := by decide +kernel
theorem s169_18 (d : Nat) (a0 : Nat) (l1 : Value) (l2 : Value) (l3 : Value) (l4 : Value) (l5 : Value) (w0 w1 w2 w3 : Value) (σ : Hs) : ru d 169 18 [.ref a0, l1, l2, l3, l4, l5] [w0, w1, w2, w3] σ = ru d 169 19 [.ref a0, l1, l2, l3, l4, l5] [.ref a0, w0, w1, w2, w3] σ := q_aload_n t169_18 rfl
theorem t169_19 : decode (mb 169) 19 = .ok (.getfield 9, 3) := by decide +kernel
theorem s169_19_o87 (d : Nat) (l0 : Value) (l1 : Value) (l2 : Value) (l3 : Value) (l4 : Value) (l5 : Value) (w0 w1 w2 w3 : Value) (σ : Hs) : ru d 169 19 [l0, l1, l2, l3, l4, l5] [.ref 87, w0, w1, w2, w3] σ = ru d 169 22 [l0, l1, l2, l3, l4, l5] [.ref 88, w0, w1, w2, w3] σ := q_getf t169_19 mo169 F8_9 rfl rfl
theorem t169_22 : decode (mb 169) 22 = .ok (.iconst 5, 1) := by decide +kernel
theorem s169_22 (d : Nat) (l0 : Value) (l1 : Value) (l2 : Value) (l3 : Value) (l4 : Value) (l5 : Value) (w0 w1 w2 w3 w4 : Value) (σ : Hs) : ru d 169 22 [l0, l1, l2, l3, l4, l5] [w0, w1, w2, w3, w4] σ = ru d 169 23 [l0, l1, l2, l3, l4, l5] [.int 5, w0, w1, w2, w3, w4] σ := q_iconst t169_22 (by decide +kernel)
theorem t169_23 : decode (mb 169) 23 = .ok (.iaload, 1) := by decide +kernel
theorem s169_23_o88 (d : Nat) (l0 : Value) (l1 : Value) (l2 : Value) (l3 : Value) (l4 : Value) (l5 : Value) (i : Int32) (w0 w1 w2 w3 : Value) (σ : Hs) : ru d 169 23 [l0, l1, l2, l3, l4, l5] [.int i, .ref 88, w0, w1, w2, w3] σ = gd (vp_in i 545) (ru d 169 24 [l0, l1, l2, l3, l4, l5] [.int (σ 88 i.toNatClampNeg), w0, w1, w2, w3] σ) := q_iald t169_23 rfl (by decide +kernel) rfl
theorem t169_24 : decode (mb 169) 24 = .ok (.aload_n 0, 1) := by decide +kernel
theorem s169_24 (d : Nat) (a0 : Nat) (l1 : Value) (l2 : Value) (l3 : Value) (l4 : Value) (l5 : Value) (w0 w1 w2 w3 w4 : Value) (σ : Hs) : ru d 169 24 [.ref a0, l1, l2, l3, l4, l5] [w0, w1, w2, w3, w4] σ = ru d 169 25 [.ref a0, l1, l2, l3, l4, l5] [.ref a0, w0, w1, w2, w3, w4] σ := q_aload_n t169_24 rfl
theorem t169_25 : decode (mb 169) 25 = .ok (.getfield 241, 3) := by decide +kernel
theorem s169_25_o87 (d : Nat) (l0 : Value) (l1 : Value) (l2 : Value) (l3 : Value) (l4 : Value) (l5 : Value) (w0 w1 w2 w3 w4 : Value) (σ : Hs) : ru d 169 25 [l0, l1, l2, l3, l4, l5] [.ref 87, w0, w1, w2, w3, w4] σ = ru d 169 28 [l0, l1, l2, l3, l4, l5] [.int (σ 87 17), w0, w1, w2, w3, w4] σ := q_getf t169_25 mo169 F8_241 rfl rfl
theorem t169_28 : decode (mb 169) 28 = .ok (.iconst 0, 1) := by decide +kernel
theorem s169_28 (d : Nat) (l0 : Value) (l1 : Value) (l2 : Value) (l3 : Value) (l4 : Value) (l5 : Value) (w0 w1 w2 w3 w4 w5 : Value) (σ : Hs) : ru d 169 28 [l0, l1, l2, l3, l4, l5] [w0, w1, w2, w3, w4, w5] σ = ru d 169 29 [l0, l1, l2, l3, l4, l5] [.int 0, w0, w1, w2, w3, w4, w5] σ := q_iconst t169_28 (by decide +kernel)
theorem t169_29 : decode (mb 169) 29 = .ok (.invokevirtual 223, 3) := by decide +kernel
theorem s169_29_o87 (d : Nat) (l0 : Value) (l1 : Value) (l2 : Value) (l3 : Value) (l4 : Value) (l5 : Value) (v1 v2 v3 v4 v5 : Value) (w0 : Int64) (σ : Hs) : ru d 169 29 [l0, l1, l2, l3, l4, l5] [v5, v4, v3, v2, v1, .ref 87, .long w0] σ = kont (callD d 159 [.ref 87, v1, v2, v3, v4, v5] σ) d 169 32 [l0, l1, l2, l3, l4, l5] [.long w0] := q_invv t169_29 mo169 K8_223 mj159 rfl rfl rfl rfl (Nat.le_of_ble_eq_true rfl)
theorem t169_32 : decode (mb 169) 32 = .ok (.iconst 0, 1) := by decide +kernel
theorem s169_32 (d : Nat) (l0 : Value) (l1 : Value) (l2 : Value) (l3 : Value) (l4 : Value) (l5 : Value) (w0 w1 : Value) (σ : Hs) : ru d 169 32 [l0, l1, l2, l3, l4, l5] [w0, w1] σ = ru d 169 33 [l0, l1, l2, l3, l4, l5] [.int 0, w0, w1] σ := q_iconst t169_32 (by decide +kernel)
theorem t169_33 : decode (mb 169) 33 = .ok (.bipush 100, 2) := by decide +kernel
theorem s169_33 (d : Nat) (l0 : Value) (l1 : Value) (l2 : Value) (l3 : Value) (l4 : Value) (l5 : Value) (w0 w1 w2 : Value) (σ : Hs) : ru d 169 33 [l0, l1, l2, l3, l4, l5] [w0, w1, w2] σ = ru d 169 35 [l0, l1, l2, l3, l4, l5] [.int 100, w0, w1, w2] σ := q_bipush t169_33 (by decide +kernel)
theorem t169_35 : decode (mb 169) 35 = .ok (.invokestatic 227, 3) := by decide +kernel
theorem s169_35 (d : Nat) (l0 : Value) (l1 : Value) (l2 : Value) (l3 : Value) (l4 : Value) (l5 : Value) (v0 v1 v2 : Value) (w0 : Int64) (σ : Hs) : ru d 169 35 [l0, l1, l2, l3, l4, l5] [v2, v1, v0, .long w0] σ = kont (callD d 115 [v0, v1, v2] σ) d 169 38 [l0, l1, l2, l3, l4, l5] [.long w0] := q_invs t169_35 mo169 (by decide +kernel) K8_227 mj115 (Nat.le_of_ble_eq_true rfl) rfl rfl (Nat.le_of_ble_eq_true rfl)
theorem t169_38 : decode (mb 169) 38 = .ok (.i2l, 1) := by decide +kernel
theorem s169_38 (d : Nat) (l0 : Value) (l1 : Value) (l2 : Value) (l3 : Value) (l4 : Value) (l5 : Value) (x : Int32) (w0 : Value) (σ : Hs) : ru d 169 38 [l0, l1, l2, l3, l4, l5] [.int x, w0] σ = ru d 169 39 [l0, l1, l2, l3, l4, l5] [.long x.toInt64, w0] σ := q_i2l t169_38
theorem t169_39 : decode (mb 169) 39 = .ok (.lmul, 1) := by decide +kernel
theorem s169_39 (d : Nat) (l0 : Value) (l1 : Value) (l2 : Value) (l3 : Value) (l4 : Value) (l5 : Value) (x y : Int64) (σ : Hs) : ru d 169 39 [l0, l1, l2, l3, l4, l5] [.long y, .long x] σ = ru d 169 40 [l0, l1, l2, l3, l4, l5] [.long (x * y)] σ := q_lmul t169_39
theorem t169_40 : decode (mb 169) 40 = .ok (.ldc2_w 247, 3) := by decide +kernel
theorem s169_40 (d : Nat) (l0 : Value) (l1 : Value) (l2 : Value) (l3 : Value) (l4 : Value) (l5 : Value) (w0 : Value) (σ : Hs) : ru d 169 40 [l0, l1, l2, l3, l4, l5] [w0] σ = ru d 169 43 [l0, l1, l2, l3, l4, l5] [.long 100, w0] σ := q_ldc2 t169_40 mo169 L8_247
theorem t169_43 : decode (mb 169) 43 = .ok (.ldiv, 1) := by decide +kernel
theorem s169_43 (d : Nat) (l0 : Value) (l1 : Value) (l2 : Value) (l3 : Value) (l4 : Value) (l5 : Value) (x y : Int64) (σ : Hs) : ru d 169 43 [l0, l1, l2, l3, l4, l5] [.long y, .long x] σ = gd (¬ y = 0) (ru d 169 44 [l0, l1, l2, l3, l4, l5] [.long (x / y)] σ) := q_ldiv t169_43
theorem t169_44 : decode (mb 169) 44 = .ok (.l2i, 1) := by decide +kernel
theorem s169_44 (d : Nat) (l0 : Value) (l1 : Value) (l2 : Value) (l3 : Value) (l4 : Value) (l5 : Value) (x : Int64) (σ : Hs) : ru d 169 44 [l0, l1, l2, l3, l4, l5] [.long x] σ = ru d 169 45 [l0, l1, l2, l3, l4, l5] [.int x.toInt32] σ := q_l2i t169_44
theorem t169_45 : decode (mb 169) 45 = .ok (.istore_n 2, 1) := by decide +kernel
theorem s169_45 (d : Nat) (l0 : Value) (i1 : Int32) (l2 : Value) (l3 : Value) (l4 : Value) (l5 : Value) (x : Int32) (σ : Hs) : ru d 169 45 [l0, .int i1, l2, l3, l4, l5] [.int x] σ = ru d 169 46 [l0, .int i1, .int x, l3, l4, l5] [] σ := q_istore_n t169_45 ⟨Nat.le_of_ble_eq_true rfl, rfl⟩ rfl
theorem t169_46 : decode (mb 169) 46 = .ok (.aload_n 0, 1) := by decide +kernel
theorem s169_46 (d : Nat) (a0 : Nat) (l1 : Value) (l2 : Value) (l3 : Value) (l4 : Value) (l5 : Value) (σ : Hs) : ru d 169 46 [.ref a0, l1, l2, l3, l4, l5] [] σ = ru d 169 47 [.ref a0, l1, l2, l3, l4, l5] [.ref a0] σ := q_aload_n t169_46 rfl
theorem t169_47 : decode (mb 169) 47 = .ok (.getfield 9, 3) := by decide +kernel
theorem s169_47_o87 (d : Nat) (l0 : Value) (l1 : Value) (l2 : Value) (l3 : Value) (l4 : Value) (l5 : Value) (σ : Hs) : ru d 169 47 [l0, l1, l2, l3, l4, l5] [.ref 87] σ = ru d 169 50 [l0, l1, l2, l3, l4, l5] [.ref 88] σ := q_getf t169_47 mo169 F8_9 rfl rfl
theorem t169_50 : decode (mb 169) 50 = .ok (.bipush 8, 2) := by decide +kernel
theorem s169_50 (d : Nat) (l0 : Value) (l1 : Value) (l2 : Value) (l3 : Value) (l4 : Value) (l5 : Value) (w0 : Value) (σ : Hs) : ru d 169 50 [l0, l1, l2, l3, l4, l5] [w0] σ = ru d 169 52 [l0, l1, l2, l3, l4, l5] [.int 8, w0] σ := q_bipush t169_50 (by decide +kernel)
theorem t169_52 : decode (mb 169) 52 = .ok (.iaload, 1) := by decide +kernel
theorem s169_52_o88 (d : Nat) (l0 : Value) (l1 : Value) (l2 : Value) (l3 : Value) (l4 : Value) (l5 : Value) (i : Int32) (σ : Hs) : ru d 169 52 [l0, l1, l2, l3, l4, l5] [.int i, .ref 88] σ = gd (vp_in i 545) (ru d 169 53 [l0, l1, l2, l3, l4, l5] [.int (σ 88 i.toNatClampNeg)] σ) := q_iald t169_52 rfl (by decide +kernel) rfl
theorem t169_53 : decode (mb 169) 53 = .ok (.istore_n 3, 1) := by decide +kernel
theorem s169_53 (d : Nat) (l0 : Value) (l1 : Value) (i2 : Int32) (l3 : Value) (l4 : Value) (l5 : Value) (x : Int32) (σ : Hs) : ru d 169 53 [l0, l1, .int i2, l3, l4, l5] [.int x] σ = ru d 169 54 [l0, l1, .int i2, .int x, l4, l5] [] σ := q_istore_n t169_53 ⟨Nat.le_of_ble_eq_true rfl, rfl⟩ rfl
theorem t169_54 : decode (mb 169) 54 = .ok (.iload_n 3, 1) := by decide +kernel
theorem s169_54 (d : Nat) (l0 : Value) (l1 : Value) (l2 : Value) (i3 : Int32) (l4 : Value) (l5 : Value) (σ : Hs) : ru d 169 54 [l0, l1, l2, .int i3, l4, l5] [] σ = ru d 169 55 [l0, l1, l2, .int i3, l4, l5] [.int i3] σ := q_iload_n t169_54 rfl
theorem t169_55 : decode (mb 169) 55 = .ok (.ifCond .lt 103, 3) := by decide +kernel
theorem s169_55 (d : Nat) (l0 : Value) (l1 : Value) (l2 : Value) (l3 : Value) (l4 : Value) (l5 : Value) (x : Int32) (σ : Hs) : ru d 169 55 [l0, l1, l2, l3, l4, l5] [.int x] σ = if x < 0 then ru d 169 158 [l0, l1, l2, l3, l4, l5] [] σ else ru d 169 58 [l0, l1, l2, l3, l4, l5] [] σ := q_if_lt t169_55 (by decide +kernel)
theorem t169_58 : decode (mb 169) 58 = .ok (.sipush 224, 3) := by decide +kernel
theorem s169_58 (d : Nat) (l0 : Value) (l1 : Value) (l2 : Value) (l3 : Value) (l4 : Value) (l5 : Value) (σ : Hs) : ru d 169 58 [l0, l1, l2, l3, l4, l5] [] σ = ru d 169 61 [l0, l1, l2, l3, l4, l5] [.int 224] σ := q_sipush t169_58 (by decide +kernel)
theorem t169_61 : decode (mb 169) 61 = .ok (.iconst 3, 1) := by decide +kernel
theorem s169_61 (d : Nat) (l0 : Value) (l1 : Value) (l2 : Value) (l3 : Value) (l4 : Value) (l5 : Value) (w0 : Value) (σ : Hs) : ru d 169 61 [l0, l1, l2, l3, l4, l5] [w0] σ = ru d 169 62 [l0, l1, l2, l3, l4, l5] [.int 3, w0] σ := q_iconst t169_61 (by decide +kernel)
theorem t169_62 : decode (mb 169) 62 = .ok (.iload_n 3, 1) := by decide +kernel
theorem s169_62 (d : Nat) (l0 : Value) (l1 : Value) (l2 : Value) (i3 : Int32) (l4 : Value) (l5 : Value) (w0 w1 : Value) (σ : Hs) : ru d 169 62 [l0, l1, l2, .int i3, l4, l5] [w0, w1] σ = ru d 169 63 [l0, l1, l2, .int i3, l4, l5] [.int i3, w0, w1] σ := q_iload_n t169_62 rfl
theorem t169_63 : decode (mb 169) 63 = .ok (.imul, 1) := by decide +kernel
theorem s169_63 (d : Nat) (l0 : Value) (l1 : Value) (l2 : Value) (l3 : Value) (l4 : Value) (l5 : Value) (x y : Int32) (w0 : Value) (σ : Hs) : ru d 169 63 [l0, l1, l2, l3, l4, l5] [.int y, .int x, w0] σ = ru d 169 64 [l0, l1, l2, l3, l4, l5] [.int (x * y), w0] σ := q_imul t169_63
theorem t169_64 : decode (mb 169) 64 = .ok (.iadd, 1) := by decide +kernel
theorem s169_64 (d : Nat) (l0 : Value) (l1 : Value) (l2 : Value) (l3 : Value) (l4 : Value) (l5 : Value) (x y : Int32) (σ : Hs) : ru d 169 64 [l0, l1, l2, l3, l4, l5] [.int y, .int x] σ = ru d 169 65 [l0, l1, l2, l3, l4, l5] [.int (x + y)] σ := q_iadd t169_64
theorem t169_65 : decode (mb 169) 65 = .ok (.istore 4, 2) := by decide +kernel
theorem s169_65 (d : Nat) (l0 : Value) (l1 : Value) (l2 : Value) (i3 : Int32) (l4 : Value) (l5 : Value) (x : Int32) (σ : Hs) : ru d 169 65 [l0, l1, l2, .int i3, l4, l5] [.int x] σ = ru d 169 67 [l0, l1, l2, .int i3, .int x, l5] [] σ := q_istore t169_65 ⟨Nat.le_of_ble_eq_true rfl, rfl⟩ rfl
theorem t169_67 : decode (mb 169) 67 = .ok (.iload_n 2, 1) := by decide +kernel
theorem s169_67 (d : Nat) (l0 : Value) (l1 : Value) (i2 : Int32) (l3 : Value) (l4 : Value) (l5 : Value) (σ : Hs) : ru d 169 67 [l0, l1, .int i2, l3, l4, l5] [] σ = ru d 169 68 [l0, l1, .int i2, l3, l4, l5] [.int i2] σ := q_iload_n t169_67 rfl
theorem t169_68 : decode (mb 169) 68 = .ok (.iconst 2, 1) := by decide +kernel
theorem s169_68 (d : Nat) (l0 : Value) (l1 : Value) (l2 : Value) (l3 : Value) (l4 : Value) (l5 : Value) (w0 : Value) (σ : Hs) : ru d 169 68 [l0, l1, l2, l3, l4, l5] [w0] σ = ru d 169 69 [l0, l1, l2, l3, l4, l5] [.int 2, w0] σ := q_iconst t169_68 (by decide +kernel)
theorem t169_69 : decode (mb 169) 69 = .ok (.idiv, 1) := by decide +kernel
theorem s169_69 (d : Nat) (l0 : Value) (l1 : Value) (l2 : Value) (l3 : Value) (l4 : Value) (l5 : Value) (x y : Int32) (σ : Hs) : ru d 169 69 [l0, l1, l2, l3, l4, l5] [.int y, .int x] σ = gd (¬ y = 0) (ru d 169 70 [l0, l1, l2, l3, l4, l5] [.int (x / y)] σ) := q_idiv t169_69
theorem t169_70 : decode (mb 169) 70 = .ok (.istore 5, 2) := by decide +kernel
theorem s169_70 (d : Nat) (l0 : Value) (l1 : Value) (l2 : Value) (l3 : Value) (i4 : Int32) (l5 : Value) (x : Int32) (σ : Hs) : ru d 169 70 [l0, l1, l2, l3, .int i4, l5] [.int x] σ = ru d 169 72 [l0, l1, l2, l3, .int i4, .int x] [] σ := q_istore t169_70 ⟨Nat.le_of_ble_eq_true rfl, rfl⟩ rfl
theorem t169_72 : decode (mb 169) 72 = .ok (.aload_n 0, 1) := by decide +kernel
theorem s169_72 (d : Nat) (a0 : Nat) (l1 : Value) (l2 : Value) (l3 : Value) (l4 : Value) (l5 : Value) (σ : Hs) : ru d 169 72 [.ref a0, l1, l2, l3, l4, l5] [] σ = ru d 169 73 [.ref a0, l1, l2, l3, l4, l5] [.ref a0] σ := q_aload_n t169_72 rfl
theorem t169_73 : decode (mb 169) 73 = .ok (.getfield 9, 3) := by decide +kernel
theorem s169_73_o87 (d : Nat) (l0 : Value) (l1 : Value) (l2 : Value) (l3 : Value) (l4 : Value) (l5 : Value) (σ : Hs) : ru d 169 73 [l0, l1, l2, l3, l4, l5] [.ref 87] σ = ru d 169 76 [l0, l1, l2, l3, l4, l5] [.ref 88] σ := q_getf t169_73 mo169 F8_9 rfl rfl
theorem t169_76 : decode (mb 169) 76 = .ok (.iload 4, 2) := by decide +kernel
theorem s169_76 (d : Nat) (l0 : Value) (l1 : Value) (l2 : Value) (l3 : Value) (i4 : Int32) (l5 : Value) (w0 : Value) (σ : Hs) : ru d 169 76 [l0, l1, l2, l3, .int i4, l5] [w0] σ = ru d 169 78 [l0, l1, l2, l3, .int i4, l5] [.int i4, w0] σ := q_iload t169_76 rfl
theorem t169_78 : decode (mb 169) 78 = .ok (.iconst 0, 1) := by decide +kernel
theorem s169_78 (d : Nat) (l0 : Value) (l1 : Value) (l2 : Value) (l3 : Value) (l4 : Value) (l5 : Value) (w0 w1 : Value) (σ : Hs) : ru d 169 78 [l0, l1, l2, l3, l4, l5] [w0, w1] σ = ru d 169 79 [l0, l1, l2, l3, l4, l5] [.int 0, w0, w1] σ := q_iconst t169_78 (by decide +kernel)
theorem t169_79 : decode (mb 169) 79 = .ok (.iadd, 1) := by decide +kernel
theorem s169_79 (d : Nat) (l0 : Value) (l1 : Value) (l2 : Value) (l3 : Value) (l4 : Value) (l5 : Value) (x y : Int32) (w0 : Value) (σ : Hs) : ru d 169 79 [l0, l1, l2, l3, l4, l5] [.int y, .int x, w0] σ = ru d 169 80 [l0, l1, l2, l3, l4, l5] [.int (x + y), w0] σ := q_iadd t169_79
theorem t169_80 : decode (mb 169) 80 = .ok (.aload_n 0, 1) := by decide +kernel
theorem s169_80 (d : Nat) (a0 : Nat) (l1 : Value) (l2 : Value) (l3 : Value) (l4 : Value) (l5 : Value) (w0 w1 : Value) (σ : Hs) : ru d 169 80 [.ref a0, l1, l2, l3, l4, l5] [w0, w1] σ = ru d 169 81 [.ref a0, l1, l2, l3, l4, l5] [.ref a0, w0, w1] σ := q_aload_n t169_80 rfl
theorem t169_81 : decode (mb 169) 81 = .ok (.getfield 9, 3) := by decide +kernel
theorem s169_81_o87 (d : Nat) (l0 : Value) (l1 : Value) (l2 : Value) (l3 : Value) (l4 : Value) (l5 : Value) (w0 w1 : Value) (σ : Hs) : ru d 169 81 [l0, l1, l2, l3, l4, l5] [.ref 87, w0, w1] σ = ru d 169 84 [l0, l1, l2, l3, l4, l5] [.ref 88, w0, w1] σ := q_getf t169_81 mo169 F8_9 rfl rfl
theorem t169_84 : decode (mb 169) 84 = .ok (.iload 4, 2) := by decide +kernel
theorem s169_84 (d : Nat) (l0 : Value) (l1 : Value) (l2 : Value) (l3 : Value) (i4 : Int32) (l5 : Value) (w0 w1 w2 : Value) (σ : Hs) : ru d 169 84 [l0, l1, l2, l3, .int i4, l5] [w0, w1, w2] σ = ru d 169 86 [l0, l1, l2, l3, .int i4, l5] [.int i4, w0, w1, w2] σ := q_iload t169_84 rfl
theorem t169_86 : decode (mb 169) 86 = .ok (.iconst 0, 1) := by decide +kernel
theorem s169_86 (d : Nat) (l0 : Value) (l1 : Value) (l2 : Value) (l3 : Value) (l4 : Value) (l5 : Value) (w0 w1 w2 w3 : Value) (σ : Hs) : ru d 169 86 [l0, l1, l2, l3, l4, l5] [w0, w1, w2, w3] σ = ru d 169 87 [l0, l1, l2, l3, l4, l5] [.int 0, w0, w1, w2, w3] σ := q_iconst t169_86 (by decide +kernel)
theorem t169_87 : decode (mb 169) 87 = .ok (.iadd, 1) := by decide +kernel
theorem s169_87 (d : Nat) (l0 : Value) (l1 : Value) (l2 : Value) (l3 : Value) (l4 : Value) (l5 : Value) (x y : Int32) (w0 w1 w2 : Value) (σ : Hs) : ru d 169 87 [l0, l1, l2, l3, l4, l5] [.int y, .int x, w0, w1, w2] σ = ru d 169 88 [l0, l1, l2, l3, l4, l5] [.int (x + y), w0, w1, w2] σ := q_iadd t169_87
theorem t169_88 : decode (mb 169) 88 = .ok (.iaload, 1) := by decide +kernel
theorem s169_88_o88 (d : Nat) (l0 : Value) (l1 : Value) (l2 : Value) (l3 : Value) (l4 : Value) (l5 : Value) (i : Int32) (w0 w1 : Value) (σ : Hs) : ru d 169 88 [l0, l1, l2, l3, l4, l5] [.int i, .ref 88, w0, w1] σ = gd (vp_in i 545) (ru d 169 89 [l0, l1, l2, l3, l4, l5] [.int (σ 88 i.toNatClampNeg), w0, w1] σ) := q_iald t169_88 rfl (by decide +kernel) rfl
theorem t169_89 : decode (mb 169) 89 = .ok (.iload 5, 2) := by decide +kernel
theorem s169_89 (d : Nat) (l0 : Value) (l1 : Value) (l2 : Value) (l3 : Value) (l4 : Value) (i5 : Int32) (w0 w1 w2 : Value) (σ : Hs) : ru d 169 89 [l0, l1, l2, l3, l4, .int i5] [w0, w1, w2] σ = ru d 169 91 [l0, l1, l2, l3, l4, .int i5] [.int i5, w0, w1, w2] σ := q_iload t169_89 rfl
theorem t169_91 : decode (mb 169) 91 = .ok (.invokestatic 244, 3) := by decide +kernel
theorem s169_91 (d : Nat) (l0 : Value) (l1 : Value) (l2 : Value) (l3 : Value) (l4 : Value) (l5 : Value) (v0 v1 : Value) (w0 : Int32) (w1 : Nat) (σ : Hs) : ru d 169 91 [l0, l1, l2, l3, l4, l5] [v1, v0, .int w0, .ref w1] σ = kont (callD d 164 [v0, v1] σ) d 169 94 [l0, l1, l2, l3, l4, l5] [.int w0, .ref w1] := q_invs t169_91 mo169 (by decide +kernel) K8_244 mj164 (Nat.le_of_ble_eq_true rfl) rfl rfl (Nat.le_of_ble_eq_true rfl)
theorem t169_94 : decode (mb 169) 94 = .ok (.iastore, 1) := by decide +kernel
theorem s169_94_o88 (d : Nat) (l0 : Value) (l1 : Value) (l2 : Value) (l3 : Value) (l4 : Value) (l5 : Value) (i x : Int32) (σ : Hs) : ru d 169 94 [l0, l1, l2, l3, l4, l5] [.int x, .int i, .ref 88] σ = gd (vp_in i 545) (ru d 169 95 [l0, l1, l2, l3, l4, l5] [] (up2 σ 88 i.toNatClampNeg x)) := q_iast t169_94 (by decide +kernel) rfl rfl
theorem t169_95 : decode (mb 169) 95 = .ok (.aload_n 0, 1) := by decide +kernel
theorem s169_95 (d : Nat) (a0 : Nat) (l1 : Value) (l2 : Value) (l3 : Value) (l4 : Value) (l5 : Value) (σ : Hs) : ru d 169 95 [.ref a0, l1, l2, l3, l4, l5] [] σ = ru d 169 96 [.ref a0, l1, l2, l3, l4, l5] [.ref a0] σ := q_aload_n t169_95 rfl
theorem t169_96 : decode (mb 169) 96 = .ok (.getfield 9, 3) := by decide +kernel
theorem s169_96_o87 (d : Nat) (l0 : Value) (l1 : Value) (l2 : Value) (l3 : Value) (l4 : Value) (l5 : Value) (σ : Hs) : ru d 169 96 [l0, l1, l2, l3, l4, l5] [.ref 87] σ = ru d 169 99 [l0, l1, l2, l3, l4, l5] [.ref 88] σ := q_getf t169_96 mo169 F8_9 rfl rfl
theorem t169_99 : decode (mb 169) 99 = .ok (.iload 4, 2) := by decide +kernel
theorem s169_99 (d : Nat) (l0 : Value) (l1 : Value) (l2 : Value) (l3 : Value) (i4 : Int32) (l5 : Value) (w0 : Value) (σ : Hs) : ru d 169 99 [l0, l1, l2, l3, .int i4, l5] [w0] σ = ru d 169 101 [l0, l1, l2, l3, .int i4, l5] [.int i4, w0] σ := q_iload t169_99 rfl
theorem t169_101 : decode (mb 169) 101 = .ok (.iconst 1, 1) := by decide +kernel
theorem s169_101 (d : Nat) (l0 : Value) (l1 : Value) (l2 : Value) (l3 : Value) (l4 : Value) (l5 : Value) (w0 w1 : Value) (σ : Hs) : ru d 169 101 [l0, l1, l2, l3, l4, l5] [w0, w1] σ = ru d 169 102 [l0, l1, l2, l3, l4, l5] [.int 1, w0, w1] σ := q_iconst t169_101 (by decide +kernel)
theorem t169_102 : decode (mb 169) 102 = .ok (.iadd, 1) := by decide +kernel
theorem s169_102 (d : Nat) (l0 : Value) (l1 : Value) (l2 : Value) (l3 : Value) (l4 : Value) (l5 : Value) (x y : Int32) (w0 : Value) (σ : Hs) : ru d 169 102 [l0, l1, l2, l3, l4, l5] [.int y, .int x, w0] σ = ru d 169 103 [l0, l1, l2, l3, l4, l5] [.int (x + y), w0] σ := q_iadd t169_102
theorem t169_103 : decode (mb 169) 103 = .ok (.aload_n 0, 1) := by decide +kernel
theorem s169_103 (d : Nat) (a0 : Nat) (l1 : Value) (l2 : Value) (l3 : Value) (l4 : Value) (l5 : Value) (w0 w1 : Value) (σ : Hs) : ru d 169 103 [.ref a0, l1, l2, l3, l4, l5] [w0, w1] σ = ru d 169 104 [.ref a0, l1, l2, l3, l4, l5] [.ref a0, w0, w1] σ := q_aload_n t169_103 rfl
theorem t169_104 : decode (mb 169) 104 = .ok (.getfield 9, 3) := by decide +kernel
theorem s169_104_o87 (d : Nat) (l0 : Value) (l1 : Value) (l2 : Value) (l3 : Value) (l4 : Value) (l5 : Value) (w0 w1 : Value) (σ : Hs) : ru d 169 104 [l0, l1, l2, l3, l4, l5] [.ref 87, w0, w1] σ = ru d 169 107 [l0, l1, l2, l3, l4, l5] [.ref 88, w0, w1] σ := q_getf t169_104 mo169 F8_9 rfl rfl
theorem t169_107 : decode (mb 169) 107 = .ok (.iload 4, 2) := by decide +kernel
theorem s169_107 (d : Nat) (l0 : Value) (l1 : Value) (l2 : Value) (l3 : Value) (i4 : Int32) (l5 : Value) (w0 w1 w2 : Value) (σ : Hs) : ru d 169 107 [l0, l1, l2, l3, .int i4, l5] [w0, w1, w2] σ = ru d 169 109 [l0, l1, l2, l3, .int i4, l5] [.int i4, w0, w1, w2] σ := q_iload t169_107 rfl
theorem t169_109 : decode (mb 169) 109 = .ok (.iconst 1, 1) := by decide +kernel
theorem s169_109 (d : Nat) (l0 : Value) (l1 : Value) (l2 : Value) (l3 : Value) (l4 : Value) (l5 : Value) (w0 w1 w2 w3 : Value) (σ : Hs) : ru d 169 109 [l0, l1, l2, l3, l4, l5] [w0, w1, w2, w3] σ = ru d 169 110 [l0, l1, l2, l3, l4, l5] [.int 1, w0, w1, w2, w3] σ := q_iconst t169_109 (by decide +kernel)
theorem t169_110 : decode (mb 169) 110 = .ok (.iadd, 1) := by decide +kernel
theorem s169_110 (d : Nat) (l0 : Value) (l1 : Value) (l2 : Value) (l3 : Value) (l4 : Value) (l5 : Value) (x y : Int32) (w0 w1 w2 : Value) (σ : Hs) : ru d 169 110 [l0, l1, l2, l3, l4, l5] [.int y, .int x, w0, w1, w2] σ = ru d 169 111 [l0, l1, l2, l3, l4, l5] [.int (x + y), w0, w1, w2] σ := q_iadd t169_110
theorem t169_111 : decode (mb 169) 111 = .ok (.iaload, 1) := by decide +kernel
theorem s169_111_o88 (d : Nat) (l0 : Value) (l1 : Value) (l2 : Value) (l3 : Value) (l4 : Value) (l5 : Value) (i : Int32) (w0 w1 : Value) (σ : Hs) : ru d 169 111 [l0, l1, l2, l3, l4, l5] [.int i, .ref 88, w0, w1] σ = gd (vp_in i 545) (ru d 169 112 [l0, l1, l2, l3, l4, l5] [.int (σ 88 i.toNatClampNeg), w0, w1] σ) := q_iald t169_111 rfl (by decide +kernel) rfl
theorem t169_112 : decode (mb 169) 112 = .ok (.aload_n 0, 1) := by decide +kernel
theorem s169_112 (d : Nat) (a0 : Nat) (l1 : Value) (l2 : Value) (l3 : Value) (l4 : Value) (l5 : Value) (w0 w1 w2 : Value) (σ : Hs) : ru d 169 112 [.ref a0, l1, l2, l3, l4, l5] [w0, w1, w2] σ = ru d 169 113 [.ref a0, l1, l2, l3, l4, l5] [.ref a0, w0, w1, w2] σ := q_aload_n t169_112 rfl
theorem t169_113 : decode (mb 169) 113 = .ok (.getfield 9, 3) := by decide +kernel
theorem s169_113_o87 (d : Nat) (l0 : Value) (l1 : Value) (l2 : Value) (l3 : Value) (l4 : Value) (l5 : Value) (w0 w1 w2 : Value) (σ : Hs) : ru d 169 113 [l0, l1, l2, l3, l4, l5] [.ref 87, w0, w1, w2] σ = ru d 169 116 [l0, l1, l2, l3, l4, l5] [.ref 88, w0, w1, w2] σ := q_getf t169_113 mo169 F8_9 rfl rfl
theorem t169_116 : decode (mb 169) 116 = .ok (.iload 4, 2) := by decide +kernel
theorem s169_116 (d : Nat) (l0 : Value) (l1 : Value) (l2 : Value) (l3 : Value) (i4 : Int32) (l5 : Value) (w0 w1 w2 w3 : Value) (σ : Hs) : ru d 169 116 [l0, l1, l2, l3, .int i4, l5] [w0, w1, w2, w3] σ = ru d 169 118 [l0, l1, l2, l3, .int i4, l5] [.int i4, w0, w1, w2, w3] σ := q_iload t169_116 rfl
theorem t169_118 : decode (mb 169) 118 = .ok (.iconst 2, 1) := by decide +kernel
theorem s169_118 (d : Nat) (l0 : Value) (l1 : Value) (l2 : Value) (l3 : Value) (l4 : Value) (l5 : Value) (w0 w1 w2 w3 w4 : Value) (σ : Hs) : ru d 169 118 [l0, l1, l2, l3, l4, l5] [w0, w1, w2, w3, w4] σ = ru d 169 119 [l0, l1, l2, l3, l4, l5] [.int 2, w0, w1, w2, w3, w4] σ := q_iconst t169_118 (by decide +kernel)
theorem t169_119 : decode (mb 169) 119 = .ok (.iadd, 1) := by decide +kernel
theorem s169_119 (d : Nat) (l0 : Value) (l1 : Value) (l2 : Value) (l3 : Value) (l4 : Value) (l5 : Value) (x y : Int32) (w0 w1 w2 w3 : Value) (σ : Hs) : ru d 169 119 [l0, l1, l2, l3, l4, l5] [.int y, .int x, w0, w1, w2, w3] σ = ru d 169 120 [l0, l1, l2, l3, l4, l5] [.int (x + y), w0, w1, w2, w3] σ := q_iadd t169_119
theorem t169_120 : decode (mb 169) 120 = .ok (.iaload, 1) := by decide +kernel
theorem s169_120_o88 (d : Nat) (l0 : Value) (l1 : Value) (l2 : Value) (l3 : Value) (l4 : Value) (l5 : Value) (i : Int32) (w0 w1 w2 : Value) (σ : Hs) : ru d 169 120 [l0, l1, l2, l3, l4, l5] [.int i, .ref 88, w0, w1, w2] σ = gd (vp_in i 545) (ru d 169 121 [l0, l1, l2, l3, l4, l5] [.int (σ 88 i.toNatClampNeg), w0, w1, w2] σ) := q_iald t169_120 rfl (by decide +kernel) rfl
theorem t169_121 : decode (mb 169) 121 = .ok (.iload_n 1, 1) := by decide +kernel
theorem s169_121 (d : Nat) (l0 : Value) (i1 : Int32) (l2 : Value) (l3 : Value) (l4 : Value) (l5 : Value) (w0 w1 w2 w3 : Value) (σ : Hs) : ru d 169 121 [l0, .int i1, l2, l3, l4, l5] [w0, w1, w2, w3] σ = ru d 169 122 [l0, .int i1, l2, l3, l4, l5] [.int i1, w0, w1, w2, w3] σ := q_iload_n t169_121 rfl
theorem t169_122 : decode (mb 169) 122 = .ok (.invokestatic 249, 3) := by decide +kernel
theorem s169_122 (d : Nat) (l0 : Value) (l1 : Value) (l2 : Value) (l3 : Value) (l4 : Value) (l5 : Value) (v0 v1 : Value) (w0 : Int32) (w1 : Int32) (w2 : Nat) (σ : Hs) : ru d 169 122 [l0, l1, l2, l3, l4, l5] [v1, v0, .int w0, .int w1, .ref w2] σ = kont (callD d 114 [v0, v1] σ) d 169 125 [l0, l1, l2, l3, l4, l5] [.int w0, .int w1, .ref w2] := q_invs t169_122 mo169 (by decide +kernel) K8_249 mj114 (Nat.le_of_ble_eq_true rfl) rfl rfl (Nat.le_of_ble_eq_true rfl)
theorem t169_125 : decode (mb 169) 125 = .ok (.ifCond .eq 8, 3) := by decide +kernel
theorem s169_125 (d : Nat) (l0 : Value) (l1 : Value) (l2 : Value) (l3 : Value) (l4 : Value) (l5 : Value) (x : Int32) (w0 w1 w2 : Value) (σ : Hs) : ru d 169 125 [l0, l1, l2, l3, l4, l5] [.int x, w0, w1, w2] σ = if x = 0 then ru d 169 133 [l0, l1, l2, l3, l4, l5] [w0, w1, w2] σ else ru d 169 128 [l0, l1, l2, l3, l4, l5] [w0, w1, w2] σ := q_if_eq t169_125 (by decide +kernel)
theorem t169_128 : decode (mb 169) 128 = .ok (.iload 5, 2) := by decide +kernel
theorem s169_128 (d : Nat) (l0 : Value) (l1 : Value) (l2 : Value) (l3 : Value) (l4 : Value) (i5 : Int32) (w0 w1 w2 : Value) (σ : Hs) : ru d 169 128 [l0, l1, l2, l3, l4, .int i5] [w0, w1, w2] σ = ru d 169 130 [l0, l1, l2, l3, l4, .int i5] [.int i5, w0, w1, w2] σ := q_iload t169_128 rfl
theorem t169_130 : decode (mb 169) 130 = .ok (.goto 4, 3) := by decide +kernel
theorem s169_130 (d : Nat) (l0 : Value) (l1 : Value) (l2 : Value) (l3 : Value) (l4 : Value) (l5 : Value) (w0 w1 w2 w3 : Value) (σ : Hs) : ru d 169 130 [l0, l1, l2, l3, l4, l5] [w0, w1, w2, w3] σ = ru d 169 134 [l0, l1, l2, l3, l4, l5] [w0, w1, w2, w3] σ := q_goto t169_130 (by decide +kernel)
theorem t169_133 : decode (mb 169) 133 = .ok (.iconst 0, 1) := by decide +kernel
theorem s169_133 (d : Nat) (l0 : Value) (l1 : Value) (l2 : Value) (l3 : Value) (l4 : Value) (l5 : Value) (w0 w1 w2 : Value) (σ : Hs) : ru d 169 133 [l0, l1, l2, l3, l4, l5] [w0, w1, w2] σ = ru d 169 134 [l0, l1, l2, l3, l4, l5] [.int 0, w0, w1, w2] σ := q_iconst t169_133 (by decide +kernel)
theorem t169_134 : decode (mb 169) 134 = .ok (.invokestatic 244, 3) := by decide +kernel
theorem s169_134 (d : Nat) (l0 : Value) (l1 : Value) (l2 : Value) (l3 : Value) (l4 : Value) (l5 : Value) (v0 v1 : Value) (w0 : Int32) (w1 : Nat) (σ : Hs) : ru d 169 134 [l0, l1, l2, l3, l4, l5] [v1, v0, .int w0, .ref w1] σ = kont (callD d 164 [v0, v1] σ) d 169 137 [l0, l1, l2, l3, l4, l5] [.int w0, .ref w1] := q_invs t169_134 mo169 (by decide +kernel) K8_244 mj164 (Nat.le_of_ble_eq_true rfl) rfl rfl (Nat.le_of_ble_eq_true rfl)
theorem t169_137 : decode (mb 169) 137 = .ok (.iastore, 1) := by decide +kernel
theorem s169_137_o88 (d : Nat) (l0 : Value) (l1 : Value) (l2 : Value) (l3 : Value) (l4 : Value) (l5 : Value) (i x : Int32) (σ : Hs) : ru d 169 137 [l0, l1, l2, l3, l4, l5] [.int x, .int i, .ref 88] σ = gd (vp_in i 545) (ru d 169 138 [l0, l1, l2, l3, l4, l5] [] (up2 σ 88 i.toNatClampNeg x)) := q_iast t169_137 (by decide +kernel) rfl rfl
theorem t169_138 : decode (mb 169) 138 = .ok (.iload_n 2, 1) := by decide +kernel
theorem s169_138 (d : Nat) (l0 : Value) (l1 : Value) (i2 : Int32) (l3 : Value) (l4 : Value) (l5 : Value) (σ : Hs) : ru d 169 138 [l0, l1, .int i2, l3, l4, l5] [] σ = ru d 169 139 [l0, l1, .int i2, l3, l4, l5] [.int i2] σ := q_iload_n t169_138 rfl
theorem t169_139 : decode (mb 169) 139 = .ok (.iload 5, 2) := by decide +kernel
theorem s169_139 (d : Nat) (l0 : Value) (l1 : Value) (l2 : Value) (l3 : Value) (l4 : Value) (i5 : Int32) (w0 : Value) (σ : Hs) : ru d 169 139 [l0, l1, l2, l3, l4, .int i5] [w0] σ = ru d 169 141 [l0, l1, l2, l3, l4, .int i5] [.int i5, w0] σ := q_iload t169_139 rfl
theorem t169_141 : decode (mb 169) 141 = .ok (.isub, 1) := by decide +kernel
theorem s169_141 (d : Nat) (l0 : Value) (l1 : Value) (l2 : Value) (l3 : Value) (l4 : Value) (l5 : Value) (x y : Int32) (σ : Hs) : ru d 169 141 [l0, l1, l2, l3, l4, l5] [.int y, .int x] σ = ru d 169 142 [l0, l1, l2, l3, l4, l5] [.int (x - y)] σ := q_isub t169_141
theorem t169_142 : decode (mb 169) 142 = .ok (.istore_n 2, 1) := by decide +kernel
theorem s169_142 (d : Nat) (l0 : Value) (i1 : Int32) (l2 : Value) (l3 : Value) (l4 : Value) (l5 : Value) (x : Int32) (σ : Hs) : ru d 169 142 [l0, .int i1, l2, l3, l4, l5] [.int x] σ = ru d 169 143 [l0, .int i1, .int x, l3, l4, l5] [] σ := q_istore_n t169_142 ⟨Nat.le_of_ble_eq_true rfl, rfl⟩ rfl
theorem t169_143 : decode (mb 169) 143 = .ok (.iload_n 3, 1) := by decide +kernel
theorem s169_143 (d : Nat) (l0 : Value) (l1 : Value) (l2 : Value) (i3 : Int32) (l4 : Value) (l5 : Value) (σ : Hs) : ru d 169 143 [l0, l1, l2, .int i3, l4, l5] [] σ = ru d 169 144 [l0, l1, l2, .int i3, l4, l5] [.int i3] σ := q_iload_n t169_143 rfl
theorem t169_144 : decode (mb 169) 144 = .ok (.aload_n 0, 1) := by decide +kernel
theorem s169_144 (d : Nat) (a0 : Nat) (l1 : Value) (l2 : Value) (l3 : Value) (l4 : Value) (l5 : Value) (w0 : Value) (σ : Hs) : ru d 169 144 [.ref a0, l1, l2, l3, l4, l5] [w0] σ = ru d 169 145 [.ref a0, l1, l2, l3, l4, l5] [.ref a0, w0] σ := q_aload_n t169_144 rfl
theorem t169_145 : decode (mb 169) 145 = .ok (.getfield 9, 3) := by decide +kernel
theorem s169_145_o87 (d : Nat) (l0 : Value) (l1 : Value) (l2 : Value) (l3 : Value) (l4 : Value) (l5 : Value) (w0 : Value) (σ : Hs) : ru d 169 145 [l0, l1, l2, l3, l4, l5] [.ref 87, w0] σ = ru d 169 148 [l0, l1, l2, l3, l4, l5] [.ref 88, w0] σ := q_getf t169_145 mo169 F8_9 rfl rfl
theorem t169_148 : decode (mb 169) 148 = .ok (.bipush 6, 2) := by decide +kernel
theorem s169_148 (d : Nat) (l0 : Value) (l1 : Value) (l2 : Value) (l3 : Value) (l4 : Value) (l5 : Value) (w0 w1 : Value) (σ : Hs) : ru d 169 148 [l0, l1, l2, l3, l4, l5] [w0, w1] σ = ru d 169 150 [l0, l1, l2, l3, l4, l5] [.int 6, w0, w1] σ := q_bipush t169_148 (by decide +kernel)
theorem t169_150 : decode (mb 169) 150 = .ok (.iaload, 1) := by decide +kernel
theorem s169_150_o88 (d : Nat) (l0 : Value) (l1 : Value) (l2 : Value) (l3 : Value) (l4 : Value) (l5 : Value) (i : Int32) (w0 : Value) (σ : Hs) : ru d 169 150 [l0, l1, l2, l3, l4, l5] [.int i, .ref 88, w0] σ = gd (vp_in i 545) (ru d 169 151 [l0, l1, l2, l3, l4, l5] [.int (σ 88 i.toNatClampNeg), w0] σ) := q_iald t169_150 rfl (by decide +kernel) rfl
theorem t169_151 : decode (mb 169) 151 = .ok (.invokestatic 252, 3) := by decide +kernel
theorem s169_151 (d : Nat) (l0 : Value) (l1 : Value) (l2 : Value) (l3 : Value) (l4 : Value) (l5 : Value) (v0 v1 : Value) (σ : Hs) : ru d 169 151 [l0, l1, l2, l3, l4, l5] [v1, v0] σ = kont (callD d 168 [v0, v1] σ) d 169 154 [l0, l1, l2, l3, l4, l5] [] := q_invs t169_151 mo169 (by decide +kernel) K8_252 mj168 (Nat.le_of_ble_eq_true rfl) rfl rfl (Nat.le_of_ble_eq_true rfl)
theorem t169_154 : decode (mb 169) 154 = .ok (.istore_n 3, 1) := by decide +kernel
theorem s169_154 (d : Nat) (l0 : Value) (l1 : Value) (i2 : Int32) (l3 : Value) (l4 : Value) (l5 : Value) (x : Int32) (σ : Hs) : ru d 169 154 [l0, l1, .int i2, l3, l4, l5] [.int x] σ = ru d 169 155 [l0, l1, .int i2, .int x, l4, l5] [] σ := q_istore_n t169_154 ⟨Nat.le_of_ble_eq_true rfl, rfl⟩ rfl
theorem t169_155 : decode (mb 169) 155 = .ok (.goto (-101), 3) := by decide +kernel
theorem s169_155 (d : Nat) (l0 : Value) (l1 : Value) (l2 : Value) (l3 : Value) (l4 : Value) (l5 : Value) (σ : Hs) : ru d 169 155 [l0, l1, l2, l3, l4, l5] [] σ = ru d 169 54 [l0, l1, l2, l3, l4, l5] [] σ := q_goto t169_155 (by decide +kernel)
theorem t169_158 : decode (mb 169) 158 = .ok (.return_, 1) := by decide +kernel
theorem s169_158 (d : Nat) (l0 : Value) (l1 : Value) (l2 : Value) (l3 : Value) (l4 : Value) (l5 : Value) (σ : Hs) : ru d 169 158 [l0, l1, l2, l3, l4, l5] [] σ = some (none, σ) := q_vret t169_158 mr169
theorem c169 (d : Nat) (x0 : Nat) (σ : Hs) : callD (d + 1) 169 [.ref x0] σ = ru d 169 0 [.ref x0, uu, uu, uu, uu, uu] [] σ := callD_ru ml169 rfl rfl (Nat.le_of_ble_eq_true rfl)
-- 170: Model.minute()V
theorem t170_0 : decode (mb 170) 0 = .ok (.aload_n 0, 1) := by decide +kernel
theorem s170_0 (d : Nat) (a0 : Nat) (l1 : Value) (σ : Hs) : ru d 170 0 [.ref a0, l1] [] σ = ru d 170 1 [.ref a0, l1] [.ref a0] σ := q_aload_n t170_0 rfl
theorem t170_1 : decode (mb 170) 1 = .ok (.iconst 0, 1) := by decide +kernel
theorem s170_1 (d : Nat) (l0 : Value) (l1 : Value) (w0 : Value) (σ : Hs) : ru d 170 1 [l0, l1] [w0] σ = ru d 170 2 [l0, l1] [.int 0, w0] σ := q_iconst t170_1 (by decide +kernel)
theorem t170_2 : decode (mb 170) 2 = .ok (.putfield 241, 3) := by decide +kernel
theorem s170_2_o87 (d : Nat) (l0 : Value) (l1 : Value) (x : Int32) (σ : Hs) : ru d 170 2 [l0, l1] [.int x, .ref 87] σ = ru d 170 5 [l0, l1] [] (up2 σ 87 17 x) := q_puti t170_2 mo170 F8_241 (by decide +kernel) rfl rfl
theorem t170_5 : decode (mb 170) 5 = .ok (.iconst 0, 1) := by decide +kernel
theorem s170_5 (d : Nat) (l0 : Value) (l1 : Value) (σ : Hs) : ru d 170 5 [l0, l1] [] σ = ru d 170 6 [l0, l1] [.int 0] σ := q_iconst t170_5 (by decide +kernel)
theorem t170_6 : decode (mb 170) 6 = .ok (.istore_n 1, 1) := by decide +kernel
theorem s170_6 (d : Nat) (a0 : Nat) (l1 : Value) (x : Int32) (σ : Hs) : ru d 170 6 [.ref a0, l1] [.int x] σ = ru d 170 7 [.ref a0, .int x] [] σ := q_istore_n t170_6 ⟨Nat.le_of_ble_eq_true rfl, rfl⟩ rfl
theorem t170_7 : decode (mb 170) 7 = .ok (.iload_n 1, 1) := by decide +kernel
theorem s170_7 (d : Nat) (l0 : Value) (i1 : Int32) (σ : Hs) : ru d 170 7 [l0, .int i1] [] σ = ru d 170 8 [l0, .int i1] [.int i1] σ := q_iload_n t170_7 rfl
theorem t170_8 : decode (mb 170) 8 = .ok (.bipush 30, 2) := by decide +kernel
theorem s170_8 (d : Nat) (l0 : Value) (l1 : Value) (w0 : Value) (σ : Hs) : ru d 170 8 [l0, l1] [w0] σ = ru d 170 10 [l0, l1] [.int 30, w0] σ := q_bipush t170_8 (by decide +kernel)
theorem t170_10 : decode (mb 170) 10 = .ok (.if_icmp .ge 38, 3) := by decide +kernel
theorem s170_10 (d : Nat) (l0 : Value) (l1 : Value) (x y : Int32) (σ : Hs) : ru d 170 10 [l0, l1] [.int y, .int x] σ = if y ≤ x then ru d 170 48 [l0, l1] [] σ else ru d 170 13 [l0, l1] [] σ := q_ic_ge t170_10 (by decide +kernel)
theorem t170_13 : decode (mb 170) 13 = .ok (.aload_n 0, 1) := by decide +kernel
theorem s170_13 (d : Nat) (a0 : Nat) (l1 : Value) (σ : Hs) : ru d 170 13 [.ref a0, l1] [] σ = ru d 170 14 [.ref a0, l1] [.ref a0] σ := q_aload_n t170_13 rfl
theorem t170_14 : decode (mb 170) 14 = .ok (.iload_n 1, 1) := by decide +kernel
theorem s170_14 (d : Nat) (l0 : Value) (i1 : Int32) (w0 : Value) (σ : Hs) : ru d 170 14 [l0, .int i1] [w0] σ = ru d 170 15 [l0, .int i1] [.int i1, w0] σ := q_iload_n t170_14 rfl
theorem t170_15 : decode (mb 170) 15 = .ok (.invokevirtual 88, 3) := by decide +kernel
theorem s170_15_o87 (d : Nat) (l0 : Value) (l1 : Value) (v1 : Value) (σ : Hs) : ru d 170 15 [l0, l1] [v1, .ref 87] σ = kont (callD d 122 [.ref 87, v1] σ) d 170 18 [l0, l1] [] := q_invv t170_15 mo170 K8_88 mj122 rfl rfl rfl rfl (Nat.le_of_ble_eq_true rfl)
theorem t170_18 : decode (mb 170) 18 = .ok (.ifCond .eq 24, 3) := by decide +kernel
theorem s170_18 (d : Nat) (l0 : Value) (l1 : Value) (x : Int32) (σ : Hs) : ru d 170 18 [l0, l1] [.int x] σ = if x = 0 then ru d 170 42 [l0, l1] [] σ else ru d 170 21 [l0, l1] [] σ := q_if_eq t170_18 (by decide +kernel)
theorem t170_21 : decode (mb 170) 21 = .ok (.aload_n 0, 1) := by decide +kernel
theorem s170_21 (d : Nat) (a0 : Nat) (l1 : Value) (σ : Hs) : ru d 170 21 [.ref a0, l1] [] σ = ru d 170 22 [.ref a0, l1] [.ref a0] σ := q_aload_n t170_21 rfl
theorem t170_22 : decode (mb 170) 22 = .ok (.iload_n 1, 1) := by decide +kernel
theorem s170_22 (d : Nat) (l0 : Value) (i1 : Int32) (w0 : Value) (σ : Hs) : ru d 170 22 [l0, .int i1] [w0] σ = ru d 170 23 [l0, .int i1] [.int i1, w0] σ := q_iload_n t170_22 rfl
theorem t170_23 : decode (mb 170) 23 = .ok (.invokevirtual 142, 3) := by decide +kernel
theorem s170_23_o87 (d : Nat) (l0 : Value) (l1 : Value) (v1 : Value) (σ : Hs) : ru d 170 23 [l0, l1] [v1, .ref 87] σ = kont (callD d 123 [.ref 87, v1] σ) d 170 26 [l0, l1] [] := q_invv t170_23 mo170 K8_142 mj123 rfl rfl rfl rfl (Nat.le_of_ble_eq_true rfl)
theorem t170_26 : decode (mb 170) 26 = .ok (.ifCond .eq 11, 3) := by decide +kernel
theorem s170_26 (d : Nat) (l0 : Value) (l1 : Value) (x : Int32) (σ : Hs) : ru d 170 26 [l0, l1] [.int x] σ = if x = 0 then ru d 170 37 [l0, l1] [] σ else ru d 170 29 [l0, l1] [] σ := q_if_eq t170_26 (by decide +kernel)
theorem t170_29 : decode (mb 170) 29 = .ok (.aload_n 0, 1) := by decide +kernel
theorem s170_29 (d : Nat) (a0 : Nat) (l1 : Value) (σ : Hs) : ru d 170 29 [.ref a0, l1] [] σ = ru d 170 30 [.ref a0, l1] [.ref a0] σ := q_aload_n t170_29 rfl
theorem t170_30 : decode (mb 170) 30 = .ok (.iload_n 1, 1) := by decide +kernel
theorem s170_30 (d : Nat) (l0 : Value) (i1 : Int32) (w0 : Value) (σ : Hs) : ru d 170 30 [l0, .int i1] [w0] σ = ru d 170 31 [l0, .int i1] [.int i1, w0] σ := q_iload_n t170_30 rfl
theorem t170_31 : decode (mb 170) 31 = .ok (.invokevirtual 255, 3) := by decide +kernel
theorem s170_31_o87 (d : Nat) (l0 : Value) (l1 : Value) (v1 : Value) (σ : Hs) : ru d 170 31 [l0, l1] [v1, .ref 87] σ = kont (callD d 166 [.ref 87, v1] σ) d 170 34 [l0, l1] [] := q_invv t170_31 mo170 K8_255 mj166 rfl rfl rfl rfl (Nat.le_of_ble_eq_true rfl)
theorem t170_34 : decode (mb 170) 34 = .ok (.ifCond .eq 8, 3) := by decide +kernel
theorem s170_34 (d : Nat) (l0 : Value) (l1 : Value) (x : Int32) (σ : Hs) : ru d 170 34 [l0, l1] [.int x] σ = if x = 0 then ru d 170 42 [l0, l1] [] σ else ru d 170 37 [l0, l1] [] σ := q_if_eq t170_34 (by decide +kernel)
theorem t170_37 : decode (mb 170) 37 = .ok (.aload_n 0, 1) := by decide +kernel
theorem s170_37 (d : Nat) (a0 : Nat) (l1 : Value) (σ : Hs) : ru d 170 37 [.ref a0, l1] [] σ = ru d 170 38 [.ref a0, l1] [.ref a0] σ := q_aload_n t170_37 rfl
theorem t170_38 : decode (mb 170) 38 = .ok (.iload_n 1, 1) := by decide +kernel
theorem s170_38 (d : Nat) (l0 : Value) (i1 : Int32) (w0 : Value) (σ : Hs) : ru d 170 38 [l0, .int i1] [w0] σ = ru d 170 39 [l0, .int i1] [.int i1, w0] σ := q_iload_n t170_38 rfl
theorem t170_39 : decode (mb 170) 39 = .ok (.invokevirtual 258, 3) := by decide +kernel
theorem s170_39_o87 (d : Nat) (l0 : Value) (l1 : Value) (v1 : Value) (σ : Hs) : ru d 170 39 [l0, l1] [v1, .ref 87] σ = kont (callD d 167 [.ref 87, v1] σ) d 170 42 [l0, l1] [] := q_invv t170_39 mo170 K8_258 mj167 rfl rfl rfl rfl (Nat.le_of_ble_eq_true rfl)
theorem t170_42 : decode (mb 170) 42 = .ok (.iinc 1 1, 3) := by decide +kernel
theorem s170_42 (d : Nat) (a0 : Nat) (i1 : Int32) (σ : Hs) : ru d 170 42 [.ref a0, .int i1] [] σ = ru d 170 45 [.ref a0, .int (i1 + 1)] [] σ := q_iinc t170_42 ⟨Nat.le_of_ble_eq_true rfl, rfl⟩ rfl (by decide +kernel) rfl
theorem t170_45 : decode (mb 170) 45 = .ok (.goto (-38), 3) := by decide +kernel
theorem s170_45 (d : Nat) (l0 : Value) (l1 : Value) (σ : Hs) : ru d 170 45 [l0, l1] [] σ = ru d 170 7 [l0, l1] [] σ := q_goto t170_45 (by decide +kernel)
theorem t170_48 : decode (mb 170) 48 = .ok (.aload_n 0, 1) := by decide +kernel
theorem s170_48 (d : Nat) (a0 : Nat) (l1 : Value) (σ : Hs) : ru d 170 48 [.ref a0, l1] [] σ = ru d 170 49 [.ref a0, l1] [.ref a0] σ := q_aload_n t170_48 rfl
theorem t170_49 : decode (mb 170) 49 = .ok (.invokevirtual 261, 3) := by decide +kernel
theorem s170_49_o87 (d : Nat) (l0 : Value) (l1 : Value) (σ : Hs) : ru d 170 49 [l0, l1] [.ref 87] σ = kont (callD d 169 [.ref 87] σ) d 170 52 [l0, l1] [] := q_invv t170_49 mo170 K8_261 mj169 rfl rfl rfl rfl (Nat.le_of_ble_eq_true rfl)
theorem t170_52 : decode (mb 170) 52 = .ok (.aload_n 0, 1) := by decide +kernel
theorem s170_52 (d : Nat) (a0 : Nat) (l1 : Value) (σ : Hs) : ru d 170 52 [.ref a0, l1] [] σ = ru d 170 53 [.ref a0, l1] [.ref a0] σ := q_aload_n t170_52 rfl
theorem t170_53 : decode (mb 170) 53 = .ok (.getfield 9, 3) := by decide +kernel
theorem s170_53_o87 (d : Nat) (l0 : Value) (l1 : Value) (σ : Hs) : ru d 170 53 [l0, l1] [.ref 87] σ = ru d 170 56 [l0, l1] [.ref 88] σ := q_getf t170_53 mo170 F8_9 rfl rfl
theorem t170_56 : decode (mb 170) 56 = .ok (.bipush 12, 2) := by decide +kernel
theorem s170_56 (d : Nat) (l0 : Value) (l1 : Value) (w0 : Value) (σ : Hs) : ru d 170 56 [l0, l1] [w0] σ = ru d 170 58 [l0, l1] [.int 12, w0] σ := q_bipush t170_56 (by decide +kernel)
theorem t170_58 : decode (mb 170) 58 = .ok (.aload_n 0, 1) := by decide +kernel
theorem s170_58 (d : Nat) (a0 : Nat) (l1 : Value) (w0 w1 : Value) (σ : Hs) : ru d 170 58 [.ref a0, l1] [w0, w1] σ = ru d 170 59 [.ref a0, l1] [.ref a0, w0, w1] σ := q_aload_n t170_58 rfl
theorem t170_59 : decode (mb 170) 59 = .ok (.getfield 9, 3) := by decide +kernel
theorem s170_59_o87 (d : Nat) (l0 : Value) (l1 : Value) (w0 w1 : Value) (σ : Hs) : ru d 170 59 [l0, l1] [.ref 87, w0, w1] σ = ru d 170 62 [l0, l1] [.ref 88, w0, w1] σ := q_getf t170_59 mo170 F8_9 rfl rfl
theorem t170_62 : decode (mb 170) 62 = .ok (.bipush 12, 2) := by decide +kernel
theorem s170_62 (d : Nat) (l0 : Value) (l1 : Value) (w0 w1 w2 : Value) (σ : Hs) : ru d 170 62 [l0, l1] [w0, w1, w2] σ = ru d 170 64 [l0, l1] [.int 12, w0, w1, w2] σ := q_bipush t170_62 (by decide +kernel)
theorem t170_64 : decode (mb 170) 64 = .ok (.iaload, 1) := by decide +kernel
theorem s170_64_o88 (d : Nat) (l0 : Value) (l1 : Value) (i : Int32) (w0 w1 : Value) (σ : Hs) : ru d 170 64 [l0, l1] [.int i, .ref 88, w0, w1] σ = gd (vp_in i 545) (ru d 170 65 [l0, l1] [.int (σ 88 i.toNatClampNeg), w0, w1] σ) := q_iald t170_64 rfl (by decide +kernel) rfl
theorem t170_65 : decode (mb 170) 65 = .ok (.aload_n 0, 1) := by decide +kernel
theorem s170_65 (d : Nat) (a0 : Nat) (l1 : Value) (w0 w1 w2 : Value) (σ : Hs) : ru d 170 65 [.ref a0, l1] [w0, w1, w2] σ = ru d 170 66 [.ref a0, l1] [.ref a0, w0, w1, w2] σ := q_aload_n t170_65 rfl
theorem t170_66 : decode (mb 170) 66 = .ok (.getfield 241, 3) := by decide +kernel
theorem s170_66_o87 (d : Nat) (l0 : Value) (l1 : Value) (w0 w1 w2 : Value) (σ : Hs) : ru d 170 66 [l0, l1] [.ref 87, w0, w1, w2] σ = ru d 170 69 [l0, l1] [.int (σ 87 17), w0, w1, w2] σ := q_getf t170_66 mo170 F8_241 rfl rfl
theorem t170_69 : decode (mb 170) 69 = .ok (.invokestatic 244, 3) := by decide +kernel
theorem s170_69 (d : Nat) (l0 : Value) (l1 : Value) (v0 v1 : Value) (w0 : Int32) (w1 : Nat) (σ : Hs) : ru d 170 69 [l0, l1] [v1, v0, .int w0, .ref w1] σ = kont (callD d 164 [v0, v1] σ) d 170 72 [l0, l1] [.int w0, .ref w1] := q_invs t170_69 mo170 (by decide +kernel) K8_244 mj164 (Nat.le_of_ble_eq_true rfl) rfl rfl (Nat.le_of_ble_eq_true rfl)
theorem t170_72 : decode (mb 170) 72 = .ok (.iastore, 1) := by decide +kernel
theorem s170_72_o88 (d : Nat) (l0 : Value) (l1 : Value) (i x : Int32) (σ : Hs) : ru d 170 72 [l0, l1] [.int x, .int i, .ref 88] σ = gd (vp_in i 545) (ru d 170 73 [l0, l1] [] (up2 σ 88 i.toNatClampNeg x)) := q_iast t170_72 (by decide +kernel) rfl rfl
theorem t170_73 : decode (mb 170) 73 = .ok (.aload_n 0, 1) := by decide +kernel
theorem s170_73 (d : Nat) (a0 : Nat) (l1 : Value) (σ : Hs) : ru d 170 73 [.ref a0, l1] [] σ = ru d 170 74 [.ref a0, l1] [.ref a0] σ := q_aload_n t170_73 rfl
theorem t170_74 : decode (mb 170) 74 = .ok (.getfield 9, 3) := by decide +kernel
theorem s170_74_o87 (d : Nat) (l0 : Value) (l1 : Value) (σ : Hs) : ru d 170 74 [l0, l1] [.ref 87] σ = ru d 170 77 [l0, l1] [.ref 88] σ := q_getf t170_74 mo170 F8_9 rfl rfl
theorem t170_77 : decode (mb 170) 77 = .ok (.iconst 4, 1) := by decide +kernel
theorem s170_77 (d : Nat) (l0 : Value) (l1 : Value) (w0 : Value) (σ : Hs) : ru d 170 77 [l0, l1] [w0] σ = ru d 170 78 [l0, l1] [.int 4, w0] σ := q_iconst t170_77 (by decide +kernel)
theorem t170_78 : decode (mb 170) 78 = .ok (.aload_n 0, 1) := by decide +kernel
theorem s170_78 (d : Nat) (a0 : Nat) (l1 : Value) (w0 w1 : Value) (σ : Hs) : ru d 170 78 [.ref a0, l1] [w0, w1] σ = ru d 170 79 [.ref a0, l1] [.ref a0, w0, w1] σ := q_aload_n t170_78 rfl
theorem t170_79 : decode (mb 170) 79 = .ok (.getfield 9, 3) := by decide +kernel
theorem s170_79_o87 (d : Nat) (l0 : Value) (l1 : Value) (w0 w1 : Value) (σ : Hs) : ru d 170 79 [l0, l1] [.ref 87, w0, w1] σ = ru d 170 82 [l0, l1] [.ref 88, w0, w1] σ := q_getf t170_79 mo170 F8_9 rfl rfl
theorem t170_82 : decode (mb 170) 82 = .ok (.iconst 4, 1) := by decide +kernel
theorem s170_82 (d : Nat) (l0 : Value) (l1 : Value) (w0 w1 w2 : Value) (σ : Hs) : ru d 170 82 [l0, l1] [w0, w1, w2] σ = ru d 170 83 [l0, l1] [.int 4, w0, w1, w2] σ := q_iconst t170_82 (by decide +kernel)
theorem t170_83 : decode (mb 170) 83 = .ok (.iaload, 1) := by decide +kernel
theorem s170_83_o88 (d : Nat) (l0 : Value) (l1 : Value) (i : Int32) (w0 w1 : Value) (σ : Hs) : ru d 170 83 [l0, l1] [.int i, .ref 88, w0, w1] σ = gd (vp_in i 545) (ru d 170 84 [l0, l1] [.int (σ 88 i.toNatClampNeg), w0, w1] σ) := q_iald t170_83 rfl (by decide +kernel) rfl
theorem t170_84 : decode (mb 170) 84 = .ok (.iconst 1, 1) := by decide +kernel
theorem s170_84 (d : Nat) (l0 : Value) (l1 : Value) (w0 w1 w2 : Value) (σ : Hs) : ru d 170 84 [l0, l1] [w0, w1, w2] σ = ru d 170 85 [l0, l1] [.int 1, w0, w1, w2] σ := q_iconst t170_84 (by decide +kernel)
theorem t170_85 : decode (mb 170) 85 = .ok (.iadd, 1) := by decide +kernel
theorem s170_85 (d : Nat) (l0 : Value) (l1 : Value) (x y : Int32) (w0 w1 : Value) (σ : Hs) : ru d 170 85 [l0, l1] [.int y, .int x, w0, w1] σ = ru d 170 86 [l0, l1] [.int (x + y), w0, w1] σ := q_iadd t170_85
theorem t170_86 : decode (mb 170) 86 = .ok (.sipush 1440, 3) := by decide +kernel
theorem s170_86 (d : Nat) (l0 : Value) (l1 : Value) (w0 w1 w2 : Value) (σ : Hs) : ru d 170 86 [l0, l1] [w0, w1, w2] σ = ru d 170 89 [l0, l1] [.int 1440, w0, w1, w2] σ := q_sipush t170_86 (by decide +kernel)
theorem t170_89 : decode (mb 170) 89 = .ok (.irem, 1) := by decide +kernel
theorem s170_89 (d : Nat) (l0 : Value) (l1 : Value) (x y : Int32) (w0 w1 : Value) (σ : Hs) : ru d 170 89 [l0, l1] [.int y, .int x, w0, w1] σ = gd (¬ y = 0) (ru d 170 90 [l0, l1] [.int (x - x / y * y), w0, w1] σ) := q_irem t170_89
theorem t170_90 : decode (mb 170) 90 = .ok (.iastore, 1) := by decide +kernel
theorem s170_90_o88 (d : Nat) (l0 : Value) (l1 : Value) (i x : Int32) (σ : Hs) : ru d 170 90 [l0, l1] [.int x, .int i, .ref 88] σ = gd (vp_in i 545) (ru d 170 91 [l0, l1] [] (up2 σ 88 i.toNatClampNeg x)) := q_iast t170_90 (by decide +kernel) rfl rfl
theorem t170_91 : decode (mb 170) 91 = .ok (.aload_n 0, 1) := by decide +kernel
theorem s170_91 (d : Nat) (a0 : Nat) (l1 : Value) (σ : Hs) : ru d 170 91 [.ref a0, l1] [] σ = ru d 170 92 [.ref a0, l1] [.ref a0] σ := q_aload_n t170_91 rfl
theorem t170_92 : decode (mb 170) 92 = .ok (.getfield 9, 3) := by decide +kernel
theorem s170_92_o87 (d : Nat) (l0 : Value) (l1 : Value) (σ : Hs) : ru d 170 92 [l0, l1] [.ref 87] σ = ru d 170 95 [l0, l1] [.ref 88] σ := q_getf t170_92 mo170 F8_9 rfl rfl
theorem t170_95 : decode (mb 170) 95 = .ok (.iconst 0, 1) := by decide +kernel
theorem s170_95 (d : Nat) (l0 : Value) (l1 : Value) (w0 : Value) (σ : Hs) : ru d 170 95 [l0, l1] [w0] σ = ru d 170 96 [l0, l1] [.int 0, w0] σ := q_iconst t170_95 (by decide +kernel)
theorem t170_96 : decode (mb 170) 96 = .ok (.dup2, 1) := by decide +kernel
theorem s170_96 (d : Nat) (l0 : Value) (l1 : Value) (x0 : Int32) (x1 : Nat) (σ : Hs) : ru d 170 96 [l0, l1] [.int x0, .ref x1] σ = ru d 170 97 [l0, l1] [.int x0, .ref x1, .int x0, .ref x1] σ := q_dup2 t170_96 rfl rfl
theorem t170_97 : decode (mb 170) 97 = .ok (.iaload, 1) := by decide +kernel
theorem s170_97_o88 (d : Nat) (l0 : Value) (l1 : Value) (i : Int32) (w0 w1 : Value) (σ : Hs) : ru d 170 97 [l0, l1] [.int i, .ref 88, w0, w1] σ = gd (vp_in i 545) (ru d 170 98 [l0, l1] [.int (σ 88 i.toNatClampNeg), w0, w1] σ) := q_iald t170_97 rfl (by decide +kernel) rfl
theorem t170_98 : decode (mb 170) 98 = .ok (.iconst 1, 1) := by decide +kernel
theorem s170_98 (d : Nat) (l0 : Value) (l1 : Value) (w0 w1 w2 : Value) (σ : Hs) : ru d 170 98 [l0, l1] [w0, w1, w2] σ = ru d 170 99 [l0, l1] [.int 1, w0, w1, w2] σ := q_iconst t170_98 (by decide +kernel)
theorem t170_99 : decode (mb 170) 99 = .ok (.iadd, 1) := by decide +kernel
theorem s170_99 (d : Nat) (l0 : Value) (l1 : Value) (x y : Int32) (w0 w1 : Value) (σ : Hs) : ru d 170 99 [l0, l1] [.int y, .int x, w0, w1] σ = ru d 170 100 [l0, l1] [.int (x + y), w0, w1] σ := q_iadd t170_99
theorem t170_100 : decode (mb 170) 100 = .ok (.iastore, 1) := by decide +kernel
theorem s170_100_o88 (d : Nat) (l0 : Value) (l1 : Value) (i x : Int32) (σ : Hs) : ru d 170 100 [l0, l1] [.int x, .int i, .ref 88] σ = gd (vp_in i 545) (ru d 170 101 [l0, l1] [] (up2 σ 88 i.toNatClampNeg x)) := q_iast t170_100 (by decide +kernel) rfl rfl
theorem t170_101 : decode (mb 170) 101 = .ok (.return_, 1) := by decide +kernel
theorem s170_101 (d : Nat) (l0 : Value) (l1 : Value) (σ : Hs) : ru d 170 101 [l0, l1] [] σ = some (none, σ) := q_vret t170_101 mr170
theorem c170 (d : Nat) (x0 : Nat) (σ : Hs) : callD (d + 1) 170 [.ref x0] σ = ru d 170 0 [.ref x0, uu] [] σ := callD_ru ml170 rfl rfl (Nat.le_of_ble_eq_true rfl)
-- 171: Model.minutesGo(I)V
theorem t171_0 : decode (mb 171) 0 = .ok (.iconst 0, 1) := by decide +kernel
theorem s171_0 (d : Nat) (l0 : Value) (l1 : Value) (l2 : Value) (σ : Hs) : ru d 171 0 [l0, l1, l2] [] σ = ru d 171 1 [l0, l1, l2] [.int 0] σ := q_iconst t171_0 (by decide +kernel)
theorem t171_1 : decode (mb 171) 1 = .ok (.istore_n 2, 1) := by decide +kernel
theorem s171_1 (d : Nat) (l0 : Value) (i1 : Int32) (l2 : Value) (x : Int32) (σ : Hs) : ru d 171 1 [l0, .int i1, l2] [.int x] σ = ru d 171 2 [l0, .int i1, .int x] [] σ := q_istore_n t171_1 ⟨Nat.le_of_ble_eq_true rfl, rfl⟩ rfl
theorem t171_2 : decode (mb 171) 2 = .ok (.iload_n 2, 1) := by decide +kernel
theorem s171_2 (d : Nat) (l0 : Value) (l1 : Value) (i2 : Int32) (σ : Hs) : ru d 171 2 [l0, l1, .int i2] [] σ = ru d 171 3 [l0, l1, .int i2] [.int i2] σ := q_iload_n t171_2 rfl
theorem t171_3 : decode (mb 171) 3 = .ok (.iload_n 1, 1) := by decide +kernel
theorem s171_3 (d : Nat) (l0 : Value) (i1 : Int32) (l2 : Value) (w0 : Value) (σ : Hs) : ru d 171 3 [l0, .int i1, l2] [w0] σ = ru d 171 4 [l0, .int i1, l2] [.int i1, w0] σ := q_iload_n t171_3 rfl
theorem t171_4 : decode (mb 171) 4 = .ok (.if_icmp .ge 13, 3) := by decide +kernel
theorem s171_4 (d : Nat) (l0 : Value) (l1 : Value) (l2 : Value) (x y : Int32) (σ : Hs) : ru d 171 4 [l0, l1, l2] [.int y, .int x] σ = if y ≤ x then ru d 171 17 [l0, l1, l2] [] σ else ru d 171 7 [l0, l1, l2] [] σ := q_ic_ge t171_4 (by decide +kernel)
theorem t171_7 : decode (mb 171) 7 = .ok (.aload_n 0, 1) := by decide +kernel
theorem s171_7 (d : Nat) (a0 : Nat) (l1 : Value) (l2 : Value) (σ : Hs) : ru d 171 7 [.ref a0, l1, l2] [] σ = ru d 171 8 [.ref a0, l1, l2] [.ref a0] σ := q_aload_n t171_7 rfl
theorem t171_8 : decode (mb 171) 8 = .ok (.invokevirtual 264, 3) := by decide +kernel
theorem s171_8_o87 (d : Nat) (l0 : Value) (l1 : Value) (l2 : Value) (σ : Hs) : ru d 171 8 [l0, l1, l2] [.ref 87] σ = kont (callD d 170 [.ref 87] σ) d 171 11 [l0, l1, l2] [] := q_invv t171_8 mo171 K8_264 mj170 rfl rfl rfl rfl (Nat.le_of_ble_eq_true rfl)
theorem t171_11 : decode (mb 171) 11 = .ok (.iinc 2 1, 3) := by decide +kernel
theorem s171_11 (d : Nat) (l0 : Value) (i1 : Int32) (i2 : Int32) (σ : Hs) : ru d 171 11 [l0, .int i1, .int i2] [] σ = ru d 171 14 [l0, .int i1, .int (i2 + 1)] [] σ := q_iinc t171_11 ⟨Nat.le_of_ble_eq_true rfl, rfl⟩ rfl (by decide +kernel) rfl
theorem t171_14 : decode (mb 171) 14 = .ok (.goto (-12), 3) := by decide +kernel
theorem s171_14 (d : Nat) (l0 : Value) (l1 : Value) (l2 : Value) (σ : Hs) : ru d 171 14 [l0, l1, l2] [] σ = ru d 171 2 [l0, l1, l2] [] σ := q_goto t171_14 (by decide +kernel)
theorem t171_17 : decode (mb 171) 17 = .ok (.return_, 1) := by decide +kernel
theorem s171_17 (d : Nat) (l0 : Value) (l1 : Value) (l2 : Value) (σ : Hs) : ru d 171 17 [l0, l1, l2] [] σ = some (none, σ) := q_vret t171_17 mr171
theorem c171 (d : Nat) (x0 : Nat) (x1 : Int32) (σ : Hs) : callD (d + 1) 171 [.ref x0, .int x1] σ = ru d 171 0 [.ref x0, .int x1, uu] [] σ := callD_ru ml171 rfl rfl (Nat.le_of_ble_eq_true rfl)
-- 172: Model.whyNot(I)I
theorem t172_0 : decode (mb 172) 0 = .ok (.iload_n 1, 1) := by decide +kernel
theorem s172_0 (d : Nat) (l0 : Value) (i1 : Int32) (σ : Hs) : ru d 172 0 [l0, .int i1] [] σ = ru d 172 1 [l0, .int i1] [.int i1] σ := q_iload_n t172_0 rfl
theorem t172_1 : decode (mb 172) 1 = .ok (.iconst 1, 1) := by decide +kernel
theorem s172_1 (d : Nat) (l0 : Value) (l1 : Value) (w0 : Value) (σ : Hs) : ru d 172 1 [l0, l1] [w0] σ = ru d 172 2 [l0, l1] [.int 1, w0] σ := q_iconst t172_1 (by decide +kernel)
theorem t172_2 : decode (mb 172) 2 = .ok (.sipush 200, 3) := by decide +kernel
theorem s172_2 (d : Nat) (l0 : Value) (l1 : Value) (w0 w1 : Value) (σ : Hs) : ru d 172 2 [l0, l1] [w0, w1] σ = ru d 172 5 [l0, l1] [.int 200, w0, w1] σ := q_sipush t172_2 (by decide +kernel)
theorem t172_5 : decode (mb 172) 5 = .ok (.invokestatic 81, 3) := by decide +kernel
theorem s172_5 (d : Nat) (l0 : Value) (l1 : Value) (v0 v1 v2 : Value) (σ : Hs) : ru d 172 5 [l0, l1] [v2, v1, v0] σ = kont (callD d 113 [v0, v1, v2] σ) d 172 8 [l0, l1] [] := q_invs t172_5 mo172 (by decide +kernel) K8_81 mj113 (Nat.le_of_ble_eq_true rfl) rfl rfl (Nat.le_of_ble_eq_true rfl)
theorem t172_8 : decode (mb 172) 8 = .ok (.ifCond .ne 8, 3) := by decide +kernel
theorem s172_8 (d : Nat) (l0 : Value) (l1 : Value) (x : Int32) (σ : Hs) : ru d 172 8 [l0, l1] [.int x] σ = if x = 0 then ru d 172 11 [l0, l1] [] σ else ru d 172 16 [l0, l1] [] σ := q_if_ne t172_8 (by decide +kernel)
theorem t172_11 : decode (mb 172) 11 = .ok (.ldc 104, 2) := by decide +kernel
theorem s172_11 (d : Nat) (l0 : Value) (l1 : Value) (σ : Hs) : ru d 172 11 [l0, l1] [] σ = ru d 172 13 [l0, l1] [.int (-1000001)] σ := q_ldc t172_11 mo172 C8_104
theorem t172_13 : decode (mb 172) 13 = .ok (.goto 23, 3) := by decide +kernel
theorem s172_13 (d : Nat) (l0 : Value) (l1 : Value) (w0 : Value) (σ : Hs) : ru d 172 13 [l0, l1] [w0] σ = ru d 172 36 [l0, l1] [w0] σ := q_goto t172_13 (by decide +kernel)
theorem t172_16 : decode (mb 172) 16 = .ok (.aload_n 0, 1) := by decide +kernel
theorem s172_16 (d : Nat) (a0 : Nat) (l1 : Value) (σ : Hs) : ru d 172 16 [.ref a0, l1] [] σ = ru d 172 17 [.ref a0, l1] [.ref a0] σ := q_aload_n t172_16 rfl
theorem t172_17 : decode (mb 172) 17 = .ok (.getfield 9, 3) := by decide +kernel
theorem s172_17_o87 (d : Nat) (l0 : Value) (l1 : Value) (σ : Hs) : ru d 172 17 [l0, l1] [.ref 87] σ = ru d 172 20 [l0, l1] [.ref 88] σ := q_getf t172_17 mo172 F8_9 rfl rfl
theorem t172_20 : decode (mb 172) 20 = .ok (.iconst 0, 1) := by decide +kernel
theorem s172_20 (d : Nat) (l0 : Value) (l1 : Value) (w0 : Value) (σ : Hs) : ru d 172 20 [l0, l1] [w0] σ = ru d 172 21 [l0, l1] [.int 0, w0] σ := q_iconst t172_20 (by decide +kernel)
theorem t172_21 : decode (mb 172) 21 = .ok (.iaload, 1) := by decide +kernel
theorem s172_21_o88 (d : Nat) (l0 : Value) (l1 : Value) (i : Int32) (σ : Hs) : ru d 172 21 [l0, l1] [.int i, .ref 88] σ = gd (vp_in i 545) (ru d 172 22 [l0, l1] [.int (σ 88 i.toNatClampNeg)] σ) := q_iald t172_21 rfl (by decide +kernel) rfl
theorem t172_22 : decode (mb 172) 22 = .ok (.iload_n 1, 1) := by decide +kernel
theorem s172_22 (d : Nat) (l0 : Value) (i1 : Int32) (w0 : Value) (σ : Hs) : ru d 172 22 [l0, .int i1] [w0] σ = ru d 172 23 [l0, .int i1] [.int i1, w0] σ := q_iload_n t172_22 rfl
theorem t172_23 : decode (mb 172) 23 = .ok (.iadd, 1) := by decide +kernel
theorem s172_23 (d : Nat) (l0 : Value) (l1 : Value) (x y : Int32) (σ : Hs) : ru d 172 23 [l0, l1] [.int y, .int x] σ = ru d 172 24 [l0, l1] [.int (x + y)] σ := q_iadd t172_23
theorem t172_24 : decode (mb 172) 24 = .ok (.ldc_w 267, 3) := by decide +kernel
theorem s172_24 (d : Nat) (l0 : Value) (l1 : Value) (w0 : Value) (σ : Hs) : ru d 172 24 [l0, l1] [w0] σ = ru d 172 27 [l0, l1] [.int 99999, w0] σ := q_ldcw t172_24 mo172 C8_267
theorem t172_27 : decode (mb 172) 27 = .ok (.if_icmp .le 8, 3) := by decide +kernel
theorem s172_27 (d : Nat) (l0 : Value) (l1 : Value) (x y : Int32) (σ : Hs) : ru d 172 27 [l0, l1] [.int y, .int x] σ = if x ≤ y then ru d 172 35 [l0, l1] [] σ else ru d 172 30 [l0, l1] [] σ := q_ic_le t172_27 (by decide +kernel)
theorem t172_30 : decode (mb 172) 30 = .ok (.ldc 149, 2) := by decide +kernel
theorem s172_30 (d : Nat) (l0 : Value) (l1 : Value) (σ : Hs) : ru d 172 30 [l0, l1] [] σ = ru d 172 32 [l0, l1] [.int (-1000003)] σ := q_ldc t172_30 mo172 C8_149
theorem t172_32 : decode (mb 172) 32 = .ok (.goto 4, 3) := by decide +kernel
theorem s172_32 (d : Nat) (l0 : Value) (l1 : Value) (w0 : Value) (σ : Hs) : ru d 172 32 [l0, l1] [w0] σ = ru d 172 36 [l0, l1] [w0] σ := q_goto t172_32 (by decide +kernel)
theorem t172_35 : decode (mb 172) 35 = .ok (.iconst 0, 1) := by decide +kernel
theorem s172_35 (d : Nat) (l0 : Value) (l1 : Value) (σ : Hs) : ru d 172 35 [l0, l1] [] σ = ru d 172 36 [l0, l1] [.int 0] σ := q_iconst t172_35 (by decide +kernel)
theorem t172_36 : decode (mb 172) 36 = .ok (.ireturn, 1) := by decide +kernel
theorem s172_36 (d : Nat) (l0 : Value) (l1 : Value) (x : Int32) (σ : Hs) : ru d 172 36 [l0, l1] [.int x] σ = some (some (.int x), σ) := q_ireti t172_36 mr172
theorem c172 (d : Nat) (x0 : Nat) (x1 : Int32) (σ : Hs) : callD (d + 1) 172 [.ref x0, .int x1] σ = ru d 172 0 [.ref x0, .int x1] [] σ := callD_ru ml172 rfl rfl (Nat.le_of_ble_eq_true rfl)
-- 173: Model.minutes(I)I
theorem t173_0 : decode (mb 173) 0 = .ok (.aload_n 0, 1) := by decide +kernel
theorem s173_0 (d : Nat) (a0 : Nat) (l1 : Value) (l2 : Value) (σ : Hs) : ru d 173 0 [.ref a0, l1, l2] [] σ = ru d 173 1 [.ref a0, l1, l2] [.ref a0] σ := q_aload_n t173_0 rfl
theorem t173_1 : decode (mb 173) 1 = .ok (.iload_n 1, 1) := by decide +kernel
theorem s173_1 (d : Nat) (l0 : Value) (i1 : Int32) (l2 : Value) (w0 : Value) (σ : Hs) : ru d 173 1 [l0, .int i1, l2] [w0] σ = ru d 173 2 [l0, .int i1, l2] [.int i1, w0] σ := q_iload_n t173_1 rfl
theorem t173_2 : decode (mb 173) 2 = .ok (.invokevirtual 268, 3) := by decide +kernel
theorem s173_2_o87 (d : Nat) (l0 : Value) (l1 : Value) (l2 : Value) (v1 : Value) (σ : Hs) : ru d 173 2 [l0, l1, l2] [v1, .ref 87] σ = kont (callD d 172 [.ref 87, v1] σ) d 173 5 [l0, l1, l2] [] := q_invv t173_2 mo173 K8_268 mj172 rfl rfl rfl rfl (Nat.le_of_ble_eq_true rfl)
theorem t173_5 : decode (mb 173) 5 = .ok (.istore_n 2, 1) := by decide +kernel
theorem s173_5 (d : Nat) (l0 : Value) (i1 : Int32) (l2 : Value) (x : Int32) (σ : Hs) : ru d 173 5 [l0, .int i1, l2] [.int x] σ = ru d 173 6 [l0, .int i1, .int x] [] σ := q_istore_n t173_5 ⟨Nat.le_of_ble_eq_true rfl, rfl⟩ rfl
theorem t173_6 : decode (mb 173) 6 = .ok (.iload_n 2, 1) := by decide +kernel
theorem s173_6 (d : Nat) (l0 : Value) (l1 : Value) (i2 : Int32) (σ : Hs) : ru d 173 6 [l0, l1, .int i2] [] σ = ru d 173 7 [l0, l1, .int i2] [.int i2] σ := q_iload_n t173_6 rfl
theorem t173_7 : decode (mb 173) 7 = .ok (.ifCond .eq 9, 3) := by decide +kernel
theorem s173_7 (d : Nat) (l0 : Value) (l1 : Value) (l2 : Value) (x : Int32) (σ : Hs) : ru d 173 7 [l0, l1, l2] [.int x] σ = if x = 0 then ru d 173 16 [l0, l1, l2] [] σ else ru d 173 10 [l0, l1, l2] [] σ := q_if_eq t173_7 (by decide +kernel)
theorem t173_10 : decode (mb 173) 10 = .ok (.aload_n 0, 1) := by decide +kernel
theorem s173_10 (d : Nat) (a0 : Nat) (l1 : Value) (l2 : Value) (σ : Hs) : ru d 173 10 [.ref a0, l1, l2] [] σ = ru d 173 11 [.ref a0, l1, l2] [.ref a0] σ := q_aload_n t173_10 rfl
theorem t173_11 : decode (mb 173) 11 = .ok (.iload_n 2, 1) := by decide +kernel
theorem s173_11 (d : Nat) (l0 : Value) (l1 : Value) (i2 : Int32) (w0 : Value) (σ : Hs) : ru d 173 11 [l0, l1, .int i2] [w0] σ = ru d 173 12 [l0, l1, .int i2] [.int i2, w0] σ := q_iload_n t173_11 rfl
theorem t173_12 : decode (mb 173) 12 = .ok (.invokevirtual 105, 3) := by decide +kernel
theorem s173_12_o87 (d : Nat) (l0 : Value) (l1 : Value) (l2 : Value) (v1 : Value) (σ : Hs) : ru d 173 12 [l0, l1, l2] [v1, .ref 87] σ = kont (callD d 112 [.ref 87, v1] σ) d 173 15 [l0, l1, l2] [] := q_invv t173_12 mo173 K8_105 mj112 rfl rfl rfl rfl (Nat.le_of_ble_eq_true rfl)
theorem t173_15 : decode (mb 173) 15 = .ok (.ireturn, 1) := by decide +kernel
theorem s173_15 (d : Nat) (l0 : Value) (l1 : Value) (l2 : Value) (x : Int32) (σ : Hs) : ru d 173 15 [l0, l1, l2] [.int x] σ = some (some (.int x), σ) := q_ireti t173_15 mr173
theorem t173_16 : decode (mb 173) 16 = .ok (.aload_n 0, 1) := by decide +kernel
theorem s173_16 (d : Nat) (a0 : Nat) (l1 : Value) (l2 : Value) (σ : Hs) : ru d 173 16 [.ref a0, l1, l2] [] σ = ru d 173 17 [.ref a0, l1, l2] [.ref a0] σ := q_aload_n t173_16 rfl
theorem t173_17 : decode (mb 173) 17 = .ok (.iload_n 1, 1) := by decide +kernel
theorem s173_17 (d : Nat) (l0 : Value) (i1 : Int32) (l2 : Value) (w0 : Value) (σ : Hs) : ru d 173 17 [l0, .int i1, l2] [w0] σ = ru d 173 18 [l0, .int i1, l2] [.int i1, w0] σ := q_iload_n t173_17 rfl
theorem t173_18 : decode (mb 173) 18 = .ok (.invokevirtual 271, 3) := by decide +kernel
theorem s173_18_o87 (d : Nat) (l0 : Value) (l1 : Value) (l2 : Value) (v1 : Value) (σ : Hs) : ru d 173 18 [l0, l1, l2] [v1, .ref 87] σ = kont (callD d 171 [.ref 87, v1] σ) d 173 21 [l0, l1, l2] [] := q_invv t173_18 mo173 K8_271 mj171 rfl rfl rfl rfl (Nat.le_of_ble_eq_true rfl)
theorem t173_21 : decode (mb 173) 21 = .ok (.aload_n 0, 1) := by decide +kernel
theorem s173_21 (d : Nat) (a0 : Nat) (l1 : Value) (l2 : Value) (σ : Hs) : ru d 173 21 [.ref a0, l1, l2] [] σ = ru d 173 22 [.ref a0, l1, l2] [.ref a0] σ := q_aload_n t173_21 rfl
theorem t173_22 : decode (mb 173) 22 = .ok (.getfield 9, 3) := by decide +kernel
theorem s173_22_o87 (d : Nat) (l0 : Value) (l1 : Value) (l2 : Value) (σ : Hs) : ru d 173 22 [l0, l1, l2] [.ref 87] σ = ru d 173 25 [l0, l1, l2] [.ref 88] σ := q_getf t173_22 mo173 F8_9 rfl rfl
theorem t173_25 : decode (mb 173) 25 = .ok (.iconst 0, 1) := by decide +kernel
theorem s173_25 (d : Nat) (l0 : Value) (l1 : Value) (l2 : Value) (w0 : Value) (σ : Hs) : ru d 173 25 [l0, l1, l2] [w0] σ = ru d 173 26 [l0, l1, l2] [.int 0, w0] σ := q_iconst t173_25 (by decide +kernel)
theorem t173_26 : decode (mb 173) 26 = .ok (.iaload, 1) := by decide +kernel
theorem s173_26_o88 (d : Nat) (l0 : Value) (l1 : Value) (l2 : Value) (i : Int32) (σ : Hs) : ru d 173 26 [l0, l1, l2] [.int i, .ref 88] σ = gd (vp_in i 545) (ru d 173 27 [l0, l1, l2] [.int (σ 88 i.toNatClampNeg)] σ) := q_iald t173_26 rfl (by decide +kernel) rfl
theorem t173_27 : decode (mb 173) 27 = .ok (.ireturn, 1) := by decide +kernel
theorem s173_27 (d : Nat) (l0 : Value) (l1 : Value) (l2 : Value) (x : Int32) (σ : Hs) : ru d 173 27 [l0, l1, l2] [.int x] σ = some (some (.int x), σ) := q_ireti t173_27 mr173
theorem c173 (d : Nat) (x0 : Nat) (x1 : Int32) (σ : Hs) : callD (d + 1) 173 [.ref x0, .int x1] σ = ru d 173 0 [.ref x0, .int x1, uu] [] σ := callD_ru ml173 rfl rfl (Nat.le_of_ble_eq_true rfl)
-- 174: Model.drawn(I)I
theorem t174_0 : decode (mb 174) 0 = .ok (.aload_n 0, 1) := by decide +kernel
theorem s174_0 (d : Nat) (a0 : Nat) (l1 : Value) (σ : Hs) : ru d 174 0 [.ref a0, l1] [] σ = ru d 174 1 [.ref a0, l1] [.ref a0] σ := q_aload_n t174_0 rfl
theorem t174_1 : decode (mb 174) 1 = .ok (.getfield 9, 3) := by decide +kernel
theorem s174_1_o87 (d : Nat) (l0 : Value) (l1 : Value) (σ : Hs) : ru d 174 1 [l0, l1] [.ref 87] σ = ru d 174 4 [l0, l1] [.ref 88] σ := q_getf t174_1 mo174 F8_9 rfl rfl
theorem t174_4 : decode (mb 174) 4 = .ok (.iconst 3, 1) := by decide +kernel
theorem s174_4 (d : Nat) (l0 : Value) (l1 : Value) (w0 : Value) (σ : Hs) : ru d 174 4 [l0, l1] [w0] σ = ru d 174 5 [l0, l1] [.int 3, w0] σ := q_iconst t174_4 (by decide +kernel)
theorem t174_5 : decode (mb 174) 5 = .ok (.aload_n 0, 1) := by decide +kernel
theorem s174_5 (d : Nat) (a0 : Nat) (l1 : Value) (w0 w1 : Value) (σ : Hs) : ru d 174 5 [.ref a0, l1] [w0, w1] σ = ru d 174 6 [.ref a0, l1] [.ref a0, w0, w1] σ := q_aload_n t174_5 rfl
theorem t174_6 : decode (mb 174) 6 = .ok (.getfield 9, 3) := by decide +kernel
theorem s174_6_o87 (d : Nat) (l0 : Value) (l1 : Value) (w0 w1 : Value) (σ : Hs) : ru d 174 6 [l0, l1] [.ref 87, w0, w1] σ = ru d 174 9 [l0, l1] [.ref 88, w0, w1] σ := q_getf t174_6 mo174 F8_9 rfl rfl
theorem t174_9 : decode (mb 174) 9 = .ok (.iconst 3, 1) := by decide +kernel
theorem s174_9 (d : Nat) (l0 : Value) (l1 : Value) (w0 w1 w2 : Value) (σ : Hs) : ru d 174 9 [l0, l1] [w0, w1, w2] σ = ru d 174 10 [l0, l1] [.int 3, w0, w1, w2] σ := q_iconst t174_9 (by decide +kernel)
theorem t174_10 : decode (mb 174) 10 = .ok (.iaload, 1) := by decide +kernel
theorem s174_10_o88 (d : Nat) (l0 : Value) (l1 : Value) (i : Int32) (w0 w1 : Value) (σ : Hs) : ru d 174 10 [l0, l1] [.int i, .ref 88, w0, w1] σ = gd (vp_in i 545) (ru d 174 11 [l0, l1] [.int (σ 88 i.toNatClampNeg), w0, w1] σ) := q_iald t174_10 rfl (by decide +kernel) rfl
theorem t174_11 : decode (mb 174) 11 = .ok (.ldc_w 274, 3) := by decide +kernel
theorem s174_11 (d : Nat) (l0 : Value) (l1 : Value) (w0 w1 w2 : Value) (σ : Hs) : ru d 174 11 [l0, l1] [w0, w1, w2] σ = ru d 174 14 [l0, l1] [.int 1103515245, w0, w1, w2] σ := q_ldcw t174_11 mo174 C8_274
theorem t174_14 : decode (mb 174) 14 = .ok (.imul, 1) := by decide +kernel
theorem s174_14 (d : Nat) (l0 : Value) (l1 : Value) (x y : Int32) (w0 w1 : Value) (σ : Hs) : ru d 174 14 [l0, l1] [.int y, .int x, w0, w1] σ = ru d 174 15 [l0, l1] [.int (x * y), w0, w1] σ := q_imul t174_14
theorem t174_15 : decode (mb 174) 15 = .ok (.sipush 12345, 3) := by decide +kernel
theorem s174_15 (d : Nat) (l0 : Value) (l1 : Value) (w0 w1 w2 : Value) (σ : Hs) : ru d 174 15 [l0, l1] [w0, w1, w2] σ = ru d 174 18 [l0, l1] [.int 12345, w0, w1, w2] σ := q_sipush t174_15 (by decide +kernel)
theorem t174_18 : decode (mb 174) 18 = .ok (.iadd, 1) := by decide +kernel
theorem s174_18 (d : Nat) (l0 : Value) (l1 : Value) (x y : Int32) (w0 w1 : Value) (σ : Hs) : ru d 174 18 [l0, l1] [.int y, .int x, w0, w1] σ = ru d 174 19 [l0, l1] [.int (x + y), w0, w1] σ := q_iadd t174_18
theorem t174_19 : decode (mb 174) 19 = .ok (.iastore, 1) := by decide +kernel
theorem s174_19_o88 (d : Nat) (l0 : Value) (l1 : Value) (i x : Int32) (σ : Hs) : ru d 174 19 [l0, l1] [.int x, .int i, .ref 88] σ = gd (vp_in i 545) (ru d 174 20 [l0, l1] [] (up2 σ 88 i.toNatClampNeg x)) := q_iast t174_19 (by decide +kernel) rfl rfl
theorem t174_20 : decode (mb 174) 20 = .ok (.aload_n 0, 1) := by decide +kernel
theorem s174_20 (d : Nat) (a0 : Nat) (l1 : Value) (σ : Hs) : ru d 174 20 [.ref a0, l1] [] σ = ru d 174 21 [.ref a0, l1] [.ref a0] σ := q_aload_n t174_20 rfl
theorem t174_21 : decode (mb 174) 21 = .ok (.getfield 9, 3) := by decide +kernel
theorem s174_21_o87 (d : Nat) (l0 : Value) (l1 : Value) (σ : Hs) : ru d 174 21 [l0, l1] [.ref 87] σ = ru d 174 24 [l0, l1] [.ref 88] σ := q_getf t174_21 mo174 F8_9 rfl rfl
theorem t174_24 : decode (mb 174) 24 = .ok (.iconst 3, 1) := by decide +kernel
theorem s174_24 (d : Nat) (l0 : Value) (l1 : Value) (w0 : Value) (σ : Hs) : ru d 174 24 [l0, l1] [w0] σ = ru d 174 25 [l0, l1] [.int 3, w0] σ := q_iconst t174_24 (by decide +kernel)
theorem t174_25 : decode (mb 174) 25 = .ok (.iaload, 1) := by decide +kernel
theorem s174_25_o88 (d : Nat) (l0 : Value) (l1 : Value) (i : Int32) (σ : Hs) : ru d 174 25 [l0, l1] [.int i, .ref 88] σ = gd (vp_in i 545) (ru d 174 26 [l0, l1] [.int (σ 88 i.toNatClampNeg)] σ) := q_iald t174_25 rfl (by decide +kernel) rfl
theorem t174_26 : decode (mb 174) 26 = .ok (.bipush 8, 2) := by decide +kernel
theorem s174_26 (d : Nat) (l0 : Value) (l1 : Value) (w0 : Value) (σ : Hs) : ru d 174 26 [l0, l1] [w0] σ = ru d 174 28 [l0, l1] [.int 8, w0] σ := q_bipush t174_26 (by decide +kernel)
theorem t174_28 : decode (mb 174) 28 = .ok (.iushr, 1) := by decide +kernel
theorem s174_28 (d : Nat) (l0 : Value) (l1 : Value) (x y : Int32) (σ : Hs) : ru d 174 28 [l0, l1] [.int y, .int x] σ = ru d 174 29 [l0, l1] [.int ((x.toUInt32 >>> (y.toUInt32 &&& Int32.toUInt32 31)).toInt32)] σ := q_iushr t174_28
theorem t174_29 : decode (mb 174) 29 = .ok (.iload_n 1, 1) := by decide +kernel
theorem s174_29 (d : Nat) (l0 : Value) (i1 : Int32) (w0 : Value) (σ : Hs) : ru d 174 29 [l0, .int i1] [w0] σ = ru d 174 30 [l0, .int i1] [.int i1, w0] σ := q_iload_n t174_29 rfl
theorem t174_30 : decode (mb 174) 30 = .ok (.irem, 1) := by decide +kernel
theorem s174_30 (d : Nat) (l0 : Value) (l1 : Value) (x y : Int32) (σ : Hs) : ru d 174 30 [l0, l1] [.int y, .int x] σ = gd (¬ y = 0) (ru d 174 31 [l0, l1] [.int (x - x / y * y)] σ) := q_irem t174_30
theorem t174_31 : decode (mb 174) 31 = .ok (.ireturn, 1) := by decide +kernel
theorem s174_31 (d : Nat) (l0 : Value) (l1 : Value) (x : Int32) (σ : Hs) : ru d 174 31 [l0, l1] [.int x] σ = some (some (.int x), σ) := q_ireti t174_31 mr174
theorem c174 (d : Nat) (x0 : Nat) (x1 : Int32) (σ : Hs) : callD (d + 1) 174 [.ref x0, .int x1] σ = ru d 174 0 [.ref x0, .int x1] [] σ := callD_ru ml174 rfl rfl (Nat.le_of_ble_eq_true rfl)
-- 175: Model.gusts(I)I
theorem t175_0 : decode (mb 175) 0 = .ok (.aload_n 0, 1) := by decide +kernel
theorem s175_0 (d : Nat) (a0 : Nat) (l1 : Value) (l2 : Value) (l3 : Value) (l4 : Value) (σ : Hs) : ru d 175 0 [.ref a0, l1, l2, l3, l4] [] σ = ru d 175 1 [.ref a0, l1, l2, l3, l4] [.ref a0] σ := q_aload_n t175_0 rfl
theorem t175_1 : decode (mb 175) 1 = .ok (.iload_n 1, 1) := by decide +kernel
theorem s175_1 (d : Nat) (l0 : Value) (i1 : Int32) (l2 : Value) (l3 : Value) (l4 : Value) (w0 : Value) (σ : Hs) : ru d 175 1 [l0, .int i1, l2, l3, l4] [w0] σ = ru d 175 2 [l0, .int i1, l2, l3, l4] [.int i1, w0] σ := q_iload_n t175_1 rfl
theorem t175_2 : decode (mb 175) 2 = .ok (.invokevirtual 268, 3) := by decide +kernel
theorem s175_2_o87 (d : Nat) (l0 : Value) (l1 : Value) (l2 : Value) (l3 : Value) (l4 : Value) (v1 : Value) (σ : Hs) : ru d 175 2 [l0, l1, l2, l3, l4] [v1, .ref 87] σ = kont (callD d 172 [.ref 87, v1] σ) d 175 5 [l0, l1, l2, l3, l4] [] := q_invv t175_2 mo175 K8_268 mj172 rfl rfl rfl rfl (Nat.le_of_ble_eq_true rfl)
theorem t175_5 : decode (mb 175) 5 = .ok (.istore_n 2, 1) := by decide +kernel
theorem s175_5 (d : Nat) (l0 : Value) (i1 : Int32) (l2 : Value) (l3 : Value) (l4 : Value) (x : Int32) (σ : Hs) : ru d 175 5 [l0, .int i1, l2, l3, l4] [.int x] σ = ru d 175 6 [l0, .int i1, .int x, l3, l4] [] σ := q_istore_n t175_5 ⟨Nat.le_of_ble_eq_true rfl, rfl⟩ rfl
theorem t175_6 : decode (mb 175) 6 = .ok (.iload_n 2, 1) := by decide +kernel
theorem s175_6 (d : Nat) (l0 : Value) (l1 : Value) (i2 : Int32) (l3 : Value) (l4 : Value) (σ : Hs) : ru d 175 6 [l0, l1, .int i2, l3, l4] [] σ = ru d 175 7 [l0, l1, .int i2, l3, l4] [.int i2] σ := q_iload_n t175_6 rfl
theorem t175_7 : decode (mb 175) 7 = .ok (.ifCond .eq 9, 3) := by decide +kernel
theorem s175_7 (d : Nat) (l0 : Value) (l1 : Value) (l2 : Value) (l3 : Value) (l4 : Value) (x : Int32) (σ : Hs) : ru d 175 7 [l0, l1, l2, l3, l4] [.int x] σ = if x = 0 then ru d 175 16 [l0, l1, l2, l3, l4] [] σ else ru d 175 10 [l0, l1, l2, l3, l4] [] σ := q_if_eq t175_7 (by decide +kernel)
theorem t175_10 : decode (mb 175) 10 = .ok (.aload_n 0, 1) := by decide +kernel
theorem s175_10 (d : Nat) (a0 : Nat) (l1 : Value) (l2 : Value) (l3 : Value) (l4 : Value) (σ : Hs) : ru d 175 10 [.ref a0, l1, l2, l3, l4] [] σ = ru d 175 11 [.ref a0, l1, l2, l3, l4] [.ref a0] σ := q_aload_n t175_10 rfl
theorem t175_11 : decode (mb 175) 11 = .ok (.iload_n 2, 1) := by decide +kernel
theorem s175_11 (d : Nat) (l0 : Value) (l1 : Value) (i2 : Int32) (l3 : Value) (l4 : Value) (w0 : Value) (σ : Hs) : ru d 175 11 [l0, l1, .int i2, l3, l4] [w0] σ = ru d 175 12 [l0, l1, .int i2, l3, l4] [.int i2, w0] σ := q_iload_n t175_11 rfl
theorem t175_12 : decode (mb 175) 12 = .ok (.invokevirtual 105, 3) := by decide +kernel
theorem s175_12_o87 (d : Nat) (l0 : Value) (l1 : Value) (l2 : Value) (l3 : Value) (l4 : Value) (v1 : Value) (σ : Hs) : ru d 175 12 [l0, l1, l2, l3, l4] [v1, .ref 87] σ = kont (callD d 112 [.ref 87, v1] σ) d 175 15 [l0, l1, l2, l3, l4] [] := q_invv t175_12 mo175 K8_105 mj112 rfl rfl rfl rfl (Nat.le_of_ble_eq_true rfl)
theorem t175_15 : decode (mb 175) 15 = .ok (.ireturn, 1) := by decide +kernel
theorem s175_15 (d : Nat) (l0 : Value) (l1 : Value) (l2 : Value) (l3 : Value) (l4 : Value) (x : Int32) (σ : Hs) : ru d 175 15 [l0, l1, l2, l3, l4] [.int x] σ = some (some (.int x), σ) := q_ireti t175_15 mr175
theorem t175_16 : decode (mb 175) 16 = .ok (.iconst 0, 1) := by decide +kernel
theorem s175_16 (d : Nat) (l0 : Value) (l1 : Value) (l2 : Value) (l3 : Value) (l4 : Value) (σ : Hs) : ru d 175 16 [l0, l1, l2, l3, l4] [] σ = ru d 175 17 [l0, l1, l2, l3, l4] [.int 0] σ := q_iconst t175_16 (by decide +kernel)
theorem t175_17 : decode (mb 175) 17 = .ok (.istore_n 3, 1) := by decide +kernel
theorem s175_17 (d : Nat) (l0 : Value) (l1 : Value) (i2 : Int32) (l3 : Value) (l4 : Value) (x : Int32) (σ : Hs) : ru d 175 17 [l0, l1, .int i2, l3, l4] [.int x] σ = ru d 175 18 [l0, l1, .int i2, .int x, l4] [] σ := q_istore_n t175_17 ⟨Nat.le_of_ble_eq_true rfl, rfl⟩ rfl
theorem t175_18 : decode (mb 175) 18 = .ok (.iload_n 3, 1) := by decide +kernel
theorem s175_18 (d : Nat) (l0 : Value) (l1 : Value) (l2 : Value) (i3 : Int32) (l4 : Value) (σ : Hs) : ru d 175 18 [l0, l1, l2, .int i3, l4] [] σ = ru d 175 19 [l0, l1, l2, .int i3, l4] [.int i3] σ := q_iload_n t175_18 rfl
theorem t175_19 : decode (mb 175) 19 = .ok (.iload_n 1, 1) := by decide +kernel
theorem s175_19 (d : Nat) (l0 : Value) (i1 : Int32) (l2 : Value) (l3 : Value) (l4 : Value) (w0 : Value) (σ : Hs) : ru d 175 19 [l0, .int i1, l2, l3, l4] [w0] σ = ru d 175 20 [l0, .int i1, l2, l3, l4] [.int i1, w0] σ := q_iload_n t175_19 rfl
theorem t175_20 : decode (mb 175) 20 = .ok (.if_icmp .ge 34, 3) := by decide +kernel
theorem s175_20 (d : Nat) (l0 : Value) (l1 : Value) (l2 : Value) (l3 : Value) (l4 : Value) (x y : Int32) (σ : Hs) : ru d 175 20 [l0, l1, l2, l3, l4] [.int y, .int x] σ = if y ≤ x then ru d 175 54 [l0, l1, l2, l3, l4] [] σ else ru d 175 23 [l0, l1, l2, l3, l4] [] σ := q_ic_ge t175_20 (by decide +kernel)
theorem t175_23 : decode (mb 175) 23 = .ok (.aload_n 0, 1) := by decide +kernel
theorem s175_23 (d : Nat) (a0 : Nat) (l1 : Value) (l2 : Value) (l3 : Value) (l4 : Value) (σ : Hs) : ru d 175 23 [.ref a0, l1, l2, l3, l4] [] σ = ru d 175 24 [.ref a0, l1, l2, l3, l4] [.ref a0] σ := q_aload_n t175_23 rfl
theorem t175_24 : decode (mb 175) 24 = .ok (.iconst 5, 1) := by decide +kernel
theorem s175_24 (d : Nat) (l0 : Value) (l1 : Value) (l2 : Value) (l3 : Value) (l4 : Value) (w0 : Value) (σ : Hs) : ru d 175 24 [l0, l1, l2, l3, l4] [w0] σ = ru d 175 25 [l0, l1, l2, l3, l4] [.int 5, w0] σ := q_iconst t175_24 (by decide +kernel)
theorem t175_25 : decode (mb 175) 25 = .ok (.aload_n 0, 1) := by decide +kernel
theorem s175_25 (d : Nat) (a0 : Nat) (l1 : Value) (l2 : Value) (l3 : Value) (l4 : Value) (w0 w1 : Value) (σ : Hs) : ru d 175 25 [.ref a0, l1, l2, l3, l4] [w0, w1] σ = ru d 175 26 [.ref a0, l1, l2, l3, l4] [.ref a0, w0, w1] σ := q_aload_n t175_25 rfl
theorem t175_26 : decode (mb 175) 26 = .ok (.bipush 100, 2) := by decide +kernel
theorem s175_26 (d : Nat) (l0 : Value) (l1 : Value) (l2 : Value) (l3 : Value) (l4 : Value) (w0 w1 w2 : Value) (σ : Hs) : ru d 175 26 [l0, l1, l2, l3, l4] [w0, w1, w2] σ = ru d 175 28 [l0, l1, l2, l3, l4] [.int 100, w0, w1, w2] σ := q_bipush t175_26 (by decide +kernel)
theorem t175_28 : decode (mb 175) 28 = .ok (.invokevirtual 275, 3) := by decide +kernel
theorem s175_28_o87 (d : Nat) (l0 : Value) (l1 : Value) (l2 : Value) (l3 : Value) (l4 : Value) (v1 : Value) (w0 : Int32) (w1 : Nat) (σ : Hs) : ru d 175 28 [l0, l1, l2, l3, l4] [v1, .ref 87, .int w0, .ref w1] σ = kont (callD d 174 [.ref 87, v1] σ) d 175 31 [l0, l1, l2, l3, l4] [.int w0, .ref w1] := q_invv t175_28 mo175 K8_275 mj174 rfl rfl rfl rfl (Nat.le_of_ble_eq_true rfl)
theorem t175_31 : decode (mb 175) 31 = .ok (.invokevirtual 135, 3) := by decide +kernel
theorem s175_31_o87 (d : Nat) (l0 : Value) (l1 : Value) (l2 : Value) (l3 : Value) (l4 : Value) (v1 v2 : Value) (σ : Hs) : ru d 175 31 [l0, l1, l2, l3, l4] [v2, v1, .ref 87] σ = kont (callD d 117 [.ref 87, v1, v2] σ) d 175 34 [l0, l1, l2, l3, l4] [] := q_invv t175_31 mo175 K8_135 mj117 rfl rfl rfl rfl (Nat.le_of_ble_eq_true rfl)
theorem t175_34 : decode (mb 175) 34 = .ok (.istore 4, 2) := by decide +kernel
theorem s175_34 (d : Nat) (l0 : Value) (l1 : Value) (l2 : Value) (i3 : Int32) (l4 : Value) (x : Int32) (σ : Hs) : ru d 175 34 [l0, l1, l2, .int i3, l4] [.int x] σ = ru d 175 36 [l0, l1, l2, .int i3, .int x] [] σ := q_istore t175_34 ⟨Nat.le_of_ble_eq_true rfl, rfl⟩ rfl
theorem t175_36 : decode (mb 175) 36 = .ok (.aload_n 0, 1) := by decide +kernel
theorem s175_36 (d : Nat) (a0 : Nat) (l1 : Value) (l2 : Value) (l3 : Value) (l4 : Value) (σ : Hs) : ru d 175 36 [.ref a0, l1, l2, l3, l4] [] σ = ru d 175 37 [.ref a0, l1, l2, l3, l4] [.ref a0] σ := q_aload_n t175_36 rfl
theorem t175_37 : decode (mb 175) 37 = .ok (.invokevirtual 264, 3) := by decide +kernel
theorem s175_37_o87 (d : Nat) (l0 : Value) (l1 : Value) (l2 : Value) (l3 : Value) (l4 : Value) (σ : Hs) : ru d 175 37 [l0, l1, l2, l3, l4] [.ref 87] σ = kont (callD d 170 [.ref 87] σ) d 175 40 [l0, l1, l2, l3, l4] [] := q_invv t175_37 mo175 K8_264 mj170 rfl rfl rfl rfl (Nat.le_of_ble_eq_true rfl)
theorem t175_40 : decode (mb 175) 40 = .ok (.aload_n 0, 1) := by decide +kernel
theorem s175_40 (d : Nat) (a0 : Nat) (l1 : Value) (l2 : Value) (l3 : Value) (l4 : Value) (σ : Hs) : ru d 175 40 [.ref a0, l1, l2, l3, l4] [] σ = ru d 175 41 [.ref a0, l1, l2, l3, l4] [.ref a0] σ := q_aload_n t175_40 rfl
theorem t175_41 : decode (mb 175) 41 = .ok (.getfield 9, 3) := by decide +kernel
theorem s175_41_o87 (d : Nat) (l0 : Value) (l1 : Value) (l2 : Value) (l3 : Value) (l4 : Value) (σ : Hs) : ru d 175 41 [l0, l1, l2, l3, l4] [.ref 87] σ = ru d 175 44 [l0, l1, l2, l3, l4] [.ref 88] σ := q_getf t175_41 mo175 F8_9 rfl rfl
theorem t175_44 : decode (mb 175) 44 = .ok (.iconst 5, 1) := by decide +kernel
theorem s175_44 (d : Nat) (l0 : Value) (l1 : Value) (l2 : Value) (l3 : Value) (l4 : Value) (w0 : Value) (σ : Hs) : ru d 175 44 [l0, l1, l2, l3, l4] [w0] σ = ru d 175 45 [l0, l1, l2, l3, l4] [.int 5, w0] σ := q_iconst t175_44 (by decide +kernel)
theorem t175_45 : decode (mb 175) 45 = .ok (.iload 4, 2) := by decide +kernel
theorem s175_45 (d : Nat) (l0 : Value) (l1 : Value) (l2 : Value) (l3 : Value) (i4 : Int32) (w0 w1 : Value) (σ : Hs) : ru d 175 45 [l0, l1, l2, l3, .int i4] [w0, w1] σ = ru d 175 47 [l0, l1, l2, l3, .int i4] [.int i4, w0, w1] σ := q_iload t175_45 rfl
theorem t175_47 : decode (mb 175) 47 = .ok (.iastore, 1) := by decide +kernel
theorem s175_47_o88 (d : Nat) (l0 : Value) (l1 : Value) (l2 : Value) (l3 : Value) (l4 : Value) (i x : Int32) (σ : Hs) : ru d 175 47 [l0, l1, l2, l3, l4] [.int x, .int i, .ref 88] σ = gd (vp_in i 545) (ru d 175 48 [l0, l1, l2, l3, l4] [] (up2 σ 88 i.toNatClampNeg x)) := q_iast t175_47 (by decide +kernel) rfl rfl
theorem t175_48 : decode (mb 175) 48 = .ok (.iinc 3 1, 3) := by decide +kernel
theorem s175_48 (d : Nat) (l0 : Value) (l1 : Value) (i2 : Int32) (i3 : Int32) (l4 : Value) (σ : Hs) : ru d 175 48 [l0, l1, .int i2, .int i3, l4] [] σ = ru d 175 51 [l0, l1, .int i2, .int (i3 + 1), l4] [] σ := q_iinc t175_48 ⟨Nat.le_of_ble_eq_true rfl, rfl⟩ rfl (by decide +kernel) rfl
theorem t175_51 : decode (mb 175) 51 = .ok (.goto (-33), 3) := by decide +kernel
theorem s175_51 (d : Nat) (l0 : Value) (l1 : Value) (l2 : Value) (l3 : Value) (l4 : Value) (σ : Hs) : ru d 175 51 [l0, l1, l2, l3, l4] [] σ = ru d 175 18 [l0, l1, l2, l3, l4] [] σ := q_goto t175_51 (by decide +kernel)
theorem t175_54 : decode (mb 175) 54 = .ok (.aload_n 0, 1) := by decide +kernel
theorem s175_54 (d : Nat) (a0 : Nat) (l1 : Value) (l2 : Value) (l3 : Value) (l4 : Value) (σ : Hs) : ru d 175 54 [.ref a0, l1, l2, l3, l4] [] σ = ru d 175 55 [.ref a0, l1, l2, l3, l4] [.ref a0] σ := q_aload_n t175_54 rfl
theorem t175_55 : decode (mb 175) 55 = .ok (.getfield 9, 3) := by decide +kernel
theorem s175_55_o87 (d : Nat) (l0 : Value) (l1 : Value) (l2 : Value) (l3 : Value) (l4 : Value) (σ : Hs) : ru d 175 55 [l0, l1, l2, l3, l4] [.ref 87] σ = ru d 175 58 [l0, l1, l2, l3, l4] [.ref 88] σ := q_getf t175_55 mo175 F8_9 rfl rfl
theorem t175_58 : decode (mb 175) 58 = .ok (.iconst 0, 1) := by decide +kernel
theorem s175_58 (d : Nat) (l0 : Value) (l1 : Value) (l2 : Value) (l3 : Value) (l4 : Value) (w0 : Value) (σ : Hs) : ru d 175 58 [l0, l1, l2, l3, l4] [w0] σ = ru d 175 59 [l0, l1, l2, l3, l4] [.int 0, w0] σ := q_iconst t175_58 (by decide +kernel)
theorem t175_59 : decode (mb 175) 59 = .ok (.iaload, 1) := by decide +kernel
theorem s175_59_o88 (d : Nat) (l0 : Value) (l1 : Value) (l2 : Value) (l3 : Value) (l4 : Value) (i : Int32) (σ : Hs) : ru d 175 59 [l0, l1, l2, l3, l4] [.int i, .ref 88] σ = gd (vp_in i 545) (ru d 175 60 [l0, l1, l2, l3, l4] [.int (σ 88 i.toNatClampNeg)] σ) := q_iald t175_59 rfl (by decide +kernel) rfl
theorem t175_60 : decode (mb 175) 60 = .ok (.ireturn, 1) := by decide +kernel
theorem s175_60 (d : Nat) (l0 : Value) (l1 : Value) (l2 : Value) (l3 : Value) (l4 : Value) (x : Int32) (σ : Hs) : ru d 175 60 [l0, l1, l2, l3, l4] [.int x] σ = some (some (.int x), σ) := q_ireti t175_60 mr175
theorem c175 (d : Nat) (x0 : Nat) (x1 : Int32) (σ : Hs) : callD (d + 1) 175 [.ref x0, .int x1] σ = ru d 175 0 [.ref x0, .int x1, uu, uu, uu] [] σ := callD_ru ml175 rfl rfl (Nat.le_of_ble_eq_true rfl)
-- 176: Model.seed(I)I
theorem t176_0 : decode (mb 176) 0 = .ok (.aload_n 0, 1) := by decide +kernel
theorem s176_0 (d : Nat) (a0 : Nat) (l1 : Value) (σ : Hs) : ru d 176 0 [.ref a0, l1] [] σ = ru d 176 1 [.ref a0, l1] [.ref a0] σ := q_aload_n t176_0 rfl
theorem t176_1 : decode (mb 176) 1 = .ok (.iconst 3, 1) := by decide +kernel
theorem s176_1 (d : Nat) (l0 : Value) (l1 : Value) (w0 : Value) (σ : Hs) : ru d 176 1 [l0, l1] [w0] σ = ru d 176 2 [l0, l1] [.int 3, w0] σ := q_iconst t176_1 (by decide +kernel)
theorem t176_2 : decode (mb 176) 2 = .ok (.iload_n 1, 1) := by decide +kernel
theorem s176_2 (d : Nat) (l0 : Value) (i1 : Int32) (w0 w1 : Value) (σ : Hs) : ru d 176 2 [l0, .int i1] [w0, w1] σ = ru d 176 3 [l0, .int i1] [.int i1, w0, w1] σ := q_iload_n t176_2 rfl
theorem t176_3 : decode (mb 176) 3 = .ok (.invokevirtual 135, 3) := by decide +kernel
theorem s176_3_o87 (d : Nat) (l0 : Value) (l1 : Value) (v1 v2 : Value) (σ : Hs) : ru d 176 3 [l0, l1] [v2, v1, .ref 87] σ = kont (callD d 117 [.ref 87, v1, v2] σ) d 176 6 [l0, l1] [] := q_invv t176_3 mo176 K8_135 mj117 rfl rfl rfl rfl (Nat.le_of_ble_eq_true rfl)
theorem t176_6 : decode (mb 176) 6 = .ok (.ireturn, 1) := by decide +kernel
theorem s176_6 (d : Nat) (l0 : Value) (l1 : Value) (x : Int32) (σ : Hs) : ru d 176 6 [l0, l1] [.int x] σ = some (some (.int x), σ) := q_ireti t176_6 mr176
theorem c176 (d : Nat) (x0 : Nat) (x1 : Int32) (σ : Hs) : callD (d + 1) 176 [.ref x0, .int x1] σ = ru d 176 0 [.ref x0, .int x1] [] σ := callD_ru ml176 rfl rfl (Nat.le_of_ble_eq_true rfl)
-- 177: Model.isGarden(I)Z
theorem t177_0 : decode (mb 177) 0 = .ok (.iload_n 0, 1) := by decide +kernel
theorem s177_0 (d : Nat) (i0 : Int32) (σ : Hs) : ru d 177 0 [.int i0] [] σ = ru d 177 1 [.int i0] [.int i0] σ := q_iload_n t177_0 rfl
theorem t177_1 : decode (mb 177) 1 = .ok (.iconst 0, 1) := by decide +kernel
theorem s177_1 (d : Nat) (l0 : Value) (w0 : Value) (σ : Hs) : ru d 177 1 [l0] [w0] σ = ru d 177 2 [l0] [.int 0, w0] σ := q_iconst t177_1 (by decide +kernel)
theorem t177_2 : decode (mb 177) 2 = .ok (.bipush 8, 2) := by decide +kernel
theorem s177_2 (d : Nat) (l0 : Value) (w0 w1 : Value) (σ : Hs) : ru d 177 2 [l0] [w0, w1] σ = ru d 177 4 [l0] [.int 8, w0, w1] σ := q_bipush t177_2 (by decide +kernel)
theorem t177_4 : decode (mb 177) 4 = .ok (.invokestatic 81, 3) := by decide +kernel
theorem s177_4 (d : Nat) (l0 : Value) (v0 v1 v2 : Value) (σ : Hs) : ru d 177 4 [l0] [v2, v1, v0] σ = kont (callD d 113 [v0, v1, v2] σ) d 177 7 [l0] [] := q_invs t177_4 mo177 (by decide +kernel) K8_81 mj113 (Nat.le_of_ble_eq_true rfl) rfl rfl (Nat.le_of_ble_eq_true rfl)
theorem t177_7 : decode (mb 177) 7 = .ok (.ireturn, 1) := by decide +kernel
theorem s177_7 (d : Nat) (l0 : Value) (x : Int32) (hx : isB x) (σ : Hs) : ru d 177 7 [l0] [.int x] σ = some (some (.int x), σ) := q_iretz t177_7 mr177 hx
theorem c177 (d : Nat) (x0 : Int32) (σ : Hs) : callD (d + 1) 177 [.int x0] σ = ru d 177 0 [.int x0] [] σ := callD_ru ml177 rfl rfl (Nat.le_of_ble_eq_true rfl)
-- 178: Model.washing(III)I
theorem t178_0 : decode (mb 178) 0 = .ok (.iload_n 1, 1) := by decide +kernel
theorem s178_0 (d : Nat) (l0 : Value) (i1 : Int32) (l2 : Value) (l3 : Value) (l4 : Value) (l5 : Value) (σ : Hs) : ru d 178 0 [l0, .int i1, l2, l3, l4, l5] [] σ = ru d 178 1 [l0, .int i1, l2, l3, l4, l5] [.int i1] σ := q_iload_n t178_0 rfl
theorem t178_1 : decode (mb 178) 1 = .ok (.invokestatic 278, 3) := by decide +kernel
theorem s178_1 (d : Nat) (l0 : Value) (l1 : Value) (l2 : Value) (l3 : Value) (l4 : Value) (l5 : Value) (v0 : Value) (σ : Hs) : ru d 178 1 [l0, l1, l2, l3, l4, l5] [v0] σ = kont (callD d 177 [v0] σ) d 178 4 [l0, l1, l2, l3, l4, l5] [] := q_invs t178_1 mo178 (by decide +kernel) K8_278 mj177 (Nat.le_of_ble_eq_true rfl) rfl rfl (Nat.le_of_ble_eq_true rfl)
theorem t178_4 : decode (mb 178) 4 = .ok (.ifCond .eq 23, 3) := by decide +kernel
theorem s178_4 (d : Nat) (l0 : Value) (l1 : Value) (l2 : Value) (l3 : Value) (l4 : Value) (l5 : Value) (x : Int32) (σ : Hs) : ru d 178 4 [l0, l1, l2, l3, l4, l5] [.int x] σ = if x = 0 then ru d 178 27 [l0, l1, l2, l3, l4, l5] [] σ else ru d 178 7 [l0, l1, l2, l3, l4, l5] [] σ := q_if_eq t178_4 (by decide +kernel)
theorem t178_7 : decode (mb 178) 7 = .ok (.iload_n 2, 1) := by decide +kernel
theorem s178_7 (d : Nat) (l0 : Value) (l1 : Value) (i2 : Int32) (l3 : Value) (l4 : Value) (l5 : Value) (σ : Hs) : ru d 178 7 [l0, l1, .int i2, l3, l4, l5] [] σ = ru d 178 8 [l0, l1, .int i2, l3, l4, l5] [.int i2] σ := q_iload_n t178_7 rfl
theorem t178_8 : decode (mb 178) 8 = .ok (.iconst 0, 1) := by decide +kernel
theorem s178_8 (d : Nat) (l0 : Value) (l1 : Value) (l2 : Value) (l3 : Value) (l4 : Value) (l5 : Value) (w0 : Value) (σ : Hs) : ru d 178 8 [l0, l1, l2, l3, l4, l5] [w0] σ = ru d 178 9 [l0, l1, l2, l3, l4, l5] [.int 0, w0] σ := q_iconst t178_8 (by decide +kernel)
theorem t178_9 : decode (mb 178) 9 = .ok (.bipush 23, 2) := by decide +kernel
theorem s178_9 (d : Nat) (l0 : Value) (l1 : Value) (l2 : Value) (l3 : Value) (l4 : Value) (l5 : Value) (w0 w1 : Value) (σ : Hs) : ru d 178 9 [l0, l1, l2, l3, l4, l5] [w0, w1] σ = ru d 178 11 [l0, l1, l2, l3, l4, l5] [.int 23, w0, w1] σ := q_bipush t178_9 (by decide +kernel)
theorem t178_11 : decode (mb 178) 11 = .ok (.invokestatic 81, 3) := by decide +kernel
theorem s178_11 (d : Nat) (l0 : Value) (l1 : Value) (l2 : Value) (l3 : Value) (l4 : Value) (l5 : Value) (v0 v1 v2 : Value) (σ : Hs) : ru d 178 11 [l0, l1, l2, l3, l4, l5] [v2, v1, v0] σ = kont (callD d 113 [v0, v1, v2] σ) d 178 14 [l0, l1, l2, l3, l4, l5] [] := q_invs t178_11 mo178 (by decide +kernel) K8_81 mj113 (Nat.le_of_ble_eq_true rfl) rfl rfl (Nat.le_of_ble_eq_true rfl)
theorem t178_14 : decode (mb 178) 14 = .ok (.ifCond .eq 13, 3) := by decide +kernel
theorem s178_14 (d : Nat) (l0 : Value) (l1 : Value) (l2 : Value) (l3 : Value) (l4 : Value) (l5 : Value) (x : Int32) (σ : Hs) : ru d 178 14 [l0, l1, l2, l3, l4, l5] [.int x] σ = if x = 0 then ru d 178 27 [l0, l1, l2, l3, l4, l5] [] σ else ru d 178 17 [l0, l1, l2, l3, l4, l5] [] σ := q_if_eq t178_14 (by decide +kernel)
theorem t178_17 : decode (mb 178) 17 = .ok (.iload_n 3, 1) := by decide +kernel
theorem s178_17 (d : Nat) (l0 : Value) (l1 : Value) (l2 : Value) (i3 : Int32) (l4 : Value) (l5 : Value) (σ : Hs) : ru d 178 17 [l0, l1, l2, .int i3, l4, l5] [] σ = ru d 178 18 [l0, l1, l2, .int i3, l4, l5] [.int i3] σ := q_iload_n t178_17 rfl
theorem t178_18 : decode (mb 178) 18 = .ok (.iconst 0, 1) := by decide +kernel
theorem s178_18 (d : Nat) (l0 : Value) (l1 : Value) (l2 : Value) (l3 : Value) (l4 : Value) (l5 : Value) (w0 : Value) (σ : Hs) : ru d 178 18 [l0, l1, l2, l3, l4, l5] [w0] σ = ru d 178 19 [l0, l1, l2, l3, l4, l5] [.int 0, w0] σ := q_iconst t178_18 (by decide +kernel)
theorem t178_19 : decode (mb 178) 19 = .ok (.bipush 23, 2) := by decide +kernel
theorem s178_19 (d : Nat) (l0 : Value) (l1 : Value) (l2 : Value) (l3 : Value) (l4 : Value) (l5 : Value) (w0 w1 : Value) (σ : Hs) : ru d 178 19 [l0, l1, l2, l3, l4, l5] [w0, w1] σ = ru d 178 21 [l0, l1, l2, l3, l4, l5] [.int 23, w0, w1] σ := q_bipush t178_19 (by decide +kernel)
theorem t178_21 : decode (mb 178) 21 = .ok (.invokestatic 81, 3) := by decide +kernel
theorem s178_21 (d : Nat) (l0 : Value) (l1 : Value) (l2 : Value) (l3 : Value) (l4 : Value) (l5 : Value) (v0 v1 v2 : Value) (σ : Hs) : ru d 178 21 [l0, l1, l2, l3, l4, l5] [v2, v1, v0] σ = kont (callD d 113 [v0, v1, v2] σ) d 178 24 [l0, l1, l2, l3, l4, l5] [] := q_invs t178_21 mo178 (by decide +kernel) K8_81 mj113 (Nat.le_of_ble_eq_true rfl) rfl rfl (Nat.le_of_ble_eq_true rfl)
theorem t178_24 : decode (mb 178) 24 = .ok (.ifCond .ne 10, 3) := by decide +kernel
theorem s178_24 (d : Nat) (l0 : Value) (l1 : Value) (l2 : Value) (l3 : Value) (l4 : Value) (l5 : Value) (x : Int32) (σ : Hs) : ru d 178 24 [l0, l1, l2, l3, l4, l5] [.int x] σ = if x = 0 then ru d 178 27 [l0, l1, l2, l3, l4, l5] [] σ else ru d 178 34 [l0, l1, l2, l3, l4, l5] [] σ := q_if_ne t178_24 (by decide +kernel)
theorem t178_27 : decode (mb 178) 27 = .ok (.aload_n 0, 1) := by decide +kernel
theorem s178_27 (d : Nat) (a0 : Nat) (l1 : Value) (l2 : Value) (l3 : Value) (l4 : Value) (l5 : Value) (σ : Hs) : ru d 178 27 [.ref a0, l1, l2, l3, l4, l5] [] σ = ru d 178 28 [.ref a0, l1, l2, l3, l4, l5] [.ref a0] σ := q_aload_n t178_27 rfl
theorem t178_28 : decode (mb 178) 28 = .ok (.ldc 104, 2) := by decide +kernel
theorem s178_28 (d : Nat) (l0 : Value) (l1 : Value) (l2 : Value) (l3 : Value) (l4 : Value) (l5 : Value) (w0 : Value) (σ : Hs) : ru d 178 28 [l0, l1, l2, l3, l4, l5] [w0] σ = ru d 178 30 [l0, l1, l2, l3, l4, l5] [.int (-1000001), w0] σ := q_ldc t178_28 mo178 C8_104
theorem t178_30 : decode (mb 178) 30 = .ok (.invokevirtual 105, 3) := by decide +kernel
theorem s178_30_o87 (d : Nat) (l0 : Value) (l1 : Value) (l2 : Value) (l3 : Value) (l4 : Value) (l5 : Value) (v1 : Value) (σ : Hs) : ru d 178 30 [l0, l1, l2, l3, l4, l5] [v1, .ref 87] σ = kont (callD d 112 [.ref 87, v1] σ) d 178 33 [l0, l1, l2, l3, l4, l5] [] := q_invv t178_30 mo178 K8_105 mj112 rfl rfl rfl rfl (Nat.le_of_ble_eq_true rfl)
theorem t178_33 : decode (mb 178) 33 = .ok (.ireturn, 1) := by decide +kernel
theorem s178_33 (d : Nat) (l0 : Value) (l1 : Value) (l2 : Value) (l3 : Value) (l4 : Value) (l5 : Value) (x : Int32) (σ : Hs) : ru d 178 33 [l0, l1, l2, l3, l4, l5] [.int x] σ = some (some (.int x), σ) := q_ireti t178_33 mr178
theorem t178_34 : decode (mb 178) 34 = .ok (.iconst 0, 1) := by decide +kernel
theorem s178_34 (d : Nat) (l0 : Value) (l1 : Value) (l2 : Value) (l3 : Value) (l4 : Value) (l5 : Value) (σ : Hs) : ru d 178 34 [l0, l1, l2, l3, l4, l5] [] σ = ru d 178 35 [l0, l1, l2, l3, l4, l5] [.int 0] σ := q_iconst t178_34 (by decide +kernel)
theorem t178_35 : decode (mb 178) 35 = .ok (.istore 4, 2) := by decide +kernel
theorem s178_35 (d : Nat) (l0 : Value) (l1 : Value) (l2 : Value) (i3 : Int32) (l4 : Value) (l5 : Value) (x : Int32) (σ : Hs) : ru d 178 35 [l0, l1, l2, .int i3, l4, l5] [.int x] σ = ru d 178 37 [l0, l1, l2, .int i3, .int x, l5] [] σ := q_istore t178_35 ⟨Nat.le_of_ble_eq_true rfl, rfl⟩ rfl
theorem t178_37 : decode (mb 178) 37 = .ok (.iload_n 2, 1) := by decide +kernel
theorem s178_37 (d : Nat) (l0 : Value) (l1 : Value) (i2 : Int32) (l3 : Value) (l4 : Value) (l5 : Value) (σ : Hs) : ru d 178 37 [l0, l1, .int i2, l3, l4, l5] [] σ = ru d 178 38 [l0, l1, .int i2, l3, l4, l5] [.int i2] σ := q_iload_n t178_37 rfl
theorem t178_38 : decode (mb 178) 38 = .ok (.istore 5, 2) := by decide +kernel
theorem s178_38 (d : Nat) (l0 : Value) (l1 : Value) (l2 : Value) (l3 : Value) (i4 : Int32) (l5 : Value) (x : Int32) (σ : Hs) : ru d 178 38 [l0, l1, l2, l3, .int i4, l5] [.int x] σ = ru d 178 40 [l0, l1, l2, l3, .int i4, .int x] [] σ := q_istore t178_38 ⟨Nat.le_of_ble_eq_true rfl, rfl⟩ rfl
theorem t178_40 : decode (mb 178) 40 = .ok (.iload 5, 2) := by decide +kernel
theorem s178_40 (d : Nat) (l0 : Value) (l1 : Value) (l2 : Value) (l3 : Value) (l4 : Value) (i5 : Int32) (σ : Hs) : ru d 178 40 [l0, l1, l2, l3, l4, .int i5] [] σ = ru d 178 42 [l0, l1, l2, l3, l4, .int i5] [.int i5] σ := q_iload t178_40 rfl
theorem t178_42 : decode (mb 178) 42 = .ok (.iload_n 3, 1) := by decide +kernel
theorem s178_42 (d : Nat) (l0 : Value) (l1 : Value) (l2 : Value) (i3 : Int32) (l4 : Value) (l5 : Value) (w0 : Value) (σ : Hs) : ru d 178 42 [l0, l1, l2, .int i3, l4, l5] [w0] σ = ru d 178 43 [l0, l1, l2, .int i3, l4, l5] [.int i3, w0] σ := q_iload_n t178_42 rfl
theorem t178_43 : decode (mb 178) 43 = .ok (.if_icmp .gt 18, 3) := by decide +kernel
theorem s178_43 (d : Nat) (l0 : Value) (l1 : Value) (l2 : Value) (l3 : Value) (l4 : Value) (l5 : Value) (x y : Int32) (σ : Hs) : ru d 178 43 [l0, l1, l2, l3, l4, l5] [.int y, .int x] σ = if y < x then ru d 178 61 [l0, l1, l2, l3, l4, l5] [] σ else ru d 178 46 [l0, l1, l2, l3, l4, l5] [] σ := q_ic_gt t178_43 (by decide +kernel)
theorem t178_46 : decode (mb 178) 46 = .ok (.iload 4, 2) := by decide +kernel
theorem s178_46 (d : Nat) (l0 : Value) (l1 : Value) (l2 : Value) (l3 : Value) (i4 : Int32) (l5 : Value) (σ : Hs) : ru d 178 46 [l0, l1, l2, l3, .int i4, l5] [] σ = ru d 178 48 [l0, l1, l2, l3, .int i4, l5] [.int i4] σ := q_iload t178_46 rfl
theorem t178_48 : decode (mb 178) 48 = .ok (.iconst 1, 1) := by decide +kernel
theorem s178_48 (d : Nat) (l0 : Value) (l1 : Value) (l2 : Value) (l3 : Value) (l4 : Value) (l5 : Value) (w0 : Value) (σ : Hs) : ru d 178 48 [l0, l1, l2, l3, l4, l5] [w0] σ = ru d 178 49 [l0, l1, l2, l3, l4, l5] [.int 1, w0] σ := q_iconst t178_48 (by decide +kernel)
theorem t178_49 : decode (mb 178) 49 = .ok (.iload 5, 2) := by decide +kernel
theorem s178_49 (d : Nat) (l0 : Value) (l1 : Value) (l2 : Value) (l3 : Value) (l4 : Value) (i5 : Int32) (w0 w1 : Value) (σ : Hs) : ru d 178 49 [l0, l1, l2, l3, l4, .int i5] [w0, w1] σ = ru d 178 51 [l0, l1, l2, l3, l4, .int i5] [.int i5, w0, w1] σ := q_iload t178_49 rfl
theorem t178_51 : decode (mb 178) 51 = .ok (.ishl, 1) := by decide +kernel
theorem s178_51 (d : Nat) (l0 : Value) (l1 : Value) (l2 : Value) (l3 : Value) (l4 : Value) (l5 : Value) (x y : Int32) (w0 : Value) (σ : Hs) : ru d 178 51 [l0, l1, l2, l3, l4, l5] [.int y, .int x, w0] σ = ru d 178 52 [l0, l1, l2, l3, l4, l5] [.int (x <<< (y &&& 31)), w0] σ := q_ishl t178_51
theorem t178_52 : decode (mb 178) 52 = .ok (.ior, 1) := by decide +kernel
theorem s178_52 (d : Nat) (l0 : Value) (l1 : Value) (l2 : Value) (l3 : Value) (l4 : Value) (l5 : Value) (x y : Int32) (σ : Hs) : ru d 178 52 [l0, l1, l2, l3, l4, l5] [.int y, .int x] σ = ru d 178 53 [l0, l1, l2, l3, l4, l5] [.int (x ||| y)] σ := q_ior t178_52
theorem t178_53 : decode (mb 178) 53 = .ok (.istore 4, 2) := by decide +kernel
theorem s178_53 (d : Nat) (l0 : Value) (l1 : Value) (l2 : Value) (i3 : Int32) (l4 : Value) (l5 : Value) (x : Int32) (σ : Hs) : ru d 178 53 [l0, l1, l2, .int i3, l4, l5] [.int x] σ = ru d 178 55 [l0, l1, l2, .int i3, .int x, l5] [] σ := q_istore t178_53 ⟨Nat.le_of_ble_eq_true rfl, rfl⟩ rfl
theorem t178_55 : decode (mb 178) 55 = .ok (.iinc 5 1, 3) := by decide +kernel
theorem s178_55 (d : Nat) (l0 : Value) (l1 : Value) (l2 : Value) (l3 : Value) (i4 : Int32) (i5 : Int32) (σ : Hs) : ru d 178 55 [l0, l1, l2, l3, .int i4, .int i5] [] σ = ru d 178 58 [l0, l1, l2, l3, .int i4, .int (i5 + 1)] [] σ := q_iinc t178_55 ⟨Nat.le_of_ble_eq_true rfl, rfl⟩ rfl (by decide +kernel) rfl
theorem t178_58 : decode (mb 178) 58 = .ok (.goto (-18), 3) := by decide +kernel
theorem s178_58 (d : Nat) (l0 : Value) (l1 : Value) (l2 : Value) (l3 : Value) (l4 : Value) (l5 : Value) (σ : Hs) : ru d 178 58 [l0, l1, l2, l3, l4, l5] [] σ = ru d 178 40 [l0, l1, l2, l3, l4, l5] [] σ := q_goto t178_58 (by decide +kernel)
theorem t178_61 : decode (mb 178) 61 = .ok (.aload_n 0, 1) := by decide +kernel
theorem s178_61 (d : Nat) (a0 : Nat) (l1 : Value) (l2 : Value) (l3 : Value) (l4 : Value) (l5 : Value) (σ : Hs) : ru d 178 61 [.ref a0, l1, l2, l3, l4, l5] [] σ = ru d 178 62 [.ref a0, l1, l2, l3, l4, l5] [.ref a0] σ := q_aload_n t178_61 rfl
theorem t178_62 : decode (mb 178) 62 = .ok (.getfield 9, 3) := by decide +kernel
theorem s178_62_o87 (d : Nat) (l0 : Value) (l1 : Value) (l2 : Value) (l3 : Value) (l4 : Value) (l5 : Value) (σ : Hs) : ru d 178 62 [l0, l1, l2, l3, l4, l5] [.ref 87] σ = ru d 178 65 [l0, l1, l2, l3, l4, l5] [.ref 88] σ := q_getf t178_62 mo178 F8_9 rfl rfl
theorem t178_65 : decode (mb 178) 65 = .ok (.sipush 224, 3) := by decide +kernel
theorem s178_65 (d : Nat) (l0 : Value) (l1 : Value) (l2 : Value) (l3 : Value) (l4 : Value) (l5 : Value) (w0 : Value) (σ : Hs) : ru d 178 65 [l0, l1, l2, l3, l4, l5] [w0] σ = ru d 178 68 [l0, l1, l2, l3, l4, l5] [.int 224, w0] σ := q_sipush t178_65 (by decide +kernel)
theorem t178_68 : decode (mb 178) 68 = .ok (.iconst 3, 1) := by decide +kernel
theorem s178_68 (d : Nat) (l0 : Value) (l1 : Value) (l2 : Value) (l3 : Value) (l4 : Value) (l5 : Value) (w0 w1 : Value) (σ : Hs) : ru d 178 68 [l0, l1, l2, l3, l4, l5] [w0, w1] σ = ru d 178 69 [l0, l1, l2, l3, l4, l5] [.int 3, w0, w1] σ := q_iconst t178_68 (by decide +kernel)
theorem t178_69 : decode (mb 178) 69 = .ok (.iload_n 1, 1) := by decide +kernel
theorem s178_69 (d : Nat) (l0 : Value) (i1 : Int32) (l2 : Value) (l3 : Value) (l4 : Value) (l5 : Value) (w0 w1 w2 : Value) (σ : Hs) : ru d 178 69 [l0, .int i1, l2, l3, l4, l5] [w0, w1, w2] σ = ru d 178 70 [l0, .int i1, l2, l3, l4, l5] [.int i1, w0, w1, w2] σ := q_iload_n t178_69 rfl
theorem t178_70 : decode (mb 178) 70 = .ok (.imul, 1) := by decide +kernel
theorem s178_70 (d : Nat) (l0 : Value) (l1 : Value) (l2 : Value) (l3 : Value) (l4 : Value) (l5 : Value) (x y : Int32) (w0 w1 : Value) (σ : Hs) : ru d 178 70 [l0, l1, l2, l3, l4, l5] [.int y, .int x, w0, w1] σ = ru d 178 71 [l0, l1, l2, l3, l4, l5] [.int (x * y), w0, w1] σ := q_imul t178_70
theorem t178_71 : decode (mb 178) 71 = .ok (.iadd, 1) := by decide +kernel
theorem s178_71 (d : Nat) (l0 : Value) (l1 : Value) (l2 : Value) (l3 : Value) (l4 : Value) (l5 : Value) (x y : Int32) (w0 : Value) (σ : Hs) : ru d 178 71 [l0, l1, l2, l3, l4, l5] [.int y, .int x, w0] σ = ru d 178 72 [l0, l1, l2, l3, l4, l5] [.int (x + y), w0] σ := q_iadd t178_71
theorem t178_72 : decode (mb 178) 72 = .ok (.iconst 2, 1) := by decide +kernel
theorem s178_72 (d : Nat) (l0 : Value) (l1 : Value) (l2 : Value) (l3 : Value) (l4 : Value) (l5 : Value) (w0 w1 : Value) (σ : Hs) : ru d 178 72 [l0, l1, l2, l3, l4, l5] [w0, w1] σ = ru d 178 73 [l0, l1, l2, l3, l4, l5] [.int 2, w0, w1] σ := q_iconst t178_72 (by decide +kernel)
theorem t178_73 : decode (mb 178) 73 = .ok (.iadd, 1) := by decide +kernel
theorem s178_73 (d : Nat) (l0 : Value) (l1 : Value) (l2 : Value) (l3 : Value) (l4 : Value) (l5 : Value) (x y : Int32) (w0 : Value) (σ : Hs) : ru d 178 73 [l0, l1, l2, l3, l4, l5] [.int y, .int x, w0] σ = ru d 178 74 [l0, l1, l2, l3, l4, l5] [.int (x + y), w0] σ := q_iadd t178_73
theorem t178_74 : decode (mb 178) 74 = .ok (.iload 4, 2) := by decide +kernel
theorem s178_74 (d : Nat) (l0 : Value) (l1 : Value) (l2 : Value) (l3 : Value) (i4 : Int32) (l5 : Value) (w0 w1 : Value) (σ : Hs) : ru d 178 74 [l0, l1, l2, l3, .int i4, l5] [w0, w1] σ = ru d 178 76 [l0, l1, l2, l3, .int i4, l5] [.int i4, w0, w1] σ := q_iload t178_74 rfl
theorem t178_76 : decode (mb 178) 76 = .ok (.iastore, 1) := by decide +kernel
theorem s178_76_o88 (d : Nat) (l0 : Value) (l1 : Value) (l2 : Value) (l3 : Value) (l4 : Value) (l5 : Value) (i x : Int32) (σ : Hs) : ru d 178 76 [l0, l1, l2, l3, l4, l5] [.int x, .int i, .ref 88] σ = gd (vp_in i 545) (ru d 178 77 [l0, l1, l2, l3, l4, l5] [] (up2 σ 88 i.toNatClampNeg x)) := q_iast t178_76 (by decide +kernel) rfl rfl
theorem t178_77 : decode (mb 178) 77 = .ok (.iconst 0, 1) := by decide +kernel
theorem s178_77 (d : Nat) (l0 : Value) (l1 : Value) (l2 : Value) (l3 : Value) (l4 : Value) (l5 : Value) (σ : Hs) : ru d 178 77 [l0, l1, l2, l3, l4, l5] [] σ = ru d 178 78 [l0, l1, l2, l3, l4, l5] [.int 0] σ := q_iconst t178_77 (by decide +kernel)
theorem t178_78 : decode (mb 178) 78 = .ok (.iload_n 3, 1) := by decide +kernel
theorem s178_78 (d : Nat) (l0 : Value) (l1 : Value) (l2 : Value) (i3 : Int32) (l4 : Value) (l5 : Value) (w0 : Value) (σ : Hs) : ru d 178 78 [l0, l1, l2, .int i3, l4, l5] [w0] σ = ru d 178 79 [l0, l1, l2, .int i3, l4, l5] [.int i3, w0] σ := q_iload_n t178_78 rfl
theorem t178_79 : decode (mb 178) 79 = .ok (.iload_n 2, 1) := by decide +kernel
theorem s178_79 (d : Nat) (l0 : Value) (l1 : Value) (i2 : Int32) (l3 : Value) (l4 : Value) (l5 : Value) (w0 w1 : Value) (σ : Hs) : ru d 178 79 [l0, l1, .int i2, l3, l4, l5] [w0, w1] σ = ru d 178 80 [l0, l1, .int i2, l3, l4, l5] [.int i2, w0, w1] σ := q_iload_n t178_79 rfl
theorem t178_80 : decode (mb 178) 80 = .ok (.isub, 1) := by decide +kernel
theorem s178_80 (d : Nat) (l0 : Value) (l1 : Value) (l2 : Value) (l3 : Value) (l4 : Value) (l5 : Value) (x y : Int32) (w0 : Value) (σ : Hs) : ru d 178 80 [l0, l1, l2, l3, l4, l5] [.int y, .int x, w0] σ = ru d 178 81 [l0, l1, l2, l3, l4, l5] [.int (x - y), w0] σ := q_isub t178_80
theorem t178_81 : decode (mb 178) 81 = .ok (.iconst 1, 1) := by decide +kernel
theorem s178_81 (d : Nat) (l0 : Value) (l1 : Value) (l2 : Value) (l3 : Value) (l4 : Value) (l5 : Value) (w0 w1 : Value) (σ : Hs) : ru d 178 81 [l0, l1, l2, l3, l4, l5] [w0, w1] σ = ru d 178 82 [l0, l1, l2, l3, l4, l5] [.int 1, w0, w1] σ := q_iconst t178_81 (by decide +kernel)
theorem t178_82 : decode (mb 178) 82 = .ok (.iadd, 1) := by decide +kernel
theorem s178_82 (d : Nat) (l0 : Value) (l1 : Value) (l2 : Value) (l3 : Value) (l4 : Value) (l5 : Value) (x y : Int32) (w0 : Value) (σ : Hs) : ru d 178 82 [l0, l1, l2, l3, l4, l5] [.int y, .int x, w0] σ = ru d 178 83 [l0, l1, l2, l3, l4, l5] [.int (x + y), w0] σ := q_iadd t178_82
theorem t178_83 : decode (mb 178) 83 = .ok (.invokestatic 74, 3) := by decide +kernel
theorem s178_83 (d : Nat) (l0 : Value) (l1 : Value) (l2 : Value) (l3 : Value) (l4 : Value) (l5 : Value) (x y : Int32) (σ : Hs) : ru d 178 83 [l0, l1, l2, l3, l4, l5] [.int y, .int x] σ = ru d 178 86 [l0, l1, l2, l3, l4, l5] [.int (jmax x y)] σ := q_mx t178_83 mo178 (by decide +kernel) (by decide +kernel) (Nat.le_of_ble_eq_true rfl)
theorem t178_86 : decode (mb 178) 86 = .ok (.ireturn, 1) := by decide +kernel
theorem s178_86 (d : Nat) (l0 : Value) (l1 : Value) (l2 : Value) (l3 : Value) (l4 : Value) (l5 : Value) (x : Int32) (σ : Hs) : ru d 178 86 [l0, l1, l2, l3, l4, l5] [.int x] σ = some (some (.int x), σ) := q_ireti t178_86 mr178
theorem c178 (d : Nat) (x0 : Nat) (x1 : Int32) (x2 : Int32) (x3 : Int32) (σ : Hs) : callD (d + 1) 178 [.ref x0, .int x1, .int x2, .int x3] σ = ru d 178 0 [.ref x0, .int x1, .int x2, .int x3, uu, uu] [] σ := callD_ru ml178 rfl rfl (Nat.le_of_ble_eq_true rfl)
-- 179: Model.garden(II)I
theorem t179_0 : decode (mb 179) 0 = .ok (.iload_n 1, 1) := by decide +kernel
theorem s179_0 (d : Nat) (l0 : Value) (i1 : Int32) (l2 : Value) (σ : Hs) : ru d 179 0 [l0, .int i1, l2] [] σ = ru d 179 1 [l0, .int i1, l2] [.int i1] σ := q_iload_n t179_0 rfl
theorem t179_1 : decode (mb 179) 1 = .ok (.invokestatic 278, 3) := by decide +kernel
theorem s179_1 (d : Nat) (l0 : Value) (l1 : Value) (l2 : Value) (v0 : Value) (σ : Hs) : ru d 179 1 [l0, l1, l2] [v0] σ = kont (callD d 177 [v0] σ) d 179 4 [l0, l1, l2] [] := q_invs t179_1 mo179 (by decide +kernel) K8_278 mj177 (Nat.le_of_ble_eq_true rfl) rfl rfl (Nat.le_of_ble_eq_true rfl)
theorem t179_4 : decode (mb 179) 4 = .ok (.ifCond .eq 29, 3) := by decide +kernel
theorem s179_4 (d : Nat) (l0 : Value) (l1 : Value) (l2 : Value) (x : Int32) (σ : Hs) : ru d 179 4 [l0, l1, l2] [.int x] σ = if x = 0 then ru d 179 33 [l0, l1, l2] [] σ else ru d 179 7 [l0, l1, l2] [] σ := q_if_eq t179_4 (by decide +kernel)
theorem t179_7 : decode (mb 179) 7 = .ok (.iload_n 2, 1) := by decide +kernel
theorem s179_7 (d : Nat) (l0 : Value) (l1 : Value) (i2 : Int32) (σ : Hs) : ru d 179 7 [l0, l1, .int i2] [] σ = ru d 179 8 [l0, l1, .int i2] [.int i2] σ := q_iload_n t179_7 rfl
theorem t179_8 : decode (mb 179) 8 = .ok (.iconst 0, 1) := by decide +kernel
theorem s179_8 (d : Nat) (l0 : Value) (l1 : Value) (l2 : Value) (w0 : Value) (σ : Hs) : ru d 179 8 [l0, l1, l2] [w0] σ = ru d 179 9 [l0, l1, l2] [.int 0, w0] σ := q_iconst t179_8 (by decide +kernel)
theorem t179_9 : decode (mb 179) 9 = .ok (.iconst 2, 1) := by decide +kernel
theorem s179_9 (d : Nat) (l0 : Value) (l1 : Value) (l2 : Value) (w0 w1 : Value) (σ : Hs) : ru d 179 9 [l0, l1, l2] [w0, w1] σ = ru d 179 10 [l0, l1, l2] [.int 2, w0, w1] σ := q_iconst t179_9 (by decide +kernel)
theorem t179_10 : decode (mb 179) 10 = .ok (.invokestatic 81, 3) := by decide +kernel
theorem s179_10 (d : Nat) (l0 : Value) (l1 : Value) (l2 : Value) (v0 v1 v2 : Value) (σ : Hs) : ru d 179 10 [l0, l1, l2] [v2, v1, v0] σ = kont (callD d 113 [v0, v1, v2] σ) d 179 13 [l0, l1, l2] [] := q_invs t179_10 mo179 (by decide +kernel) K8_81 mj113 (Nat.le_of_ble_eq_true rfl) rfl rfl (Nat.le_of_ble_eq_true rfl)
theorem t179_13 : decode (mb 179) 13 = .ok (.ifCond .eq 20, 3) := by decide +kernel
theorem s179_13 (d : Nat) (l0 : Value) (l1 : Value) (l2 : Value) (x : Int32) (σ : Hs) : ru d 179 13 [l0, l1, l2] [.int x] σ = if x = 0 then ru d 179 33 [l0, l1, l2] [] σ else ru d 179 16 [l0, l1, l2] [] σ := q_if_eq t179_13 (by decide +kernel)
theorem t179_16 : decode (mb 179) 16 = .ok (.aload_n 0, 1) := by decide +kernel
theorem s179_16 (d : Nat) (a0 : Nat) (l1 : Value) (l2 : Value) (σ : Hs) : ru d 179 16 [.ref a0, l1, l2] [] σ = ru d 179 17 [.ref a0, l1, l2] [.ref a0] σ := q_aload_n t179_16 rfl
theorem t179_17 : decode (mb 179) 17 = .ok (.getfield 9, 3) := by decide +kernel
theorem s179_17_o87 (d : Nat) (l0 : Value) (l1 : Value) (l2 : Value) (σ : Hs) : ru d 179 17 [l0, l1, l2] [.ref 87] σ = ru d 179 20 [l0, l1, l2] [.ref 88] σ := q_getf t179_17 mo179 F8_9 rfl rfl
theorem t179_20 : decode (mb 179) 20 = .ok (.sipush 224, 3) := by decide +kernel
theorem s179_20 (d : Nat) (l0 : Value) (l1 : Value) (l2 : Value) (w0 : Value) (σ : Hs) : ru d 179 20 [l0, l1, l2] [w0] σ = ru d 179 23 [l0, l1, l2] [.int 224, w0] σ := q_sipush t179_20 (by decide +kernel)
theorem t179_23 : decode (mb 179) 23 = .ok (.iconst 3, 1) := by decide +kernel
theorem s179_23 (d : Nat) (l0 : Value) (l1 : Value) (l2 : Value) (w0 w1 : Value) (σ : Hs) : ru d 179 23 [l0, l1, l2] [w0, w1] σ = ru d 179 24 [l0, l1, l2] [.int 3, w0, w1] σ := q_iconst t179_23 (by decide +kernel)
theorem t179_24 : decode (mb 179) 24 = .ok (.iload_n 1, 1) := by decide +kernel
theorem s179_24 (d : Nat) (l0 : Value) (i1 : Int32) (l2 : Value) (w0 w1 w2 : Value) (σ : Hs) : ru d 179 24 [l0, .int i1, l2] [w0, w1, w2] σ = ru d 179 25 [l0, .int i1, l2] [.int i1, w0, w1, w2] σ := q_iload_n t179_24 rfl
theorem t179_25 : decode (mb 179) 25 = .ok (.imul, 1) := by decide +kernel
theorem s179_25 (d : Nat) (l0 : Value) (l1 : Value) (l2 : Value) (x y : Int32) (w0 w1 : Value) (σ : Hs) : ru d 179 25 [l0, l1, l2] [.int y, .int x, w0, w1] σ = ru d 179 26 [l0, l1, l2] [.int (x * y), w0, w1] σ := q_imul t179_25
theorem t179_26 : decode (mb 179) 26 = .ok (.iadd, 1) := by decide +kernel
theorem s179_26 (d : Nat) (l0 : Value) (l1 : Value) (l2 : Value) (x y : Int32) (w0 : Value) (σ : Hs) : ru d 179 26 [l0, l1, l2] [.int y, .int x, w0] σ = ru d 179 27 [l0, l1, l2] [.int (x + y), w0] σ := q_iadd t179_26
theorem t179_27 : decode (mb 179) 27 = .ok (.iload_n 2, 1) := by decide +kernel
theorem s179_27 (d : Nat) (l0 : Value) (l1 : Value) (i2 : Int32) (w0 w1 : Value) (σ : Hs) : ru d 179 27 [l0, l1, .int i2] [w0, w1] σ = ru d 179 28 [l0, l1, .int i2] [.int i2, w0, w1] σ := q_iload_n t179_27 rfl
theorem t179_28 : decode (mb 179) 28 = .ok (.iadd, 1) := by decide +kernel
theorem s179_28 (d : Nat) (l0 : Value) (l1 : Value) (l2 : Value) (x y : Int32) (w0 : Value) (σ : Hs) : ru d 179 28 [l0, l1, l2] [.int y, .int x, w0] σ = ru d 179 29 [l0, l1, l2] [.int (x + y), w0] σ := q_iadd t179_28
theorem t179_29 : decode (mb 179) 29 = .ok (.iaload, 1) := by decide +kernel
theorem s179_29_o88 (d : Nat) (l0 : Value) (l1 : Value) (l2 : Value) (i : Int32) (σ : Hs) : ru d 179 29 [l0, l1, l2] [.int i, .ref 88] σ = gd (vp_in i 545) (ru d 179 30 [l0, l1, l2] [.int (σ 88 i.toNatClampNeg)] σ) := q_iald t179_29 rfl (by decide +kernel) rfl
theorem t179_30 : decode (mb 179) 30 = .ok (.goto 9, 3) := by decide +kernel
theorem s179_30 (d : Nat) (l0 : Value) (l1 : Value) (l2 : Value) (w0 : Value) (σ : Hs) : ru d 179 30 [l0, l1, l2] [w0] σ = ru d 179 39 [l0, l1, l2] [w0] σ := q_goto t179_30 (by decide +kernel)
theorem t179_33 : decode (mb 179) 33 = .ok (.aload_n 0, 1) := by decide +kernel
theorem s179_33 (d : Nat) (a0 : Nat) (l1 : Value) (l2 : Value) (σ : Hs) : ru d 179 33 [.ref a0, l1, l2] [] σ = ru d 179 34 [.ref a0, l1, l2] [.ref a0] σ := q_aload_n t179_33 rfl
theorem t179_34 : decode (mb 179) 34 = .ok (.ldc 104, 2) := by decide +kernel
theorem s179_34 (d : Nat) (l0 : Value) (l1 : Value) (l2 : Value) (w0 : Value) (σ : Hs) : ru d 179 34 [l0, l1, l2] [w0] σ = ru d 179 36 [l0, l1, l2] [.int (-1000001), w0] σ := q_ldc t179_34 mo179 C8_104
theorem t179_36 : decode (mb 179) 36 = .ok (.invokevirtual 105, 3) := by decide +kernel
theorem s179_36_o87 (d : Nat) (l0 : Value) (l1 : Value) (l2 : Value) (v1 : Value) (σ : Hs) : ru d 179 36 [l0, l1, l2] [v1, .ref 87] σ = kont (callD d 112 [.ref 87, v1] σ) d 179 39 [l0, l1, l2] [] := q_invv t179_36 mo179 K8_105 mj112 rfl rfl rfl rfl (Nat.le_of_ble_eq_true rfl)
theorem t179_39 : decode (mb 179) 39 = .ok (.ireturn, 1) := by decide +kernel
theorem s179_39 (d : Nat) (l0 : Value) (l1 : Value) (l2 : Value) (x : Int32) (σ : Hs) : ru d 179 39 [l0, l1, l2] [.int x] σ = some (some (.int x), σ) := q_ireti t179_39 mr179
theorem c179 (d : Nat) (x0 : Nat) (x1 : Int32) (x2 : Int32) (σ : Hs) : callD (d + 1) 179 [.ref x0, .int x1, .int x2] σ = ru d 179 0 [.ref x0, .int x1, .int x2] [] σ := callD_ru ml179 rfl rfl (Nat.le_of_ble_eq_true rfl)
-- 180: Model.ofHeap(I)I
theorem t180_0 : decode (mb 180) 0 = .ok (.iconst 0, 1) := by decide +kernel
theorem s180_0 (d : Nat) (l0 : Value) (l1 : Value) (l2 : Value) (l3 : Value) (σ : Hs) : ru d 180 0 [l0, l1, l2, l3] [] σ = ru d 180 1 [l0, l1, l2, l3] [.int 0] σ := q_iconst t180_0 (by decide +kernel)
theorem t180_1 : decode (mb 180) 1 = .ok (.istore_n 2, 1) := by decide +kernel
theorem s180_1 (d : Nat) (l0 : Value) (i1 : Int32) (l2 : Value) (l3 : Value) (x : Int32) (σ : Hs) : ru d 180 1 [l0, .int i1, l2, l3] [.int x] σ = ru d 180 2 [l0, .int i1, .int x, l3] [] σ := q_istore_n t180_1 ⟨Nat.le_of_ble_eq_true rfl, rfl⟩ rfl
theorem t180_2 : decode (mb 180) 2 = .ok (.iload_n 1, 1) := by decide +kernel
theorem s180_2 (d : Nat) (l0 : Value) (i1 : Int32) (l2 : Value) (l3 : Value) (σ : Hs) : ru d 180 2 [l0, .int i1, l2, l3] [] σ = ru d 180 3 [l0, .int i1, l2, l3] [.int i1] σ := q_iload_n t180_2 rfl
theorem t180_3 : decode (mb 180) 3 = .ok (.tableswitch 96 0 7 #[45, 51, 58, 96, 96, 96, 64, 90], 45) := by decide +kernel
theorem f180_3 (x : Int32) : (tsw 0 7 #[45, 51, 58, 96, 96, 96, 64, 90] 96 x.toInt).bind (tgt 3) = some (if x = 0 then 48 else (if x = 1 then 54 else (if x = 2 then 61 else (if x = 3 then 99 else (if x = 4 then 99 else (if x = 5 then 99 else (if x = 6 then 67 else (if x = 7 then 93 else 99)))))))) := by
  by_cases h0 : x = 0
  · subst h0; decide +kernel
  by_cases h1 : x = 1
  · subst h1; decide +kernel
  by_cases h2 : x = 2
  · subst h2; decide +kernel
  by_cases h3 : x = 3
  · subst h3; decide +kernel
  by_cases h4 : x = 4
  · subst h4; decide +kernel
  by_cases h5 : x = 5
  · subst h5; decide +kernel
  by_cases h6 : x = 6
  · subst h6; decide +kernel
  by_cases h7 : x = 7
  · subst h7; decide +kernel
  have e0 : ¬ x.toInt = 0 := fun h => h0 (Int32.toInt_inj.mp (h.trans (by decide +kernel)))
  have e1 : ¬ x.toInt = 1 := fun h => h1 (Int32.toInt_inj.mp (h.trans (by decide +kernel)))
  have e2 : ¬ x.toInt = 2 := fun h => h2 (Int32.toInt_inj.mp (h.trans (by decide +kernel)))
  have e3 : ¬ x.toInt = 3 := fun h => h3 (Int32.toInt_inj.mp (h.trans (by decide +kernel)))
  have e4 : ¬ x.toInt = 4 := fun h => h4 (Int32.toInt_inj.mp (h.trans (by decide +kernel)))
  have e5 : ¬ x.toInt = 5 := fun h => h5 (Int32.toInt_inj.mp (h.trans (by decide +kernel)))
  have e6 : ¬ x.toInt = 6 := fun h => h6 (Int32.toInt_inj.mp (h.trans (by decide +kernel)))
  have e7 : ¬ x.toInt = 7 := fun h => h7 (Int32.toInt_inj.mp (h.trans (by decide +kernel)))
  have e : x.toInt < 0 ∨ 7 < x.toInt := by omega
  unfold tsw
  rw [if_pos e, if_neg h0, if_neg h1, if_neg h2, if_neg h3, if_neg h4, if_neg h5, if_neg h6, if_neg h7]
  decide +kernel
theorem s180_3 (d : Nat) (l0 : Value) (l1 : Value) (l2 : Value) (l3 : Value) (x : Int32) (σ : Hs) : ru d 180 3 [l0, l1, l2, l3] [.int x] σ = if x = 0 then ru d 180 48 [l0, l1, l2, l3] [] σ else if x = 1 then ru d 180 54 [l0, l1, l2, l3] [] σ else if x = 2 then ru d 180 61 [l0, l1, l2, l3] [] σ else if x = 3 then ru d 180 99 [l0, l1, l2, l3] [] σ else if x = 4 then ru d 180 99 [l0, l1, l2, l3] [] σ else if x = 5 then ru d 180 99 [l0, l1, l2, l3] [] σ else if x = 6 then ru d 180 67 [l0, l1, l2, l3] [] σ else if x = 7 then ru d 180 93 [l0, l1, l2, l3] [] σ else ru d 180 99 [l0, l1, l2, l3] [] σ := by
  refine (q_tsw t180_3 (fun x => (if x = 0 then 48 else (if x = 1 then 54 else (if x = 2 then 61 else (if x = 3 then 99 else (if x = 4 then 99 else (if x = 5 then 99 else (if x = 6 then 67 else (if x = 7 then 93 else 99))))))))) (f180_3 x)).trans ?_
  by_cases h0 : x = 0
  · rw [if_pos h0, if_pos h0]
  rw [if_neg h0, if_neg h0]
  by_cases h1 : x = 1
  · rw [if_pos h1, if_pos h1]
  rw [if_neg h1, if_neg h1]
  by_cases h2 : x = 2
  · rw [if_pos h2, if_pos h2]
  rw [if_neg h2, if_neg h2]
  by_cases h3 : x = 3
  · rw [if_pos h3, if_pos h3]
  rw [if_neg h3, if_neg h3]
  by_cases h4 : x = 4
  · rw [if_pos h4, if_pos h4]
  rw [if_neg h4, if_neg h4]
  by_cases h5 : x = 5
  · rw [if_pos h5, if_pos h5]
  rw [if_neg h5, if_neg h5]
  by_cases h6 : x = 6
  · rw [if_pos h6, if_pos h6]
  rw [if_neg h6, if_neg h6]
  by_cases h7 : x = 7
  · rw [if_pos h7, if_pos h7]
  rw [if_neg h7, if_neg h7]
theorem t180_48 : decode (mb 180) 48 = .ok (.aload_n 0, 1) := by decide +kernel
theorem s180_48 (d : Nat) (a0 : Nat) (l1 : Value) (l2 : Value) (l3 : Value) (σ : Hs) : ru d 180 48 [.ref a0, l1, l2, l3] [] σ = ru d 180 49 [.ref a0, l1, l2, l3] [.ref a0] σ := q_aload_n t180_48 rfl
theorem t180_49 : decode (mb 180) 49 = .ok (.iconst 2, 1) := by decide +kernel
theorem s180_49 (d : Nat) (l0 : Value) (l1 : Value) (l2 : Value) (l3 : Value) (w0 : Value) (σ : Hs) : ru d 180 49 [l0, l1, l2, l3] [w0] σ = ru d 180 50 [l0, l1, l2, l3] [.int 2, w0] σ := q_iconst t180_49 (by decide +kernel)
theorem t180_50 : decode (mb 180) 50 = .ok (.invokevirtual 221, 3) := by decide +kernel
theorem s180_50_o87 (d : Nat) (l0 : Value) (l1 : Value) (l2 : Value) (l3 : Value) (v1 : Value) (σ : Hs) : ru d 180 50 [l0, l1, l2, l3] [v1, .ref 87] σ = kont (callD d 160 [.ref 87, v1] σ) d 180 53 [l0, l1, l2, l3] [] := q_invv t180_50 mo180 K8_221 mj160 rfl rfl rfl rfl (Nat.le_of_ble_eq_true rfl)
theorem t180_53 : decode (mb 180) 53 = .ok (.ireturn, 1) := by decide +kernel
theorem s180_53 (d : Nat) (l0 : Value) (l1 : Value) (l2 : Value) (l3 : Value) (x : Int32) (σ : Hs) : ru d 180 53 [l0, l1, l2, l3] [.int x] σ = some (some (.int x), σ) := q_ireti t180_53 mr180
theorem t180_54 : decode (mb 180) 54 = .ok (.aload_n 0, 1) := by decide +kernel
theorem s180_54 (d : Nat) (a0 : Nat) (l1 : Value) (l2 : Value) (l3 : Value) (σ : Hs) : ru d 180 54 [.ref a0, l1, l2, l3] [] σ = ru d 180 55 [.ref a0, l1, l2, l3] [.ref a0] σ := q_aload_n t180_54 rfl
theorem t180_55 : decode (mb 180) 55 = .ok (.bipush 6, 2) := by decide +kernel
theorem s180_55 (d : Nat) (l0 : Value) (l1 : Value) (l2 : Value) (l3 : Value) (w0 : Value) (σ : Hs) : ru d 180 55 [l0, l1, l2, l3] [w0] σ = ru d 180 57 [l0, l1, l2, l3] [.int 6, w0] σ := q_bipush t180_55 (by decide +kernel)
theorem t180_57 : decode (mb 180) 57 = .ok (.invokevirtual 221, 3) := by decide +kernel
theorem s180_57_o87 (d : Nat) (l0 : Value) (l1 : Value) (l2 : Value) (l3 : Value) (v1 : Value) (σ : Hs) : ru d 180 57 [l0, l1, l2, l3] [v1, .ref 87] σ = kont (callD d 160 [.ref 87, v1] σ) d 180 60 [l0, l1, l2, l3] [] := q_invv t180_57 mo180 K8_221 mj160 rfl rfl rfl rfl (Nat.le_of_ble_eq_true rfl)
theorem t180_60 : decode (mb 180) 60 = .ok (.ireturn, 1) := by decide +kernel
theorem s180_60 (d : Nat) (l0 : Value) (l1 : Value) (l2 : Value) (l3 : Value) (x : Int32) (σ : Hs) : ru d 180 60 [l0, l1, l2, l3] [.int x] σ = some (some (.int x), σ) := q_ireti t180_60 mr180
theorem t180_61 : decode (mb 180) 61 = .ok (.aload_n 0, 1) := by decide +kernel
theorem s180_61 (d : Nat) (a0 : Nat) (l1 : Value) (l2 : Value) (l3 : Value) (σ : Hs) : ru d 180 61 [.ref a0, l1, l2, l3] [] σ = ru d 180 62 [.ref a0, l1, l2, l3] [.ref a0] σ := q_aload_n t180_61 rfl
theorem t180_62 : decode (mb 180) 62 = .ok (.iconst 5, 1) := by decide +kernel
theorem s180_62 (d : Nat) (l0 : Value) (l1 : Value) (l2 : Value) (l3 : Value) (w0 : Value) (σ : Hs) : ru d 180 62 [l0, l1, l2, l3] [w0] σ = ru d 180 63 [l0, l1, l2, l3] [.int 5, w0] σ := q_iconst t180_62 (by decide +kernel)
theorem t180_63 : decode (mb 180) 63 = .ok (.invokevirtual 221, 3) := by decide +kernel
theorem s180_63_o87 (d : Nat) (l0 : Value) (l1 : Value) (l2 : Value) (l3 : Value) (v1 : Value) (σ : Hs) : ru d 180 63 [l0, l1, l2, l3] [v1, .ref 87] σ = kont (callD d 160 [.ref 87, v1] σ) d 180 66 [l0, l1, l2, l3] [] := q_invv t180_63 mo180 K8_221 mj160 rfl rfl rfl rfl (Nat.le_of_ble_eq_true rfl)
theorem t180_66 : decode (mb 180) 66 = .ok (.ireturn, 1) := by decide +kernel
theorem s180_66 (d : Nat) (l0 : Value) (l1 : Value) (l2 : Value) (l3 : Value) (x : Int32) (σ : Hs) : ru d 180 66 [l0, l1, l2, l3] [.int x] σ = some (some (.int x), σ) := q_ireti t180_66 mr180
theorem t180_67 : decode (mb 180) 67 = .ok (.iconst 0, 1) := by decide +kernel
theorem s180_67 (d : Nat) (l0 : Value) (l1 : Value) (l2 : Value) (l3 : Value) (σ : Hs) : ru d 180 67 [l0, l1, l2, l3] [] σ = ru d 180 68 [l0, l1, l2, l3] [.int 0] σ := q_iconst t180_67 (by decide +kernel)
theorem t180_68 : decode (mb 180) 68 = .ok (.istore_n 3, 1) := by decide +kernel
theorem s180_68 (d : Nat) (l0 : Value) (l1 : Value) (i2 : Int32) (l3 : Value) (x : Int32) (σ : Hs) : ru d 180 68 [l0, l1, .int i2, l3] [.int x] σ = ru d 180 69 [l0, l1, .int i2, .int x] [] σ := q_istore_n t180_68 ⟨Nat.le_of_ble_eq_true rfl, rfl⟩ rfl
theorem t180_69 : decode (mb 180) 69 = .ok (.iload_n 3, 1) := by decide +kernel
theorem s180_69 (d : Nat) (l0 : Value) (l1 : Value) (l2 : Value) (i3 : Int32) (σ : Hs) : ru d 180 69 [l0, l1, l2, .int i3] [] σ = ru d 180 70 [l0, l1, l2, .int i3] [.int i3] σ := q_iload_n t180_69 rfl
theorem t180_70 : decode (mb 180) 70 = .ok (.bipush 6, 2) := by decide +kernel
theorem s180_70 (d : Nat) (l0 : Value) (l1 : Value) (l2 : Value) (l3 : Value) (w0 : Value) (σ : Hs) : ru d 180 70 [l0, l1, l2, l3] [w0] σ = ru d 180 72 [l0, l1, l2, l3] [.int 6, w0] σ := q_bipush t180_70 (by decide +kernel)
theorem t180_72 : decode (mb 180) 72 = .ok (.if_icmp .ge 19, 3) := by decide +kernel
theorem s180_72 (d : Nat) (l0 : Value) (l1 : Value) (l2 : Value) (l3 : Value) (x y : Int32) (σ : Hs) : ru d 180 72 [l0, l1, l2, l3] [.int y, .int x] σ = if y ≤ x then ru d 180 91 [l0, l1, l2, l3] [] σ else ru d 180 75 [l0, l1, l2, l3] [] σ := q_ic_ge t180_72 (by decide +kernel)
theorem t180_75 : decode (mb 180) 75 = .ok (.iload_n 2, 1) := by decide +kernel
theorem s180_75 (d : Nat) (l0 : Value) (l1 : Value) (i2 : Int32) (l3 : Value) (σ : Hs) : ru d 180 75 [l0, l1, .int i2, l3] [] σ = ru d 180 76 [l0, l1, .int i2, l3] [.int i2] σ := q_iload_n t180_75 rfl
theorem t180_76 : decode (mb 180) 76 = .ok (.aload_n 0, 1) := by decide +kernel
theorem s180_76 (d : Nat) (a0 : Nat) (l1 : Value) (l2 : Value) (l3 : Value) (w0 : Value) (σ : Hs) : ru d 180 76 [.ref a0, l1, l2, l3] [w0] σ = ru d 180 77 [.ref a0, l1, l2, l3] [.ref a0, w0] σ := q_aload_n t180_76 rfl
theorem t180_77 : decode (mb 180) 77 = .ok (.iload_n 3, 1) := by decide +kernel
theorem s180_77 (d : Nat) (l0 : Value) (l1 : Value) (l2 : Value) (i3 : Int32) (w0 w1 : Value) (σ : Hs) : ru d 180 77 [l0, l1, l2, .int i3] [w0, w1] σ = ru d 180 78 [l0, l1, l2, .int i3] [.int i3, w0, w1] σ := q_iload_n t180_77 rfl
theorem t180_78 : decode (mb 180) 78 = .ok (.invokevirtual 92, 3) := by decide +kernel
theorem s180_78_o87 (d : Nat) (l0 : Value) (l1 : Value) (l2 : Value) (l3 : Value) (v1 : Value) (w0 : Int32) (σ : Hs) : ru d 180 78 [l0, l1, l2, l3] [v1, .ref 87, .int w0] σ = kont (callD d 124 [.ref 87, v1] σ) d 180 81 [l0, l1, l2, l3] [.int w0] := q_invv t180_78 mo180 K8_92 mj124 rfl rfl rfl rfl (Nat.le_of_ble_eq_true rfl)
theorem t180_81 : decode (mb 180) 81 = .ok (.invokestatic 74, 3) := by decide +kernel
theorem s180_81 (d : Nat) (l0 : Value) (l1 : Value) (l2 : Value) (l3 : Value) (x y : Int32) (σ : Hs) : ru d 180 81 [l0, l1, l2, l3] [.int y, .int x] σ = ru d 180 84 [l0, l1, l2, l3] [.int (jmax x y)] σ := q_mx t180_81 mo180 (by decide +kernel) (by decide +kernel) (Nat.le_of_ble_eq_true rfl)
theorem t180_84 : decode (mb 180) 84 = .ok (.istore_n 2, 1) := by decide +kernel
theorem s180_84 (d : Nat) (l0 : Value) (i1 : Int32) (l2 : Value) (l3 : Value) (x : Int32) (σ : Hs) : ru d 180 84 [l0, .int i1, l2, l3] [.int x] σ = ru d 180 85 [l0, .int i1, .int x, l3] [] σ := q_istore_n t180_84 ⟨Nat.le_of_ble_eq_true rfl, rfl⟩ rfl
theorem t180_85 : decode (mb 180) 85 = .ok (.iinc 3 1, 3) := by decide +kernel
theorem s180_85 (d : Nat) (l0 : Value) (l1 : Value) (i2 : Int32) (i3 : Int32) (σ : Hs) : ru d 180 85 [l0, l1, .int i2, .int i3] [] σ = ru d 180 88 [l0, l1, .int i2, .int (i3 + 1)] [] σ := q_iinc t180_85 ⟨Nat.le_of_ble_eq_true rfl, rfl⟩ rfl (by decide +kernel) rfl
theorem t180_88 : decode (mb 180) 88 = .ok (.goto (-19), 3) := by decide +kernel
theorem s180_88 (d : Nat) (l0 : Value) (l1 : Value) (l2 : Value) (l3 : Value) (σ : Hs) : ru d 180 88 [l0, l1, l2, l3] [] σ = ru d 180 69 [l0, l1, l2, l3] [] σ := q_goto t180_88 (by decide +kernel)
theorem t180_91 : decode (mb 180) 91 = .ok (.iload_n 2, 1) := by decide +kernel
theorem s180_91 (d : Nat) (l0 : Value) (l1 : Value) (i2 : Int32) (l3 : Value) (σ : Hs) : ru d 180 91 [l0, l1, .int i2, l3] [] σ = ru d 180 92 [l0, l1, .int i2, l3] [.int i2] σ := q_iload_n t180_91 rfl
theorem t180_92 : decode (mb 180) 92 = .ok (.ireturn, 1) := by decide +kernel
theorem s180_92 (d : Nat) (l0 : Value) (l1 : Value) (l2 : Value) (l3 : Value) (x : Int32) (σ : Hs) : ru d 180 92 [l0, l1, l2, l3] [.int x] σ = some (some (.int x), σ) := q_ireti t180_92 mr180
theorem t180_93 : decode (mb 180) 93 = .ok (.aload_n 0, 1) := by decide +kernel
theorem s180_93 (d : Nat) (a0 : Nat) (l1 : Value) (l2 : Value) (l3 : Value) (σ : Hs) : ru d 180 93 [.ref a0, l1, l2, l3] [] σ = ru d 180 94 [.ref a0, l1, l2, l3] [.ref a0] σ := q_aload_n t180_93 rfl
theorem t180_94 : decode (mb 180) 94 = .ok (.iconst 3, 1) := by decide +kernel
theorem s180_94 (d : Nat) (l0 : Value) (l1 : Value) (l2 : Value) (l3 : Value) (w0 : Value) (σ : Hs) : ru d 180 94 [l0, l1, l2, l3] [w0] σ = ru d 180 95 [l0, l1, l2, l3] [.int 3, w0] σ := q_iconst t180_94 (by decide +kernel)
theorem t180_95 : decode (mb 180) 95 = .ok (.invokevirtual 221, 3) := by decide +kernel
theorem s180_95_o87 (d : Nat) (l0 : Value) (l1 : Value) (l2 : Value) (l3 : Value) (v1 : Value) (σ : Hs) : ru d 180 95 [l0, l1, l2, l3] [v1, .ref 87] σ = kont (callD d 160 [.ref 87, v1] σ) d 180 98 [l0, l1, l2, l3] [] := q_invv t180_95 mo180 K8_221 mj160 rfl rfl rfl rfl (Nat.le_of_ble_eq_true rfl)
theorem t180_98 : decode (mb 180) 98 = .ok (.ireturn, 1) := by decide +kernel
theorem s180_98 (d : Nat) (l0 : Value) (l1 : Value) (l2 : Value) (l3 : Value) (x : Int32) (σ : Hs) : ru d 180 98 [l0, l1, l2, l3] [.int x] σ = some (some (.int x), σ) := q_ireti t180_98 mr180
theorem t180_99 : decode (mb 180) 99 = .ok (.aload_n 0, 1) := by decide +kernel
theorem s180_99 (d : Nat) (a0 : Nat) (l1 : Value) (l2 : Value) (l3 : Value) (σ : Hs) : ru d 180 99 [.ref a0, l1, l2, l3] [] σ = ru d 180 100 [.ref a0, l1, l2, l3] [.ref a0] σ := q_aload_n t180_99 rfl
theorem t180_100 : decode (mb 180) 100 = .ok (.getfield 9, 3) := by decide +kernel
theorem s180_100_o87 (d : Nat) (l0 : Value) (l1 : Value) (l2 : Value) (l3 : Value) (σ : Hs) : ru d 180 100 [l0, l1, l2, l3] [.ref 87] σ = ru d 180 103 [l0, l1, l2, l3] [.ref 88] σ := q_getf t180_100 mo180 F8_9 rfl rfl
theorem t180_103 : decode (mb 180) 103 = .ok (.bipush 10, 2) := by decide +kernel
theorem s180_103 (d : Nat) (l0 : Value) (l1 : Value) (l2 : Value) (l3 : Value) (w0 : Value) (σ : Hs) : ru d 180 103 [l0, l1, l2, l3] [w0] σ = ru d 180 105 [l0, l1, l2, l3] [.int 10, w0] σ := q_bipush t180_103 (by decide +kernel)
theorem t180_105 : decode (mb 180) 105 = .ok (.iload_n 1, 1) := by decide +kernel
theorem s180_105 (d : Nat) (l0 : Value) (i1 : Int32) (l2 : Value) (l3 : Value) (w0 w1 : Value) (σ : Hs) : ru d 180 105 [l0, .int i1, l2, l3] [w0, w1] σ = ru d 180 106 [l0, .int i1, l2, l3] [.int i1, w0, w1] σ := q_iload_n t180_105 rfl
theorem t180_106 : decode (mb 180) 106 = .ok (.iadd, 1) := by decide +kernel
theorem s180_106 (d : Nat) (l0 : Value) (l1 : Value) (l2 : Value) (l3 : Value) (x y : Int32) (w0 : Value) (σ : Hs) : ru d 180 106 [l0, l1, l2, l3] [.int y, .int x, w0] σ = ru d 180 107 [l0, l1, l2, l3] [.int (x + y), w0] σ := q_iadd t180_106
theorem t180_107 : decode (mb 180) 107 = .ok (.iconst 3, 1) := by decide +kernel
theorem s180_107 (d : Nat) (l0 : Value) (l1 : Value) (l2 : Value) (l3 : Value) (w0 w1 : Value) (σ : Hs) : ru d 180 107 [l0, l1, l2, l3] [w0, w1] σ = ru d 180 108 [l0, l1, l2, l3] [.int 3, w0, w1] σ := q_iconst t180_107 (by decide +kernel)
theorem t180_108 : decode (mb 180) 108 = .ok (.isub, 1) := by decide +kernel
theorem s180_108 (d : Nat) (l0 : Value) (l1 : Value) (l2 : Value) (l3 : Value) (x y : Int32) (w0 : Value) (σ : Hs) : ru d 180 108 [l0, l1, l2, l3] [.int y, .int x, w0] σ = ru d 180 109 [l0, l1, l2, l3] [.int (x - y), w0] σ := q_isub t180_108
theorem t180_109 : decode (mb 180) 109 = .ok (.iaload, 1) := by decide +kernel
theorem s180_109_o88 (d : Nat) (l0 : Value) (l1 : Value) (l2 : Value) (l3 : Value) (i : Int32) (σ : Hs) : ru d 180 109 [l0, l1, l2, l3] [.int i, .ref 88] σ = gd (vp_in i 545) (ru d 180 110 [l0, l1, l2, l3] [.int (σ 88 i.toNatClampNeg)] σ) := q_iald t180_109 rfl (by decide +kernel) rfl
theorem t180_110 : decode (mb 180) 110 = .ok (.ireturn, 1) := by decide +kernel
theorem s180_110 (d : Nat) (l0 : Value) (l1 : Value) (l2 : Value) (l3 : Value) (x : Int32) (σ : Hs) : ru d 180 110 [l0, l1, l2, l3] [.int x] σ = some (some (.int x), σ) := q_ireti t180_110 mr180
theorem c180 (d : Nat) (x0 : Nat) (x1 : Int32) (σ : Hs) : callD (d + 1) 180 [.ref x0, .int x1] σ = ru d 180 0 [.ref x0, .int x1, uu, uu] [] σ := callD_ru ml180 rfl rfl (Nat.le_of_ble_eq_true rfl)
-- 181: Model.heap(I)I
theorem t181_0 : decode (mb 181) 0 = .ok (.iload_n 1, 1) := by decide +kernel
theorem s181_0 (d : Nat) (l0 : Value) (i1 : Int32) (σ : Hs) : ru d 181 0 [l0, .int i1] [] σ = ru d 181 1 [l0, .int i1] [.int i1] σ := q_iload_n t181_0 rfl
theorem t181_1 : decode (mb 181) 1 = .ok (.iconst 0, 1) := by decide +kernel
theorem s181_1 (d : Nat) (l0 : Value) (l1 : Value) (w0 : Value) (σ : Hs) : ru d 181 1 [l0, l1] [w0] σ = ru d 181 2 [l0, l1] [.int 0, w0] σ := q_iconst t181_1 (by decide +kernel)
theorem t181_2 : decode (mb 181) 2 = .ok (.bipush 7, 2) := by decide +kernel
theorem s181_2 (d : Nat) (l0 : Value) (l1 : Value) (w0 w1 : Value) (σ : Hs) : ru d 181 2 [l0, l1] [w0, w1] σ = ru d 181 4 [l0, l1] [.int 7, w0, w1] σ := q_bipush t181_2 (by decide +kernel)
theorem t181_4 : decode (mb 181) 4 = .ok (.invokestatic 81, 3) := by decide +kernel
theorem s181_4 (d : Nat) (l0 : Value) (l1 : Value) (v0 v1 v2 : Value) (σ : Hs) : ru d 181 4 [l0, l1] [v2, v1, v0] σ = kont (callD d 113 [v0, v1, v2] σ) d 181 7 [l0, l1] [] := q_invs t181_4 mo181 (by decide +kernel) K8_81 mj113 (Nat.le_of_ble_eq_true rfl) rfl rfl (Nat.le_of_ble_eq_true rfl)
theorem t181_7 : decode (mb 181) 7 = .ok (.ifCond .eq 11, 3) := by decide +kernel
theorem s181_7 (d : Nat) (l0 : Value) (l1 : Value) (x : Int32) (σ : Hs) : ru d 181 7 [l0, l1] [.int x] σ = if x = 0 then ru d 181 18 [l0, l1] [] σ else ru d 181 10 [l0, l1] [] σ := q_if_eq t181_7 (by decide +kernel)
theorem t181_10 : decode (mb 181) 10 = .ok (.aload_n 0, 1) := by decide +kernel
theorem s181_10 (d : Nat) (a0 : Nat) (l1 : Value) (σ : Hs) : ru d 181 10 [.ref a0, l1] [] σ = ru d 181 11 [.ref a0, l1] [.ref a0] σ := q_aload_n t181_10 rfl
theorem t181_11 : decode (mb 181) 11 = .ok (.iload_n 1, 1) := by decide +kernel
theorem s181_11 (d : Nat) (l0 : Value) (i1 : Int32) (w0 : Value) (σ : Hs) : ru d 181 11 [l0, .int i1] [w0] σ = ru d 181 12 [l0, .int i1] [.int i1, w0] σ := q_iload_n t181_11 rfl
theorem t181_12 : decode (mb 181) 12 = .ok (.invokevirtual 281, 3) := by decide +kernel
theorem s181_12_o87 (d : Nat) (l0 : Value) (l1 : Value) (v1 : Value) (σ : Hs) : ru d 181 12 [l0, l1] [v1, .ref 87] σ = kont (callD d 180 [.ref 87, v1] σ) d 181 15 [l0, l1] [] := q_invv t181_12 mo181 K8_281 mj180 rfl rfl rfl rfl (Nat.le_of_ble_eq_true rfl)
theorem t181_15 : decode (mb 181) 15 = .ok (.goto 9, 3) := by decide +kernel
theorem s181_15 (d : Nat) (l0 : Value) (l1 : Value) (w0 : Value) (σ : Hs) : ru d 181 15 [l0, l1] [w0] σ = ru d 181 24 [l0, l1] [w0] σ := q_goto t181_15 (by decide +kernel)
theorem t181_18 : decode (mb 181) 18 = .ok (.aload_n 0, 1) := by decide +kernel
theorem s181_18 (d : Nat) (a0 : Nat) (l1 : Value) (σ : Hs) : ru d 181 18 [.ref a0, l1] [] σ = ru d 181 19 [.ref a0, l1] [.ref a0] σ := q_aload_n t181_18 rfl
theorem t181_19 : decode (mb 181) 19 = .ok (.ldc 104, 2) := by decide +kernel
theorem s181_19 (d : Nat) (l0 : Value) (l1 : Value) (w0 : Value) (σ : Hs) : ru d 181 19 [l0, l1] [w0] σ = ru d 181 21 [l0, l1] [.int (-1000001), w0] σ := q_ldc t181_19 mo181 C8_104
theorem t181_21 : decode (mb 181) 21 = .ok (.invokevirtual 105, 3) := by decide +kernel
theorem s181_21_o87 (d : Nat) (l0 : Value) (l1 : Value) (v1 : Value) (σ : Hs) : ru d 181 21 [l0, l1] [v1, .ref 87] σ = kont (callD d 112 [.ref 87, v1] σ) d 181 24 [l0, l1] [] := q_invv t181_21 mo181 K8_105 mj112 rfl rfl rfl rfl (Nat.le_of_ble_eq_true rfl)
theorem t181_24 : decode (mb 181) 24 = .ok (.ireturn, 1) := by decide +kernel
theorem s181_24 (d : Nat) (l0 : Value) (l1 : Value) (x : Int32) (σ : Hs) : ru d 181 24 [l0, l1] [.int x] σ = some (some (.int x), σ) := q_ireti t181_24 mr181
theorem c181 (d : Nat) (x0 : Nat) (x1 : Int32) (σ : Hs) : callD (d + 1) 181 [.ref x0, .int x1] σ = ru d 181 0 [.ref x0, .int x1] [] σ := callD_ru ml181 rfl rfl (Nat.le_of_ble_eq_true rfl)
-- 182: Model.isAhead(I)Z
theorem t182_0 : decode (mb 182) 0 = .ok (.iload_n 0, 1) := by decide +kernel
theorem s182_0 (d : Nat) (i0 : Int32) (σ : Hs) : ru d 182 0 [.int i0] [] σ = ru d 182 1 [.int i0] [.int i0] σ := q_iload_n t182_0 rfl
theorem t182_1 : decode (mb 182) 1 = .ok (.iconst 0, 1) := by decide +kernel
theorem s182_1 (d : Nat) (l0 : Value) (w0 : Value) (σ : Hs) : ru d 182 1 [l0] [w0] σ = ru d 182 2 [l0] [.int 0, w0] σ := q_iconst t182_1 (by decide +kernel)
theorem t182_2 : decode (mb 182) 2 = .ok (.bipush 60, 2) := by decide +kernel
theorem s182_2 (d : Nat) (l0 : Value) (w0 w1 : Value) (σ : Hs) : ru d 182 2 [l0] [w0, w1] σ = ru d 182 4 [l0] [.int 60, w0, w1] σ := q_bipush t182_2 (by decide +kernel)
theorem t182_4 : decode (mb 182) 4 = .ok (.invokestatic 81, 3) := by decide +kernel
theorem s182_4 (d : Nat) (l0 : Value) (v0 v1 v2 : Value) (σ : Hs) : ru d 182 4 [l0] [v2, v1, v0] σ = kont (callD d 113 [v0, v1, v2] σ) d 182 7 [l0] [] := q_invs t182_4 mo182 (by decide +kernel) K8_81 mj113 (Nat.le_of_ble_eq_true rfl) rfl rfl (Nat.le_of_ble_eq_true rfl)
theorem t182_7 : decode (mb 182) 7 = .ok (.ireturn, 1) := by decide +kernel
theorem s182_7 (d : Nat) (l0 : Value) (x : Int32) (hx : isB x) (σ : Hs) : ru d 182 7 [l0] [.int x] σ = some (some (.int x), σ) := q_iretz t182_7 mr182 hx
theorem c182 (d : Nat) (x0 : Int32) (σ : Hs) : callD (d + 1) 182 [.int x0] σ = ru d 182 0 [.int x0] [] σ := callD_ru ml182 rfl rfl (Nat.le_of_ble_eq_true rfl)
-- 183: Model.then(II)I
theorem t183_0 : decode (mb 183) 0 = .ok (.iload_n 1, 1) := by decide +kernel
theorem s183_0 (d : Nat) (l0 : Value) (i1 : Int32) (l2 : Value) (σ : Hs) : ru d 183 0 [l0, .int i1, l2] [] σ = ru d 183 1 [l0, .int i1, l2] [.int i1] σ := q_iload_n t183_0 rfl
theorem t183_1 : decode (mb 183) 1 = .ok (.invokestatic 284, 3) := by decide +kernel
theorem s183_1 (d : Nat) (l0 : Value) (l1 : Value) (l2 : Value) (v0 : Value) (σ : Hs) : ru d 183 1 [l0, l1, l2] [v0] σ = kont (callD d 182 [v0] σ) d 183 4 [l0, l1, l2] [] := q_invs t183_1 mo183 (by decide +kernel) K8_284 mj182 (Nat.le_of_ble_eq_true rfl) rfl rfl (Nat.le_of_ble_eq_true rfl)
theorem t183_4 : decode (mb 183) 4 = .ok (.ifCond .eq 13, 3) := by decide +kernel
theorem s183_4 (d : Nat) (l0 : Value) (l1 : Value) (l2 : Value) (x : Int32) (σ : Hs) : ru d 183 4 [l0, l1, l2] [.int x] σ = if x = 0 then ru d 183 17 [l0, l1, l2] [] σ else ru d 183 7 [l0, l1, l2] [] σ := q_if_eq t183_4 (by decide +kernel)
theorem t183_7 : decode (mb 183) 7 = .ok (.iload_n 2, 1) := by decide +kernel
theorem s183_7 (d : Nat) (l0 : Value) (l1 : Value) (i2 : Int32) (σ : Hs) : ru d 183 7 [l0, l1, .int i2] [] σ = ru d 183 8 [l0, l1, .int i2] [.int i2] σ := q_iload_n t183_7 rfl
theorem t183_8 : decode (mb 183) 8 = .ok (.iconst 0, 1) := by decide +kernel
theorem s183_8 (d : Nat) (l0 : Value) (l1 : Value) (l2 : Value) (w0 : Value) (σ : Hs) : ru d 183 8 [l0, l1, l2] [w0] σ = ru d 183 9 [l0, l1, l2] [.int 0, w0] σ := q_iconst t183_8 (by decide +kernel)
theorem t183_9 : decode (mb 183) 9 = .ok (.bipush 7, 2) := by decide +kernel
theorem s183_9 (d : Nat) (l0 : Value) (l1 : Value) (l2 : Value) (w0 w1 : Value) (σ : Hs) : ru d 183 9 [l0, l1, l2] [w0, w1] σ = ru d 183 11 [l0, l1, l2] [.int 7, w0, w1] σ := q_bipush t183_9 (by decide +kernel)
theorem t183_11 : decode (mb 183) 11 = .ok (.invokestatic 81, 3) := by decide +kernel
theorem s183_11 (d : Nat) (l0 : Value) (l1 : Value) (l2 : Value) (v0 v1 v2 : Value) (σ : Hs) : ru d 183 11 [l0, l1, l2] [v2, v1, v0] σ = kont (callD d 113 [v0, v1, v2] σ) d 183 14 [l0, l1, l2] [] := q_invs t183_11 mo183 (by decide +kernel) K8_81 mj113 (Nat.le_of_ble_eq_true rfl) rfl rfl (Nat.le_of_ble_eq_true rfl)
theorem t183_14 : decode (mb 183) 14 = .ok (.ifCond .ne 10, 3) := by decide +kernel
theorem s183_14 (d : Nat) (l0 : Value) (l1 : Value) (l2 : Value) (x : Int32) (σ : Hs) : ru d 183 14 [l0, l1, l2] [.int x] σ = if x = 0 then ru d 183 17 [l0, l1, l2] [] σ else ru d 183 24 [l0, l1, l2] [] σ := q_if_ne t183_14 (by decide +kernel)
theorem t183_17 : decode (mb 183) 17 = .ok (.aload_n 0, 1) := by decide +kernel
theorem s183_17 (d : Nat) (a0 : Nat) (l1 : Value) (l2 : Value) (σ : Hs) : ru d 183 17 [.ref a0, l1, l2] [] σ = ru d 183 18 [.ref a0, l1, l2] [.ref a0] σ := q_aload_n t183_17 rfl
theorem t183_18 : decode (mb 183) 18 = .ok (.ldc 104, 2) := by decide +kernel
theorem s183_18 (d : Nat) (l0 : Value) (l1 : Value) (l2 : Value) (w0 : Value) (σ : Hs) : ru d 183 18 [l0, l1, l2] [w0] σ = ru d 183 20 [l0, l1, l2] [.int (-1000001), w0] σ := q_ldc t183_18 mo183 C8_104
theorem t183_20 : decode (mb 183) 20 = .ok (.invokevirtual 105, 3) := by decide +kernel
theorem s183_20_o87 (d : Nat) (l0 : Value) (l1 : Value) (l2 : Value) (v1 : Value) (σ : Hs) : ru d 183 20 [l0, l1, l2] [v1, .ref 87] σ = kont (callD d 112 [.ref 87, v1] σ) d 183 23 [l0, l1, l2] [] := q_invv t183_20 mo183 K8_105 mj112 rfl rfl rfl rfl (Nat.le_of_ble_eq_true rfl)
theorem t183_23 : decode (mb 183) 23 = .ok (.ireturn, 1) := by decide +kernel
theorem s183_23 (d : Nat) (l0 : Value) (l1 : Value) (l2 : Value) (x : Int32) (σ : Hs) : ru d 183 23 [l0, l1, l2] [.int x] σ = some (some (.int x), σ) := q_ireti t183_23 mr183
theorem t183_24 : decode (mb 183) 24 = .ok (.aload_n 0, 1) := by decide +kernel
theorem s183_24 (d : Nat) (a0 : Nat) (l1 : Value) (l2 : Value) (σ : Hs) : ru d 183 24 [.ref a0, l1, l2] [] σ = ru d 183 25 [.ref a0, l1, l2] [.ref a0] σ := q_aload_n t183_24 rfl
theorem t183_25 : decode (mb 183) 25 = .ok (.getfield 9, 3) := by decide +kernel
theorem s183_25_o87 (d : Nat) (l0 : Value) (l1 : Value) (l2 : Value) (σ : Hs) : ru d 183 25 [l0, l1, l2] [.ref 87] σ = ru d 183 28 [l0, l1, l2] [.ref 88] σ := q_getf t183_25 mo183 F8_9 rfl rfl
theorem t183_28 : decode (mb 183) 28 = .ok (.aload_n 0, 1) := by decide +kernel
theorem s183_28 (d : Nat) (a0 : Nat) (l1 : Value) (l2 : Value) (w0 : Value) (σ : Hs) : ru d 183 28 [.ref a0, l1, l2] [w0] σ = ru d 183 29 [.ref a0, l1, l2] [.ref a0, w0] σ := q_aload_n t183_28 rfl
theorem t183_29 : decode (mb 183) 29 = .ok (.getfield 16, 3) := by decide +kernel
theorem s183_29_o87 (d : Nat) (l0 : Value) (l1 : Value) (l2 : Value) (w0 : Value) (σ : Hs) : ru d 183 29 [l0, l1, l2] [.ref 87, w0] σ = ru d 183 32 [l0, l1, l2] [.ref 90, w0] σ := q_getf t183_29 mo183 F8_16 rfl rfl
theorem t183_32 : decode (mb 183) 32 = .ok (.invokestatic 77, 3) := by decide +kernel
theorem s183_32 (d : Nat) (l0 : Value) (l1 : Value) (l2 : Value) (v0 v1 : Value) (σ : Hs) : ru d 183 32 [l0, l1, l2] [v1, v0] σ = kont (callD d 116 [v0, v1] σ) d 183 35 [l0, l1, l2] [] := q_invs t183_32 mo183 (by decide +kernel) K8_77 mj116 (Nat.le_of_ble_eq_true rfl) rfl rfl (Nat.le_of_ble_eq_true rfl)
theorem t183_35 : decode (mb 183) 35 = .ok (.aload_n 0, 1) := by decide +kernel
theorem s183_35 (d : Nat) (a0 : Nat) (l1 : Value) (l2 : Value) (σ : Hs) : ru d 183 35 [.ref a0, l1, l2] [] σ = ru d 183 36 [.ref a0, l1, l2] [.ref a0] σ := q_aload_n t183_35 rfl
theorem t183_36 : decode (mb 183) 36 = .ok (.iload_n 1, 1) := by decide +kernel
theorem s183_36 (d : Nat) (l0 : Value) (i1 : Int32) (l2 : Value) (w0 : Value) (σ : Hs) : ru d 183 36 [l0, .int i1, l2] [w0] σ = ru d 183 37 [l0, .int i1, l2] [.int i1, w0] σ := q_iload_n t183_36 rfl
theorem t183_37 : decode (mb 183) 37 = .ok (.invokevirtual 271, 3) := by decide +kernel
theorem s183_37_o87 (d : Nat) (l0 : Value) (l1 : Value) (l2 : Value) (v1 : Value) (σ : Hs) : ru d 183 37 [l0, l1, l2] [v1, .ref 87] σ = kont (callD d 171 [.ref 87, v1] σ) d 183 40 [l0, l1, l2] [] := q_invv t183_37 mo183 K8_271 mj171 rfl rfl rfl rfl (Nat.le_of_ble_eq_true rfl)
theorem t183_40 : decode (mb 183) 40 = .ok (.aload_n 0, 1) := by decide +kernel
theorem s183_40 (d : Nat) (a0 : Nat) (l1 : Value) (l2 : Value) (σ : Hs) : ru d 183 40 [.ref a0, l1, l2] [] σ = ru d 183 41 [.ref a0, l1, l2] [.ref a0] σ := q_aload_n t183_40 rfl
theorem t183_41 : decode (mb 183) 41 = .ok (.aload_n 0, 1) := by decide +kernel
theorem s183_41 (d : Nat) (a0 : Nat) (l1 : Value) (l2 : Value) (w0 : Value) (σ : Hs) : ru d 183 41 [.ref a0, l1, l2] [w0] σ = ru d 183 42 [.ref a0, l1, l2] [.ref a0, w0] σ := q_aload_n t183_41 rfl
theorem t183_42 : decode (mb 183) 42 = .ok (.iload_n 2, 1) := by decide +kernel
theorem s183_42 (d : Nat) (l0 : Value) (l1 : Value) (i2 : Int32) (w0 w1 : Value) (σ : Hs) : ru d 183 42 [l0, l1, .int i2] [w0, w1] σ = ru d 183 43 [l0, l1, .int i2] [.int i2, w0, w1] σ := q_iload_n t183_42 rfl
theorem t183_43 : decode (mb 183) 43 = .ok (.invokevirtual 281, 3) := by decide +kernel
theorem s183_43_o87 (d : Nat) (l0 : Value) (l1 : Value) (l2 : Value) (v1 : Value) (w0 : Nat) (σ : Hs) : ru d 183 43 [l0, l1, l2] [v1, .ref 87, .ref w0] σ = kont (callD d 180 [.ref 87, v1] σ) d 183 46 [l0, l1, l2] [.ref w0] := q_invv t183_43 mo183 K8_281 mj180 rfl rfl rfl rfl (Nat.le_of_ble_eq_true rfl)
theorem t183_46 : decode (mb 183) 46 = .ok (.invokevirtual 287, 3) := by decide +kernel
theorem s183_46_o87 (d : Nat) (l0 : Value) (l1 : Value) (l2 : Value) (v1 : Value) (σ : Hs) : ru d 183 46 [l0, l1, l2] [v1, .ref 87] σ = kont (callD d 118 [.ref 87, v1] σ) d 183 49 [l0, l1, l2] [] := q_invv t183_46 mo183 K8_287 mj118 rfl rfl rfl rfl (Nat.le_of_ble_eq_true rfl)
theorem t183_49 : decode (mb 183) 49 = .ok (.ireturn, 1) := by decide +kernel
theorem s183_49 (d : Nat) (l0 : Value) (l1 : Value) (l2 : Value) (x : Int32) (σ : Hs) : ru d 183 49 [l0, l1, l2] [.int x] σ = some (some (.int x), σ) := q_ireti t183_49 mr183
theorem c183 (d : Nat) (x0 : Nat) (x1 : Int32) (x2 : Int32) (σ : Hs) : callD (d + 1) 183 [.ref x0, .int x1, .int x2] σ = ru d 183 0 [.ref x0, .int x1, .int x2] [] σ := callD_ru ml183 rfl rfl (Nat.le_of_ble_eq_true rfl)
-- 184: Model.gardenThen(III)I
theorem t184_0 : decode (mb 184) 0 = .ok (.iload_n 1, 1) := by decide +kernel
theorem s184_0 (d : Nat) (l0 : Value) (i1 : Int32) (l2 : Value) (l3 : Value) (σ : Hs) : ru d 184 0 [l0, .int i1, l2, l3] [] σ = ru d 184 1 [l0, .int i1, l2, l3] [.int i1] σ := q_iload_n t184_0 rfl
theorem t184_1 : decode (mb 184) 1 = .ok (.invokestatic 284, 3) := by decide +kernel
theorem s184_1 (d : Nat) (l0 : Value) (l1 : Value) (l2 : Value) (l3 : Value) (v0 : Value) (σ : Hs) : ru d 184 1 [l0, l1, l2, l3] [v0] σ = kont (callD d 182 [v0] σ) d 184 4 [l0, l1, l2, l3] [] := q_invs t184_1 mo184 (by decide +kernel) K8_284 mj182 (Nat.le_of_ble_eq_true rfl) rfl rfl (Nat.le_of_ble_eq_true rfl)
theorem t184_4 : decode (mb 184) 4 = .ok (.ifCond .eq 19, 3) := by decide +kernel
theorem s184_4 (d : Nat) (l0 : Value) (l1 : Value) (l2 : Value) (l3 : Value) (x : Int32) (σ : Hs) : ru d 184 4 [l0, l1, l2, l3] [.int x] σ = if x = 0 then ru d 184 23 [l0, l1, l2, l3] [] σ else ru d 184 7 [l0, l1, l2, l3] [] σ := q_if_eq t184_4 (by decide +kernel)
theorem t184_7 : decode (mb 184) 7 = .ok (.iload_n 2, 1) := by decide +kernel
theorem s184_7 (d : Nat) (l0 : Value) (l1 : Value) (i2 : Int32) (l3 : Value) (σ : Hs) : ru d 184 7 [l0, l1, .int i2, l3] [] σ = ru d 184 8 [l0, l1, .int i2, l3] [.int i2] σ := q_iload_n t184_7 rfl
theorem t184_8 : decode (mb 184) 8 = .ok (.invokestatic 278, 3) := by decide +kernel
theorem s184_8 (d : Nat) (l0 : Value) (l1 : Value) (l2 : Value) (l3 : Value) (v0 : Value) (σ : Hs) : ru d 184 8 [l0, l1, l2, l3] [v0] σ = kont (callD d 177 [v0] σ) d 184 11 [l0, l1, l2, l3] [] := q_invs t184_8 mo184 (by decide +kernel) K8_278 mj177 (Nat.le_of_ble_eq_true rfl) rfl rfl (Nat.le_of_ble_eq_true rfl)
theorem t184_11 : decode (mb 184) 11 = .ok (.ifCond .eq 12, 3) := by decide +kernel
theorem s184_11 (d : Nat) (l0 : Value) (l1 : Value) (l2 : Value) (l3 : Value) (x : Int32) (σ : Hs) : ru d 184 11 [l0, l1, l2, l3] [.int x] σ = if x = 0 then ru d 184 23 [l0, l1, l2, l3] [] σ else ru d 184 14 [l0, l1, l2, l3] [] σ := q_if_eq t184_11 (by decide +kernel)
theorem t184_14 : decode (mb 184) 14 = .ok (.iload_n 3, 1) := by decide +kernel
theorem s184_14 (d : Nat) (l0 : Value) (l1 : Value) (l2 : Value) (i3 : Int32) (σ : Hs) : ru d 184 14 [l0, l1, l2, .int i3] [] σ = ru d 184 15 [l0, l1, l2, .int i3] [.int i3] σ := q_iload_n t184_14 rfl
theorem t184_15 : decode (mb 184) 15 = .ok (.iconst 0, 1) := by decide +kernel
theorem s184_15 (d : Nat) (l0 : Value) (l1 : Value) (l2 : Value) (l3 : Value) (w0 : Value) (σ : Hs) : ru d 184 15 [l0, l1, l2, l3] [w0] σ = ru d 184 16 [l0, l1, l2, l3] [.int 0, w0] σ := q_iconst t184_15 (by decide +kernel)
theorem t184_16 : decode (mb 184) 16 = .ok (.iconst 2, 1) := by decide +kernel
theorem s184_16 (d : Nat) (l0 : Value) (l1 : Value) (l2 : Value) (l3 : Value) (w0 w1 : Value) (σ : Hs) : ru d 184 16 [l0, l1, l2, l3] [w0, w1] σ = ru d 184 17 [l0, l1, l2, l3] [.int 2, w0, w1] σ := q_iconst t184_16 (by decide +kernel)
theorem t184_17 : decode (mb 184) 17 = .ok (.invokestatic 81, 3) := by decide +kernel
theorem s184_17 (d : Nat) (l0 : Value) (l1 : Value) (l2 : Value) (l3 : Value) (v0 v1 v2 : Value) (σ : Hs) : ru d 184 17 [l0, l1, l2, l3] [v2, v1, v0] σ = kont (callD d 113 [v0, v1, v2] σ) d 184 20 [l0, l1, l2, l3] [] := q_invs t184_17 mo184 (by decide +kernel) K8_81 mj113 (Nat.le_of_ble_eq_true rfl) rfl rfl (Nat.le_of_ble_eq_true rfl)
theorem t184_20 : decode (mb 184) 20 = .ok (.ifCond .ne 10, 3) := by decide +kernel
theorem s184_20 (d : Nat) (l0 : Value) (l1 : Value) (l2 : Value) (l3 : Value) (x : Int32) (σ : Hs) : ru d 184 20 [l0, l1, l2, l3] [.int x] σ = if x = 0 then ru d 184 23 [l0, l1, l2, l3] [] σ else ru d 184 30 [l0, l1, l2, l3] [] σ := q_if_ne t184_20 (by decide +kernel)
theorem t184_23 : decode (mb 184) 23 = .ok (.aload_n 0, 1) := by decide +kernel
theorem s184_23 (d : Nat) (a0 : Nat) (l1 : Value) (l2 : Value) (l3 : Value) (σ : Hs) : ru d 184 23 [.ref a0, l1, l2, l3] [] σ = ru d 184 24 [.ref a0, l1, l2, l3] [.ref a0] σ := q_aload_n t184_23 rfl
theorem t184_24 : decode (mb 184) 24 = .ok (.ldc 104, 2) := by decide +kernel
theorem s184_24 (d : Nat) (l0 : Value) (l1 : Value) (l2 : Value) (l3 : Value) (w0 : Value) (σ : Hs) : ru d 184 24 [l0, l1, l2, l3] [w0] σ = ru d 184 26 [l0, l1, l2, l3] [.int (-1000001), w0] σ := q_ldc t184_24 mo184 C8_104
theorem t184_26 : decode (mb 184) 26 = .ok (.invokevirtual 105, 3) := by decide +kernel
theorem s184_26_o87 (d : Nat) (l0 : Value) (l1 : Value) (l2 : Value) (l3 : Value) (v1 : Value) (σ : Hs) : ru d 184 26 [l0, l1, l2, l3] [v1, .ref 87] σ = kont (callD d 112 [.ref 87, v1] σ) d 184 29 [l0, l1, l2, l3] [] := q_invv t184_26 mo184 K8_105 mj112 rfl rfl rfl rfl (Nat.le_of_ble_eq_true rfl)
theorem t184_29 : decode (mb 184) 29 = .ok (.ireturn, 1) := by decide +kernel
theorem s184_29 (d : Nat) (l0 : Value) (l1 : Value) (l2 : Value) (l3 : Value) (x : Int32) (σ : Hs) : ru d 184 29 [l0, l1, l2, l3] [.int x] σ = some (some (.int x), σ) := q_ireti t184_29 mr184
theorem t184_30 : decode (mb 184) 30 = .ok (.aload_n 0, 1) := by decide +kernel
theorem s184_30 (d : Nat) (a0 : Nat) (l1 : Value) (l2 : Value) (l3 : Value) (σ : Hs) : ru d 184 30 [.ref a0, l1, l2, l3] [] σ = ru d 184 31 [.ref a0, l1, l2, l3] [.ref a0] σ := q_aload_n t184_30 rfl
theorem t184_31 : decode (mb 184) 31 = .ok (.getfield 9, 3) := by decide +kernel
theorem s184_31_o87 (d : Nat) (l0 : Value) (l1 : Value) (l2 : Value) (l3 : Value) (σ : Hs) : ru d 184 31 [l0, l1, l2, l3] [.ref 87] σ = ru d 184 34 [l0, l1, l2, l3] [.ref 88] σ := q_getf t184_31 mo184 F8_9 rfl rfl
theorem t184_34 : decode (mb 184) 34 = .ok (.aload_n 0, 1) := by decide +kernel
theorem s184_34 (d : Nat) (a0 : Nat) (l1 : Value) (l2 : Value) (l3 : Value) (w0 : Value) (σ : Hs) : ru d 184 34 [.ref a0, l1, l2, l3] [w0] σ = ru d 184 35 [.ref a0, l1, l2, l3] [.ref a0, w0] σ := q_aload_n t184_34 rfl
theorem t184_35 : decode (mb 184) 35 = .ok (.getfield 16, 3) := by decide +kernel
theorem s184_35_o87 (d : Nat) (l0 : Value) (l1 : Value) (l2 : Value) (l3 : Value) (w0 : Value) (σ : Hs) : ru d 184 35 [l0, l1, l2, l3] [.ref 87, w0] σ = ru d 184 38 [l0, l1, l2, l3] [.ref 90, w0] σ := q_getf t184_35 mo184 F8_16 rfl rfl
theorem t184_38 : decode (mb 184) 38 = .ok (.invokestatic 77, 3) := by decide +kernel
theorem s184_38 (d : Nat) (l0 : Value) (l1 : Value) (l2 : Value) (l3 : Value) (v0 v1 : Value) (σ : Hs) : ru d 184 38 [l0, l1, l2, l3] [v1, v0] σ = kont (callD d 116 [v0, v1] σ) d 184 41 [l0, l1, l2, l3] [] := q_invs t184_38 mo184 (by decide +kernel) K8_77 mj116 (Nat.le_of_ble_eq_true rfl) rfl rfl (Nat.le_of_ble_eq_true rfl)
theorem t184_41 : decode (mb 184) 41 = .ok (.aload_n 0, 1) := by decide +kernel
theorem s184_41 (d : Nat) (a0 : Nat) (l1 : Value) (l2 : Value) (l3 : Value) (σ : Hs) : ru d 184 41 [.ref a0, l1, l2, l3] [] σ = ru d 184 42 [.ref a0, l1, l2, l3] [.ref a0] σ := q_aload_n t184_41 rfl
theorem t184_42 : decode (mb 184) 42 = .ok (.iload_n 1, 1) := by decide +kernel
theorem s184_42 (d : Nat) (l0 : Value) (i1 : Int32) (l2 : Value) (l3 : Value) (w0 : Value) (σ : Hs) : ru d 184 42 [l0, .int i1, l2, l3] [w0] σ = ru d 184 43 [l0, .int i1, l2, l3] [.int i1, w0] σ := q_iload_n t184_42 rfl
theorem t184_43 : decode (mb 184) 43 = .ok (.invokevirtual 271, 3) := by decide +kernel
theorem s184_43_o87 (d : Nat) (l0 : Value) (l1 : Value) (l2 : Value) (l3 : Value) (v1 : Value) (σ : Hs) : ru d 184 43 [l0, l1, l2, l3] [v1, .ref 87] σ = kont (callD d 171 [.ref 87, v1] σ) d 184 46 [l0, l1, l2, l3] [] := q_invv t184_43 mo184 K8_271 mj171 rfl rfl rfl rfl (Nat.le_of_ble_eq_true rfl)
theorem t184_46 : decode (mb 184) 46 = .ok (.aload_n 0, 1) := by decide +kernel
theorem s184_46 (d : Nat) (a0 : Nat) (l1 : Value) (l2 : Value) (l3 : Value) (σ : Hs) : ru d 184 46 [.ref a0, l1, l2, l3] [] σ = ru d 184 47 [.ref a0, l1, l2, l3] [.ref a0] σ := q_aload_n t184_46 rfl
theorem t184_47 : decode (mb 184) 47 = .ok (.aload_n 0, 1) := by decide +kernel
theorem s184_47 (d : Nat) (a0 : Nat) (l1 : Value) (l2 : Value) (l3 : Value) (w0 : Value) (σ : Hs) : ru d 184 47 [.ref a0, l1, l2, l3] [w0] σ = ru d 184 48 [.ref a0, l1, l2, l3] [.ref a0, w0] σ := q_aload_n t184_47 rfl
theorem t184_48 : decode (mb 184) 48 = .ok (.getfield 9, 3) := by decide +kernel
theorem s184_48_o87 (d : Nat) (l0 : Value) (l1 : Value) (l2 : Value) (l3 : Value) (w0 : Value) (σ : Hs) : ru d 184 48 [l0, l1, l2, l3] [.ref 87, w0] σ = ru d 184 51 [l0, l1, l2, l3] [.ref 88, w0] σ := q_getf t184_48 mo184 F8_9 rfl rfl
theorem t184_51 : decode (mb 184) 51 = .ok (.sipush 224, 3) := by decide +kernel
theorem s184_51 (d : Nat) (l0 : Value) (l1 : Value) (l2 : Value) (l3 : Value) (w0 w1 : Value) (σ : Hs) : ru d 184 51 [l0, l1, l2, l3] [w0, w1] σ = ru d 184 54 [l0, l1, l2, l3] [.int 224, w0, w1] σ := q_sipush t184_51 (by decide +kernel)
theorem t184_54 : decode (mb 184) 54 = .ok (.iconst 3, 1) := by decide +kernel
theorem s184_54 (d : Nat) (l0 : Value) (l1 : Value) (l2 : Value) (l3 : Value) (w0 w1 w2 : Value) (σ : Hs) : ru d 184 54 [l0, l1, l2, l3] [w0, w1, w2] σ = ru d 184 55 [l0, l1, l2, l3] [.int 3, w0, w1, w2] σ := q_iconst t184_54 (by decide +kernel)
theorem t184_55 : decode (mb 184) 55 = .ok (.iload_n 2, 1) := by decide +kernel
theorem s184_55 (d : Nat) (l0 : Value) (l1 : Value) (i2 : Int32) (l3 : Value) (w0 w1 w2 w3 : Value) (σ : Hs) : ru d 184 55 [l0, l1, .int i2, l3] [w0, w1, w2, w3] σ = ru d 184 56 [l0, l1, .int i2, l3] [.int i2, w0, w1, w2, w3] σ := q_iload_n t184_55 rfl
theorem t184_56 : decode (mb 184) 56 = .ok (.imul, 1) := by decide +kernel
theorem s184_56 (d : Nat) (l0 : Value) (l1 : Value) (l2 : Value) (l3 : Value) (x y : Int32) (w0 w1 w2 : Value) (σ : Hs) : ru d 184 56 [l0, l1, l2, l3] [.int y, .int x, w0, w1, w2] σ = ru d 184 57 [l0, l1, l2, l3] [.int (x * y), w0, w1, w2] σ := q_imul t184_56
theorem t184_57 : decode (mb 184) 57 = .ok (.iadd, 1) := by decide +kernel
theorem s184_57 (d : Nat) (l0 : Value) (l1 : Value) (l2 : Value) (l3 : Value) (x y : Int32) (w0 w1 : Value) (σ : Hs) : ru d 184 57 [l0, l1, l2, l3] [.int y, .int x, w0, w1] σ = ru d 184 58 [l0, l1, l2, l3] [.int (x + y), w0, w1] σ := q_iadd t184_57
theorem t184_58 : decode (mb 184) 58 = .ok (.iload_n 3, 1) := by decide +kernel
theorem s184_58 (d : Nat) (l0 : Value) (l1 : Value) (l2 : Value) (i3 : Int32) (w0 w1 w2 : Value) (σ : Hs) : ru d 184 58 [l0, l1, l2, .int i3] [w0, w1, w2] σ = ru d 184 59 [l0, l1, l2, .int i3] [.int i3, w0, w1, w2] σ := q_iload_n t184_58 rfl
theorem t184_59 : decode (mb 184) 59 = .ok (.iadd, 1) := by decide +kernel
theorem s184_59 (d : Nat) (l0 : Value) (l1 : Value) (l2 : Value) (l3 : Value) (x y : Int32) (w0 w1 : Value) (σ : Hs) : ru d 184 59 [l0, l1, l2, l3] [.int y, .int x, w0, w1] σ = ru d 184 60 [l0, l1, l2, l3] [.int (x + y), w0, w1] σ := q_iadd t184_59
theorem t184_60 : decode (mb 184) 60 = .ok (.iaload, 1) := by decide +kernel
theorem s184_60_o88 (d : Nat) (l0 : Value) (l1 : Value) (l2 : Value) (l3 : Value) (i : Int32) (w0 : Value) (σ : Hs) : ru d 184 60 [l0, l1, l2, l3] [.int i, .ref 88, w0] σ = gd (vp_in i 545) (ru d 184 61 [l0, l1, l2, l3] [.int (σ 88 i.toNatClampNeg), w0] σ) := q_iald t184_60 rfl (by decide +kernel) rfl
theorem t184_61 : decode (mb 184) 61 = .ok (.invokevirtual 287, 3) := by decide +kernel
theorem s184_61_o87 (d : Nat) (l0 : Value) (l1 : Value) (l2 : Value) (l3 : Value) (v1 : Value) (σ : Hs) : ru d 184 61 [l0, l1, l2, l3] [v1, .ref 87] σ = kont (callD d 118 [.ref 87, v1] σ) d 184 64 [l0, l1, l2, l3] [] := q_invv t184_61 mo184 K8_287 mj118 rfl rfl rfl rfl (Nat.le_of_ble_eq_true rfl)
theorem t184_64 : decode (mb 184) 64 = .ok (.ireturn, 1) := by decide +kernel
theorem s184_64 (d : Nat) (l0 : Value) (l1 : Value) (l2 : Value) (l3 : Value) (x : Int32) (σ : Hs) : ru d 184 64 [l0, l1, l2, l3] [.int x] σ = some (some (.int x), σ) := q_ireti t184_64 mr184
theorem c184 (d : Nat) (x0 : Nat) (x1 : Int32) (x2 : Int32) (x3 : Int32) (σ : Hs) : callD (d + 1) 184 [.ref x0, .int x1, .int x2, .int x3] σ = ru d 184 0 [.ref x0, .int x1, .int x2, .int x3] [] σ := callD_ru ml184 rfl rfl (Nat.le_of_ble_eq_true rfl)
