-- 149: Model.compared()V
theorem t149_0 : decode (mb 149) 0 = .ok (.aload_n 0, 1) := by decide +kernel
theorem s149_0 (d : Nat) (a0 : Nat) (l1 : Value) (σ : Hs) : ru d 149 0 [.ref a0, l1] [] σ = ru d 149 1 [.ref a0, l1] [.ref a0] σ := q_aload_n t149_0 rfl
theorem t149_1 : decode (mb 149) 1 = .ok (.invokevirtual 186, 3) := by decide +kernel
theorem s149_1_o87 (d : Nat) (l0 : Value) (l1 : Value) (σ : Hs) : ru d 149 1 [l0, l1] [.ref 87] σ = kont (callD d 150 [.ref 87] σ) d 149 4 [l0, l1] [] := q_invv t149_1 mo149 K8_186 mj150 rfl rfl rfl rfl (Nat.le_of_ble_eq_true rfl)
theorem t149_4 : decode (mb 149) 4 = .ok (.aload_n 0, 1) := by decide +kernel
theorem s149_4 (d : Nat) (a0 : Nat) (l1 : Value) (σ : Hs) : ru d 149 4 [.ref a0, l1] [] σ = ru d 149 5 [.ref a0, l1] [.ref a0] σ := q_aload_n t149_4 rfl
theorem t149_5 : decode (mb 149) 5 = .ok (.bipush 60, 2) := by decide +kernel
theorem s149_5 (d : Nat) (l0 : Value) (l1 : Value) (w0 : Value) (σ : Hs) : ru d 149 5 [l0, l1] [w0] σ = ru d 149 7 [l0, l1] [.int 60, w0] σ := q_bipush t149_5 (by decide +kernel)
theorem t149_7 : decode (mb 149) 7 = .ok (.invokevirtual 177, 3) := by decide +kernel
theorem s149_7_o87 (d : Nat) (l0 : Value) (l1 : Value) (v1 : Value) (σ : Hs) : ru d 149 7 [l0, l1] [v1, .ref 87] σ = kont (callD d 145 [.ref 87, v1] σ) d 149 10 [l0, l1] [] := q_invv t149_7 mo149 K8_177 mj145 rfl rfl rfl rfl (Nat.le_of_ble_eq_true rfl)
theorem t149_10 : decode (mb 149) 10 = .ok (.ifCond .eq 9, 3) := by decide +kernel
theorem s149_10 (d : Nat) (l0 : Value) (l1 : Value) (x : Int32) (σ : Hs) : ru d 149 10 [l0, l1] [.int x] σ = if x = 0 then ru d 149 19 [l0, l1] [] σ else ru d 149 13 [l0, l1] [] σ := q_if_eq t149_10 (by decide +kernel)
theorem t149_13 : decode (mb 149) 13 = .ok (.sipush 20002, 3) := by decide +kernel
theorem s149_13 (d : Nat) (l0 : Value) (l1 : Value) (σ : Hs) : ru d 149 13 [l0, l1] [] σ = ru d 149 16 [l0, l1] [.int 20002] σ := q_sipush t149_13 (by decide +kernel)
theorem t149_16 : decode (mb 149) 16 = .ok (.goto 34, 3) := by decide +kernel
theorem s149_16 (d : Nat) (l0 : Value) (l1 : Value) (w0 : Value) (σ : Hs) : ru d 149 16 [l0, l1] [w0] σ = ru d 149 50 [l0, l1] [w0] σ := q_goto t149_16 (by decide +kernel)
theorem t149_19 : decode (mb 149) 19 = .ok (.aload_n 0, 1) := by decide +kernel
theorem s149_19 (d : Nat) (a0 : Nat) (l1 : Value) (σ : Hs) : ru d 149 19 [.ref a0, l1] [] σ = ru d 149 20 [.ref a0, l1] [.ref a0] σ := q_aload_n t149_19 rfl
theorem t149_20 : decode (mb 149) 20 = .ok (.bipush 61, 2) := by decide +kernel
theorem s149_20 (d : Nat) (l0 : Value) (l1 : Value) (w0 : Value) (σ : Hs) : ru d 149 20 [l0, l1] [w0] σ = ru d 149 22 [l0, l1] [.int 61, w0] σ := q_bipush t149_20 (by decide +kernel)
theorem t149_22 : decode (mb 149) 22 = .ok (.invokevirtual 177, 3) := by decide +kernel
theorem s149_22_o87 (d : Nat) (l0 : Value) (l1 : Value) (v1 : Value) (σ : Hs) : ru d 149 22 [l0, l1] [v1, .ref 87] σ = kont (callD d 145 [.ref 87, v1] σ) d 149 25 [l0, l1] [] := q_invv t149_22 mo149 K8_177 mj145 rfl rfl rfl rfl (Nat.le_of_ble_eq_true rfl)
theorem t149_25 : decode (mb 149) 25 = .ok (.ifCond .eq 9, 3) := by decide +kernel
theorem s149_25 (d : Nat) (l0 : Value) (l1 : Value) (x : Int32) (σ : Hs) : ru d 149 25 [l0, l1] [.int x] σ = if x = 0 then ru d 149 34 [l0, l1] [] σ else ru d 149 28 [l0, l1] [] σ := q_if_eq t149_25 (by decide +kernel)
theorem t149_28 : decode (mb 149) 28 = .ok (.sipush 20003, 3) := by decide +kernel
theorem s149_28 (d : Nat) (l0 : Value) (l1 : Value) (σ : Hs) : ru d 149 28 [l0, l1] [] σ = ru d 149 31 [l0, l1] [.int 20003] σ := q_sipush t149_28 (by decide +kernel)
theorem t149_31 : decode (mb 149) 31 = .ok (.goto 19, 3) := by decide +kernel
theorem s149_31 (d : Nat) (l0 : Value) (l1 : Value) (w0 : Value) (σ : Hs) : ru d 149 31 [l0, l1] [w0] σ = ru d 149 50 [l0, l1] [w0] σ := q_goto t149_31 (by decide +kernel)
theorem t149_34 : decode (mb 149) 34 = .ok (.aload_n 0, 1) := by decide +kernel
theorem s149_34 (d : Nat) (a0 : Nat) (l1 : Value) (σ : Hs) : ru d 149 34 [.ref a0, l1] [] σ = ru d 149 35 [.ref a0, l1] [.ref a0] σ := q_aload_n t149_34 rfl
theorem t149_35 : decode (mb 149) 35 = .ok (.bipush 62, 2) := by decide +kernel
theorem s149_35 (d : Nat) (l0 : Value) (l1 : Value) (w0 : Value) (σ : Hs) : ru d 149 35 [l0, l1] [w0] σ = ru d 149 37 [l0, l1] [.int 62, w0] σ := q_bipush t149_35 (by decide +kernel)
theorem t149_37 : decode (mb 149) 37 = .ok (.invokevirtual 177, 3) := by decide +kernel
theorem s149_37_o87 (d : Nat) (l0 : Value) (l1 : Value) (v1 : Value) (σ : Hs) : ru d 149 37 [l0, l1] [v1, .ref 87] σ = kont (callD d 145 [.ref 87, v1] σ) d 149 40 [l0, l1] [] := q_invv t149_37 mo149 K8_177 mj145 rfl rfl rfl rfl (Nat.le_of_ble_eq_true rfl)
theorem t149_40 : decode (mb 149) 40 = .ok (.ifCond .eq 9, 3) := by decide +kernel
theorem s149_40 (d : Nat) (l0 : Value) (l1 : Value) (x : Int32) (σ : Hs) : ru d 149 40 [l0, l1] [.int x] σ = if x = 0 then ru d 149 49 [l0, l1] [] σ else ru d 149 43 [l0, l1] [] σ := q_if_eq t149_40 (by decide +kernel)
theorem t149_43 : decode (mb 149) 43 = .ok (.sipush 20004, 3) := by decide +kernel
theorem s149_43 (d : Nat) (l0 : Value) (l1 : Value) (σ : Hs) : ru d 149 43 [l0, l1] [] σ = ru d 149 46 [l0, l1] [.int 20004] σ := q_sipush t149_43 (by decide +kernel)
theorem t149_46 : decode (mb 149) 46 = .ok (.goto 4, 3) := by decide +kernel
theorem s149_46 (d : Nat) (l0 : Value) (l1 : Value) (w0 : Value) (σ : Hs) : ru d 149 46 [l0, l1] [w0] σ = ru d 149 50 [l0, l1] [w0] σ := q_goto t149_46 (by decide +kernel)
theorem t149_49 : decode (mb 149) 49 = .ok (.iconst 0, 1) := by decide +kernel
theorem s149_49 (d : Nat) (l0 : Value) (l1 : Value) (σ : Hs) : ru d 149 49 [l0, l1] [] σ = ru d 149 50 [l0, l1] [.int 0] σ := q_iconst t149_49 (by decide +kernel)
theorem t149_50 : decode (mb 149) 50 = .ok (.istore_n 1, 1) := by decide +kernel
theorem s149_50 (d : Nat) (a0 : Nat) (l1 : Value) (x : Int32) (σ : Hs) : ru d 149 50 [.ref a0, l1] [.int x] σ = ru d 149 51 [.ref a0, .int x] [] σ := q_istore_n t149_50 ⟨Nat.le_of_ble_eq_true rfl, rfl⟩ rfl
theorem t149_51 : decode (mb 149) 51 = .ok (.iload_n 1, 1) := by decide +kernel
theorem s149_51 (d : Nat) (l0 : Value) (i1 : Int32) (σ : Hs) : ru d 149 51 [l0, .int i1] [] σ = ru d 149 52 [l0, .int i1] [.int i1] σ := q_iload_n t149_51 rfl
theorem t149_52 : decode (mb 149) 52 = .ok (.ifCond .le 12, 3) := by decide +kernel
theorem s149_52 (d : Nat) (l0 : Value) (l1 : Value) (x : Int32) (σ : Hs) : ru d 149 52 [l0, l1] [.int x] σ = if x ≤ 0 then ru d 149 64 [l0, l1] [] σ else ru d 149 55 [l0, l1] [] σ := q_if_le t149_52 (by decide +kernel)
theorem t149_55 : decode (mb 149) 55 = .ok (.aload_n 0, 1) := by decide +kernel
theorem s149_55 (d : Nat) (a0 : Nat) (l1 : Value) (σ : Hs) : ru d 149 55 [.ref a0, l1] [] σ = ru d 149 56 [.ref a0, l1] [.ref a0] σ := q_aload_n t149_55 rfl
theorem t149_56 : decode (mb 149) 56 = .ok (.invokevirtual 186, 3) := by decide +kernel
theorem s149_56_o87 (d : Nat) (l0 : Value) (l1 : Value) (σ : Hs) : ru d 149 56 [l0, l1] [.ref 87] σ = kont (callD d 150 [.ref 87] σ) d 149 59 [l0, l1] [] := q_invv t149_56 mo149 K8_186 mj150 rfl rfl rfl rfl (Nat.le_of_ble_eq_true rfl)
theorem t149_59 : decode (mb 149) 59 = .ok (.aload_n 0, 1) := by decide +kernel
theorem s149_59 (d : Nat) (a0 : Nat) (l1 : Value) (σ : Hs) : ru d 149 59 [.ref a0, l1] [] σ = ru d 149 60 [.ref a0, l1] [.ref a0] σ := q_aload_n t149_59 rfl
theorem t149_60 : decode (mb 149) 60 = .ok (.iload_n 1, 1) := by decide +kernel
theorem s149_60 (d : Nat) (l0 : Value) (i1 : Int32) (w0 : Value) (σ : Hs) : ru d 149 60 [l0, .int i1] [w0] σ = ru d 149 61 [l0, .int i1] [.int i1, w0] σ := q_iload_n t149_60 rfl
theorem t149_61 : decode (mb 149) 61 = .ok (.invokevirtual 180, 3) := by decide +kernel
theorem s149_61_o87 (d : Nat) (l0 : Value) (l1 : Value) (v1 : Value) (σ : Hs) : ru d 149 61 [l0, l1] [v1, .ref 87] σ = kont (callD d 146 [.ref 87, v1] σ) d 149 64 [l0, l1] [] := q_invv t149_61 mo149 K8_180 mj146 rfl rfl rfl rfl (Nat.le_of_ble_eq_true rfl)
theorem t149_64 : decode (mb 149) 64 = .ok (.return_, 1) := by decide +kernel
theorem s149_64 (d : Nat) (l0 : Value) (l1 : Value) (σ : Hs) : ru d 149 64 [l0, l1] [] σ = some (none, σ) := q_vret t149_64 mr149
theorem c149 (d : Nat) (x0 : Nat) (σ : Hs) : callD (d + 1) 149 [.ref x0] σ = ru d 149 0 [.ref x0, uu] [] σ := callD_ru ml149 rfl rfl (Nat.le_of_ble_eq_true rfl)
-- 150: Model.sum()V
theorem t150_0 : decode (mb 150) 0 = .ok (.aload_n 0, 1) := by decide +kernel
theorem s150_0 (d : Nat) (a0 : Nat) (l1 : Value) (σ : Hs) : ru d 150 0 [.ref a0, l1] [] σ = ru d 150 1 [.ref a0, l1] [.ref a0] σ := q_aload_n t150_0 rfl
theorem t150_1 : decode (mb 150) 1 = .ok (.invokevirtual 189, 3) := by decide +kernel
theorem s150_1_o87 (d : Nat) (l0 : Value) (l1 : Value) (σ : Hs) : ru d 150 1 [l0, l1] [.ref 87] σ = kont (callD d 151 [.ref 87] σ) d 150 4 [l0, l1] [] := q_invv t150_1 mo150 K8_189 mj151 rfl rfl rfl rfl (Nat.le_of_ble_eq_true rfl)
theorem t150_4 : decode (mb 150) 4 = .ok (.aload_n 0, 1) := by decide +kernel
theorem s150_4 (d : Nat) (a0 : Nat) (l1 : Value) (σ : Hs) : ru d 150 4 [.ref a0, l1] [] σ = ru d 150 5 [.ref a0, l1] [.ref a0] σ := q_aload_n t150_4 rfl
theorem t150_5 : decode (mb 150) 5 = .ok (.bipush 43, 2) := by decide +kernel
theorem s150_5 (d : Nat) (l0 : Value) (l1 : Value) (w0 : Value) (σ : Hs) : ru d 150 5 [l0, l1] [w0] σ = ru d 150 7 [l0, l1] [.int 43, w0] σ := q_bipush t150_5 (by decide +kernel)
theorem t150_7 : decode (mb 150) 7 = .ok (.invokevirtual 177, 3) := by decide +kernel
theorem s150_7_o87 (d : Nat) (l0 : Value) (l1 : Value) (v1 : Value) (σ : Hs) : ru d 150 7 [l0, l1] [v1, .ref 87] σ = kont (callD d 145 [.ref 87, v1] σ) d 150 10 [l0, l1] [] := q_invv t150_7 mo150 K8_177 mj145 rfl rfl rfl rfl (Nat.le_of_ble_eq_true rfl)
theorem t150_10 : decode (mb 150) 10 = .ok (.ifCond .eq 9, 3) := by decide +kernel
theorem s150_10 (d : Nat) (l0 : Value) (l1 : Value) (x : Int32) (σ : Hs) : ru d 150 10 [l0, l1] [.int x] σ = if x = 0 then ru d 150 19 [l0, l1] [] σ else ru d 150 13 [l0, l1] [] σ := q_if_eq t150_10 (by decide +kernel)
theorem t150_13 : decode (mb 150) 13 = .ok (.sipush 20005, 3) := by decide +kernel
theorem s150_13 (d : Nat) (l0 : Value) (l1 : Value) (σ : Hs) : ru d 150 13 [l0, l1] [] σ = ru d 150 16 [l0, l1] [.int 20005] σ := q_sipush t150_13 (by decide +kernel)
theorem t150_16 : decode (mb 150) 16 = .ok (.goto 19, 3) := by decide +kernel
theorem s150_16 (d : Nat) (l0 : Value) (l1 : Value) (w0 : Value) (σ : Hs) : ru d 150 16 [l0, l1] [w0] σ = ru d 150 35 [l0, l1] [w0] σ := q_goto t150_16 (by decide +kernel)
theorem t150_19 : decode (mb 150) 19 = .ok (.aload_n 0, 1) := by decide +kernel
theorem s150_19 (d : Nat) (a0 : Nat) (l1 : Value) (σ : Hs) : ru d 150 19 [.ref a0, l1] [] σ = ru d 150 20 [.ref a0, l1] [.ref a0] σ := q_aload_n t150_19 rfl
theorem t150_20 : decode (mb 150) 20 = .ok (.bipush 45, 2) := by decide +kernel
theorem s150_20 (d : Nat) (l0 : Value) (l1 : Value) (w0 : Value) (σ : Hs) : ru d 150 20 [l0, l1] [w0] σ = ru d 150 22 [l0, l1] [.int 45, w0] σ := q_bipush t150_20 (by decide +kernel)
theorem t150_22 : decode (mb 150) 22 = .ok (.invokevirtual 177, 3) := by decide +kernel
theorem s150_22_o87 (d : Nat) (l0 : Value) (l1 : Value) (v1 : Value) (σ : Hs) : ru d 150 22 [l0, l1] [v1, .ref 87] σ = kont (callD d 145 [.ref 87, v1] σ) d 150 25 [l0, l1] [] := q_invv t150_22 mo150 K8_177 mj145 rfl rfl rfl rfl (Nat.le_of_ble_eq_true rfl)
theorem t150_25 : decode (mb 150) 25 = .ok (.ifCond .eq 9, 3) := by decide +kernel
theorem s150_25 (d : Nat) (l0 : Value) (l1 : Value) (x : Int32) (σ : Hs) : ru d 150 25 [l0, l1] [.int x] σ = if x = 0 then ru d 150 34 [l0, l1] [] σ else ru d 150 28 [l0, l1] [] σ := q_if_eq t150_25 (by decide +kernel)
theorem t150_28 : decode (mb 150) 28 = .ok (.sipush 20006, 3) := by decide +kernel
theorem s150_28 (d : Nat) (l0 : Value) (l1 : Value) (σ : Hs) : ru d 150 28 [l0, l1] [] σ = ru d 150 31 [l0, l1] [.int 20006] σ := q_sipush t150_28 (by decide +kernel)
theorem t150_31 : decode (mb 150) 31 = .ok (.goto 4, 3) := by decide +kernel
theorem s150_31 (d : Nat) (l0 : Value) (l1 : Value) (w0 : Value) (σ : Hs) : ru d 150 31 [l0, l1] [w0] σ = ru d 150 35 [l0, l1] [w0] σ := q_goto t150_31 (by decide +kernel)
theorem t150_34 : decode (mb 150) 34 = .ok (.iconst 0, 1) := by decide +kernel
theorem s150_34 (d : Nat) (l0 : Value) (l1 : Value) (σ : Hs) : ru d 150 34 [l0, l1] [] σ = ru d 150 35 [l0, l1] [.int 0] σ := q_iconst t150_34 (by decide +kernel)
theorem t150_35 : decode (mb 150) 35 = .ok (.istore_n 1, 1) := by decide +kernel
theorem s150_35 (d : Nat) (a0 : Nat) (l1 : Value) (x : Int32) (σ : Hs) : ru d 150 35 [.ref a0, l1] [.int x] σ = ru d 150 36 [.ref a0, .int x] [] σ := q_istore_n t150_35 ⟨Nat.le_of_ble_eq_true rfl, rfl⟩ rfl
theorem t150_36 : decode (mb 150) 36 = .ok (.iload_n 1, 1) := by decide +kernel
theorem s150_36 (d : Nat) (l0 : Value) (i1 : Int32) (σ : Hs) : ru d 150 36 [l0, .int i1] [] σ = ru d 150 37 [l0, .int i1] [.int i1] σ := q_iload_n t150_36 rfl
theorem t150_37 : decode (mb 150) 37 = .ok (.ifCond .le 47, 3) := by decide +kernel
theorem s150_37 (d : Nat) (l0 : Value) (l1 : Value) (x : Int32) (σ : Hs) : ru d 150 37 [l0, l1] [.int x] σ = if x ≤ 0 then ru d 150 84 [l0, l1] [] σ else ru d 150 40 [l0, l1] [] σ := q_if_le t150_37 (by decide +kernel)
theorem t150_40 : decode (mb 150) 40 = .ok (.aload_n 0, 1) := by decide +kernel
theorem s150_40 (d : Nat) (a0 : Nat) (l1 : Value) (σ : Hs) : ru d 150 40 [.ref a0, l1] [] σ = ru d 150 41 [.ref a0, l1] [.ref a0] σ := q_aload_n t150_40 rfl
theorem t150_41 : decode (mb 150) 41 = .ok (.invokevirtual 189, 3) := by decide +kernel
theorem s150_41_o87 (d : Nat) (l0 : Value) (l1 : Value) (σ : Hs) : ru d 150 41 [l0, l1] [.ref 87] σ = kont (callD d 151 [.ref 87] σ) d 150 44 [l0, l1] [] := q_invv t150_41 mo150 K8_189 mj151 rfl rfl rfl rfl (Nat.le_of_ble_eq_true rfl)
theorem t150_44 : decode (mb 150) 44 = .ok (.aload_n 0, 1) := by decide +kernel
theorem s150_44 (d : Nat) (a0 : Nat) (l1 : Value) (σ : Hs) : ru d 150 44 [.ref a0, l1] [] σ = ru d 150 45 [.ref a0, l1] [.ref a0] σ := q_aload_n t150_44 rfl
theorem t150_45 : decode (mb 150) 45 = .ok (.iload_n 1, 1) := by decide +kernel
theorem s150_45 (d : Nat) (l0 : Value) (i1 : Int32) (w0 : Value) (σ : Hs) : ru d 150 45 [l0, .int i1] [w0] σ = ru d 150 46 [l0, .int i1] [.int i1, w0] σ := q_iload_n t150_45 rfl
theorem t150_46 : decode (mb 150) 46 = .ok (.invokevirtual 180, 3) := by decide +kernel
theorem s150_46_o87 (d : Nat) (l0 : Value) (l1 : Value) (v1 : Value) (σ : Hs) : ru d 150 46 [l0, l1] [v1, .ref 87] σ = kont (callD d 146 [.ref 87, v1] σ) d 150 49 [l0, l1] [] := q_invv t150_46 mo150 K8_180 mj146 rfl rfl rfl rfl (Nat.le_of_ble_eq_true rfl)
theorem t150_49 : decode (mb 150) 49 = .ok (.aload_n 0, 1) := by decide +kernel
theorem s150_49 (d : Nat) (a0 : Nat) (l1 : Value) (σ : Hs) : ru d 150 49 [.ref a0, l1] [] σ = ru d 150 50 [.ref a0, l1] [.ref a0] σ := q_aload_n t150_49 rfl
theorem t150_50 : decode (mb 150) 50 = .ok (.bipush 43, 2) := by decide +kernel
theorem s150_50 (d : Nat) (l0 : Value) (l1 : Value) (w0 : Value) (σ : Hs) : ru d 150 50 [l0, l1] [w0] σ = ru d 150 52 [l0, l1] [.int 43, w0] σ := q_bipush t150_50 (by decide +kernel)
theorem t150_52 : decode (mb 150) 52 = .ok (.invokevirtual 177, 3) := by decide +kernel
theorem s150_52_o87 (d : Nat) (l0 : Value) (l1 : Value) (v1 : Value) (σ : Hs) : ru d 150 52 [l0, l1] [v1, .ref 87] σ = kont (callD d 145 [.ref 87, v1] σ) d 150 55 [l0, l1] [] := q_invv t150_52 mo150 K8_177 mj145 rfl rfl rfl rfl (Nat.le_of_ble_eq_true rfl)
theorem t150_55 : decode (mb 150) 55 = .ok (.ifCond .eq 9, 3) := by decide +kernel
theorem s150_55 (d : Nat) (l0 : Value) (l1 : Value) (x : Int32) (σ : Hs) : ru d 150 55 [l0, l1] [.int x] σ = if x = 0 then ru d 150 64 [l0, l1] [] σ else ru d 150 58 [l0, l1] [] σ := q_if_eq t150_55 (by decide +kernel)
theorem t150_58 : decode (mb 150) 58 = .ok (.sipush 20005, 3) := by decide +kernel
theorem s150_58 (d : Nat) (l0 : Value) (l1 : Value) (σ : Hs) : ru d 150 58 [l0, l1] [] σ = ru d 150 61 [l0, l1] [.int 20005] σ := q_sipush t150_58 (by decide +kernel)
theorem t150_61 : decode (mb 150) 61 = .ok (.goto 19, 3) := by decide +kernel
theorem s150_61 (d : Nat) (l0 : Value) (l1 : Value) (w0 : Value) (σ : Hs) : ru d 150 61 [l0, l1] [w0] σ = ru d 150 80 [l0, l1] [w0] σ := q_goto t150_61 (by decide +kernel)
theorem t150_64 : decode (mb 150) 64 = .ok (.aload_n 0, 1) := by decide +kernel
theorem s150_64 (d : Nat) (a0 : Nat) (l1 : Value) (σ : Hs) : ru d 150 64 [.ref a0, l1] [] σ = ru d 150 65 [.ref a0, l1] [.ref a0] σ := q_aload_n t150_64 rfl
theorem t150_65 : decode (mb 150) 65 = .ok (.bipush 45, 2) := by decide +kernel
theorem s150_65 (d : Nat) (l0 : Value) (l1 : Value) (w0 : Value) (σ : Hs) : ru d 150 65 [l0, l1] [w0] σ = ru d 150 67 [l0, l1] [.int 45, w0] σ := q_bipush t150_65 (by decide +kernel)
theorem t150_67 : decode (mb 150) 67 = .ok (.invokevirtual 177, 3) := by decide +kernel
theorem s150_67_o87 (d : Nat) (l0 : Value) (l1 : Value) (v1 : Value) (σ : Hs) : ru d 150 67 [l0, l1] [v1, .ref 87] σ = kont (callD d 145 [.ref 87, v1] σ) d 150 70 [l0, l1] [] := q_invv t150_67 mo150 K8_177 mj145 rfl rfl rfl rfl (Nat.le_of_ble_eq_true rfl)
theorem t150_70 : decode (mb 150) 70 = .ok (.ifCond .eq 9, 3) := by decide +kernel
theorem s150_70 (d : Nat) (l0 : Value) (l1 : Value) (x : Int32) (σ : Hs) : ru d 150 70 [l0, l1] [.int x] σ = if x = 0 then ru d 150 79 [l0, l1] [] σ else ru d 150 73 [l0, l1] [] σ := q_if_eq t150_70 (by decide +kernel)
theorem t150_73 : decode (mb 150) 73 = .ok (.sipush 20006, 3) := by decide +kernel
theorem s150_73 (d : Nat) (l0 : Value) (l1 : Value) (σ : Hs) : ru d 150 73 [l0, l1] [] σ = ru d 150 76 [l0, l1] [.int 20006] σ := q_sipush t150_73 (by decide +kernel)
theorem t150_76 : decode (mb 150) 76 = .ok (.goto 4, 3) := by decide +kernel
theorem s150_76 (d : Nat) (l0 : Value) (l1 : Value) (w0 : Value) (σ : Hs) : ru d 150 76 [l0, l1] [w0] σ = ru d 150 80 [l0, l1] [w0] σ := q_goto t150_76 (by decide +kernel)
theorem t150_79 : decode (mb 150) 79 = .ok (.iconst 0, 1) := by decide +kernel
theorem s150_79 (d : Nat) (l0 : Value) (l1 : Value) (σ : Hs) : ru d 150 79 [l0, l1] [] σ = ru d 150 80 [l0, l1] [.int 0] σ := q_iconst t150_79 (by decide +kernel)
theorem t150_80 : decode (mb 150) 80 = .ok (.istore_n 1, 1) := by decide +kernel
theorem s150_80 (d : Nat) (a0 : Nat) (l1 : Value) (x : Int32) (σ : Hs) : ru d 150 80 [.ref a0, l1] [.int x] σ = ru d 150 81 [.ref a0, .int x] [] σ := q_istore_n t150_80 ⟨Nat.le_of_ble_eq_true rfl, rfl⟩ rfl
theorem t150_81 : decode (mb 150) 81 = .ok (.goto (-45), 3) := by decide +kernel
theorem s150_81 (d : Nat) (l0 : Value) (l1 : Value) (σ : Hs) : ru d 150 81 [l0, l1] [] σ = ru d 150 36 [l0, l1] [] σ := q_goto t150_81 (by decide +kernel)
theorem t150_84 : decode (mb 150) 84 = .ok (.return_, 1) := by decide +kernel
theorem s150_84 (d : Nat) (l0 : Value) (l1 : Value) (σ : Hs) : ru d 150 84 [l0, l1] [] σ = some (none, σ) := q_vret t150_84 mr150
theorem c150 (d : Nat) (x0 : Nat) (σ : Hs) : callD (d + 1) 150 [.ref x0] σ = ru d 150 0 [.ref x0, uu] [] σ := callD_ru ml150 rfl rfl (Nat.le_of_ble_eq_true rfl)
-- 151: Model.product()V
theorem t151_0 : decode (mb 151) 0 = .ok (.aload_n 0, 1) := by decide +kernel
theorem s151_0 (d : Nat) (a0 : Nat) (l1 : Value) (σ : Hs) : ru d 151 0 [.ref a0, l1] [] σ = ru d 151 1 [.ref a0, l1] [.ref a0] σ := q_aload_n t151_0 rfl
theorem t151_1 : decode (mb 151) 1 = .ok (.invokevirtual 192, 3) := by decide +kernel
theorem s151_1_o87 (d : Nat) (l0 : Value) (l1 : Value) (σ : Hs) : ru d 151 1 [l0, l1] [.ref 87] σ = kont (callD d 153 [.ref 87] σ) d 151 4 [l0, l1] [] := q_invv t151_1 mo151 K8_192 mj153 rfl rfl rfl rfl (Nat.le_of_ble_eq_true rfl)
theorem t151_4 : decode (mb 151) 4 = .ok (.aload_n 0, 1) := by decide +kernel
theorem s151_4 (d : Nat) (a0 : Nat) (l1 : Value) (σ : Hs) : ru d 151 4 [.ref a0, l1] [] σ = ru d 151 5 [.ref a0, l1] [.ref a0] σ := q_aload_n t151_4 rfl
theorem t151_5 : decode (mb 151) 5 = .ok (.bipush 42, 2) := by decide +kernel
theorem s151_5 (d : Nat) (l0 : Value) (l1 : Value) (w0 : Value) (σ : Hs) : ru d 151 5 [l0, l1] [w0] σ = ru d 151 7 [l0, l1] [.int 42, w0] σ := q_bipush t151_5 (by decide +kernel)
theorem t151_7 : decode (mb 151) 7 = .ok (.invokevirtual 177, 3) := by decide +kernel
theorem s151_7_o87 (d : Nat) (l0 : Value) (l1 : Value) (v1 : Value) (σ : Hs) : ru d 151 7 [l0, l1] [v1, .ref 87] σ = kont (callD d 145 [.ref 87, v1] σ) d 151 10 [l0, l1] [] := q_invv t151_7 mo151 K8_177 mj145 rfl rfl rfl rfl (Nat.le_of_ble_eq_true rfl)
theorem t151_10 : decode (mb 151) 10 = .ok (.ifCond .eq 9, 3) := by decide +kernel
theorem s151_10 (d : Nat) (l0 : Value) (l1 : Value) (x : Int32) (σ : Hs) : ru d 151 10 [l0, l1] [.int x] σ = if x = 0 then ru d 151 19 [l0, l1] [] σ else ru d 151 13 [l0, l1] [] σ := q_if_eq t151_10 (by decide +kernel)
theorem t151_13 : decode (mb 151) 13 = .ok (.sipush 20007, 3) := by decide +kernel
theorem s151_13 (d : Nat) (l0 : Value) (l1 : Value) (σ : Hs) : ru d 151 13 [l0, l1] [] σ = ru d 151 16 [l0, l1] [.int 20007] σ := q_sipush t151_13 (by decide +kernel)
theorem t151_16 : decode (mb 151) 16 = .ok (.goto 34, 3) := by decide +kernel
theorem s151_16 (d : Nat) (l0 : Value) (l1 : Value) (w0 : Value) (σ : Hs) : ru d 151 16 [l0, l1] [w0] σ = ru d 151 50 [l0, l1] [w0] σ := q_goto t151_16 (by decide +kernel)
theorem t151_19 : decode (mb 151) 19 = .ok (.aload_n 0, 1) := by decide +kernel
theorem s151_19 (d : Nat) (a0 : Nat) (l1 : Value) (σ : Hs) : ru d 151 19 [.ref a0, l1] [] σ = ru d 151 20 [.ref a0, l1] [.ref a0] σ := q_aload_n t151_19 rfl
theorem t151_20 : decode (mb 151) 20 = .ok (.bipush 47, 2) := by decide +kernel
theorem s151_20 (d : Nat) (l0 : Value) (l1 : Value) (w0 : Value) (σ : Hs) : ru d 151 20 [l0, l1] [w0] σ = ru d 151 22 [l0, l1] [.int 47, w0] σ := q_bipush t151_20 (by decide +kernel)
theorem t151_22 : decode (mb 151) 22 = .ok (.invokevirtual 177, 3) := by decide +kernel
theorem s151_22_o87 (d : Nat) (l0 : Value) (l1 : Value) (v1 : Value) (σ : Hs) : ru d 151 22 [l0, l1] [v1, .ref 87] σ = kont (callD d 145 [.ref 87, v1] σ) d 151 25 [l0, l1] [] := q_invv t151_22 mo151 K8_177 mj145 rfl rfl rfl rfl (Nat.le_of_ble_eq_true rfl)
theorem t151_25 : decode (mb 151) 25 = .ok (.ifCond .eq 9, 3) := by decide +kernel
theorem s151_25 (d : Nat) (l0 : Value) (l1 : Value) (x : Int32) (σ : Hs) : ru d 151 25 [l0, l1] [.int x] σ = if x = 0 then ru d 151 34 [l0, l1] [] σ else ru d 151 28 [l0, l1] [] σ := q_if_eq t151_25 (by decide +kernel)
theorem t151_28 : decode (mb 151) 28 = .ok (.sipush 20008, 3) := by decide +kernel
theorem s151_28 (d : Nat) (l0 : Value) (l1 : Value) (σ : Hs) : ru d 151 28 [l0, l1] [] σ = ru d 151 31 [l0, l1] [.int 20008] σ := q_sipush t151_28 (by decide +kernel)
theorem t151_31 : decode (mb 151) 31 = .ok (.goto 19, 3) := by decide +kernel
theorem s151_31 (d : Nat) (l0 : Value) (l1 : Value) (w0 : Value) (σ : Hs) : ru d 151 31 [l0, l1] [w0] σ = ru d 151 50 [l0, l1] [w0] σ := q_goto t151_31 (by decide +kernel)
theorem t151_34 : decode (mb 151) 34 = .ok (.aload_n 0, 1) := by decide +kernel
theorem s151_34 (d : Nat) (a0 : Nat) (l1 : Value) (σ : Hs) : ru d 151 34 [.ref a0, l1] [] σ = ru d 151 35 [.ref a0, l1] [.ref a0] σ := q_aload_n t151_34 rfl
theorem t151_35 : decode (mb 151) 35 = .ok (.bipush 37, 2) := by decide +kernel
theorem s151_35 (d : Nat) (l0 : Value) (l1 : Value) (w0 : Value) (σ : Hs) : ru d 151 35 [l0, l1] [w0] σ = ru d 151 37 [l0, l1] [.int 37, w0] σ := q_bipush t151_35 (by decide +kernel)
theorem t151_37 : decode (mb 151) 37 = .ok (.invokevirtual 177, 3) := by decide +kernel
theorem s151_37_o87 (d : Nat) (l0 : Value) (l1 : Value) (v1 : Value) (σ : Hs) : ru d 151 37 [l0, l1] [v1, .ref 87] σ = kont (callD d 145 [.ref 87, v1] σ) d 151 40 [l0, l1] [] := q_invv t151_37 mo151 K8_177 mj145 rfl rfl rfl rfl (Nat.le_of_ble_eq_true rfl)
theorem t151_40 : decode (mb 151) 40 = .ok (.ifCond .eq 9, 3) := by decide +kernel
theorem s151_40 (d : Nat) (l0 : Value) (l1 : Value) (x : Int32) (σ : Hs) : ru d 151 40 [l0, l1] [.int x] σ = if x = 0 then ru d 151 49 [l0, l1] [] σ else ru d 151 43 [l0, l1] [] σ := q_if_eq t151_40 (by decide +kernel)
theorem t151_43 : decode (mb 151) 43 = .ok (.sipush 20009, 3) := by decide +kernel
theorem s151_43 (d : Nat) (l0 : Value) (l1 : Value) (σ : Hs) : ru d 151 43 [l0, l1] [] σ = ru d 151 46 [l0, l1] [.int 20009] σ := q_sipush t151_43 (by decide +kernel)
theorem t151_46 : decode (mb 151) 46 = .ok (.goto 4, 3) := by decide +kernel
theorem s151_46 (d : Nat) (l0 : Value) (l1 : Value) (w0 : Value) (σ : Hs) : ru d 151 46 [l0, l1] [w0] σ = ru d 151 50 [l0, l1] [w0] σ := q_goto t151_46 (by decide +kernel)
theorem t151_49 : decode (mb 151) 49 = .ok (.iconst 0, 1) := by decide +kernel
theorem s151_49 (d : Nat) (l0 : Value) (l1 : Value) (σ : Hs) : ru d 151 49 [l0, l1] [] σ = ru d 151 50 [l0, l1] [.int 0] σ := q_iconst t151_49 (by decide +kernel)
theorem t151_50 : decode (mb 151) 50 = .ok (.istore_n 1, 1) := by decide +kernel
theorem s151_50 (d : Nat) (a0 : Nat) (l1 : Value) (x : Int32) (σ : Hs) : ru d 151 50 [.ref a0, l1] [.int x] σ = ru d 151 51 [.ref a0, .int x] [] σ := q_istore_n t151_50 ⟨Nat.le_of_ble_eq_true rfl, rfl⟩ rfl
theorem t151_51 : decode (mb 151) 51 = .ok (.iload_n 1, 1) := by decide +kernel
theorem s151_51 (d : Nat) (l0 : Value) (i1 : Int32) (σ : Hs) : ru d 151 51 [l0, .int i1] [] σ = ru d 151 52 [l0, .int i1] [.int i1] σ := q_iload_n t151_51 rfl
theorem t151_52 : decode (mb 151) 52 = .ok (.ifCond .le 62, 3) := by decide +kernel
theorem s151_52 (d : Nat) (l0 : Value) (l1 : Value) (x : Int32) (σ : Hs) : ru d 151 52 [l0, l1] [.int x] σ = if x ≤ 0 then ru d 151 114 [l0, l1] [] σ else ru d 151 55 [l0, l1] [] σ := q_if_le t151_52 (by decide +kernel)
theorem t151_55 : decode (mb 151) 55 = .ok (.aload_n 0, 1) := by decide +kernel
theorem s151_55 (d : Nat) (a0 : Nat) (l1 : Value) (σ : Hs) : ru d 151 55 [.ref a0, l1] [] σ = ru d 151 56 [.ref a0, l1] [.ref a0] σ := q_aload_n t151_55 rfl
theorem t151_56 : decode (mb 151) 56 = .ok (.invokevirtual 192, 3) := by decide +kernel
theorem s151_56_o87 (d : Nat) (l0 : Value) (l1 : Value) (σ : Hs) : ru d 151 56 [l0, l1] [.ref 87] σ = kont (callD d 153 [.ref 87] σ) d 151 59 [l0, l1] [] := q_invv t151_56 mo151 K8_192 mj153 rfl rfl rfl rfl (Nat.le_of_ble_eq_true rfl)
theorem t151_59 : decode (mb 151) 59 = .ok (.aload_n 0, 1) := by decide +kernel
theorem s151_59 (d : Nat) (a0 : Nat) (l1 : Value) (σ : Hs) : ru d 151 59 [.ref a0, l1] [] σ = ru d 151 60 [.ref a0, l1] [.ref a0] σ := q_aload_n t151_59 rfl
theorem t151_60 : decode (mb 151) 60 = .ok (.iload_n 1, 1) := by decide +kernel
theorem s151_60 (d : Nat) (l0 : Value) (i1 : Int32) (w0 : Value) (σ : Hs) : ru d 151 60 [l0, .int i1] [w0] σ = ru d 151 61 [l0, .int i1] [.int i1, w0] σ := q_iload_n t151_60 rfl
theorem t151_61 : decode (mb 151) 61 = .ok (.invokevirtual 180, 3) := by decide +kernel
theorem s151_61_o87 (d : Nat) (l0 : Value) (l1 : Value) (v1 : Value) (σ : Hs) : ru d 151 61 [l0, l1] [v1, .ref 87] σ = kont (callD d 146 [.ref 87, v1] σ) d 151 64 [l0, l1] [] := q_invv t151_61 mo151 K8_180 mj146 rfl rfl rfl rfl (Nat.le_of_ble_eq_true rfl)
theorem t151_64 : decode (mb 151) 64 = .ok (.aload_n 0, 1) := by decide +kernel
theorem s151_64 (d : Nat) (a0 : Nat) (l1 : Value) (σ : Hs) : ru d 151 64 [.ref a0, l1] [] σ = ru d 151 65 [.ref a0, l1] [.ref a0] σ := q_aload_n t151_64 rfl
theorem t151_65 : decode (mb 151) 65 = .ok (.bipush 42, 2) := by decide +kernel
theorem s151_65 (d : Nat) (l0 : Value) (l1 : Value) (w0 : Value) (σ : Hs) : ru d 151 65 [l0, l1] [w0] σ = ru d 151 67 [l0, l1] [.int 42, w0] σ := q_bipush t151_65 (by decide +kernel)
theorem t151_67 : decode (mb 151) 67 = .ok (.invokevirtual 177, 3) := by decide +kernel
theorem s151_67_o87 (d : Nat) (l0 : Value) (l1 : Value) (v1 : Value) (σ : Hs) : ru d 151 67 [l0, l1] [v1, .ref 87] σ = kont (callD d 145 [.ref 87, v1] σ) d 151 70 [l0, l1] [] := q_invv t151_67 mo151 K8_177 mj145 rfl rfl rfl rfl (Nat.le_of_ble_eq_true rfl)
theorem t151_70 : decode (mb 151) 70 = .ok (.ifCond .eq 9, 3) := by decide +kernel
theorem s151_70 (d : Nat) (l0 : Value) (l1 : Value) (x : Int32) (σ : Hs) : ru d 151 70 [l0, l1] [.int x] σ = if x = 0 then ru d 151 79 [l0, l1] [] σ else ru d 151 73 [l0, l1] [] σ := q_if_eq t151_70 (by decide +kernel)
theorem t151_73 : decode (mb 151) 73 = .ok (.sipush 20007, 3) := by decide +kernel
theorem s151_73 (d : Nat) (l0 : Value) (l1 : Value) (σ : Hs) : ru d 151 73 [l0, l1] [] σ = ru d 151 76 [l0, l1] [.int 20007] σ := q_sipush t151_73 (by decide +kernel)
theorem t151_76 : decode (mb 151) 76 = .ok (.goto 34, 3) := by decide +kernel
theorem s151_76 (d : Nat) (l0 : Value) (l1 : Value) (w0 : Value) (σ : Hs) : ru d 151 76 [l0, l1] [w0] σ = ru d 151 110 [l0, l1] [w0] σ := q_goto t151_76 (by decide +kernel)
theorem t151_79 : decode (mb 151) 79 = .ok (.aload_n 0, 1) := by decide +kernel
theorem s151_79 (d : Nat) (a0 : Nat) (l1 : Value) (σ : Hs) : ru d 151 79 [.ref a0, l1] [] σ = ru d 151 80 [.ref a0, l1] [.ref a0] σ := q_aload_n t151_79 rfl
theorem t151_80 : decode (mb 151) 80 = .ok (.bipush 47, 2) := by decide +kernel
theorem s151_80 (d : Nat) (l0 : Value) (l1 : Value) (w0 : Value) (σ : Hs) : ru d 151 80 [l0, l1] [w0] σ = ru d 151 82 [l0, l1] [.int 47, w0] σ := q_bipush t151_80 (by decide +kernel)
theorem t151_82 : decode (mb 151) 82 = .ok (.invokevirtual 177, 3) := by decide +kernel
theorem s151_82_o87 (d : Nat) (l0 : Value) (l1 : Value) (v1 : Value) (σ : Hs) : ru d 151 82 [l0, l1] [v1, .ref 87] σ = kont (callD d 145 [.ref 87, v1] σ) d 151 85 [l0, l1] [] := q_invv t151_82 mo151 K8_177 mj145 rfl rfl rfl rfl (Nat.le_of_ble_eq_true rfl)
theorem t151_85 : decode (mb 151) 85 = .ok (.ifCond .eq 9, 3) := by decide +kernel
theorem s151_85 (d : Nat) (l0 : Value) (l1 : Value) (x : Int32) (σ : Hs) : ru d 151 85 [l0, l1] [.int x] σ = if x = 0 then ru d 151 94 [l0, l1] [] σ else ru d 151 88 [l0, l1] [] σ := q_if_eq t151_85 (by decide +kernel)
theorem t151_88 : decode (mb 151) 88 = .ok (.sipush 20008, 3) := by decide +kernel
theorem s151_88 (d : Nat) (l0 : Value) (l1 : Value) (σ : Hs) : ru d 151 88 [l0, l1] [] σ = ru d 151 91 [l0, l1] [.int 20008] σ := q_sipush t151_88 (by decide +kernel)
theorem t151_91 : decode (mb 151) 91 = .ok (.goto 19, 3) := by decide +kernel
theorem s151_91 (d : Nat) (l0 : Value) (l1 : Value) (w0 : Value) (σ : Hs) : ru d 151 91 [l0, l1] [w0] σ = ru d 151 110 [l0, l1] [w0] σ := q_goto t151_91 (by decide +kernel)
theorem t151_94 : decode (mb 151) 94 = .ok (.aload_n 0, 1) := by decide +kernel
theorem s151_94 (d : Nat) (a0 : Nat) (l1 : Value) (σ : Hs) : ru d 151 94 [.ref a0, l1] [] σ = ru d 151 95 [.ref a0, l1] [.ref a0] σ := q_aload_n t151_94 rfl
theorem t151_95 : decode (mb 151) 95 = .ok (.bipush 37, 2) := by decide +kernel
theorem s151_95 (d : Nat) (l0 : Value) (l1 : Value) (w0 : Value) (σ : Hs) : ru d 151 95 [l0, l1] [w0] σ = ru d 151 97 [l0, l1] [.int 37, w0] σ := q_bipush t151_95 (by decide +kernel)
theorem t151_97 : decode (mb 151) 97 = .ok (.invokevirtual 177, 3) := by decide +kernel
theorem s151_97_o87 (d : Nat) (l0 : Value) (l1 : Value) (v1 : Value) (σ : Hs) : ru d 151 97 [l0, l1] [v1, .ref 87] σ = kont (callD d 145 [.ref 87, v1] σ) d 151 100 [l0, l1] [] := q_invv t151_97 mo151 K8_177 mj145 rfl rfl rfl rfl (Nat.le_of_ble_eq_true rfl)
theorem t151_100 : decode (mb 151) 100 = .ok (.ifCond .eq 9, 3) := by decide +kernel
theorem s151_100 (d : Nat) (l0 : Value) (l1 : Value) (x : Int32) (σ : Hs) : ru d 151 100 [l0, l1] [.int x] σ = if x = 0 then ru d 151 109 [l0, l1] [] σ else ru d 151 103 [l0, l1] [] σ := q_if_eq t151_100 (by decide +kernel)
theorem t151_103 : decode (mb 151) 103 = .ok (.sipush 20009, 3) := by decide +kernel
theorem s151_103 (d : Nat) (l0 : Value) (l1 : Value) (σ : Hs) : ru d 151 103 [l0, l1] [] σ = ru d 151 106 [l0, l1] [.int 20009] σ := q_sipush t151_103 (by decide +kernel)
theorem t151_106 : decode (mb 151) 106 = .ok (.goto 4, 3) := by decide +kernel
theorem s151_106 (d : Nat) (l0 : Value) (l1 : Value) (w0 : Value) (σ : Hs) : ru d 151 106 [l0, l1] [w0] σ = ru d 151 110 [l0, l1] [w0] σ := q_goto t151_106 (by decide +kernel)
theorem t151_109 : decode (mb 151) 109 = .ok (.iconst 0, 1) := by decide +kernel
theorem s151_109 (d : Nat) (l0 : Value) (l1 : Value) (σ : Hs) : ru d 151 109 [l0, l1] [] σ = ru d 151 110 [l0, l1] [.int 0] σ := q_iconst t151_109 (by decide +kernel)
theorem t151_110 : decode (mb 151) 110 = .ok (.istore_n 1, 1) := by decide +kernel
theorem s151_110 (d : Nat) (a0 : Nat) (l1 : Value) (x : Int32) (σ : Hs) : ru d 151 110 [.ref a0, l1] [.int x] σ = ru d 151 111 [.ref a0, .int x] [] σ := q_istore_n t151_110 ⟨Nat.le_of_ble_eq_true rfl, rfl⟩ rfl
theorem t151_111 : decode (mb 151) 111 = .ok (.goto (-60), 3) := by decide +kernel
theorem s151_111 (d : Nat) (l0 : Value) (l1 : Value) (σ : Hs) : ru d 151 111 [l0, l1] [] σ = ru d 151 51 [l0, l1] [] σ := q_goto t151_111 (by decide +kernel)
theorem t151_114 : decode (mb 151) 114 = .ok (.return_, 1) := by decide +kernel
theorem s151_114 (d : Nat) (l0 : Value) (l1 : Value) (σ : Hs) : ru d 151 114 [l0, l1] [] σ = some (none, σ) := q_vret t151_114 mr151
theorem c151 (d : Nat) (x0 : Nat) (σ : Hs) : callD (d + 1) 151 [.ref x0] σ = ru d 151 0 [.ref x0, uu] [] σ := callD_ru ml151 rfl rfl (Nat.le_of_ble_eq_true rfl)
-- 152: Model.nameOf(I)I
theorem t152_0 : decode (mb 152) 0 = .ok (.iconst (-1), 1) := by decide +kernel
theorem s152_0 (d : Nat) (l0 : Value) (l1 : Value) (l2 : Value) (l3 : Value) (σ : Hs) : ru d 152 0 [l0, l1, l2, l3] [] σ = ru d 152 1 [l0, l1, l2, l3] [.int (-1)] σ := q_iconst t152_0 (by decide +kernel)
theorem t152_1 : decode (mb 152) 1 = .ok (.istore_n 2, 1) := by decide +kernel
theorem s152_1 (d : Nat) (l0 : Value) (i1 : Int32) (l2 : Value) (l3 : Value) (x : Int32) (σ : Hs) : ru d 152 1 [l0, .int i1, l2, l3] [.int x] σ = ru d 152 2 [l0, .int i1, .int x, l3] [] σ := q_istore_n t152_1 ⟨Nat.le_of_ble_eq_true rfl, rfl⟩ rfl
theorem t152_2 : decode (mb 152) 2 = .ok (.iconst 0, 1) := by decide +kernel
theorem s152_2 (d : Nat) (l0 : Value) (l1 : Value) (l2 : Value) (l3 : Value) (σ : Hs) : ru d 152 2 [l0, l1, l2, l3] [] σ = ru d 152 3 [l0, l1, l2, l3] [.int 0] σ := q_iconst t152_2 (by decide +kernel)
theorem t152_3 : decode (mb 152) 3 = .ok (.istore_n 3, 1) := by decide +kernel
theorem s152_3 (d : Nat) (l0 : Value) (l1 : Value) (i2 : Int32) (l3 : Value) (x : Int32) (σ : Hs) : ru d 152 3 [l0, l1, .int i2, l3] [.int x] σ = ru d 152 4 [l0, l1, .int i2, .int x] [] σ := q_istore_n t152_3 ⟨Nat.le_of_ble_eq_true rfl, rfl⟩ rfl
theorem t152_4 : decode (mb 152) 4 = .ok (.iload_n 3, 1) := by decide +kernel
theorem s152_4 (d : Nat) (l0 : Value) (l1 : Value) (l2 : Value) (i3 : Int32) (σ : Hs) : ru d 152 4 [l0, l1, l2, .int i3] [] σ = ru d 152 5 [l0, l1, l2, .int i3] [.int i3] σ := q_iload_n t152_4 rfl
theorem t152_5 : decode (mb 152) 5 = .ok (.aload_n 0, 1) := by decide +kernel
theorem s152_5 (d : Nat) (a0 : Nat) (l1 : Value) (l2 : Value) (l3 : Value) (w0 : Value) (σ : Hs) : ru d 152 5 [.ref a0, l1, l2, l3] [w0] σ = ru d 152 6 [.ref a0, l1, l2, l3] [.ref a0, w0] σ := q_aload_n t152_5 rfl
theorem t152_6 : decode (mb 152) 6 = .ok (.getfield 39, 3) := by decide +kernel
theorem s152_6_o87 (d : Nat) (l0 : Value) (l1 : Value) (l2 : Value) (l3 : Value) (w0 : Value) (σ : Hs) : ru d 152 6 [l0, l1, l2, l3] [.ref 87, w0] σ = ru d 152 9 [l0, l1, l2, l3] [.ref 95, w0] σ := q_getf t152_6 mo152 F8_39 rfl rfl
theorem t152_9 : decode (mb 152) 9 = .ok (.aload_n 0, 1) := by decide +kernel
theorem s152_9 (d : Nat) (a0 : Nat) (l1 : Value) (l2 : Value) (l3 : Value) (w0 w1 : Value) (σ : Hs) : ru d 152 9 [.ref a0, l1, l2, l3] [w0, w1] σ = ru d 152 10 [.ref a0, l1, l2, l3] [.ref a0, w0, w1] σ := q_aload_n t152_9 rfl
theorem t152_10 : decode (mb 152) 10 = .ok (.getfield 195, 3) := by decide +kernel
theorem s152_10_o87 (d : Nat) (l0 : Value) (l1 : Value) (l2 : Value) (l3 : Value) (w0 w1 : Value) (σ : Hs) : ru d 152 10 [l0, l1, l2, l3] [.ref 87, w0, w1] σ = ru d 152 13 [l0, l1, l2, l3] [.int (σ 87 11), w0, w1] σ := q_getf t152_10 mo152 F8_195 rfl rfl
theorem t152_13 : decode (mb 152) 13 = .ok (.aaload, 1) := by decide +kernel
theorem s152_13_o95 (d : Nat) (l0 : Value) (l1 : Value) (l2 : Value) (l3 : Value) (i : Int32) (w0 : Value) (σ : Hs) : ru d 152 13 [l0, l1, l2, l3] [.int i, .ref 95, w0] σ = gd (vp_in i 3) (ru d 152 14 [l0, l1, l2, l3] [.ref (cr 95 i.toNatClampNeg), w0] σ) := q_aald t152_13 (by decide +kernel) (by decide +kernel) rfl
theorem t152_14 : decode (mb 152) 14 = .ok (.invokevirtual 198, 3) := by decide +kernel
theorem s152_14_o119 (d : Nat) (l0 : Value) (l1 : Value) (l2 : Value) (l3 : Value) (w0 : Int32) (σ : Hs) : ru d 152 14 [l0, l1, l2, l3] [.ref 119, .int w0] σ = kont (callD d 216 [.ref 119] σ) d 152 17 [l0, l1, l2, l3] [.int w0] := q_invv t152_14 mo152 K8_198 mj216 rfl rfl rfl rfl (Nat.le_of_ble_eq_true rfl)
theorem s152_14_o120 (d : Nat) (l0 : Value) (l1 : Value) (l2 : Value) (l3 : Value) (w0 : Int32) (σ : Hs) : ru d 152 14 [l0, l1, l2, l3] [.ref 120, .int w0] σ = kont (callD d 216 [.ref 120] σ) d 152 17 [l0, l1, l2, l3] [.int w0] := q_invv t152_14 mo152 K8_198 mj216 rfl rfl rfl rfl (Nat.le_of_ble_eq_true rfl)
theorem s152_14_o121 (d : Nat) (l0 : Value) (l1 : Value) (l2 : Value) (l3 : Value) (w0 : Int32) (σ : Hs) : ru d 152 14 [l0, l1, l2, l3] [.ref 121, .int w0] σ = kont (callD d 216 [.ref 121] σ) d 152 17 [l0, l1, l2, l3] [.int w0] := q_invv t152_14 mo152 K8_198 mj216 rfl rfl rfl rfl (Nat.le_of_ble_eq_true rfl)
theorem t152_17 : decode (mb 152) 17 = .ok (.if_icmp .ge 32, 3) := by decide +kernel
theorem s152_17 (d : Nat) (l0 : Value) (l1 : Value) (l2 : Value) (l3 : Value) (x y : Int32) (σ : Hs) : ru d 152 17 [l0, l1, l2, l3] [.int y, .int x] σ = if y ≤ x then ru d 152 49 [l0, l1, l2, l3] [] σ else ru d 152 20 [l0, l1, l2, l3] [] σ := q_ic_ge t152_17 (by decide +kernel)
theorem t152_20 : decode (mb 152) 20 = .ok (.aload_n 0, 1) := by decide +kernel
theorem s152_20 (d : Nat) (a0 : Nat) (l1 : Value) (l2 : Value) (l3 : Value) (σ : Hs) : ru d 152 20 [.ref a0, l1, l2, l3] [] σ = ru d 152 21 [.ref a0, l1, l2, l3] [.ref a0] σ := q_aload_n t152_20 rfl
theorem t152_21 : decode (mb 152) 21 = .ok (.getfield 39, 3) := by decide +kernel
theorem s152_21_o87 (d : Nat) (l0 : Value) (l1 : Value) (l2 : Value) (l3 : Value) (σ : Hs) : ru d 152 21 [l0, l1, l2, l3] [.ref 87] σ = ru d 152 24 [l0, l1, l2, l3] [.ref 95] σ := q_getf t152_21 mo152 F8_39 rfl rfl
theorem t152_24 : decode (mb 152) 24 = .ok (.aload_n 0, 1) := by decide +kernel
theorem s152_24 (d : Nat) (a0 : Nat) (l1 : Value) (l2 : Value) (l3 : Value) (w0 : Value) (σ : Hs) : ru d 152 24 [.ref a0, l1, l2, l3] [w0] σ = ru d 152 25 [.ref a0, l1, l2, l3] [.ref a0, w0] σ := q_aload_n t152_24 rfl
theorem t152_25 : decode (mb 152) 25 = .ok (.getfield 195, 3) := by decide +kernel
theorem s152_25_o87 (d : Nat) (l0 : Value) (l1 : Value) (l2 : Value) (l3 : Value) (w0 : Value) (σ : Hs) : ru d 152 25 [l0, l1, l2, l3] [.ref 87, w0] σ = ru d 152 28 [l0, l1, l2, l3] [.int (σ 87 11), w0] σ := q_getf t152_25 mo152 F8_195 rfl rfl
theorem t152_28 : decode (mb 152) 28 = .ok (.aaload, 1) := by decide +kernel
theorem s152_28_o95 (d : Nat) (l0 : Value) (l1 : Value) (l2 : Value) (l3 : Value) (i : Int32) (σ : Hs) : ru d 152 28 [l0, l1, l2, l3] [.int i, .ref 95] σ = gd (vp_in i 3) (ru d 152 29 [l0, l1, l2, l3] [.ref (cr 95 i.toNatClampNeg)] σ) := q_aald t152_28 (by decide +kernel) (by decide +kernel) rfl
theorem t152_29 : decode (mb 152) 29 = .ok (.iload_n 3, 1) := by decide +kernel
theorem s152_29 (d : Nat) (l0 : Value) (l1 : Value) (l2 : Value) (i3 : Int32) (w0 : Value) (σ : Hs) : ru d 152 29 [l0, l1, l2, .int i3] [w0] σ = ru d 152 30 [l0, l1, l2, .int i3] [.int i3, w0] σ := q_iload_n t152_29 rfl
theorem t152_30 : decode (mb 152) 30 = .ok (.invokevirtual 201, 3) := by decide +kernel
theorem s152_30_o119 (d : Nat) (l0 : Value) (l1 : Value) (l2 : Value) (l3 : Value) (v1 : Value) (σ : Hs) : ru d 152 30 [l0, l1, l2, l3] [v1, .ref 119] σ = kont (callD d 226 [.ref 119, v1] σ) d 152 33 [l0, l1, l2, l3] [] := q_invv t152_30 mo152 K8_201 mj226 rfl rfl rfl rfl (Nat.le_of_ble_eq_true rfl)
theorem s152_30_o120 (d : Nat) (l0 : Value) (l1 : Value) (l2 : Value) (l3 : Value) (v1 : Value) (σ : Hs) : ru d 152 30 [l0, l1, l2, l3] [v1, .ref 120] σ = kont (callD d 226 [.ref 120, v1] σ) d 152 33 [l0, l1, l2, l3] [] := q_invv t152_30 mo152 K8_201 mj226 rfl rfl rfl rfl (Nat.le_of_ble_eq_true rfl)
theorem s152_30_o121 (d : Nat) (l0 : Value) (l1 : Value) (l2 : Value) (l3 : Value) (v1 : Value) (σ : Hs) : ru d 152 30 [l0, l1, l2, l3] [v1, .ref 121] σ = kont (callD d 226 [.ref 121, v1] σ) d 152 33 [l0, l1, l2, l3] [] := q_invv t152_30 mo152 K8_201 mj226 rfl rfl rfl rfl (Nat.le_of_ble_eq_true rfl)
theorem t152_33 : decode (mb 152) 33 = .ok (.iload_n 1, 1) := by decide +kernel
theorem s152_33 (d : Nat) (l0 : Value) (i1 : Int32) (l2 : Value) (l3 : Value) (w0 : Value) (σ : Hs) : ru d 152 33 [l0, .int i1, l2, l3] [w0] σ = ru d 152 34 [l0, .int i1, l2, l3] [.int i1, w0] σ := q_iload_n t152_33 rfl
theorem t152_34 : decode (mb 152) 34 = .ok (.if_icmp .ne 7, 3) := by decide +kernel
theorem s152_34 (d : Nat) (l0 : Value) (l1 : Value) (l2 : Value) (l3 : Value) (x y : Int32) (σ : Hs) : ru d 152 34 [l0, l1, l2, l3] [.int y, .int x] σ = if x = y then ru d 152 37 [l0, l1, l2, l3] [] σ else ru d 152 41 [l0, l1, l2, l3] [] σ := q_ic_ne t152_34 (by decide +kernel)
theorem t152_37 : decode (mb 152) 37 = .ok (.iload_n 3, 1) := by decide +kernel
theorem s152_37 (d : Nat) (l0 : Value) (l1 : Value) (l2 : Value) (i3 : Int32) (σ : Hs) : ru d 152 37 [l0, l1, l2, .int i3] [] σ = ru d 152 38 [l0, l1, l2, .int i3] [.int i3] σ := q_iload_n t152_37 rfl
theorem t152_38 : decode (mb 152) 38 = .ok (.goto 4, 3) := by decide +kernel
theorem s152_38 (d : Nat) (l0 : Value) (l1 : Value) (l2 : Value) (l3 : Value) (w0 : Value) (σ : Hs) : ru d 152 38 [l0, l1, l2, l3] [w0] σ = ru d 152 42 [l0, l1, l2, l3] [w0] σ := q_goto t152_38 (by decide +kernel)
theorem t152_41 : decode (mb 152) 41 = .ok (.iload_n 2, 1) := by decide +kernel
theorem s152_41 (d : Nat) (l0 : Value) (l1 : Value) (i2 : Int32) (l3 : Value) (σ : Hs) : ru d 152 41 [l0, l1, .int i2, l3] [] σ = ru d 152 42 [l0, l1, .int i2, l3] [.int i2] σ := q_iload_n t152_41 rfl
theorem t152_42 : decode (mb 152) 42 = .ok (.istore_n 2, 1) := by decide +kernel
theorem s152_42 (d : Nat) (l0 : Value) (i1 : Int32) (l2 : Value) (l3 : Value) (x : Int32) (σ : Hs) : ru d 152 42 [l0, .int i1, l2, l3] [.int x] σ = ru d 152 43 [l0, .int i1, .int x, l3] [] σ := q_istore_n t152_42 ⟨Nat.le_of_ble_eq_true rfl, rfl⟩ rfl
theorem t152_43 : decode (mb 152) 43 = .ok (.iinc 3 1, 3) := by decide +kernel
theorem s152_43 (d : Nat) (l0 : Value) (l1 : Value) (i2 : Int32) (i3 : Int32) (σ : Hs) : ru d 152 43 [l0, l1, .int i2, .int i3] [] σ = ru d 152 46 [l0, l1, .int i2, .int (i3 + 1)] [] σ := q_iinc t152_43 ⟨Nat.le_of_ble_eq_true rfl, rfl⟩ rfl (by decide +kernel) rfl
theorem t152_46 : decode (mb 152) 46 = .ok (.goto (-42), 3) := by decide +kernel
theorem s152_46 (d : Nat) (l0 : Value) (l1 : Value) (l2 : Value) (l3 : Value) (σ : Hs) : ru d 152 46 [l0, l1, l2, l3] [] σ = ru d 152 4 [l0, l1, l2, l3] [] σ := q_goto t152_46 (by decide +kernel)
theorem t152_49 : decode (mb 152) 49 = .ok (.iload_n 2, 1) := by decide +kernel
theorem s152_49 (d : Nat) (l0 : Value) (l1 : Value) (i2 : Int32) (l3 : Value) (σ : Hs) : ru d 152 49 [l0, l1, .int i2, l3] [] σ = ru d 152 50 [l0, l1, .int i2, l3] [.int i2] σ := q_iload_n t152_49 rfl
theorem t152_50 : decode (mb 152) 50 = .ok (.ireturn, 1) := by decide +kernel
theorem s152_50 (d : Nat) (l0 : Value) (l1 : Value) (l2 : Value) (l3 : Value) (x : Int32) (σ : Hs) : ru d 152 50 [l0, l1, l2, l3] [.int x] σ = some (some (.int x), σ) := q_ireti t152_50 mr152
theorem c152 (d : Nat) (x0 : Nat) (x1 : Int32) (σ : Hs) : callD (d + 1) 152 [.ref x0, .int x1] σ = ru d 152 0 [.ref x0, .int x1, uu, uu] [] σ := callD_ru ml152 rfl rfl (Nat.le_of_ble_eq_true rfl)
-- 153: Model.one()V
theorem t153_0 : decode (mb 153) 0 = .ok (.aload_n 0, 1) := by decide +kernel
theorem s153_0 (d : Nat) (a0 : Nat) (l1 : Value) (l2 : Value) (l3 : Value) (σ : Hs) : ru d 153 0 [.ref a0, l1, l2, l3] [] σ = ru d 153 1 [.ref a0, l1, l2, l3] [.ref a0] σ := q_aload_n t153_0 rfl
theorem t153_1 : decode (mb 153) 1 = .ok (.invokevirtual 167, 3) := by decide +kernel
theorem s153_1_o87 (d : Nat) (l0 : Value) (l1 : Value) (l2 : Value) (l3 : Value) (σ : Hs) : ru d 153 1 [l0, l1, l2, l3] [.ref 87] σ = kont (callD d 144 [.ref 87] σ) d 153 4 [l0, l1, l2, l3] [] := q_invv t153_1 mo153 K8_167 mj144 rfl rfl rfl rfl (Nat.le_of_ble_eq_true rfl)
theorem t153_4 : decode (mb 153) 4 = .ok (.istore_n 1, 1) := by decide +kernel
theorem s153_4 (d : Nat) (a0 : Nat) (l1 : Value) (l2 : Value) (l3 : Value) (x : Int32) (σ : Hs) : ru d 153 4 [.ref a0, l1, l2, l3] [.int x] σ = ru d 153 5 [.ref a0, .int x, l2, l3] [] σ := q_istore_n t153_4 ⟨Nat.le_of_ble_eq_true rfl, rfl⟩ rfl
theorem t153_5 : decode (mb 153) 5 = .ok (.iload_n 1, 1) := by decide +kernel
theorem s153_5 (d : Nat) (l0 : Value) (i1 : Int32) (l2 : Value) (l3 : Value) (σ : Hs) : ru d 153 5 [l0, .int i1, l2, l3] [] σ = ru d 153 6 [l0, .int i1, l2, l3] [.int i1] σ := q_iload_n t153_5 rfl
theorem t153_6 : decode (mb 153) 6 = .ok (.bipush 33, 2) := by decide +kernel
theorem s153_6 (d : Nat) (l0 : Value) (l1 : Value) (l2 : Value) (l3 : Value) (w0 : Value) (σ : Hs) : ru d 153 6 [l0, l1, l2, l3] [w0] σ = ru d 153 8 [l0, l1, l2, l3] [.int 33, w0] σ := q_bipush t153_6 (by decide +kernel)
theorem t153_8 : decode (mb 153) 8 = .ok (.if_icmp .eq 9, 3) := by decide +kernel
theorem s153_8 (d : Nat) (l0 : Value) (l1 : Value) (l2 : Value) (l3 : Value) (x y : Int32) (σ : Hs) : ru d 153 8 [l0, l1, l2, l3] [.int y, .int x] σ = if x = y then ru d 153 17 [l0, l1, l2, l3] [] σ else ru d 153 11 [l0, l1, l2, l3] [] σ := q_ic_eq t153_8 (by decide +kernel)
theorem t153_11 : decode (mb 153) 11 = .ok (.iload_n 1, 1) := by decide +kernel
theorem s153_11 (d : Nat) (l0 : Value) (i1 : Int32) (l2 : Value) (l3 : Value) (σ : Hs) : ru d 153 11 [l0, .int i1, l2, l3] [] σ = ru d 153 12 [l0, .int i1, l2, l3] [.int i1] σ := q_iload_n t153_11 rfl
theorem t153_12 : decode (mb 153) 12 = .ok (.bipush 40, 2) := by decide +kernel
theorem s153_12 (d : Nat) (l0 : Value) (l1 : Value) (l2 : Value) (l3 : Value) (w0 : Value) (σ : Hs) : ru d 153 12 [l0, l1, l2, l3] [w0] σ = ru d 153 14 [l0, l1, l2, l3] [.int 40, w0] σ := q_bipush t153_12 (by decide +kernel)
theorem t153_14 : decode (mb 153) 14 = .ok (.if_icmp .ne 102, 3) := by decide +kernel
theorem s153_14 (d : Nat) (l0 : Value) (l1 : Value) (l2 : Value) (l3 : Value) (x y : Int32) (σ : Hs) : ru d 153 14 [l0, l1, l2, l3] [.int y, .int x] σ = if x = y then ru d 153 17 [l0, l1, l2, l3] [] σ else ru d 153 116 [l0, l1, l2, l3] [] σ := q_ic_ne t153_14 (by decide +kernel)
theorem t153_17 : decode (mb 153) 17 = .ok (.aload_n 0, 1) := by decide +kernel
theorem s153_17 (d : Nat) (a0 : Nat) (l1 : Value) (l2 : Value) (l3 : Value) (σ : Hs) : ru d 153 17 [.ref a0, l1, l2, l3] [] σ = ru d 153 18 [.ref a0, l1, l2, l3] [.ref a0] σ := q_aload_n t153_17 rfl
theorem t153_18 : decode (mb 153) 18 = .ok (.aload_n 0, 1) := by decide +kernel
theorem s153_18 (d : Nat) (a0 : Nat) (l1 : Value) (l2 : Value) (l3 : Value) (w0 : Value) (σ : Hs) : ru d 153 18 [.ref a0, l1, l2, l3] [w0] σ = ru d 153 19 [.ref a0, l1, l2, l3] [.ref a0, w0] σ := q_aload_n t153_18 rfl
theorem t153_19 : decode (mb 153) 19 = .ok (.getfield 205, 3) := by decide +kernel
theorem s153_19_o87 (d : Nat) (l0 : Value) (l1 : Value) (l2 : Value) (l3 : Value) (w0 : Value) (σ : Hs) : ru d 153 19 [l0, l1, l2, l3] [.ref 87, w0] σ = ru d 153 22 [l0, l1, l2, l3] [.int (σ 87 10), w0] σ := q_getf t153_19 mo153 F8_205 rfl rfl
theorem t153_22 : decode (mb 153) 22 = .ok (.iconst 5, 1) := by decide +kernel
theorem s153_22 (d : Nat) (l0 : Value) (l1 : Value) (l2 : Value) (l3 : Value) (w0 w1 : Value) (σ : Hs) : ru d 153 22 [l0, l1, l2, l3] [w0, w1] σ = ru d 153 23 [l0, l1, l2, l3] [.int 5, w0, w1] σ := q_iconst t153_22 (by decide +kernel)
theorem t153_23 : decode (mb 153) 23 = .ok (.if_icmp .ne 7, 3) := by decide +kernel
theorem s153_23 (d : Nat) (l0 : Value) (l1 : Value) (l2 : Value) (l3 : Value) (x y : Int32) (w0 : Value) (σ : Hs) : ru d 153 23 [l0, l1, l2, l3] [.int y, .int x, w0] σ = if x = y then ru d 153 26 [l0, l1, l2, l3] [w0] σ else ru d 153 30 [l0, l1, l2, l3] [w0] σ := q_ic_ne t153_23 (by decide +kernel)
theorem t153_26 : decode (mb 153) 26 = .ok (.iconst 1, 1) := by decide +kernel
theorem s153_26 (d : Nat) (l0 : Value) (l1 : Value) (l2 : Value) (l3 : Value) (w0 : Value) (σ : Hs) : ru d 153 26 [l0, l1, l2, l3] [w0] σ = ru d 153 27 [l0, l1, l2, l3] [.int 1, w0] σ := q_iconst t153_26 (by decide +kernel)
theorem t153_27 : decode (mb 153) 27 = .ok (.goto 4, 3) := by decide +kernel
theorem s153_27 (d : Nat) (l0 : Value) (l1 : Value) (l2 : Value) (l3 : Value) (w0 w1 : Value) (σ : Hs) : ru d 153 27 [l0, l1, l2, l3] [w0, w1] σ = ru d 153 31 [l0, l1, l2, l3] [w0, w1] σ := q_goto t153_27 (by decide +kernel)
theorem t153_30 : decode (mb 153) 30 = .ok (.iconst 0, 1) := by decide +kernel
theorem s153_30 (d : Nat) (l0 : Value) (l1 : Value) (l2 : Value) (l3 : Value) (w0 : Value) (σ : Hs) : ru d 153 30 [l0, l1, l2, l3] [w0] σ = ru d 153 31 [l0, l1, l2, l3] [.int 0, w0] σ := q_iconst t153_30 (by decide +kernel)
theorem t153_31 : decode (mb 153) 31 = .ok (.putfield 159, 3) := by decide +kernel
theorem s153_31_o87 (d : Nat) (l0 : Value) (l1 : Value) (l2 : Value) (l3 : Value) (x : Int32) (hx : isB x) (σ : Hs) : ru d 153 31 [l0, l1, l2, l3] [.int x, .ref 87] σ = ru d 153 34 [l0, l1, l2, l3] [] (up2 σ 87 12 x) := q_putz t153_31 mo153 F8_159 (by decide +kernel) rfl rfl hx
theorem t153_34 : decode (mb 153) 34 = .ok (.aload_n 0, 1) := by decide +kernel
theorem s153_34 (d : Nat) (a0 : Nat) (l1 : Value) (l2 : Value) (l3 : Value) (σ : Hs) : ru d 153 34 [.ref a0, l1, l2, l3] [] σ = ru d 153 35 [.ref a0, l1, l2, l3] [.ref a0] σ := q_aload_n t153_34 rfl
theorem t153_35 : decode (mb 153) 35 = .ok (.getfield 159, 3) := by decide +kernel
theorem s153_35_o87 (d : Nat) (l0 : Value) (l1 : Value) (l2 : Value) (l3 : Value) (σ : Hs) : ru d 153 35 [l0, l1, l2, l3] [.ref 87] σ = ru d 153 38 [l0, l1, l2, l3] [.int (σ 87 12)] σ := q_getf t153_35 mo153 F8_159 rfl rfl
theorem t153_38 : decode (mb 153) 38 = .ok (.ifCond .ne 209, 3) := by decide +kernel
theorem s153_38 (d : Nat) (l0 : Value) (l1 : Value) (l2 : Value) (l3 : Value) (x : Int32) (σ : Hs) : ru d 153 38 [l0, l1, l2, l3] [.int x] σ = if x = 0 then ru d 153 41 [l0, l1, l2, l3] [] σ else ru d 153 247 [l0, l1, l2, l3] [] σ := q_if_ne t153_38 (by decide +kernel)
theorem t153_41 : decode (mb 153) 41 = .ok (.aload_n 0, 1) := by decide +kernel
theorem s153_41 (d : Nat) (a0 : Nat) (l1 : Value) (l2 : Value) (l3 : Value) (σ : Hs) : ru d 153 41 [.ref a0, l1, l2, l3] [] σ = ru d 153 42 [.ref a0, l1, l2, l3] [.ref a0] σ := q_aload_n t153_41 rfl
theorem t153_42 : decode (mb 153) 42 = .ok (.dup, 1) := by decide +kernel
theorem s153_42 (d : Nat) (l0 : Value) (l1 : Value) (l2 : Value) (l3 : Value) (x : Nat) (σ : Hs) : ru d 153 42 [l0, l1, l2, l3] [.ref x] σ = ru d 153 43 [l0, l1, l2, l3] [.ref x, .ref x] σ := q_dup t153_42 rfl
theorem t153_43 : decode (mb 153) 43 = .ok (.getfield 205, 3) := by decide +kernel
theorem s153_43_o87 (d : Nat) (l0 : Value) (l1 : Value) (l2 : Value) (l3 : Value) (w0 : Value) (σ : Hs) : ru d 153 43 [l0, l1, l2, l3] [.ref 87, w0] σ = ru d 153 46 [l0, l1, l2, l3] [.int (σ 87 10), w0] σ := q_getf t153_43 mo153 F8_205 rfl rfl
theorem t153_46 : decode (mb 153) 46 = .ok (.iconst 1, 1) := by decide +kernel
theorem s153_46 (d : Nat) (l0 : Value) (l1 : Value) (l2 : Value) (l3 : Value) (w0 w1 : Value) (σ : Hs) : ru d 153 46 [l0, l1, l2, l3] [w0, w1] σ = ru d 153 47 [l0, l1, l2, l3] [.int 1, w0, w1] σ := q_iconst t153_46 (by decide +kernel)
theorem t153_47 : decode (mb 153) 47 = .ok (.iadd, 1) := by decide +kernel
theorem s153_47 (d : Nat) (l0 : Value) (l1 : Value) (l2 : Value) (l3 : Value) (x y : Int32) (w0 : Value) (σ : Hs) : ru d 153 47 [l0, l1, l2, l3] [.int y, .int x, w0] σ = ru d 153 48 [l0, l1, l2, l3] [.int (x + y), w0] σ := q_iadd t153_47
theorem t153_48 : decode (mb 153) 48 = .ok (.putfield 205, 3) := by decide +kernel
theorem s153_48_o87 (d : Nat) (l0 : Value) (l1 : Value) (l2 : Value) (l3 : Value) (x : Int32) (σ : Hs) : ru d 153 48 [l0, l1, l2, l3] [.int x, .ref 87] σ = ru d 153 51 [l0, l1, l2, l3] [] (up2 σ 87 10 x) := q_puti t153_48 mo153 F8_205 (by decide +kernel) rfl rfl
theorem t153_51 : decode (mb 153) 51 = .ok (.aload_n 0, 1) := by decide +kernel
theorem s153_51 (d : Nat) (a0 : Nat) (l1 : Value) (l2 : Value) (l3 : Value) (σ : Hs) : ru d 153 51 [.ref a0, l1, l2, l3] [] σ = ru d 153 52 [.ref a0, l1, l2, l3] [.ref a0] σ := q_aload_n t153_51 rfl
theorem t153_52 : decode (mb 153) 52 = .ok (.dup, 1) := by decide +kernel
theorem s153_52 (d : Nat) (l0 : Value) (l1 : Value) (l2 : Value) (l3 : Value) (x : Nat) (σ : Hs) : ru d 153 52 [l0, l1, l2, l3] [.ref x] σ = ru d 153 53 [l0, l1, l2, l3] [.ref x, .ref x] σ := q_dup t153_52 rfl
theorem t153_53 : decode (mb 153) 53 = .ok (.getfield 163, 3) := by decide +kernel
theorem s153_53_o87 (d : Nat) (l0 : Value) (l1 : Value) (l2 : Value) (l3 : Value) (w0 : Value) (σ : Hs) : ru d 153 53 [l0, l1, l2, l3] [.ref 87, w0] σ = ru d 153 56 [l0, l1, l2, l3] [.int (σ 87 9), w0] σ := q_getf t153_53 mo153 F8_163 rfl rfl
theorem t153_56 : decode (mb 153) 56 = .ok (.iconst 1, 1) := by decide +kernel
theorem s153_56 (d : Nat) (l0 : Value) (l1 : Value) (l2 : Value) (l3 : Value) (w0 w1 : Value) (σ : Hs) : ru d 153 56 [l0, l1, l2, l3] [w0, w1] σ = ru d 153 57 [l0, l1, l2, l3] [.int 1, w0, w1] σ := q_iconst t153_56 (by decide +kernel)
theorem t153_57 : decode (mb 153) 57 = .ok (.iadd, 1) := by decide +kernel
theorem s153_57 (d : Nat) (l0 : Value) (l1 : Value) (l2 : Value) (l3 : Value) (x y : Int32) (w0 : Value) (σ : Hs) : ru d 153 57 [l0, l1, l2, l3] [.int y, .int x, w0] σ = ru d 153 58 [l0, l1, l2, l3] [.int (x + y), w0] σ := q_iadd t153_57
theorem t153_58 : decode (mb 153) 58 = .ok (.putfield 163, 3) := by decide +kernel
theorem s153_58_o87 (d : Nat) (l0 : Value) (l1 : Value) (l2 : Value) (l3 : Value) (x : Int32) (σ : Hs) : ru d 153 58 [l0, l1, l2, l3] [.int x, .ref 87] σ = ru d 153 61 [l0, l1, l2, l3] [] (up2 σ 87 9 x) := q_puti t153_58 mo153 F8_163 (by decide +kernel) rfl rfl
theorem t153_61 : decode (mb 153) 61 = .ok (.iload_n 1, 1) := by decide +kernel
theorem s153_61 (d : Nat) (l0 : Value) (i1 : Int32) (l2 : Value) (l3 : Value) (σ : Hs) : ru d 153 61 [l0, .int i1, l2, l3] [] σ = ru d 153 62 [l0, .int i1, l2, l3] [.int i1] σ := q_iload_n t153_61 rfl
theorem t153_62 : decode (mb 153) 62 = .ok (.bipush 33, 2) := by decide +kernel
theorem s153_62 (d : Nat) (l0 : Value) (l1 : Value) (l2 : Value) (l3 : Value) (w0 : Value) (σ : Hs) : ru d 153 62 [l0, l1, l2, l3] [w0] σ = ru d 153 64 [l0, l1, l2, l3] [.int 33, w0] σ := q_bipush t153_62 (by decide +kernel)
theorem t153_64 : decode (mb 153) 64 = .ok (.if_icmp .ne 17, 3) := by decide +kernel
theorem s153_64 (d : Nat) (l0 : Value) (l1 : Value) (l2 : Value) (l3 : Value) (x y : Int32) (σ : Hs) : ru d 153 64 [l0, l1, l2, l3] [.int y, .int x] σ = if x = y then ru d 153 67 [l0, l1, l2, l3] [] σ else ru d 153 81 [l0, l1, l2, l3] [] σ := q_ic_ne t153_64 (by decide +kernel)
theorem t153_67 : decode (mb 153) 67 = .ok (.aload_n 0, 1) := by decide +kernel
theorem s153_67 (d : Nat) (a0 : Nat) (l1 : Value) (l2 : Value) (l3 : Value) (σ : Hs) : ru d 153 67 [.ref a0, l1, l2, l3] [] σ = ru d 153 68 [.ref a0, l1, l2, l3] [.ref a0] σ := q_aload_n t153_67 rfl
theorem t153_68 : decode (mb 153) 68 = .ok (.invokevirtual 192, 3) := by decide +kernel
theorem s153_68_o87 (d : Nat) (l0 : Value) (l1 : Value) (l2 : Value) (l3 : Value) (σ : Hs) : ru d 153 68 [l0, l1, l2, l3] [.ref 87] σ = kont (callD d 153 [.ref 87] σ) d 153 71 [l0, l1, l2, l3] [] := q_invv t153_68 mo153 K8_192 mj153 rfl rfl rfl rfl (Nat.le_of_ble_eq_true rfl)
theorem t153_71 : decode (mb 153) 71 = .ok (.aload_n 0, 1) := by decide +kernel
theorem s153_71 (d : Nat) (a0 : Nat) (l1 : Value) (l2 : Value) (l3 : Value) (σ : Hs) : ru d 153 71 [.ref a0, l1, l2, l3] [] σ = ru d 153 72 [.ref a0, l1, l2, l3] [.ref a0] σ := q_aload_n t153_71 rfl
theorem t153_72 : decode (mb 153) 72 = .ok (.sipush 20010, 3) := by decide +kernel
theorem s153_72 (d : Nat) (l0 : Value) (l1 : Value) (l2 : Value) (l3 : Value) (w0 : Value) (σ : Hs) : ru d 153 72 [l0, l1, l2, l3] [w0] σ = ru d 153 75 [l0, l1, l2, l3] [.int 20010, w0] σ := q_sipush t153_72 (by decide +kernel)
theorem t153_75 : decode (mb 153) 75 = .ok (.invokevirtual 180, 3) := by decide +kernel
theorem s153_75_o87 (d : Nat) (l0 : Value) (l1 : Value) (l2 : Value) (l3 : Value) (v1 : Value) (σ : Hs) : ru d 153 75 [l0, l1, l2, l3] [v1, .ref 87] σ = kont (callD d 146 [.ref 87, v1] σ) d 153 78 [l0, l1, l2, l3] [] := q_invv t153_75 mo153 K8_180 mj146 rfl rfl rfl rfl (Nat.le_of_ble_eq_true rfl)
theorem t153_78 : decode (mb 153) 78 = .ok (.goto 25, 3) := by decide +kernel
theorem s153_78 (d : Nat) (l0 : Value) (l1 : Value) (l2 : Value) (l3 : Value) (σ : Hs) : ru d 153 78 [l0, l1, l2, l3] [] σ = ru d 153 103 [l0, l1, l2, l3] [] σ := q_goto t153_78 (by decide +kernel)
theorem t153_81 : decode (mb 153) 81 = .ok (.aload_n 0, 1) := by decide +kernel
theorem s153_81 (d : Nat) (a0 : Nat) (l1 : Value) (l2 : Value) (l3 : Value) (σ : Hs) : ru d 153 81 [.ref a0, l1, l2, l3] [] σ = ru d 153 82 [.ref a0, l1, l2, l3] [.ref a0] σ := q_aload_n t153_81 rfl
theorem t153_82 : decode (mb 153) 82 = .ok (.invokevirtual 208, 3) := by decide +kernel
theorem s153_82_o87 (d : Nat) (l0 : Value) (l1 : Value) (l2 : Value) (l3 : Value) (σ : Hs) : ru d 153 82 [l0, l1, l2, l3] [.ref 87] σ = kont (callD d 147 [.ref 87] σ) d 153 85 [l0, l1, l2, l3] [] := q_invv t153_82 mo153 K8_208 mj147 rfl rfl rfl rfl (Nat.le_of_ble_eq_true rfl)
theorem t153_85 : decode (mb 153) 85 = .ok (.aload_n 0, 1) := by decide +kernel
theorem s153_85 (d : Nat) (a0 : Nat) (l1 : Value) (l2 : Value) (l3 : Value) (σ : Hs) : ru d 153 85 [.ref a0, l1, l2, l3] [] σ = ru d 153 86 [.ref a0, l1, l2, l3] [.ref a0] σ := q_aload_n t153_85 rfl
theorem t153_86 : decode (mb 153) 86 = .ok (.aload_n 0, 1) := by decide +kernel
theorem s153_86 (d : Nat) (a0 : Nat) (l1 : Value) (l2 : Value) (l3 : Value) (w0 : Value) (σ : Hs) : ru d 153 86 [.ref a0, l1, l2, l3] [w0] σ = ru d 153 87 [.ref a0, l1, l2, l3] [.ref a0, w0] σ := q_aload_n t153_86 rfl
theorem t153_87 : decode (mb 153) 87 = .ok (.bipush 41, 2) := by decide +kernel
theorem s153_87 (d : Nat) (l0 : Value) (l1 : Value) (l2 : Value) (l3 : Value) (w0 w1 : Value) (σ : Hs) : ru d 153 87 [l0, l1, l2, l3] [w0, w1] σ = ru d 153 89 [l0, l1, l2, l3] [.int 41, w0, w1] σ := q_bipush t153_87 (by decide +kernel)
theorem t153_89 : decode (mb 153) 89 = .ok (.invokevirtual 177, 3) := by decide +kernel
theorem s153_89_o87 (d : Nat) (l0 : Value) (l1 : Value) (l2 : Value) (l3 : Value) (v1 : Value) (w0 : Nat) (σ : Hs) : ru d 153 89 [l0, l1, l2, l3] [v1, .ref 87, .ref w0] σ = kont (callD d 145 [.ref 87, v1] σ) d 153 92 [l0, l1, l2, l3] [.ref w0] := q_invv t153_89 mo153 K8_177 mj145 rfl rfl rfl rfl (Nat.le_of_ble_eq_true rfl)
theorem t153_92 : decode (mb 153) 92 = .ok (.ifCond .ne 7, 3) := by decide +kernel
theorem s153_92 (d : Nat) (l0 : Value) (l1 : Value) (l2 : Value) (l3 : Value) (x : Int32) (w0 : Value) (σ : Hs) : ru d 153 92 [l0, l1, l2, l3] [.int x, w0] σ = if x = 0 then ru d 153 95 [l0, l1, l2, l3] [w0] σ else ru d 153 99 [l0, l1, l2, l3] [w0] σ := q_if_ne t153_92 (by decide +kernel)
theorem t153_95 : decode (mb 153) 95 = .ok (.iconst 1, 1) := by decide +kernel
theorem s153_95 (d : Nat) (l0 : Value) (l1 : Value) (l2 : Value) (l3 : Value) (w0 : Value) (σ : Hs) : ru d 153 95 [l0, l1, l2, l3] [w0] σ = ru d 153 96 [l0, l1, l2, l3] [.int 1, w0] σ := q_iconst t153_95 (by decide +kernel)
theorem t153_96 : decode (mb 153) 96 = .ok (.goto 4, 3) := by decide +kernel
theorem s153_96 (d : Nat) (l0 : Value) (l1 : Value) (l2 : Value) (l3 : Value) (w0 w1 : Value) (σ : Hs) : ru d 153 96 [l0, l1, l2, l3] [w0, w1] σ = ru d 153 100 [l0, l1, l2, l3] [w0, w1] σ := q_goto t153_96 (by decide +kernel)
theorem t153_99 : decode (mb 153) 99 = .ok (.iconst 0, 1) := by decide +kernel
theorem s153_99 (d : Nat) (l0 : Value) (l1 : Value) (l2 : Value) (l3 : Value) (w0 : Value) (σ : Hs) : ru d 153 99 [l0, l1, l2, l3] [w0] σ = ru d 153 100 [l0, l1, l2, l3] [.int 0, w0] σ := q_iconst t153_99 (by decide +kernel)
theorem t153_100 : decode (mb 153) 100 = .ok (.putfield 159, 3) := by decide +kernel
theorem s153_100_o87 (d : Nat) (l0 : Value) (l1 : Value) (l2 : Value) (l3 : Value) (x : Int32) (hx : isB x) (σ : Hs) : ru d 153 100 [l0, l1, l2, l3] [.int x, .ref 87] σ = ru d 153 103 [l0, l1, l2, l3] [] (up2 σ 87 12 x) := q_putz t153_100 mo153 F8_159 (by decide +kernel) rfl rfl hx
theorem t153_103 : decode (mb 153) 103 = .ok (.aload_n 0, 1) := by decide +kernel
theorem s153_103 (d : Nat) (a0 : Nat) (l1 : Value) (l2 : Value) (l3 : Value) (σ : Hs) : ru d 153 103 [.ref a0, l1, l2, l3] [] σ = ru d 153 104 [.ref a0, l1, l2, l3] [.ref a0] σ := q_aload_n t153_103 rfl
theorem t153_104 : decode (mb 153) 104 = .ok (.dup, 1) := by decide +kernel
theorem s153_104 (d : Nat) (l0 : Value) (l1 : Value) (l2 : Value) (l3 : Value) (x : Nat) (σ : Hs) : ru d 153 104 [l0, l1, l2, l3] [.ref x] σ = ru d 153 105 [l0, l1, l2, l3] [.ref x, .ref x] σ := q_dup t153_104 rfl
theorem t153_105 : decode (mb 153) 105 = .ok (.getfield 205, 3) := by decide +kernel
theorem s153_105_o87 (d : Nat) (l0 : Value) (l1 : Value) (l2 : Value) (l3 : Value) (w0 : Value) (σ : Hs) : ru d 153 105 [l0, l1, l2, l3] [.ref 87, w0] σ = ru d 153 108 [l0, l1, l2, l3] [.int (σ 87 10), w0] σ := q_getf t153_105 mo153 F8_205 rfl rfl
theorem t153_108 : decode (mb 153) 108 = .ok (.iconst 1, 1) := by decide +kernel
theorem s153_108 (d : Nat) (l0 : Value) (l1 : Value) (l2 : Value) (l3 : Value) (w0 w1 : Value) (σ : Hs) : ru d 153 108 [l0, l1, l2, l3] [w0, w1] σ = ru d 153 109 [l0, l1, l2, l3] [.int 1, w0, w1] σ := q_iconst t153_108 (by decide +kernel)
theorem t153_109 : decode (mb 153) 109 = .ok (.isub, 1) := by decide +kernel
theorem s153_109 (d : Nat) (l0 : Value) (l1 : Value) (l2 : Value) (l3 : Value) (x y : Int32) (w0 : Value) (σ : Hs) : ru d 153 109 [l0, l1, l2, l3] [.int y, .int x, w0] σ = ru d 153 110 [l0, l1, l2, l3] [.int (x - y), w0] σ := q_isub t153_109
theorem t153_110 : decode (mb 153) 110 = .ok (.putfield 205, 3) := by decide +kernel
theorem s153_110_o87 (d : Nat) (l0 : Value) (l1 : Value) (l2 : Value) (l3 : Value) (x : Int32) (σ : Hs) : ru d 153 110 [l0, l1, l2, l3] [.int x, .ref 87] σ = ru d 153 113 [l0, l1, l2, l3] [] (up2 σ 87 10 x) := q_puti t153_110 mo153 F8_205 (by decide +kernel) rfl rfl
theorem t153_113 : decode (mb 153) 113 = .ok (.goto 134, 3) := by decide +kernel
theorem s153_113 (d : Nat) (l0 : Value) (l1 : Value) (l2 : Value) (l3 : Value) (σ : Hs) : ru d 153 113 [l0, l1, l2, l3] [] σ = ru d 153 247 [l0, l1, l2, l3] [] σ := q_goto t153_113 (by decide +kernel)
theorem t153_116 : decode (mb 153) 116 = .ok (.iload_n 1, 1) := by decide +kernel
theorem s153_116 (d : Nat) (l0 : Value) (i1 : Int32) (l2 : Value) (l3 : Value) (σ : Hs) : ru d 153 116 [l0, .int i1, l2, l3] [] σ = ru d 153 117 [l0, .int i1, l2, l3] [.int i1] σ := q_iload_n t153_116 rfl
theorem t153_117 : decode (mb 153) 117 = .ok (.bipush 48, 2) := by decide +kernel
theorem s153_117 (d : Nat) (l0 : Value) (l1 : Value) (l2 : Value) (l3 : Value) (w0 : Value) (σ : Hs) : ru d 153 117 [l0, l1, l2, l3] [w0] σ = ru d 153 119 [l0, l1, l2, l3] [.int 48, w0] σ := q_bipush t153_117 (by decide +kernel)
theorem t153_119 : decode (mb 153) 119 = .ok (.bipush 57, 2) := by decide +kernel
theorem s153_119 (d : Nat) (l0 : Value) (l1 : Value) (l2 : Value) (l3 : Value) (w0 w1 : Value) (σ : Hs) : ru d 153 119 [l0, l1, l2, l3] [w0, w1] σ = ru d 153 121 [l0, l1, l2, l3] [.int 57, w0, w1] σ := q_bipush t153_119 (by decide +kernel)
theorem t153_121 : decode (mb 153) 121 = .ok (.invokestatic 81, 3) := by decide +kernel
theorem s153_121 (d : Nat) (l0 : Value) (l1 : Value) (l2 : Value) (l3 : Value) (v0 v1 v2 : Value) (σ : Hs) : ru d 153 121 [l0, l1, l2, l3] [v2, v1, v0] σ = kont (callD d 112 [v0, v1, v2] σ) d 153 124 [l0, l1, l2, l3] [] := q_invs t153_121 mo153 (by decide +kernel) K8_81 mj112 (Nat.le_of_ble_eq_true rfl) rfl rfl (Nat.le_of_ble_eq_true rfl)
theorem t153_124 : decode (mb 153) 124 = .ok (.ifCond .eq 63, 3) := by decide +kernel
theorem s153_124 (d : Nat) (l0 : Value) (l1 : Value) (l2 : Value) (l3 : Value) (x : Int32) (σ : Hs) : ru d 153 124 [l0, l1, l2, l3] [.int x] σ = if x = 0 then ru d 153 187 [l0, l1, l2, l3] [] σ else ru d 153 127 [l0, l1, l2, l3] [] σ := q_if_eq t153_124 (by decide +kernel)
theorem t153_127 : decode (mb 153) 127 = .ok (.iconst 0, 1) := by decide +kernel
theorem s153_127 (d : Nat) (l0 : Value) (l1 : Value) (l2 : Value) (l3 : Value) (σ : Hs) : ru d 153 127 [l0, l1, l2, l3] [] σ = ru d 153 128 [l0, l1, l2, l3] [.int 0] σ := q_iconst t153_127 (by decide +kernel)
theorem t153_128 : decode (mb 153) 128 = .ok (.istore_n 2, 1) := by decide +kernel
theorem s153_128 (d : Nat) (l0 : Value) (i1 : Int32) (l2 : Value) (l3 : Value) (x : Int32) (σ : Hs) : ru d 153 128 [l0, .int i1, l2, l3] [.int x] σ = ru d 153 129 [l0, .int i1, .int x, l3] [] σ := q_istore_n t153_128 ⟨Nat.le_of_ble_eq_true rfl, rfl⟩ rfl
theorem t153_129 : decode (mb 153) 129 = .ok (.iconst 0, 1) := by decide +kernel
theorem s153_129 (d : Nat) (l0 : Value) (l1 : Value) (l2 : Value) (l3 : Value) (σ : Hs) : ru d 153 129 [l0, l1, l2, l3] [] σ = ru d 153 130 [l0, l1, l2, l3] [.int 0] σ := q_iconst t153_129 (by decide +kernel)
theorem t153_130 : decode (mb 153) 130 = .ok (.istore_n 3, 1) := by decide +kernel
theorem s153_130 (d : Nat) (l0 : Value) (l1 : Value) (i2 : Int32) (l3 : Value) (x : Int32) (σ : Hs) : ru d 153 130 [l0, l1, .int i2, l3] [.int x] σ = ru d 153 131 [l0, l1, .int i2, .int x] [] σ := q_istore_n t153_130 ⟨Nat.le_of_ble_eq_true rfl, rfl⟩ rfl
theorem t153_131 : decode (mb 153) 131 = .ok (.iload_n 3, 1) := by decide +kernel
theorem s153_131 (d : Nat) (l0 : Value) (l1 : Value) (l2 : Value) (i3 : Int32) (σ : Hs) : ru d 153 131 [l0, l1, l2, .int i3] [] σ = ru d 153 132 [l0, l1, l2, .int i3] [.int i3] σ := q_iload_n t153_131 rfl
theorem t153_132 : decode (mb 153) 132 = .ok (.iconst 4, 1) := by decide +kernel
theorem s153_132 (d : Nat) (l0 : Value) (l1 : Value) (l2 : Value) (l3 : Value) (w0 : Value) (σ : Hs) : ru d 153 132 [l0, l1, l2, l3] [w0] σ = ru d 153 133 [l0, l1, l2, l3] [.int 4, w0] σ := q_iconst t153_132 (by decide +kernel)
theorem t153_133 : decode (mb 153) 133 = .ok (.if_icmp .ge 46, 3) := by decide +kernel
theorem s153_133 (d : Nat) (l0 : Value) (l1 : Value) (l2 : Value) (l3 : Value) (x y : Int32) (σ : Hs) : ru d 153 133 [l0, l1, l2, l3] [.int y, .int x] σ = if y ≤ x then ru d 153 179 [l0, l1, l2, l3] [] σ else ru d 153 136 [l0, l1, l2, l3] [] σ := q_ic_ge t153_133 (by decide +kernel)
theorem t153_136 : decode (mb 153) 136 = .ok (.aload_n 0, 1) := by decide +kernel
theorem s153_136 (d : Nat) (a0 : Nat) (l1 : Value) (l2 : Value) (l3 : Value) (σ : Hs) : ru d 153 136 [.ref a0, l1, l2, l3] [] σ = ru d 153 137 [.ref a0, l1, l2, l3] [.ref a0] σ := q_aload_n t153_136 rfl
theorem t153_137 : decode (mb 153) 137 = .ok (.invokevirtual 167, 3) := by decide +kernel
theorem s153_137_o87 (d : Nat) (l0 : Value) (l1 : Value) (l2 : Value) (l3 : Value) (σ : Hs) : ru d 153 137 [l0, l1, l2, l3] [.ref 87] σ = kont (callD d 144 [.ref 87] σ) d 153 140 [l0, l1, l2, l3] [] := q_invv t153_137 mo153 K8_167 mj144 rfl rfl rfl rfl (Nat.le_of_ble_eq_true rfl)
theorem t153_140 : decode (mb 153) 140 = .ok (.bipush 48, 2) := by decide +kernel
theorem s153_140 (d : Nat) (l0 : Value) (l1 : Value) (l2 : Value) (l3 : Value) (w0 : Value) (σ : Hs) : ru d 153 140 [l0, l1, l2, l3] [w0] σ = ru d 153 142 [l0, l1, l2, l3] [.int 48, w0] σ := q_bipush t153_140 (by decide +kernel)
theorem t153_142 : decode (mb 153) 142 = .ok (.bipush 57, 2) := by decide +kernel
theorem s153_142 (d : Nat) (l0 : Value) (l1 : Value) (l2 : Value) (l3 : Value) (w0 w1 : Value) (σ : Hs) : ru d 153 142 [l0, l1, l2, l3] [w0, w1] σ = ru d 153 144 [l0, l1, l2, l3] [.int 57, w0, w1] σ := q_bipush t153_142 (by decide +kernel)
theorem t153_144 : decode (mb 153) 144 = .ok (.invokestatic 81, 3) := by decide +kernel
theorem s153_144 (d : Nat) (l0 : Value) (l1 : Value) (l2 : Value) (l3 : Value) (v0 v1 v2 : Value) (σ : Hs) : ru d 153 144 [l0, l1, l2, l3] [v2, v1, v0] σ = kont (callD d 112 [v0, v1, v2] σ) d 153 147 [l0, l1, l2, l3] [] := q_invs t153_144 mo153 (by decide +kernel) K8_81 mj112 (Nat.le_of_ble_eq_true rfl) rfl rfl (Nat.le_of_ble_eq_true rfl)
theorem t153_147 : decode (mb 153) 147 = .ok (.ifCond .eq 32, 3) := by decide +kernel
theorem s153_147 (d : Nat) (l0 : Value) (l1 : Value) (l2 : Value) (l3 : Value) (x : Int32) (σ : Hs) : ru d 153 147 [l0, l1, l2, l3] [.int x] σ = if x = 0 then ru d 153 179 [l0, l1, l2, l3] [] σ else ru d 153 150 [l0, l1, l2, l3] [] σ := q_if_eq t153_147 (by decide +kernel)
theorem t153_150 : decode (mb 153) 150 = .ok (.bipush 10, 2) := by decide +kernel
theorem s153_150 (d : Nat) (l0 : Value) (l1 : Value) (l2 : Value) (l3 : Value) (σ : Hs) : ru d 153 150 [l0, l1, l2, l3] [] σ = ru d 153 152 [l0, l1, l2, l3] [.int 10] σ := q_bipush t153_150 (by decide +kernel)
theorem t153_152 : decode (mb 153) 152 = .ok (.iload_n 2, 1) := by decide +kernel
theorem s153_152 (d : Nat) (l0 : Value) (l1 : Value) (i2 : Int32) (l3 : Value) (w0 : Value) (σ : Hs) : ru d 153 152 [l0, l1, .int i2, l3] [w0] σ = ru d 153 153 [l0, l1, .int i2, l3] [.int i2, w0] σ := q_iload_n t153_152 rfl
theorem t153_153 : decode (mb 153) 153 = .ok (.imul, 1) := by decide +kernel
theorem s153_153 (d : Nat) (l0 : Value) (l1 : Value) (l2 : Value) (l3 : Value) (x y : Int32) (σ : Hs) : ru d 153 153 [l0, l1, l2, l3] [.int y, .int x] σ = ru d 153 154 [l0, l1, l2, l3] [.int (x * y)] σ := q_imul t153_153
theorem t153_154 : decode (mb 153) 154 = .ok (.aload_n 0, 1) := by decide +kernel
theorem s153_154 (d : Nat) (a0 : Nat) (l1 : Value) (l2 : Value) (l3 : Value) (w0 : Value) (σ : Hs) : ru d 153 154 [.ref a0, l1, l2, l3] [w0] σ = ru d 153 155 [.ref a0, l1, l2, l3] [.ref a0, w0] σ := q_aload_n t153_154 rfl
theorem t153_155 : decode (mb 153) 155 = .ok (.invokevirtual 167, 3) := by decide +kernel
theorem s153_155_o87 (d : Nat) (l0 : Value) (l1 : Value) (l2 : Value) (l3 : Value) (w0 : Int32) (σ : Hs) : ru d 153 155 [l0, l1, l2, l3] [.ref 87, .int w0] σ = kont (callD d 144 [.ref 87] σ) d 153 158 [l0, l1, l2, l3] [.int w0] := q_invv t153_155 mo153 K8_167 mj144 rfl rfl rfl rfl (Nat.le_of_ble_eq_true rfl)
theorem t153_158 : decode (mb 153) 158 = .ok (.iadd, 1) := by decide +kernel
theorem s153_158 (d : Nat) (l0 : Value) (l1 : Value) (l2 : Value) (l3 : Value) (x y : Int32) (σ : Hs) : ru d 153 158 [l0, l1, l2, l3] [.int y, .int x] σ = ru d 153 159 [l0, l1, l2, l3] [.int (x + y)] σ := q_iadd t153_158
theorem t153_159 : decode (mb 153) 159 = .ok (.bipush 48, 2) := by decide +kernel
theorem s153_159 (d : Nat) (l0 : Value) (l1 : Value) (l2 : Value) (l3 : Value) (w0 : Value) (σ : Hs) : ru d 153 159 [l0, l1, l2, l3] [w0] σ = ru d 153 161 [l0, l1, l2, l3] [.int 48, w0] σ := q_bipush t153_159 (by decide +kernel)
theorem t153_161 : decode (mb 153) 161 = .ok (.isub, 1) := by decide +kernel
theorem s153_161 (d : Nat) (l0 : Value) (l1 : Value) (l2 : Value) (l3 : Value) (x y : Int32) (σ : Hs) : ru d 153 161 [l0, l1, l2, l3] [.int y, .int x] σ = ru d 153 162 [l0, l1, l2, l3] [.int (x - y)] σ := q_isub t153_161
theorem t153_162 : decode (mb 153) 162 = .ok (.istore_n 2, 1) := by decide +kernel
theorem s153_162 (d : Nat) (l0 : Value) (i1 : Int32) (l2 : Value) (l3 : Value) (x : Int32) (σ : Hs) : ru d 153 162 [l0, .int i1, l2, l3] [.int x] σ = ru d 153 163 [l0, .int i1, .int x, l3] [] σ := q_istore_n t153_162 ⟨Nat.le_of_ble_eq_true rfl, rfl⟩ rfl
theorem t153_163 : decode (mb 153) 163 = .ok (.aload_n 0, 1) := by decide +kernel
theorem s153_163 (d : Nat) (a0 : Nat) (l1 : Value) (l2 : Value) (l3 : Value) (σ : Hs) : ru d 153 163 [.ref a0, l1, l2, l3] [] σ = ru d 153 164 [.ref a0, l1, l2, l3] [.ref a0] σ := q_aload_n t153_163 rfl
theorem t153_164 : decode (mb 153) 164 = .ok (.dup, 1) := by decide +kernel
theorem s153_164 (d : Nat) (l0 : Value) (l1 : Value) (l2 : Value) (l3 : Value) (x : Nat) (σ : Hs) : ru d 153 164 [l0, l1, l2, l3] [.ref x] σ = ru d 153 165 [l0, l1, l2, l3] [.ref x, .ref x] σ := q_dup t153_164 rfl
theorem t153_165 : decode (mb 153) 165 = .ok (.getfield 163, 3) := by decide +kernel
theorem s153_165_o87 (d : Nat) (l0 : Value) (l1 : Value) (l2 : Value) (l3 : Value) (w0 : Value) (σ : Hs) : ru d 153 165 [l0, l1, l2, l3] [.ref 87, w0] σ = ru d 153 168 [l0, l1, l2, l3] [.int (σ 87 9), w0] σ := q_getf t153_165 mo153 F8_163 rfl rfl
theorem t153_168 : decode (mb 153) 168 = .ok (.iconst 1, 1) := by decide +kernel
theorem s153_168 (d : Nat) (l0 : Value) (l1 : Value) (l2 : Value) (l3 : Value) (w0 w1 : Value) (σ : Hs) : ru d 153 168 [l0, l1, l2, l3] [w0, w1] σ = ru d 153 169 [l0, l1, l2, l3] [.int 1, w0, w1] σ := q_iconst t153_168 (by decide +kernel)
theorem t153_169 : decode (mb 153) 169 = .ok (.iadd, 1) := by decide +kernel
theorem s153_169 (d : Nat) (l0 : Value) (l1 : Value) (l2 : Value) (l3 : Value) (x y : Int32) (w0 : Value) (σ : Hs) : ru d 153 169 [l0, l1, l2, l3] [.int y, .int x, w0] σ = ru d 153 170 [l0, l1, l2, l3] [.int (x + y), w0] σ := q_iadd t153_169
theorem t153_170 : decode (mb 153) 170 = .ok (.putfield 163, 3) := by decide +kernel
theorem s153_170_o87 (d : Nat) (l0 : Value) (l1 : Value) (l2 : Value) (l3 : Value) (x : Int32) (σ : Hs) : ru d 153 170 [l0, l1, l2, l3] [.int x, .ref 87] σ = ru d 153 173 [l0, l1, l2, l3] [] (up2 σ 87 9 x) := q_puti t153_170 mo153 F8_163 (by decide +kernel) rfl rfl
theorem t153_173 : decode (mb 153) 173 = .ok (.iinc 3 1, 3) := by decide +kernel
theorem s153_173 (d : Nat) (l0 : Value) (l1 : Value) (i2 : Int32) (i3 : Int32) (σ : Hs) : ru d 153 173 [l0, l1, .int i2, .int i3] [] σ = ru d 153 176 [l0, l1, .int i2, .int (i3 + 1)] [] σ := q_iinc t153_173 ⟨Nat.le_of_ble_eq_true rfl, rfl⟩ rfl (by decide +kernel) rfl
theorem t153_176 : decode (mb 153) 176 = .ok (.goto (-45), 3) := by decide +kernel
theorem s153_176 (d : Nat) (l0 : Value) (l1 : Value) (l2 : Value) (l3 : Value) (σ : Hs) : ru d 153 176 [l0, l1, l2, l3] [] σ = ru d 153 131 [l0, l1, l2, l3] [] σ := q_goto t153_176 (by decide +kernel)
theorem t153_179 : decode (mb 153) 179 = .ok (.aload_n 0, 1) := by decide +kernel
theorem s153_179 (d : Nat) (a0 : Nat) (l1 : Value) (l2 : Value) (l3 : Value) (σ : Hs) : ru d 153 179 [.ref a0, l1, l2, l3] [] σ = ru d 153 180 [.ref a0, l1, l2, l3] [.ref a0] σ := q_aload_n t153_179 rfl
theorem t153_180 : decode (mb 153) 180 = .ok (.iload_n 2, 1) := by decide +kernel
theorem s153_180 (d : Nat) (l0 : Value) (l1 : Value) (i2 : Int32) (l3 : Value) (w0 : Value) (σ : Hs) : ru d 153 180 [l0, l1, .int i2, l3] [w0] σ = ru d 153 181 [l0, l1, .int i2, l3] [.int i2, w0] σ := q_iload_n t153_180 rfl
theorem t153_181 : decode (mb 153) 181 = .ok (.invokevirtual 180, 3) := by decide +kernel
theorem s153_181_o87 (d : Nat) (l0 : Value) (l1 : Value) (l2 : Value) (l3 : Value) (v1 : Value) (σ : Hs) : ru d 153 181 [l0, l1, l2, l3] [v1, .ref 87] σ = kont (callD d 146 [.ref 87, v1] σ) d 153 184 [l0, l1, l2, l3] [] := q_invv t153_181 mo153 K8_180 mj146 rfl rfl rfl rfl (Nat.le_of_ble_eq_true rfl)
theorem t153_184 : decode (mb 153) 184 = .ok (.goto 63, 3) := by decide +kernel
theorem s153_184 (d : Nat) (l0 : Value) (l1 : Value) (l2 : Value) (l3 : Value) (σ : Hs) : ru d 153 184 [l0, l1, l2, l3] [] σ = ru d 153 247 [l0, l1, l2, l3] [] σ := q_goto t153_184 (by decide +kernel)
theorem t153_187 : decode (mb 153) 187 = .ok (.iload_n 1, 1) := by decide +kernel
theorem s153_187 (d : Nat) (l0 : Value) (i1 : Int32) (l2 : Value) (l3 : Value) (σ : Hs) : ru d 153 187 [l0, .int i1, l2, l3] [] σ = ru d 153 188 [l0, .int i1, l2, l3] [.int i1] σ := q_iload_n t153_187 rfl
theorem t153_188 : decode (mb 153) 188 = .ok (.ifCond .ge 7, 3) := by decide +kernel
theorem s153_188 (d : Nat) (l0 : Value) (l1 : Value) (l2 : Value) (l3 : Value) (x : Int32) (σ : Hs) : ru d 153 188 [l0, l1, l2, l3] [.int x] σ = if 0 ≤ x then ru d 153 195 [l0, l1, l2, l3] [] σ else ru d 153 191 [l0, l1, l2, l3] [] σ := q_if_ge t153_188 (by decide +kernel)
theorem t153_191 : decode (mb 153) 191 = .ok (.iconst (-1), 1) := by decide +kernel
theorem s153_191 (d : Nat) (l0 : Value) (l1 : Value) (l2 : Value) (l3 : Value) (σ : Hs) : ru d 153 191 [l0, l1, l2, l3] [] σ = ru d 153 192 [l0, l1, l2, l3] [.int (-1)] σ := q_iconst t153_191 (by decide +kernel)
theorem t153_192 : decode (mb 153) 192 = .ok (.goto 8, 3) := by decide +kernel
theorem s153_192 (d : Nat) (l0 : Value) (l1 : Value) (l2 : Value) (l3 : Value) (w0 : Value) (σ : Hs) : ru d 153 192 [l0, l1, l2, l3] [w0] σ = ru d 153 200 [l0, l1, l2, l3] [w0] σ := q_goto t153_192 (by decide +kernel)
theorem t153_195 : decode (mb 153) 195 = .ok (.aload_n 0, 1) := by decide +kernel
theorem s153_195 (d : Nat) (a0 : Nat) (l1 : Value) (l2 : Value) (l3 : Value) (σ : Hs) : ru d 153 195 [.ref a0, l1, l2, l3] [] σ = ru d 153 196 [.ref a0, l1, l2, l3] [.ref a0] σ := q_aload_n t153_195 rfl
theorem t153_196 : decode (mb 153) 196 = .ok (.iload_n 1, 1) := by decide +kernel
theorem s153_196 (d : Nat) (l0 : Value) (i1 : Int32) (l2 : Value) (l3 : Value) (w0 : Value) (σ : Hs) : ru d 153 196 [l0, .int i1, l2, l3] [w0] σ = ru d 153 197 [l0, .int i1, l2, l3] [.int i1, w0] σ := q_iload_n t153_196 rfl
theorem t153_197 : decode (mb 153) 197 = .ok (.invokevirtual 211, 3) := by decide +kernel
theorem s153_197_o87 (d : Nat) (l0 : Value) (l1 : Value) (l2 : Value) (l3 : Value) (v1 : Value) (σ : Hs) : ru d 153 197 [l0, l1, l2, l3] [v1, .ref 87] σ = kont (callD d 152 [.ref 87, v1] σ) d 153 200 [l0, l1, l2, l3] [] := q_invv t153_197 mo153 K8_211 mj152 rfl rfl rfl rfl (Nat.le_of_ble_eq_true rfl)
theorem t153_200 : decode (mb 153) 200 = .ok (.istore_n 2, 1) := by decide +kernel
theorem s153_200 (d : Nat) (l0 : Value) (i1 : Int32) (l2 : Value) (l3 : Value) (x : Int32) (σ : Hs) : ru d 153 200 [l0, .int i1, l2, l3] [.int x] σ = ru d 153 201 [l0, .int i1, .int x, l3] [] σ := q_istore_n t153_200 ⟨Nat.le_of_ble_eq_true rfl, rfl⟩ rfl
theorem t153_201 : decode (mb 153) 201 = .ok (.aload_n 0, 1) := by decide +kernel
theorem s153_201 (d : Nat) (a0 : Nat) (l1 : Value) (l2 : Value) (l3 : Value) (σ : Hs) : ru d 153 201 [.ref a0, l1, l2, l3] [] σ = ru d 153 202 [.ref a0, l1, l2, l3] [.ref a0] σ := q_aload_n t153_201 rfl
theorem t153_202 : decode (mb 153) 202 = .ok (.aload_n 0, 1) := by decide +kernel
theorem s153_202 (d : Nat) (a0 : Nat) (l1 : Value) (l2 : Value) (l3 : Value) (w0 : Value) (σ : Hs) : ru d 153 202 [.ref a0, l1, l2, l3] [w0] σ = ru d 153 203 [.ref a0, l1, l2, l3] [.ref a0, w0] σ := q_aload_n t153_202 rfl
theorem t153_203 : decode (mb 153) 203 = .ok (.getfield 159, 3) := by decide +kernel
theorem s153_203_o87 (d : Nat) (l0 : Value) (l1 : Value) (l2 : Value) (l3 : Value) (w0 : Value) (σ : Hs) : ru d 153 203 [l0, l1, l2, l3] [.ref 87, w0] σ = ru d 153 206 [l0, l1, l2, l3] [.int (σ 87 12), w0] σ := q_getf t153_203 mo153 F8_159 rfl rfl
theorem t153_206 : decode (mb 153) 206 = .ok (.ifCond .ne 7, 3) := by decide +kernel
theorem s153_206 (d : Nat) (l0 : Value) (l1 : Value) (l2 : Value) (l3 : Value) (x : Int32) (w0 : Value) (σ : Hs) : ru d 153 206 [l0, l1, l2, l3] [.int x, w0] σ = if x = 0 then ru d 153 209 [l0, l1, l2, l3] [w0] σ else ru d 153 213 [l0, l1, l2, l3] [w0] σ := q_if_ne t153_206 (by decide +kernel)
theorem t153_209 : decode (mb 153) 209 = .ok (.iload_n 2, 1) := by decide +kernel
theorem s153_209 (d : Nat) (l0 : Value) (l1 : Value) (i2 : Int32) (l3 : Value) (w0 : Value) (σ : Hs) : ru d 153 209 [l0, l1, .int i2, l3] [w0] σ = ru d 153 210 [l0, l1, .int i2, l3] [.int i2, w0] σ := q_iload_n t153_209 rfl
theorem t153_210 : decode (mb 153) 210 = .ok (.ifCond .ge 7, 3) := by decide +kernel
theorem s153_210 (d : Nat) (l0 : Value) (l1 : Value) (l2 : Value) (l3 : Value) (x : Int32) (w0 : Value) (σ : Hs) : ru d 153 210 [l0, l1, l2, l3] [.int x, w0] σ = if 0 ≤ x then ru d 153 217 [l0, l1, l2, l3] [w0] σ else ru d 153 213 [l0, l1, l2, l3] [w0] σ := q_if_ge t153_210 (by decide +kernel)
theorem t153_213 : decode (mb 153) 213 = .ok (.iconst 1, 1) := by decide +kernel
theorem s153_213 (d : Nat) (l0 : Value) (l1 : Value) (l2 : Value) (l3 : Value) (w0 : Value) (σ : Hs) : ru d 153 213 [l0, l1, l2, l3] [w0] σ = ru d 153 214 [l0, l1, l2, l3] [.int 1, w0] σ := q_iconst t153_213 (by decide +kernel)
theorem t153_214 : decode (mb 153) 214 = .ok (.goto 4, 3) := by decide +kernel
theorem s153_214 (d : Nat) (l0 : Value) (l1 : Value) (l2 : Value) (l3 : Value) (w0 w1 : Value) (σ : Hs) : ru d 153 214 [l0, l1, l2, l3] [w0, w1] σ = ru d 153 218 [l0, l1, l2, l3] [w0, w1] σ := q_goto t153_214 (by decide +kernel)
theorem t153_217 : decode (mb 153) 217 = .ok (.iconst 0, 1) := by decide +kernel
theorem s153_217 (d : Nat) (l0 : Value) (l1 : Value) (l2 : Value) (l3 : Value) (w0 : Value) (σ : Hs) : ru d 153 217 [l0, l1, l2, l3] [w0] σ = ru d 153 218 [l0, l1, l2, l3] [.int 0, w0] σ := q_iconst t153_217 (by decide +kernel)
theorem t153_218 : decode (mb 153) 218 = .ok (.putfield 159, 3) := by decide +kernel
theorem s153_218_o87 (d : Nat) (l0 : Value) (l1 : Value) (l2 : Value) (l3 : Value) (x : Int32) (hx : isB x) (σ : Hs) : ru d 153 218 [l0, l1, l2, l3] [.int x, .ref 87] σ = ru d 153 221 [l0, l1, l2, l3] [] (up2 σ 87 12 x) := q_putz t153_218 mo153 F8_159 (by decide +kernel) rfl rfl hx
theorem t153_221 : decode (mb 153) 221 = .ok (.aload_n 0, 1) := by decide +kernel
theorem s153_221 (d : Nat) (a0 : Nat) (l1 : Value) (l2 : Value) (l3 : Value) (σ : Hs) : ru d 153 221 [.ref a0, l1, l2, l3] [] σ = ru d 153 222 [.ref a0, l1, l2, l3] [.ref a0] σ := q_aload_n t153_221 rfl
theorem t153_222 : decode (mb 153) 222 = .ok (.getfield 159, 3) := by decide +kernel
theorem s153_222_o87 (d : Nat) (l0 : Value) (l1 : Value) (l2 : Value) (l3 : Value) (σ : Hs) : ru d 153 222 [l0, l1, l2, l3] [.ref 87] σ = ru d 153 225 [l0, l1, l2, l3] [.int (σ 87 12)] σ := q_getf t153_222 mo153 F8_159 rfl rfl
theorem t153_225 : decode (mb 153) 225 = .ok (.ifCond .ne 22, 3) := by decide +kernel
theorem s153_225 (d : Nat) (l0 : Value) (l1 : Value) (l2 : Value) (l3 : Value) (x : Int32) (σ : Hs) : ru d 153 225 [l0, l1, l2, l3] [.int x] σ = if x = 0 then ru d 153 228 [l0, l1, l2, l3] [] σ else ru d 153 247 [l0, l1, l2, l3] [] σ := q_if_ne t153_225 (by decide +kernel)
theorem t153_228 : decode (mb 153) 228 = .ok (.aload_n 0, 1) := by decide +kernel
theorem s153_228 (d : Nat) (a0 : Nat) (l1 : Value) (l2 : Value) (l3 : Value) (σ : Hs) : ru d 153 228 [.ref a0, l1, l2, l3] [] σ = ru d 153 229 [.ref a0, l1, l2, l3] [.ref a0] σ := q_aload_n t153_228 rfl
theorem t153_229 : decode (mb 153) 229 = .ok (.sipush 10000, 3) := by decide +kernel
theorem s153_229 (d : Nat) (l0 : Value) (l1 : Value) (l2 : Value) (l3 : Value) (w0 : Value) (σ : Hs) : ru d 153 229 [l0, l1, l2, l3] [w0] σ = ru d 153 232 [l0, l1, l2, l3] [.int 10000, w0] σ := q_sipush t153_229 (by decide +kernel)
theorem t153_232 : decode (mb 153) 232 = .ok (.iload_n 2, 1) := by decide +kernel
theorem s153_232 (d : Nat) (l0 : Value) (l1 : Value) (i2 : Int32) (l3 : Value) (w0 w1 : Value) (σ : Hs) : ru d 153 232 [l0, l1, .int i2, l3] [w0, w1] σ = ru d 153 233 [l0, l1, .int i2, l3] [.int i2, w0, w1] σ := q_iload_n t153_232 rfl
theorem t153_233 : decode (mb 153) 233 = .ok (.iadd, 1) := by decide +kernel
theorem s153_233 (d : Nat) (l0 : Value) (l1 : Value) (l2 : Value) (l3 : Value) (x y : Int32) (w0 : Value) (σ : Hs) : ru d 153 233 [l0, l1, l2, l3] [.int y, .int x, w0] σ = ru d 153 234 [l0, l1, l2, l3] [.int (x + y), w0] σ := q_iadd t153_233
theorem t153_234 : decode (mb 153) 234 = .ok (.invokevirtual 180, 3) := by decide +kernel
theorem s153_234_o87 (d : Nat) (l0 : Value) (l1 : Value) (l2 : Value) (l3 : Value) (v1 : Value) (σ : Hs) : ru d 153 234 [l0, l1, l2, l3] [v1, .ref 87] σ = kont (callD d 146 [.ref 87, v1] σ) d 153 237 [l0, l1, l2, l3] [] := q_invv t153_234 mo153 K8_180 mj146 rfl rfl rfl rfl (Nat.le_of_ble_eq_true rfl)
theorem t153_237 : decode (mb 153) 237 = .ok (.aload_n 0, 1) := by decide +kernel
theorem s153_237 (d : Nat) (a0 : Nat) (l1 : Value) (l2 : Value) (l3 : Value) (σ : Hs) : ru d 153 237 [.ref a0, l1, l2, l3] [] σ = ru d 153 238 [.ref a0, l1, l2, l3] [.ref a0] σ := q_aload_n t153_237 rfl
theorem t153_238 : decode (mb 153) 238 = .ok (.dup, 1) := by decide +kernel
theorem s153_238 (d : Nat) (l0 : Value) (l1 : Value) (l2 : Value) (l3 : Value) (x : Nat) (σ : Hs) : ru d 153 238 [l0, l1, l2, l3] [.ref x] σ = ru d 153 239 [l0, l1, l2, l3] [.ref x, .ref x] σ := q_dup t153_238 rfl
theorem t153_239 : decode (mb 153) 239 = .ok (.getfield 163, 3) := by decide +kernel
theorem s153_239_o87 (d : Nat) (l0 : Value) (l1 : Value) (l2 : Value) (l3 : Value) (w0 : Value) (σ : Hs) : ru d 153 239 [l0, l1, l2, l3] [.ref 87, w0] σ = ru d 153 242 [l0, l1, l2, l3] [.int (σ 87 9), w0] σ := q_getf t153_239 mo153 F8_163 rfl rfl
theorem t153_242 : decode (mb 153) 242 = .ok (.iconst 1, 1) := by decide +kernel
theorem s153_242 (d : Nat) (l0 : Value) (l1 : Value) (l2 : Value) (l3 : Value) (w0 w1 : Value) (σ : Hs) : ru d 153 242 [l0, l1, l2, l3] [w0, w1] σ = ru d 153 243 [l0, l1, l2, l3] [.int 1, w0, w1] σ := q_iconst t153_242 (by decide +kernel)
theorem t153_243 : decode (mb 153) 243 = .ok (.iadd, 1) := by decide +kernel
theorem s153_243 (d : Nat) (l0 : Value) (l1 : Value) (l2 : Value) (l3 : Value) (x y : Int32) (w0 : Value) (σ : Hs) : ru d 153 243 [l0, l1, l2, l3] [.int y, .int x, w0] σ = ru d 153 244 [l0, l1, l2, l3] [.int (x + y), w0] σ := q_iadd t153_243
theorem t153_244 : decode (mb 153) 244 = .ok (.putfield 163, 3) := by decide +kernel
theorem s153_244_o87 (d : Nat) (l0 : Value) (l1 : Value) (l2 : Value) (l3 : Value) (x : Int32) (σ : Hs) : ru d 153 244 [l0, l1, l2, l3] [.int x, .ref 87] σ = ru d 153 247 [l0, l1, l2, l3] [] (up2 σ 87 9 x) := q_puti t153_244 mo153 F8_163 (by decide +kernel) rfl rfl
theorem t153_247 : decode (mb 153) 247 = .ok (.return_, 1) := by decide +kernel
theorem s153_247 (d : Nat) (l0 : Value) (l1 : Value) (l2 : Value) (l3 : Value) (σ : Hs) : ru d 153 247 [l0, l1, l2, l3] [] σ = some (none, σ) := q_vret t153_247 mr153
theorem c153 (d : Nat) (x0 : Nat) (σ : Hs) : callD (d + 1) 153 [.ref x0] σ = ru d 153 0 [.ref x0, uu, uu, uu] [] σ := callD_ru ml153 rfl rfl (Nat.le_of_ble_eq_true rfl)
-- 154: Model.text(I)I
theorem t154_0 : decode (mb 154) 0 = .ok (.iload_n 1, 1) := by decide +kernel
theorem s154_0 (d : Nat) (l0 : Value) (i1 : Int32) (l2 : Value) (σ : Hs) : ru d 154 0 [l0, .int i1, l2] [] σ = ru d 154 1 [l0, .int i1, l2] [.int i1] σ := q_iload_n t154_0 rfl
theorem t154_1 : decode (mb 154) 1 = .ok (.iconst 0, 1) := by decide +kernel
theorem s154_1 (d : Nat) (l0 : Value) (l1 : Value) (l2 : Value) (w0 : Value) (σ : Hs) : ru d 154 1 [l0, l1, l2] [w0] σ = ru d 154 2 [l0, l1, l2] [.int 0, w0] σ := q_iconst t154_1 (by decide +kernel)
theorem t154_2 : decode (mb 154) 2 = .ok (.iconst 2, 1) := by decide +kernel
theorem s154_2 (d : Nat) (l0 : Value) (l1 : Value) (l2 : Value) (w0 w1 : Value) (σ : Hs) : ru d 154 2 [l0, l1, l2] [w0, w1] σ = ru d 154 3 [l0, l1, l2] [.int 2, w0, w1] σ := q_iconst t154_2 (by decide +kernel)
theorem t154_3 : decode (mb 154) 3 = .ok (.invokestatic 81, 3) := by decide +kernel
theorem s154_3 (d : Nat) (l0 : Value) (l1 : Value) (l2 : Value) (v0 v1 v2 : Value) (σ : Hs) : ru d 154 3 [l0, l1, l2] [v2, v1, v0] σ = kont (callD d 112 [v0, v1, v2] σ) d 154 6 [l0, l1, l2] [] := q_invs t154_3 mo154 (by decide +kernel) K8_81 mj112 (Nat.le_of_ble_eq_true rfl) rfl rfl (Nat.le_of_ble_eq_true rfl)
theorem t154_6 : decode (mb 154) 6 = .ok (.ifCond .ne 10, 3) := by decide +kernel
theorem s154_6 (d : Nat) (l0 : Value) (l1 : Value) (l2 : Value) (x : Int32) (σ : Hs) : ru d 154 6 [l0, l1, l2] [.int x] σ = if x = 0 then ru d 154 9 [l0, l1, l2] [] σ else ru d 154 16 [l0, l1, l2] [] σ := q_if_ne t154_6 (by decide +kernel)
theorem t154_9 : decode (mb 154) 9 = .ok (.aload_n 0, 1) := by decide +kernel
theorem s154_9 (d : Nat) (a0 : Nat) (l1 : Value) (l2 : Value) (σ : Hs) : ru d 154 9 [.ref a0, l1, l2] [] σ = ru d 154 10 [.ref a0, l1, l2] [.ref a0] σ := q_aload_n t154_9 rfl
theorem t154_10 : decode (mb 154) 10 = .ok (.ldc 104, 2) := by decide +kernel
theorem s154_10 (d : Nat) (l0 : Value) (l1 : Value) (l2 : Value) (w0 : Value) (σ : Hs) : ru d 154 10 [l0, l1, l2] [w0] σ = ru d 154 12 [l0, l1, l2] [.int (-1000001), w0] σ := q_ldc t154_10 mo154 C8_104
theorem t154_12 : decode (mb 154) 12 = .ok (.invokevirtual 105, 3) := by decide +kernel
theorem s154_12_o87 (d : Nat) (l0 : Value) (l1 : Value) (l2 : Value) (v1 : Value) (σ : Hs) : ru d 154 12 [l0, l1, l2] [v1, .ref 87] σ = kont (callD d 111 [.ref 87, v1] σ) d 154 15 [l0, l1, l2] [] := q_invv t154_12 mo154 K8_105 mj111 rfl rfl rfl rfl (Nat.le_of_ble_eq_true rfl)
theorem t154_15 : decode (mb 154) 15 = .ok (.ireturn, 1) := by decide +kernel
theorem s154_15 (d : Nat) (l0 : Value) (l1 : Value) (l2 : Value) (x : Int32) (σ : Hs) : ru d 154 15 [l0, l1, l2] [.int x] σ = some (some (.int x), σ) := q_ireti t154_15 mr154
theorem t154_16 : decode (mb 154) 16 = .ok (.aload_n 0, 1) := by decide +kernel
theorem s154_16 (d : Nat) (a0 : Nat) (l1 : Value) (l2 : Value) (σ : Hs) : ru d 154 16 [.ref a0, l1, l2] [] σ = ru d 154 17 [.ref a0, l1, l2] [.ref a0] σ := q_aload_n t154_16 rfl
theorem t154_17 : decode (mb 154) 17 = .ok (.iload_n 1, 1) := by decide +kernel
theorem s154_17 (d : Nat) (l0 : Value) (i1 : Int32) (l2 : Value) (w0 : Value) (σ : Hs) : ru d 154 17 [l0, .int i1, l2] [w0] σ = ru d 154 18 [l0, .int i1, l2] [.int i1, w0] σ := q_iload_n t154_17 rfl
theorem t154_18 : decode (mb 154) 18 = .ok (.putfield 195, 3) := by decide +kernel
theorem s154_18_o87 (d : Nat) (l0 : Value) (l1 : Value) (l2 : Value) (x : Int32) (σ : Hs) : ru d 154 18 [l0, l1, l2] [.int x, .ref 87] σ = ru d 154 21 [l0, l1, l2] [] (up2 σ 87 11 x) := q_puti t154_18 mo154 F8_195 (by decide +kernel) rfl rfl
theorem t154_21 : decode (mb 154) 21 = .ok (.aload_n 0, 1) := by decide +kernel
theorem s154_21 (d : Nat) (a0 : Nat) (l1 : Value) (l2 : Value) (σ : Hs) : ru d 154 21 [.ref a0, l1, l2] [] σ = ru d 154 22 [.ref a0, l1, l2] [.ref a0] σ := q_aload_n t154_21 rfl
theorem t154_22 : decode (mb 154) 22 = .ok (.iconst 0, 1) := by decide +kernel
theorem s154_22 (d : Nat) (l0 : Value) (l1 : Value) (l2 : Value) (w0 : Value) (σ : Hs) : ru d 154 22 [l0, l1, l2] [w0] σ = ru d 154 23 [l0, l1, l2] [.int 0, w0] σ := q_iconst t154_22 (by decide +kernel)
theorem t154_23 : decode (mb 154) 23 = .ok (.putfield 163, 3) := by decide +kernel
theorem s154_23_o87 (d : Nat) (l0 : Value) (l1 : Value) (l2 : Value) (x : Int32) (σ : Hs) : ru d 154 23 [l0, l1, l2] [.int x, .ref 87] σ = ru d 154 26 [l0, l1, l2] [] (up2 σ 87 9 x) := q_puti t154_23 mo154 F8_163 (by decide +kernel) rfl rfl
theorem t154_26 : decode (mb 154) 26 = .ok (.aload_n 0, 1) := by decide +kernel
theorem s154_26 (d : Nat) (a0 : Nat) (l1 : Value) (l2 : Value) (σ : Hs) : ru d 154 26 [.ref a0, l1, l2] [] σ = ru d 154 27 [.ref a0, l1, l2] [.ref a0] σ := q_aload_n t154_26 rfl
theorem t154_27 : decode (mb 154) 27 = .ok (.iconst 0, 1) := by decide +kernel
theorem s154_27 (d : Nat) (l0 : Value) (l1 : Value) (l2 : Value) (w0 : Value) (σ : Hs) : ru d 154 27 [l0, l1, l2] [w0] σ = ru d 154 28 [l0, l1, l2] [.int 0, w0] σ := q_iconst t154_27 (by decide +kernel)
theorem t154_28 : decode (mb 154) 28 = .ok (.putfield 205, 3) := by decide +kernel
theorem s154_28_o87 (d : Nat) (l0 : Value) (l1 : Value) (l2 : Value) (x : Int32) (σ : Hs) : ru d 154 28 [l0, l1, l2] [.int x, .ref 87] σ = ru d 154 31 [l0, l1, l2] [] (up2 σ 87 10 x) := q_puti t154_28 mo154 F8_205 (by decide +kernel) rfl rfl
theorem t154_31 : decode (mb 154) 31 = .ok (.aload_n 0, 1) := by decide +kernel
theorem s154_31 (d : Nat) (a0 : Nat) (l1 : Value) (l2 : Value) (σ : Hs) : ru d 154 31 [.ref a0, l1, l2] [] σ = ru d 154 32 [.ref a0, l1, l2] [.ref a0] σ := q_aload_n t154_31 rfl
theorem t154_32 : decode (mb 154) 32 = .ok (.iconst 0, 1) := by decide +kernel
theorem s154_32 (d : Nat) (l0 : Value) (l1 : Value) (l2 : Value) (w0 : Value) (σ : Hs) : ru d 154 32 [l0, l1, l2] [w0] σ = ru d 154 33 [l0, l1, l2] [.int 0, w0] σ := q_iconst t154_32 (by decide +kernel)
theorem t154_33 : decode (mb 154) 33 = .ok (.putfield 159, 3) := by decide +kernel
theorem s154_33_o87 (d : Nat) (l0 : Value) (l1 : Value) (l2 : Value) (x : Int32) (hx : isB x) (σ : Hs) : ru d 154 33 [l0, l1, l2] [.int x, .ref 87] σ = ru d 154 36 [l0, l1, l2] [] (up2 σ 87 12 x) := q_putz t154_33 mo154 F8_159 (by decide +kernel) rfl rfl hx
theorem t154_36 : decode (mb 154) 36 = .ok (.aload_n 0, 1) := by decide +kernel
theorem s154_36 (d : Nat) (a0 : Nat) (l1 : Value) (l2 : Value) (σ : Hs) : ru d 154 36 [.ref a0, l1, l2] [] σ = ru d 154 37 [.ref a0, l1, l2] [.ref a0] σ := q_aload_n t154_36 rfl
theorem t154_37 : decode (mb 154) 37 = .ok (.iconst 0, 1) := by decide +kernel
theorem s154_37 (d : Nat) (l0 : Value) (l1 : Value) (l2 : Value) (w0 : Value) (σ : Hs) : ru d 154 37 [l0, l1, l2] [w0] σ = ru d 154 38 [l0, l1, l2] [.int 0, w0] σ := q_iconst t154_37 (by decide +kernel)
theorem t154_38 : decode (mb 154) 38 = .ok (.putfield 171, 3) := by decide +kernel
theorem s154_38_o87 (d : Nat) (l0 : Value) (l1 : Value) (l2 : Value) (x : Int32) (σ : Hs) : ru d 154 38 [l0, l1, l2] [.int x, .ref 87] σ = ru d 154 41 [l0, l1, l2] [] (up2 σ 87 14 x) := q_puti t154_38 mo154 F8_171 (by decide +kernel) rfl rfl
theorem t154_41 : decode (mb 154) 41 = .ok (.aload_n 0, 1) := by decide +kernel
theorem s154_41 (d : Nat) (a0 : Nat) (l1 : Value) (l2 : Value) (σ : Hs) : ru d 154 41 [.ref a0, l1, l2] [] σ = ru d 154 42 [.ref a0, l1, l2] [.ref a0] σ := q_aload_n t154_41 rfl
theorem t154_42 : decode (mb 154) 42 = .ok (.invokevirtual 208, 3) := by decide +kernel
theorem s154_42_o87 (d : Nat) (l0 : Value) (l1 : Value) (l2 : Value) (σ : Hs) : ru d 154 42 [l0, l1, l2] [.ref 87] σ = kont (callD d 147 [.ref 87] σ) d 154 45 [l0, l1, l2] [] := q_invv t154_42 mo154 K8_208 mj147 rfl rfl rfl rfl (Nat.le_of_ble_eq_true rfl)
theorem t154_45 : decode (mb 154) 45 = .ok (.aload_n 0, 1) := by decide +kernel
theorem s154_45 (d : Nat) (a0 : Nat) (l1 : Value) (l2 : Value) (σ : Hs) : ru d 154 45 [.ref a0, l1, l2] [] σ = ru d 154 46 [.ref a0, l1, l2] [.ref a0] σ := q_aload_n t154_45 rfl
theorem t154_46 : decode (mb 154) 46 = .ok (.aload_n 0, 1) := by decide +kernel
theorem s154_46 (d : Nat) (a0 : Nat) (l1 : Value) (l2 : Value) (w0 : Value) (σ : Hs) : ru d 154 46 [.ref a0, l1, l2] [w0] σ = ru d 154 47 [.ref a0, l1, l2] [.ref a0, w0] σ := q_aload_n t154_46 rfl
theorem t154_47 : decode (mb 154) 47 = .ok (.getfield 159, 3) := by decide +kernel
theorem s154_47_o87 (d : Nat) (l0 : Value) (l1 : Value) (l2 : Value) (w0 : Value) (σ : Hs) : ru d 154 47 [l0, l1, l2] [.ref 87, w0] σ = ru d 154 50 [l0, l1, l2] [.int (σ 87 12), w0] σ := q_getf t154_47 mo154 F8_159 rfl rfl
theorem t154_50 : decode (mb 154) 50 = .ok (.ifCond .ne 16, 3) := by decide +kernel
theorem s154_50 (d : Nat) (l0 : Value) (l1 : Value) (l2 : Value) (x : Int32) (w0 : Value) (σ : Hs) : ru d 154 50 [l0, l1, l2] [.int x, w0] σ = if x = 0 then ru d 154 53 [l0, l1, l2] [w0] σ else ru d 154 66 [l0, l1, l2] [w0] σ := q_if_ne t154_50 (by decide +kernel)
theorem t154_53 : decode (mb 154) 53 = .ok (.aload_n 0, 1) := by decide +kernel
theorem s154_53 (d : Nat) (a0 : Nat) (l1 : Value) (l2 : Value) (w0 : Value) (σ : Hs) : ru d 154 53 [.ref a0, l1, l2] [w0] σ = ru d 154 54 [.ref a0, l1, l2] [.ref a0, w0] σ := q_aload_n t154_53 rfl
theorem t154_54 : decode (mb 154) 54 = .ok (.getfield 163, 3) := by decide +kernel
theorem s154_54_o87 (d : Nat) (l0 : Value) (l1 : Value) (l2 : Value) (w0 : Value) (σ : Hs) : ru d 154 54 [l0, l1, l2] [.ref 87, w0] σ = ru d 154 57 [l0, l1, l2] [.int (σ 87 9), w0] σ := q_getf t154_54 mo154 F8_163 rfl rfl
theorem t154_57 : decode (mb 154) 57 = .ok (.aload_n 0, 1) := by decide +kernel
theorem s154_57 (d : Nat) (a0 : Nat) (l1 : Value) (l2 : Value) (w0 w1 : Value) (σ : Hs) : ru d 154 57 [.ref a0, l1, l2] [w0, w1] σ = ru d 154 58 [.ref a0, l1, l2] [.ref a0, w0, w1] σ := q_aload_n t154_57 rfl
theorem t154_58 : decode (mb 154) 58 = .ok (.getfield 9, 3) := by decide +kernel
theorem s154_58_o87 (d : Nat) (l0 : Value) (l1 : Value) (l2 : Value) (w0 w1 : Value) (σ : Hs) : ru d 154 58 [l0, l1, l2] [.ref 87, w0, w1] σ = ru d 154 61 [l0, l1, l2] [.ref 88, w0, w1] σ := q_getf t154_58 mo154 F8_9 rfl rfl
theorem t154_61 : decode (mb 154) 61 = .ok (.iconst 1, 1) := by decide +kernel
theorem s154_61 (d : Nat) (l0 : Value) (l1 : Value) (l2 : Value) (w0 w1 w2 : Value) (σ : Hs) : ru d 154 61 [l0, l1, l2] [w0, w1, w2] σ = ru d 154 62 [l0, l1, l2] [.int 1, w0, w1, w2] σ := q_iconst t154_61 (by decide +kernel)
theorem t154_62 : decode (mb 154) 62 = .ok (.iaload, 1) := by decide +kernel
theorem s154_62_o88 (d : Nat) (l0 : Value) (l1 : Value) (l2 : Value) (i : Int32) (w0 w1 : Value) (σ : Hs) : ru d 154 62 [l0, l1, l2] [.int i, .ref 88, w0, w1] σ = gd (vp_in i 545) (ru d 154 63 [l0, l1, l2] [.int (σ 88 i.toNatClampNeg), w0, w1] σ) := q_iald t154_62 rfl (by decide +kernel) rfl
theorem t154_63 : decode (mb 154) 63 = .ok (.if_icmp .ge 7, 3) := by decide +kernel
theorem s154_63 (d : Nat) (l0 : Value) (l1 : Value) (l2 : Value) (x y : Int32) (w0 : Value) (σ : Hs) : ru d 154 63 [l0, l1, l2] [.int y, .int x, w0] σ = if y ≤ x then ru d 154 70 [l0, l1, l2] [w0] σ else ru d 154 66 [l0, l1, l2] [w0] σ := q_ic_ge t154_63 (by decide +kernel)
theorem t154_66 : decode (mb 154) 66 = .ok (.iconst 1, 1) := by decide +kernel
theorem s154_66 (d : Nat) (l0 : Value) (l1 : Value) (l2 : Value) (w0 : Value) (σ : Hs) : ru d 154 66 [l0, l1, l2] [w0] σ = ru d 154 67 [l0, l1, l2] [.int 1, w0] σ := q_iconst t154_66 (by decide +kernel)
theorem t154_67 : decode (mb 154) 67 = .ok (.goto 4, 3) := by decide +kernel
theorem s154_67 (d : Nat) (l0 : Value) (l1 : Value) (l2 : Value) (w0 w1 : Value) (σ : Hs) : ru d 154 67 [l0, l1, l2] [w0, w1] σ = ru d 154 71 [l0, l1, l2] [w0, w1] σ := q_goto t154_67 (by decide +kernel)
theorem t154_70 : decode (mb 154) 70 = .ok (.iconst 0, 1) := by decide +kernel
theorem s154_70 (d : Nat) (l0 : Value) (l1 : Value) (l2 : Value) (w0 : Value) (σ : Hs) : ru d 154 70 [l0, l1, l2] [w0] σ = ru d 154 71 [l0, l1, l2] [.int 0, w0] σ := q_iconst t154_70 (by decide +kernel)
theorem t154_71 : decode (mb 154) 71 = .ok (.putfield 159, 3) := by decide +kernel
theorem s154_71_o87 (d : Nat) (l0 : Value) (l1 : Value) (l2 : Value) (x : Int32) (hx : isB x) (σ : Hs) : ru d 154 71 [l0, l1, l2] [.int x, .ref 87] σ = ru d 154 74 [l0, l1, l2] [] (up2 σ 87 12 x) := q_putz t154_71 mo154 F8_159 (by decide +kernel) rfl rfl hx
theorem t154_74 : decode (mb 154) 74 = .ok (.aload_n 0, 1) := by decide +kernel
theorem s154_74 (d : Nat) (a0 : Nat) (l1 : Value) (l2 : Value) (σ : Hs) : ru d 154 74 [.ref a0, l1, l2] [] σ = ru d 154 75 [.ref a0, l1, l2] [.ref a0] σ := q_aload_n t154_74 rfl
theorem t154_75 : decode (mb 154) 75 = .ok (.getfield 9, 3) := by decide +kernel
theorem s154_75_o87 (d : Nat) (l0 : Value) (l1 : Value) (l2 : Value) (σ : Hs) : ru d 154 75 [l0, l1, l2] [.ref 87] σ = ru d 154 78 [l0, l1, l2] [.ref 88] σ := q_getf t154_75 mo154 F8_9 rfl rfl
theorem t154_78 : decode (mb 154) 78 = .ok (.iconst 1, 1) := by decide +kernel
theorem s154_78 (d : Nat) (l0 : Value) (l1 : Value) (l2 : Value) (w0 : Value) (σ : Hs) : ru d 154 78 [l0, l1, l2] [w0] σ = ru d 154 79 [l0, l1, l2] [.int 1, w0] σ := q_iconst t154_78 (by decide +kernel)
theorem t154_79 : decode (mb 154) 79 = .ok (.iconst 0, 1) := by decide +kernel
theorem s154_79 (d : Nat) (l0 : Value) (l1 : Value) (l2 : Value) (w0 w1 : Value) (σ : Hs) : ru d 154 79 [l0, l1, l2] [w0, w1] σ = ru d 154 80 [l0, l1, l2] [.int 0, w0, w1] σ := q_iconst t154_79 (by decide +kernel)
theorem t154_80 : decode (mb 154) 80 = .ok (.iastore, 1) := by decide +kernel
theorem s154_80_o88 (d : Nat) (l0 : Value) (l1 : Value) (l2 : Value) (i x : Int32) (σ : Hs) : ru d 154 80 [l0, l1, l2] [.int x, .int i, .ref 88] σ = gd (vp_in i 545) (ru d 154 81 [l0, l1, l2] [] (up2 σ 88 i.toNatClampNeg x)) := q_iast t154_80 (by decide +kernel) rfl rfl
theorem t154_81 : decode (mb 154) 81 = .ok (.aload_n 0, 1) := by decide +kernel
theorem s154_81 (d : Nat) (a0 : Nat) (l1 : Value) (l2 : Value) (σ : Hs) : ru d 154 81 [.ref a0, l1, l2] [] σ = ru d 154 82 [.ref a0, l1, l2] [.ref a0] σ := q_aload_n t154_81 rfl
theorem t154_82 : decode (mb 154) 82 = .ok (.getfield 159, 3) := by decide +kernel
theorem s154_82_o87 (d : Nat) (l0 : Value) (l1 : Value) (l2 : Value) (σ : Hs) : ru d 154 82 [l0, l1, l2] [.ref 87] σ = ru d 154 85 [l0, l1, l2] [.int (σ 87 12)] σ := q_getf t154_82 mo154 F8_159 rfl rfl
theorem t154_85 : decode (mb 154) 85 = .ok (.ifCond .eq 11, 3) := by decide +kernel
theorem s154_85 (d : Nat) (l0 : Value) (l1 : Value) (l2 : Value) (x : Int32) (σ : Hs) : ru d 154 85 [l0, l1, l2] [.int x] σ = if x = 0 then ru d 154 96 [l0, l1, l2] [] σ else ru d 154 88 [l0, l1, l2] [] σ := q_if_eq t154_85 (by decide +kernel)
theorem t154_88 : decode (mb 154) 88 = .ok (.bipush (-10), 2) := by decide +kernel
theorem s154_88 (d : Nat) (l0 : Value) (l1 : Value) (l2 : Value) (σ : Hs) : ru d 154 88 [l0, l1, l2] [] σ = ru d 154 90 [l0, l1, l2] [.int (-10)] σ := q_bipush t154_88 (by decide +kernel)
theorem t154_90 : decode (mb 154) 90 = .ok (.aload_n 0, 1) := by decide +kernel
theorem s154_90 (d : Nat) (a0 : Nat) (l1 : Value) (l2 : Value) (w0 : Value) (σ : Hs) : ru d 154 90 [.ref a0, l1, l2] [w0] σ = ru d 154 91 [.ref a0, l1, l2] [.ref a0, w0] σ := q_aload_n t154_90 rfl
theorem t154_91 : decode (mb 154) 91 = .ok (.getfield 163, 3) := by decide +kernel
theorem s154_91_o87 (d : Nat) (l0 : Value) (l1 : Value) (l2 : Value) (w0 : Value) (σ : Hs) : ru d 154 91 [l0, l1, l2] [.ref 87, w0] σ = ru d 154 94 [l0, l1, l2] [.int (σ 87 9), w0] σ := q_getf t154_91 mo154 F8_163 rfl rfl
theorem t154_94 : decode (mb 154) 94 = .ok (.isub, 1) := by decide +kernel
theorem s154_94 (d : Nat) (l0 : Value) (l1 : Value) (l2 : Value) (x y : Int32) (σ : Hs) : ru d 154 94 [l0, l1, l2] [.int y, .int x] σ = ru d 154 95 [l0, l1, l2] [.int (x - y)] σ := q_isub t154_94
theorem t154_95 : decode (mb 154) 95 = .ok (.ireturn, 1) := by decide +kernel
theorem s154_95 (d : Nat) (l0 : Value) (l1 : Value) (l2 : Value) (x : Int32) (σ : Hs) : ru d 154 95 [l0, l1, l2] [.int x] σ = some (some (.int x), σ) := q_ireti t154_95 mr154
theorem t154_96 : decode (mb 154) 96 = .ok (.aload_n 0, 1) := by decide +kernel
theorem s154_96 (d : Nat) (a0 : Nat) (l1 : Value) (l2 : Value) (σ : Hs) : ru d 154 96 [.ref a0, l1, l2] [] σ = ru d 154 97 [.ref a0, l1, l2] [.ref a0] σ := q_aload_n t154_96 rfl
theorem t154_97 : decode (mb 154) 97 = .ok (.getfield 9, 3) := by decide +kernel
theorem s154_97_o87 (d : Nat) (l0 : Value) (l1 : Value) (l2 : Value) (σ : Hs) : ru d 154 97 [l0, l1, l2] [.ref 87] σ = ru d 154 100 [l0, l1, l2] [.ref 88] σ := q_getf t154_97 mo154 F8_9 rfl rfl
theorem t154_100 : decode (mb 154) 100 = .ok (.sipush 359, 3) := by decide +kernel
theorem s154_100 (d : Nat) (l0 : Value) (l1 : Value) (l2 : Value) (w0 : Value) (σ : Hs) : ru d 154 100 [l0, l1, l2] [w0] σ = ru d 154 103 [l0, l1, l2] [.int 359, w0] σ := q_sipush t154_100 (by decide +kernel)
theorem t154_103 : decode (mb 154) 103 = .ok (.bipush 62, 2) := by decide +kernel
theorem s154_103 (d : Nat) (l0 : Value) (l1 : Value) (l2 : Value) (w0 w1 : Value) (σ : Hs) : ru d 154 103 [l0, l1, l2] [w0, w1] σ = ru d 154 105 [l0, l1, l2] [.int 62, w0, w1] σ := q_bipush t154_103 (by decide +kernel)
theorem t154_105 : decode (mb 154) 105 = .ok (.aload_n 0, 1) := by decide +kernel
theorem s154_105 (d : Nat) (a0 : Nat) (l1 : Value) (l2 : Value) (w0 w1 w2 : Value) (σ : Hs) : ru d 154 105 [.ref a0, l1, l2] [w0, w1, w2] σ = ru d 154 106 [.ref a0, l1, l2] [.ref a0, w0, w1, w2] σ := q_aload_n t154_105 rfl
theorem t154_106 : decode (mb 154) 106 = .ok (.getfield 195, 3) := by decide +kernel
theorem s154_106_o87 (d : Nat) (l0 : Value) (l1 : Value) (l2 : Value) (w0 w1 w2 : Value) (σ : Hs) : ru d 154 106 [l0, l1, l2] [.ref 87, w0, w1, w2] σ = ru d 154 109 [l0, l1, l2] [.int (σ 87 11), w0, w1, w2] σ := q_getf t154_106 mo154 F8_195 rfl rfl
theorem t154_109 : decode (mb 154) 109 = .ok (.imul, 1) := by decide +kernel
theorem s154_109 (d : Nat) (l0 : Value) (l1 : Value) (l2 : Value) (x y : Int32) (w0 w1 : Value) (σ : Hs) : ru d 154 109 [l0, l1, l2] [.int y, .int x, w0, w1] σ = ru d 154 110 [l0, l1, l2] [.int (x * y), w0, w1] σ := q_imul t154_109
theorem t154_110 : decode (mb 154) 110 = .ok (.iadd, 1) := by decide +kernel
theorem s154_110 (d : Nat) (l0 : Value) (l1 : Value) (l2 : Value) (x y : Int32) (w0 : Value) (σ : Hs) : ru d 154 110 [l0, l1, l2] [.int y, .int x, w0] σ = ru d 154 111 [l0, l1, l2] [.int (x + y), w0] σ := q_iadd t154_110
theorem t154_111 : decode (mb 154) 111 = .ok (.aload_n 0, 1) := by decide +kernel
theorem s154_111 (d : Nat) (a0 : Nat) (l1 : Value) (l2 : Value) (w0 w1 : Value) (σ : Hs) : ru d 154 111 [.ref a0, l1, l2] [w0, w1] σ = ru d 154 112 [.ref a0, l1, l2] [.ref a0, w0, w1] σ := q_aload_n t154_111 rfl
theorem t154_112 : decode (mb 154) 112 = .ok (.getfield 171, 3) := by decide +kernel
theorem s154_112_o87 (d : Nat) (l0 : Value) (l1 : Value) (l2 : Value) (w0 w1 : Value) (σ : Hs) : ru d 154 112 [l0, l1, l2] [.ref 87, w0, w1] σ = ru d 154 115 [l0, l1, l2] [.int (σ 87 14), w0, w1] σ := q_getf t154_112 mo154 F8_171 rfl rfl
theorem t154_115 : decode (mb 154) 115 = .ok (.iastore, 1) := by decide +kernel
theorem s154_115_o88 (d : Nat) (l0 : Value) (l1 : Value) (l2 : Value) (i x : Int32) (σ : Hs) : ru d 154 115 [l0, l1, l2] [.int x, .int i, .ref 88] σ = gd (vp_in i 545) (ru d 154 116 [l0, l1, l2] [] (up2 σ 88 i.toNatClampNeg x)) := q_iast t154_115 (by decide +kernel) rfl rfl
theorem t154_116 : decode (mb 154) 116 = .ok (.iconst 0, 1) := by decide +kernel
theorem s154_116 (d : Nat) (l0 : Value) (l1 : Value) (l2 : Value) (σ : Hs) : ru d 154 116 [l0, l1, l2] [] σ = ru d 154 117 [l0, l1, l2] [.int 0] σ := q_iconst t154_116 (by decide +kernel)
theorem t154_117 : decode (mb 154) 117 = .ok (.istore_n 2, 1) := by decide +kernel
theorem s154_117 (d : Nat) (l0 : Value) (i1 : Int32) (l2 : Value) (x : Int32) (σ : Hs) : ru d 154 117 [l0, .int i1, l2] [.int x] σ = ru d 154 118 [l0, .int i1, .int x] [] σ := q_istore_n t154_117 ⟨Nat.le_of_ble_eq_true rfl, rfl⟩ rfl
theorem t154_118 : decode (mb 154) 118 = .ok (.iload_n 2, 1) := by decide +kernel
theorem s154_118 (d : Nat) (l0 : Value) (l1 : Value) (i2 : Int32) (σ : Hs) : ru d 154 118 [l0, l1, .int i2] [] σ = ru d 154 119 [l0, l1, .int i2] [.int i2] σ := q_iload_n t154_118 rfl
theorem t154_119 : decode (mb 154) 119 = .ok (.aload_n 0, 1) := by decide +kernel
theorem s154_119 (d : Nat) (a0 : Nat) (l1 : Value) (l2 : Value) (w0 : Value) (σ : Hs) : ru d 154 119 [.ref a0, l1, l2] [w0] σ = ru d 154 120 [.ref a0, l1, l2] [.ref a0, w0] σ := q_aload_n t154_119 rfl
theorem t154_120 : decode (mb 154) 120 = .ok (.getfield 171, 3) := by decide +kernel
theorem s154_120_o87 (d : Nat) (l0 : Value) (l1 : Value) (l2 : Value) (w0 : Value) (σ : Hs) : ru d 154 120 [l0, l1, l2] [.ref 87, w0] σ = ru d 154 123 [l0, l1, l2] [.int (σ 87 14), w0] σ := q_getf t154_120 mo154 F8_171 rfl rfl
theorem t154_123 : decode (mb 154) 123 = .ok (.if_icmp .ge 35, 3) := by decide +kernel
theorem s154_123 (d : Nat) (l0 : Value) (l1 : Value) (l2 : Value) (x y : Int32) (σ : Hs) : ru d 154 123 [l0, l1, l2] [.int y, .int x] σ = if y ≤ x then ru d 154 158 [l0, l1, l2] [] σ else ru d 154 126 [l0, l1, l2] [] σ := q_ic_ge t154_123 (by decide +kernel)
theorem t154_126 : decode (mb 154) 126 = .ok (.aload_n 0, 1) := by decide +kernel
theorem s154_126 (d : Nat) (a0 : Nat) (l1 : Value) (l2 : Value) (σ : Hs) : ru d 154 126 [.ref a0, l1, l2] [] σ = ru d 154 127 [.ref a0, l1, l2] [.ref a0] σ := q_aload_n t154_126 rfl
theorem t154_127 : decode (mb 154) 127 = .ok (.getfield 9, 3) := by decide +kernel
theorem s154_127_o87 (d : Nat) (l0 : Value) (l1 : Value) (l2 : Value) (σ : Hs) : ru d 154 127 [l0, l1, l2] [.ref 87] σ = ru d 154 130 [l0, l1, l2] [.ref 88] σ := q_getf t154_127 mo154 F8_9 rfl rfl
theorem t154_130 : decode (mb 154) 130 = .ok (.sipush 359, 3) := by decide +kernel
theorem s154_130 (d : Nat) (l0 : Value) (l1 : Value) (l2 : Value) (w0 : Value) (σ : Hs) : ru d 154 130 [l0, l1, l2] [w0] σ = ru d 154 133 [l0, l1, l2] [.int 359, w0] σ := q_sipush t154_130 (by decide +kernel)
theorem t154_133 : decode (mb 154) 133 = .ok (.bipush 62, 2) := by decide +kernel
theorem s154_133 (d : Nat) (l0 : Value) (l1 : Value) (l2 : Value) (w0 w1 : Value) (σ : Hs) : ru d 154 133 [l0, l1, l2] [w0, w1] σ = ru d 154 135 [l0, l1, l2] [.int 62, w0, w1] σ := q_bipush t154_133 (by decide +kernel)
theorem t154_135 : decode (mb 154) 135 = .ok (.aload_n 0, 1) := by decide +kernel
theorem s154_135 (d : Nat) (a0 : Nat) (l1 : Value) (l2 : Value) (w0 w1 w2 : Value) (σ : Hs) : ru d 154 135 [.ref a0, l1, l2] [w0, w1, w2] σ = ru d 154 136 [.ref a0, l1, l2] [.ref a0, w0, w1, w2] σ := q_aload_n t154_135 rfl
theorem t154_136 : decode (mb 154) 136 = .ok (.getfield 195, 3) := by decide +kernel
theorem s154_136_o87 (d : Nat) (l0 : Value) (l1 : Value) (l2 : Value) (w0 w1 w2 : Value) (σ : Hs) : ru d 154 136 [l0, l1, l2] [.ref 87, w0, w1, w2] σ = ru d 154 139 [l0, l1, l2] [.int (σ 87 11), w0, w1, w2] σ := q_getf t154_136 mo154 F8_195 rfl rfl
theorem t154_139 : decode (mb 154) 139 = .ok (.imul, 1) := by decide +kernel
theorem s154_139 (d : Nat) (l0 : Value) (l1 : Value) (l2 : Value) (x y : Int32) (w0 w1 : Value) (σ : Hs) : ru d 154 139 [l0, l1, l2] [.int y, .int x, w0, w1] σ = ru d 154 140 [l0, l1, l2] [.int (x * y), w0, w1] σ := q_imul t154_139
theorem t154_140 : decode (mb 154) 140 = .ok (.iadd, 1) := by decide +kernel
theorem s154_140 (d : Nat) (l0 : Value) (l1 : Value) (l2 : Value) (x y : Int32) (w0 : Value) (σ : Hs) : ru d 154 140 [l0, l1, l2] [.int y, .int x, w0] σ = ru d 154 141 [l0, l1, l2] [.int (x + y), w0] σ := q_iadd t154_140
theorem t154_141 : decode (mb 154) 141 = .ok (.iconst 1, 1) := by decide +kernel
theorem s154_141 (d : Nat) (l0 : Value) (l1 : Value) (l2 : Value) (w0 w1 : Value) (σ : Hs) : ru d 154 141 [l0, l1, l2] [w0, w1] σ = ru d 154 142 [l0, l1, l2] [.int 1, w0, w1] σ := q_iconst t154_141 (by decide +kernel)
theorem t154_142 : decode (mb 154) 142 = .ok (.iadd, 1) := by decide +kernel
theorem s154_142 (d : Nat) (l0 : Value) (l1 : Value) (l2 : Value) (x y : Int32) (w0 : Value) (σ : Hs) : ru d 154 142 [l0, l1, l2] [.int y, .int x, w0] σ = ru d 154 143 [l0, l1, l2] [.int (x + y), w0] σ := q_iadd t154_142
theorem t154_143 : decode (mb 154) 143 = .ok (.iload_n 2, 1) := by decide +kernel
theorem s154_143 (d : Nat) (l0 : Value) (l1 : Value) (i2 : Int32) (w0 w1 : Value) (σ : Hs) : ru d 154 143 [l0, l1, .int i2] [w0, w1] σ = ru d 154 144 [l0, l1, .int i2] [.int i2, w0, w1] σ := q_iload_n t154_143 rfl
theorem t154_144 : decode (mb 154) 144 = .ok (.iadd, 1) := by decide +kernel
theorem s154_144 (d : Nat) (l0 : Value) (l1 : Value) (l2 : Value) (x y : Int32) (w0 : Value) (σ : Hs) : ru d 154 144 [l0, l1, l2] [.int y, .int x, w0] σ = ru d 154 145 [l0, l1, l2] [.int (x + y), w0] σ := q_iadd t154_144
theorem t154_145 : decode (mb 154) 145 = .ok (.aload_n 0, 1) := by decide +kernel
theorem s154_145 (d : Nat) (a0 : Nat) (l1 : Value) (l2 : Value) (w0 w1 : Value) (σ : Hs) : ru d 154 145 [.ref a0, l1, l2] [w0, w1] σ = ru d 154 146 [.ref a0, l1, l2] [.ref a0, w0, w1] σ := q_aload_n t154_145 rfl
theorem t154_146 : decode (mb 154) 146 = .ok (.getfield 43, 3) := by decide +kernel
theorem s154_146_o87 (d : Nat) (l0 : Value) (l1 : Value) (l2 : Value) (w0 w1 : Value) (σ : Hs) : ru d 154 146 [l0, l1, l2] [.ref 87, w0, w1] σ = ru d 154 149 [l0, l1, l2] [.ref 96, w0, w1] σ := q_getf t154_146 mo154 F8_43 rfl rfl
theorem t154_149 : decode (mb 154) 149 = .ok (.iload_n 2, 1) := by decide +kernel
theorem s154_149 (d : Nat) (l0 : Value) (l1 : Value) (i2 : Int32) (w0 w1 w2 : Value) (σ : Hs) : ru d 154 149 [l0, l1, .int i2] [w0, w1, w2] σ = ru d 154 150 [l0, l1, .int i2] [.int i2, w0, w1, w2] σ := q_iload_n t154_149 rfl
theorem t154_150 : decode (mb 154) 150 = .ok (.iaload, 1) := by decide +kernel
theorem s154_150_o96 (d : Nat) (l0 : Value) (l1 : Value) (l2 : Value) (i : Int32) (w0 w1 : Value) (σ : Hs) : ru d 154 150 [l0, l1, l2] [.int i, .ref 96, w0, w1] σ = gd (vp_in i 60) (ru d 154 151 [l0, l1, l2] [.int (σ 96 i.toNatClampNeg), w0, w1] σ) := q_iald t154_150 rfl (by decide +kernel) rfl
theorem t154_151 : decode (mb 154) 151 = .ok (.iastore, 1) := by decide +kernel
theorem s154_151_o88 (d : Nat) (l0 : Value) (l1 : Value) (l2 : Value) (i x : Int32) (σ : Hs) : ru d 154 151 [l0, l1, l2] [.int x, .int i, .ref 88] σ = gd (vp_in i 545) (ru d 154 152 [l0, l1, l2] [] (up2 σ 88 i.toNatClampNeg x)) := q_iast t154_151 (by decide +kernel) rfl rfl
theorem t154_152 : decode (mb 154) 152 = .ok (.iinc 2 1, 3) := by decide +kernel
theorem s154_152 (d : Nat) (l0 : Value) (i1 : Int32) (i2 : Int32) (σ : Hs) : ru d 154 152 [l0, .int i1, .int i2] [] σ = ru d 154 155 [l0, .int i1, .int (i2 + 1)] [] σ := q_iinc t154_152 ⟨Nat.le_of_ble_eq_true rfl, rfl⟩ rfl (by decide +kernel) rfl
theorem t154_155 : decode (mb 154) 155 = .ok (.goto (-37), 3) := by decide +kernel
theorem s154_155 (d : Nat) (l0 : Value) (l1 : Value) (l2 : Value) (σ : Hs) : ru d 154 155 [l0, l1, l2] [] σ = ru d 154 118 [l0, l1, l2] [] σ := q_goto t154_155 (by decide +kernel)
theorem t154_158 : decode (mb 154) 158 = .ok (.iconst 1, 1) := by decide +kernel
theorem s154_158 (d : Nat) (l0 : Value) (l1 : Value) (l2 : Value) (σ : Hs) : ru d 154 158 [l0, l1, l2] [] σ = ru d 154 159 [l0, l1, l2] [.int 1] σ := q_iconst t154_158 (by decide +kernel)
theorem t154_159 : decode (mb 154) 159 = .ok (.ireturn, 1) := by decide +kernel
theorem s154_159 (d : Nat) (l0 : Value) (l1 : Value) (l2 : Value) (x : Int32) (σ : Hs) : ru d 154 159 [l0, l1, l2] [.int x] σ = some (some (.int x), σ) := q_ireti t154_159 mr154
theorem c154 (d : Nat) (x0 : Nat) (x1 : Int32) (σ : Hs) : callD (d + 1) 154 [.ref x0, .int x1] σ = ru d 154 0 [.ref x0, .int x1, uu] [] σ := callD_ru ml154 rfl rfl (Nat.le_of_ble_eq_true rfl)
-- 155: Model.untell(I)I
theorem t155_0 : decode (mb 155) 0 = .ok (.iload_n 1, 1) := by decide +kernel
theorem s155_0 (d : Nat) (l0 : Value) (i1 : Int32) (σ : Hs) : ru d 155 0 [l0, .int i1] [] σ = ru d 155 1 [l0, .int i1] [.int i1] σ := q_iload_n t155_0 rfl
theorem t155_1 : decode (mb 155) 1 = .ok (.iconst 0, 1) := by decide +kernel
theorem s155_1 (d : Nat) (l0 : Value) (l1 : Value) (w0 : Value) (σ : Hs) : ru d 155 1 [l0, l1] [w0] σ = ru d 155 2 [l0, l1] [.int 0, w0] σ := q_iconst t155_1 (by decide +kernel)
theorem t155_2 : decode (mb 155) 2 = .ok (.iconst 2, 1) := by decide +kernel
theorem s155_2 (d : Nat) (l0 : Value) (l1 : Value) (w0 w1 : Value) (σ : Hs) : ru d 155 2 [l0, l1] [w0, w1] σ = ru d 155 3 [l0, l1] [.int 2, w0, w1] σ := q_iconst t155_2 (by decide +kernel)
theorem t155_3 : decode (mb 155) 3 = .ok (.invokestatic 81, 3) := by decide +kernel
theorem s155_3 (d : Nat) (l0 : Value) (l1 : Value) (v0 v1 v2 : Value) (σ : Hs) : ru d 155 3 [l0, l1] [v2, v1, v0] σ = kont (callD d 112 [v0, v1, v2] σ) d 155 6 [l0, l1] [] := q_invs t155_3 mo155 (by decide +kernel) K8_81 mj112 (Nat.le_of_ble_eq_true rfl) rfl rfl (Nat.le_of_ble_eq_true rfl)
theorem t155_6 : decode (mb 155) 6 = .ok (.ifCond .eq 27, 3) := by decide +kernel
theorem s155_6 (d : Nat) (l0 : Value) (l1 : Value) (x : Int32) (σ : Hs) : ru d 155 6 [l0, l1] [.int x] σ = if x = 0 then ru d 155 33 [l0, l1] [] σ else ru d 155 9 [l0, l1] [] σ := q_if_eq t155_6 (by decide +kernel)
theorem t155_9 : decode (mb 155) 9 = .ok (.aload_n 0, 1) := by decide +kernel
theorem s155_9 (d : Nat) (a0 : Nat) (l1 : Value) (σ : Hs) : ru d 155 9 [.ref a0, l1] [] σ = ru d 155 10 [.ref a0, l1] [.ref a0] σ := q_aload_n t155_9 rfl
theorem t155_10 : decode (mb 155) 10 = .ok (.sipush 359, 3) := by decide +kernel
theorem s155_10 (d : Nat) (l0 : Value) (l1 : Value) (w0 : Value) (σ : Hs) : ru d 155 10 [l0, l1] [w0] σ = ru d 155 13 [l0, l1] [.int 359, w0] σ := q_sipush t155_10 (by decide +kernel)
theorem t155_13 : decode (mb 155) 13 = .ok (.bipush 62, 2) := by decide +kernel
theorem s155_13 (d : Nat) (l0 : Value) (l1 : Value) (w0 w1 : Value) (σ : Hs) : ru d 155 13 [l0, l1] [w0, w1] σ = ru d 155 15 [l0, l1] [.int 62, w0, w1] σ := q_bipush t155_13 (by decide +kernel)
theorem t155_15 : decode (mb 155) 15 = .ok (.iload_n 1, 1) := by decide +kernel
theorem s155_15 (d : Nat) (l0 : Value) (i1 : Int32) (w0 w1 w2 : Value) (σ : Hs) : ru d 155 15 [l0, .int i1] [w0, w1, w2] σ = ru d 155 16 [l0, .int i1] [.int i1, w0, w1, w2] σ := q_iload_n t155_15 rfl
theorem t155_16 : decode (mb 155) 16 = .ok (.imul, 1) := by decide +kernel
theorem s155_16 (d : Nat) (l0 : Value) (l1 : Value) (x y : Int32) (w0 w1 : Value) (σ : Hs) : ru d 155 16 [l0, l1] [.int y, .int x, w0, w1] σ = ru d 155 17 [l0, l1] [.int (x * y), w0, w1] σ := q_imul t155_16
theorem t155_17 : decode (mb 155) 17 = .ok (.iadd, 1) := by decide +kernel
theorem s155_17 (d : Nat) (l0 : Value) (l1 : Value) (x y : Int32) (w0 : Value) (σ : Hs) : ru d 155 17 [l0, l1] [.int y, .int x, w0] σ = ru d 155 18 [l0, l1] [.int (x + y), w0] σ := q_iadd t155_17
theorem t155_18 : decode (mb 155) 18 = .ok (.iconst 0, 1) := by decide +kernel
theorem s155_18 (d : Nat) (l0 : Value) (l1 : Value) (w0 w1 : Value) (σ : Hs) : ru d 155 18 [l0, l1] [w0, w1] σ = ru d 155 19 [l0, l1] [.int 0, w0, w1] σ := q_iconst t155_18 (by decide +kernel)
theorem t155_19 : decode (mb 155) 19 = .ok (.invokevirtual 135, 3) := by decide +kernel
theorem s155_19_o87 (d : Nat) (l0 : Value) (l1 : Value) (v1 v2 : Value) (σ : Hs) : ru d 155 19 [l0, l1] [v2, v1, .ref 87] σ = kont (callD d 116 [.ref 87, v1, v2] σ) d 155 22 [l0, l1] [] := q_invv t155_19 mo155 K8_135 mj116 rfl rfl rfl rfl (Nat.le_of_ble_eq_true rfl)
theorem t155_22 : decode (mb 155) 22 = .ok (.ifCond .le 7, 3) := by decide +kernel
theorem s155_22 (d : Nat) (l0 : Value) (l1 : Value) (x : Int32) (σ : Hs) : ru d 155 22 [l0, l1] [.int x] σ = if x ≤ 0 then ru d 155 29 [l0, l1] [] σ else ru d 155 25 [l0, l1] [] σ := q_if_le t155_22 (by decide +kernel)
theorem t155_25 : decode (mb 155) 25 = .ok (.iconst 1, 1) := by decide +kernel
theorem s155_25 (d : Nat) (l0 : Value) (l1 : Value) (σ : Hs) : ru d 155 25 [l0, l1] [] σ = ru d 155 26 [l0, l1] [.int 1] σ := q_iconst t155_25 (by decide +kernel)
theorem t155_26 : decode (mb 155) 26 = .ok (.goto 13, 3) := by decide +kernel
theorem s155_26 (d : Nat) (l0 : Value) (l1 : Value) (w0 : Value) (σ : Hs) : ru d 155 26 [l0, l1] [w0] σ = ru d 155 39 [l0, l1] [w0] σ := q_goto t155_26 (by decide +kernel)
theorem t155_29 : decode (mb 155) 29 = .ok (.iconst 0, 1) := by decide +kernel
theorem s155_29 (d : Nat) (l0 : Value) (l1 : Value) (σ : Hs) : ru d 155 29 [l0, l1] [] σ = ru d 155 30 [l0, l1] [.int 0] σ := q_iconst t155_29 (by decide +kernel)
theorem t155_30 : decode (mb 155) 30 = .ok (.goto 9, 3) := by decide +kernel
theorem s155_30 (d : Nat) (l0 : Value) (l1 : Value) (w0 : Value) (σ : Hs) : ru d 155 30 [l0, l1] [w0] σ = ru d 155 39 [l0, l1] [w0] σ := q_goto t155_30 (by decide +kernel)
theorem t155_33 : decode (mb 155) 33 = .ok (.aload_n 0, 1) := by decide +kernel
theorem s155_33 (d : Nat) (a0 : Nat) (l1 : Value) (σ : Hs) : ru d 155 33 [.ref a0, l1] [] σ = ru d 155 34 [.ref a0, l1] [.ref a0] σ := q_aload_n t155_33 rfl
theorem t155_34 : decode (mb 155) 34 = .ok (.ldc 104, 2) := by decide +kernel
theorem s155_34 (d : Nat) (l0 : Value) (l1 : Value) (w0 : Value) (σ : Hs) : ru d 155 34 [l0, l1] [w0] σ = ru d 155 36 [l0, l1] [.int (-1000001), w0] σ := q_ldc t155_34 mo155 C8_104
theorem t155_36 : decode (mb 155) 36 = .ok (.invokevirtual 105, 3) := by decide +kernel
theorem s155_36_o87 (d : Nat) (l0 : Value) (l1 : Value) (v1 : Value) (σ : Hs) : ru d 155 36 [l0, l1] [v1, .ref 87] σ = kont (callD d 111 [.ref 87, v1] σ) d 155 39 [l0, l1] [] := q_invv t155_36 mo155 K8_105 mj111 rfl rfl rfl rfl (Nat.le_of_ble_eq_true rfl)
theorem t155_39 : decode (mb 155) 39 = .ok (.ireturn, 1) := by decide +kernel
theorem s155_39 (d : Nat) (l0 : Value) (l1 : Value) (x : Int32) (σ : Hs) : ru d 155 39 [l0, l1] [.int x] σ = some (some (.int x), σ) := q_ireti t155_39 mr155
theorem c155 (d : Nat) (x0 : Nat) (x1 : Int32) (σ : Hs) : callD (d + 1) 155 [.ref x0, .int x1] σ = ru d 155 0 [.ref x0, .int x1] [] σ := callD_ru ml155 rfl rfl (Nat.le_of_ble_eq_true rfl)
-- 156: Model.done(III)I
theorem t156_0 : decode (mb 156) 0 = .ok (.iload_n 0, 1) := by decide +kernel
theorem s156_0 (d : Nat) (i0 : Int32) (l1 : Value) (l2 : Value) (σ : Hs) : ru d 156 0 [.int i0, l1, l2] [] σ = ru d 156 1 [.int i0, l1, l2] [.int i0] σ := q_iload_n t156_0 rfl
theorem t156_1 : decode (mb 156) 1 = .ok (.tableswitch 136 20000 20008 #[51, 65, 79, 90, 101, 112, 116, 120, 124], 51) := by decide +kernel
theorem f156_1 (x : Int32) : (tsw 20000 20008 #[51, 65, 79, 90, 101, 112, 116, 120, 124] 136 x.toInt).bind (tgt 1) = some (if x = 20000 then 52 else (if x = 20001 then 66 else (if x = 20002 then 80 else (if x = 20003 then 91 else (if x = 20004 then 102 else (if x = 20005 then 113 else (if x = 20006 then 117 else (if x = 20007 then 121 else (if x = 20008 then 125 else 137))))))))) := by
  by_cases h0 : x = 20000
  · subst h0; decide +kernel
  by_cases h1 : x = 20001
  · subst h1; decide +kernel
  by_cases h2 : x = 20002
  · subst h2; decide +kernel
  by_cases h3 : x = 20003
  · subst h3; decide +kernel
  by_cases h4 : x = 20004
  · subst h4; decide +kernel
  by_cases h5 : x = 20005
  · subst h5; decide +kernel
  by_cases h6 : x = 20006
  · subst h6; decide +kernel
  by_cases h7 : x = 20007
  · subst h7; decide +kernel
  by_cases h8 : x = 20008
  · subst h8; decide +kernel
  have e0 : ¬ x.toInt = 20000 := fun h => h0 (Int32.toInt_inj.mp (h.trans (by decide +kernel)))
  have e1 : ¬ x.toInt = 20001 := fun h => h1 (Int32.toInt_inj.mp (h.trans (by decide +kernel)))
  have e2 : ¬ x.toInt = 20002 := fun h => h2 (Int32.toInt_inj.mp (h.trans (by decide +kernel)))
  have e3 : ¬ x.toInt = 20003 := fun h => h3 (Int32.toInt_inj.mp (h.trans (by decide +kernel)))
  have e4 : ¬ x.toInt = 20004 := fun h => h4 (Int32.toInt_inj.mp (h.trans (by decide +kernel)))
  have e5 : ¬ x.toInt = 20005 := fun h => h5 (Int32.toInt_inj.mp (h.trans (by decide +kernel)))
  have e6 : ¬ x.toInt = 20006 := fun h => h6 (Int32.toInt_inj.mp (h.trans (by decide +kernel)))
  have e7 : ¬ x.toInt = 20007 := fun h => h7 (Int32.toInt_inj.mp (h.trans (by decide +kernel)))
  have e8 : ¬ x.toInt = 20008 := fun h => h8 (Int32.toInt_inj.mp (h.trans (by decide +kernel)))
  have e : x.toInt < 20000 ∨ 20008 < x.toInt := by omega
  unfold tsw
  rw [if_pos e, if_neg h0, if_neg h1, if_neg h2, if_neg h3, if_neg h4, if_neg h5, if_neg h6, if_neg h7, if_neg h8]
  decide +kernel
theorem s156_1 (d : Nat) (l0 : Value) (l1 : Value) (l2 : Value) (x : Int32) (σ : Hs) : ru d 156 1 [l0, l1, l2] [.int x] σ = if x = 20000 then ru d 156 52 [l0, l1, l2] [] σ else if x = 20001 then ru d 156 66 [l0, l1, l2] [] σ else if x = 20002 then ru d 156 80 [l0, l1, l2] [] σ else if x = 20003 then ru d 156 91 [l0, l1, l2] [] σ else if x = 20004 then ru d 156 102 [l0, l1, l2] [] σ else if x = 20005 then ru d 156 113 [l0, l1, l2] [] σ else if x = 20006 then ru d 156 117 [l0, l1, l2] [] σ else if x = 20007 then ru d 156 121 [l0, l1, l2] [] σ else if x = 20008 then ru d 156 125 [l0, l1, l2] [] σ else ru d 156 137 [l0, l1, l2] [] σ := by
  refine (q_tsw t156_1 (fun x => (if x = 20000 then 52 else (if x = 20001 then 66 else (if x = 20002 then 80 else (if x = 20003 then 91 else (if x = 20004 then 102 else (if x = 20005 then 113 else (if x = 20006 then 117 else (if x = 20007 then 121 else (if x = 20008 then 125 else 137)))))))))) (f156_1 x)).trans ?_
  by_cases h0 : x = 20000
  · rw [if_pos h0, if_pos h0]
  rw [if_neg h0, if_neg h0]
  by_cases h1 : x = 20001
  · rw [if_pos h1, if_pos h1]
  rw [if_neg h1, if_neg h1]
  by_cases h2 : x = 20002
  · rw [if_pos h2, if_pos h2]
  rw [if_neg h2, if_neg h2]
  by_cases h3 : x = 20003
  · rw [if_pos h3, if_pos h3]
  rw [if_neg h3, if_neg h3]
  by_cases h4 : x = 20004
  · rw [if_pos h4, if_pos h4]
  rw [if_neg h4, if_neg h4]
  by_cases h5 : x = 20005
  · rw [if_pos h5, if_pos h5]
  rw [if_neg h5, if_neg h5]
  by_cases h6 : x = 20006
  · rw [if_pos h6, if_pos h6]
  rw [if_neg h6, if_neg h6]
  by_cases h7 : x = 20007
  · rw [if_pos h7, if_pos h7]
  rw [if_neg h7, if_neg h7]
  by_cases h8 : x = 20008
  · rw [if_pos h8, if_pos h8]
  rw [if_neg h8, if_neg h8]
theorem t156_52 : decode (mb 156) 52 = .ok (.iload_n 1, 1) := by decide +kernel
theorem s156_52 (d : Nat) (l0 : Value) (i1 : Int32) (l2 : Value) (σ : Hs) : ru d 156 52 [l0, .int i1, l2] [] σ = ru d 156 53 [l0, .int i1, l2] [.int i1] σ := q_iload_n t156_52 rfl
theorem t156_53 : decode (mb 156) 53 = .ok (.ifCond .ne 7, 3) := by decide +kernel
theorem s156_53 (d : Nat) (l0 : Value) (l1 : Value) (l2 : Value) (x : Int32) (σ : Hs) : ru d 156 53 [l0, l1, l2] [.int x] σ = if x = 0 then ru d 156 56 [l0, l1, l2] [] σ else ru d 156 60 [l0, l1, l2] [] σ := q_if_ne t156_53 (by decide +kernel)
theorem t156_56 : decode (mb 156) 56 = .ok (.iload_n 2, 1) := by decide +kernel
theorem s156_56 (d : Nat) (l0 : Value) (l1 : Value) (i2 : Int32) (σ : Hs) : ru d 156 56 [l0, l1, .int i2] [] σ = ru d 156 57 [l0, l1, .int i2] [.int i2] σ := q_iload_n t156_56 rfl
theorem t156_57 : decode (mb 156) 57 = .ok (.ifCond .eq 7, 3) := by decide +kernel
theorem s156_57 (d : Nat) (l0 : Value) (l1 : Value) (l2 : Value) (x : Int32) (σ : Hs) : ru d 156 57 [l0, l1, l2] [.int x] σ = if x = 0 then ru d 156 64 [l0, l1, l2] [] σ else ru d 156 60 [l0, l1, l2] [] σ := q_if_eq t156_57 (by decide +kernel)
theorem t156_60 : decode (mb 156) 60 = .ok (.iconst 1, 1) := by decide +kernel
theorem s156_60 (d : Nat) (l0 : Value) (l1 : Value) (l2 : Value) (σ : Hs) : ru d 156 60 [l0, l1, l2] [] σ = ru d 156 61 [l0, l1, l2] [.int 1] σ := q_iconst t156_60 (by decide +kernel)
theorem t156_61 : decode (mb 156) 61 = .ok (.goto 4, 3) := by decide +kernel
theorem s156_61 (d : Nat) (l0 : Value) (l1 : Value) (l2 : Value) (w0 : Value) (σ : Hs) : ru d 156 61 [l0, l1, l2] [w0] σ = ru d 156 65 [l0, l1, l2] [w0] σ := q_goto t156_61 (by decide +kernel)
theorem t156_64 : decode (mb 156) 64 = .ok (.iconst 0, 1) := by decide +kernel
theorem s156_64 (d : Nat) (l0 : Value) (l1 : Value) (l2 : Value) (σ : Hs) : ru d 156 64 [l0, l1, l2] [] σ = ru d 156 65 [l0, l1, l2] [.int 0] σ := q_iconst t156_64 (by decide +kernel)
theorem t156_65 : decode (mb 156) 65 = .ok (.ireturn, 1) := by decide +kernel
theorem s156_65 (d : Nat) (l0 : Value) (l1 : Value) (l2 : Value) (x : Int32) (σ : Hs) : ru d 156 65 [l0, l1, l2] [.int x] σ = some (some (.int x), σ) := q_ireti t156_65 mr156
theorem t156_66 : decode (mb 156) 66 = .ok (.iload_n 1, 1) := by decide +kernel
theorem s156_66 (d : Nat) (l0 : Value) (i1 : Int32) (l2 : Value) (σ : Hs) : ru d 156 66 [l0, .int i1, l2] [] σ = ru d 156 67 [l0, .int i1, l2] [.int i1] σ := q_iload_n t156_66 rfl
theorem t156_67 : decode (mb 156) 67 = .ok (.ifCond .eq 11, 3) := by decide +kernel
theorem s156_67 (d : Nat) (l0 : Value) (l1 : Value) (l2 : Value) (x : Int32) (σ : Hs) : ru d 156 67 [l0, l1, l2] [.int x] σ = if x = 0 then ru d 156 78 [l0, l1, l2] [] σ else ru d 156 70 [l0, l1, l2] [] σ := q_if_eq t156_67 (by decide +kernel)
theorem t156_70 : decode (mb 156) 70 = .ok (.iload_n 2, 1) := by decide +kernel
theorem s156_70 (d : Nat) (l0 : Value) (l1 : Value) (i2 : Int32) (σ : Hs) : ru d 156 70 [l0, l1, .int i2] [] σ = ru d 156 71 [l0, l1, .int i2] [.int i2] σ := q_iload_n t156_70 rfl
theorem t156_71 : decode (mb 156) 71 = .ok (.ifCond .eq 7, 3) := by decide +kernel
theorem s156_71 (d : Nat) (l0 : Value) (l1 : Value) (l2 : Value) (x : Int32) (σ : Hs) : ru d 156 71 [l0, l1, l2] [.int x] σ = if x = 0 then ru d 156 78 [l0, l1, l2] [] σ else ru d 156 74 [l0, l1, l2] [] σ := q_if_eq t156_71 (by decide +kernel)
theorem t156_74 : decode (mb 156) 74 = .ok (.iconst 1, 1) := by decide +kernel
theorem s156_74 (d : Nat) (l0 : Value) (l1 : Value) (l2 : Value) (σ : Hs) : ru d 156 74 [l0, l1, l2] [] σ = ru d 156 75 [l0, l1, l2] [.int 1] σ := q_iconst t156_74 (by decide +kernel)
theorem t156_75 : decode (mb 156) 75 = .ok (.goto 4, 3) := by decide +kernel
theorem s156_75 (d : Nat) (l0 : Value) (l1 : Value) (l2 : Value) (w0 : Value) (σ : Hs) : ru d 156 75 [l0, l1, l2] [w0] σ = ru d 156 79 [l0, l1, l2] [w0] σ := q_goto t156_75 (by decide +kernel)
theorem t156_78 : decode (mb 156) 78 = .ok (.iconst 0, 1) := by decide +kernel
theorem s156_78 (d : Nat) (l0 : Value) (l1 : Value) (l2 : Value) (σ : Hs) : ru d 156 78 [l0, l1, l2] [] σ = ru d 156 79 [l0, l1, l2] [.int 0] σ := q_iconst t156_78 (by decide +kernel)
theorem t156_79 : decode (mb 156) 79 = .ok (.ireturn, 1) := by decide +kernel
theorem s156_79 (d : Nat) (l0 : Value) (l1 : Value) (l2 : Value) (x : Int32) (σ : Hs) : ru d 156 79 [l0, l1, l2] [.int x] σ = some (some (.int x), σ) := q_ireti t156_79 mr156
theorem t156_80 : decode (mb 156) 80 = .ok (.iload_n 1, 1) := by decide +kernel
theorem s156_80 (d : Nat) (l0 : Value) (i1 : Int32) (l2 : Value) (σ : Hs) : ru d 156 80 [l0, .int i1, l2] [] σ = ru d 156 81 [l0, .int i1, l2] [.int i1] σ := q_iload_n t156_80 rfl
theorem t156_81 : decode (mb 156) 81 = .ok (.iload_n 2, 1) := by decide +kernel
theorem s156_81 (d : Nat) (l0 : Value) (l1 : Value) (i2 : Int32) (w0 : Value) (σ : Hs) : ru d 156 81 [l0, l1, .int i2] [w0] σ = ru d 156 82 [l0, l1, .int i2] [.int i2, w0] σ := q_iload_n t156_81 rfl
theorem t156_82 : decode (mb 156) 82 = .ok (.if_icmp .ge 7, 3) := by decide +kernel
theorem s156_82 (d : Nat) (l0 : Value) (l1 : Value) (l2 : Value) (x y : Int32) (σ : Hs) : ru d 156 82 [l0, l1, l2] [.int y, .int x] σ = if y ≤ x then ru d 156 89 [l0, l1, l2] [] σ else ru d 156 85 [l0, l1, l2] [] σ := q_ic_ge t156_82 (by decide +kernel)
theorem t156_85 : decode (mb 156) 85 = .ok (.iconst 1, 1) := by decide +kernel
theorem s156_85 (d : Nat) (l0 : Value) (l1 : Value) (l2 : Value) (σ : Hs) : ru d 156 85 [l0, l1, l2] [] σ = ru d 156 86 [l0, l1, l2] [.int 1] σ := q_iconst t156_85 (by decide +kernel)
theorem t156_86 : decode (mb 156) 86 = .ok (.goto 4, 3) := by decide +kernel
theorem s156_86 (d : Nat) (l0 : Value) (l1 : Value) (l2 : Value) (w0 : Value) (σ : Hs) : ru d 156 86 [l0, l1, l2] [w0] σ = ru d 156 90 [l0, l1, l2] [w0] σ := q_goto t156_86 (by decide +kernel)
theorem t156_89 : decode (mb 156) 89 = .ok (.iconst 0, 1) := by decide +kernel
theorem s156_89 (d : Nat) (l0 : Value) (l1 : Value) (l2 : Value) (σ : Hs) : ru d 156 89 [l0, l1, l2] [] σ = ru d 156 90 [l0, l1, l2] [.int 0] σ := q_iconst t156_89 (by decide +kernel)
theorem t156_90 : decode (mb 156) 90 = .ok (.ireturn, 1) := by decide +kernel
theorem s156_90 (d : Nat) (l0 : Value) (l1 : Value) (l2 : Value) (x : Int32) (σ : Hs) : ru d 156 90 [l0, l1, l2] [.int x] σ = some (some (.int x), σ) := q_ireti t156_90 mr156
theorem t156_91 : decode (mb 156) 91 = .ok (.iload_n 1, 1) := by decide +kernel
theorem s156_91 (d : Nat) (l0 : Value) (i1 : Int32) (l2 : Value) (σ : Hs) : ru d 156 91 [l0, .int i1, l2] [] σ = ru d 156 92 [l0, .int i1, l2] [.int i1] σ := q_iload_n t156_91 rfl
theorem t156_92 : decode (mb 156) 92 = .ok (.iload_n 2, 1) := by decide +kernel
theorem s156_92 (d : Nat) (l0 : Value) (l1 : Value) (i2 : Int32) (w0 : Value) (σ : Hs) : ru d 156 92 [l0, l1, .int i2] [w0] σ = ru d 156 93 [l0, l1, .int i2] [.int i2, w0] σ := q_iload_n t156_92 rfl
theorem t156_93 : decode (mb 156) 93 = .ok (.if_icmp .ne 7, 3) := by decide +kernel
theorem s156_93 (d : Nat) (l0 : Value) (l1 : Value) (l2 : Value) (x y : Int32) (σ : Hs) : ru d 156 93 [l0, l1, l2] [.int y, .int x] σ = if x = y then ru d 156 96 [l0, l1, l2] [] σ else ru d 156 100 [l0, l1, l2] [] σ := q_ic_ne t156_93 (by decide +kernel)
theorem t156_96 : decode (mb 156) 96 = .ok (.iconst 1, 1) := by decide +kernel
theorem s156_96 (d : Nat) (l0 : Value) (l1 : Value) (l2 : Value) (σ : Hs) : ru d 156 96 [l0, l1, l2] [] σ = ru d 156 97 [l0, l1, l2] [.int 1] σ := q_iconst t156_96 (by decide +kernel)
theorem t156_97 : decode (mb 156) 97 = .ok (.goto 4, 3) := by decide +kernel
theorem s156_97 (d : Nat) (l0 : Value) (l1 : Value) (l2 : Value) (w0 : Value) (σ : Hs) : ru d 156 97 [l0, l1, l2] [w0] σ = ru d 156 101 [l0, l1, l2] [w0] σ := q_goto t156_97 (by decide +kernel)
theorem t156_100 : decode (mb 156) 100 = .ok (.iconst 0, 1) := by decide +kernel
theorem s156_100 (d : Nat) (l0 : Value) (l1 : Value) (l2 : Value) (σ : Hs) : ru d 156 100 [l0, l1, l2] [] σ = ru d 156 101 [l0, l1, l2] [.int 0] σ := q_iconst t156_100 (by decide +kernel)
theorem t156_101 : decode (mb 156) 101 = .ok (.ireturn, 1) := by decide +kernel
theorem s156_101 (d : Nat) (l0 : Value) (l1 : Value) (l2 : Value) (x : Int32) (σ : Hs) : ru d 156 101 [l0, l1, l2] [.int x] σ = some (some (.int x), σ) := q_ireti t156_101 mr156
theorem t156_102 : decode (mb 156) 102 = .ok (.iload_n 1, 1) := by decide +kernel
theorem s156_102 (d : Nat) (l0 : Value) (i1 : Int32) (l2 : Value) (σ : Hs) : ru d 156 102 [l0, .int i1, l2] [] σ = ru d 156 103 [l0, .int i1, l2] [.int i1] σ := q_iload_n t156_102 rfl
theorem t156_103 : decode (mb 156) 103 = .ok (.iload_n 2, 1) := by decide +kernel
theorem s156_103 (d : Nat) (l0 : Value) (l1 : Value) (i2 : Int32) (w0 : Value) (σ : Hs) : ru d 156 103 [l0, l1, .int i2] [w0] σ = ru d 156 104 [l0, l1, .int i2] [.int i2, w0] σ := q_iload_n t156_103 rfl
theorem t156_104 : decode (mb 156) 104 = .ok (.if_icmp .le 7, 3) := by decide +kernel
theorem s156_104 (d : Nat) (l0 : Value) (l1 : Value) (l2 : Value) (x y : Int32) (σ : Hs) : ru d 156 104 [l0, l1, l2] [.int y, .int x] σ = if x ≤ y then ru d 156 111 [l0, l1, l2] [] σ else ru d 156 107 [l0, l1, l2] [] σ := q_ic_le t156_104 (by decide +kernel)
theorem t156_107 : decode (mb 156) 107 = .ok (.iconst 1, 1) := by decide +kernel
theorem s156_107 (d : Nat) (l0 : Value) (l1 : Value) (l2 : Value) (σ : Hs) : ru d 156 107 [l0, l1, l2] [] σ = ru d 156 108 [l0, l1, l2] [.int 1] σ := q_iconst t156_107 (by decide +kernel)
theorem t156_108 : decode (mb 156) 108 = .ok (.goto 4, 3) := by decide +kernel
theorem s156_108 (d : Nat) (l0 : Value) (l1 : Value) (l2 : Value) (w0 : Value) (σ : Hs) : ru d 156 108 [l0, l1, l2] [w0] σ = ru d 156 112 [l0, l1, l2] [w0] σ := q_goto t156_108 (by decide +kernel)
theorem t156_111 : decode (mb 156) 111 = .ok (.iconst 0, 1) := by decide +kernel
theorem s156_111 (d : Nat) (l0 : Value) (l1 : Value) (l2 : Value) (σ : Hs) : ru d 156 111 [l0, l1, l2] [] σ = ru d 156 112 [l0, l1, l2] [.int 0] σ := q_iconst t156_111 (by decide +kernel)
theorem t156_112 : decode (mb 156) 112 = .ok (.ireturn, 1) := by decide +kernel
theorem s156_112 (d : Nat) (l0 : Value) (l1 : Value) (l2 : Value) (x : Int32) (σ : Hs) : ru d 156 112 [l0, l1, l2] [.int x] σ = some (some (.int x), σ) := q_ireti t156_112 mr156
theorem t156_113 : decode (mb 156) 113 = .ok (.iload_n 1, 1) := by decide +kernel
theorem s156_113 (d : Nat) (l0 : Value) (i1 : Int32) (l2 : Value) (σ : Hs) : ru d 156 113 [l0, .int i1, l2] [] σ = ru d 156 114 [l0, .int i1, l2] [.int i1] σ := q_iload_n t156_113 rfl
theorem t156_114 : decode (mb 156) 114 = .ok (.iload_n 2, 1) := by decide +kernel
theorem s156_114 (d : Nat) (l0 : Value) (l1 : Value) (i2 : Int32) (w0 : Value) (σ : Hs) : ru d 156 114 [l0, l1, .int i2] [w0] σ = ru d 156 115 [l0, l1, .int i2] [.int i2, w0] σ := q_iload_n t156_114 rfl
theorem t156_115 : decode (mb 156) 115 = .ok (.iadd, 1) := by decide +kernel
theorem s156_115 (d : Nat) (l0 : Value) (l1 : Value) (l2 : Value) (x y : Int32) (σ : Hs) : ru d 156 115 [l0, l1, l2] [.int y, .int x] σ = ru d 156 116 [l0, l1, l2] [.int (x + y)] σ := q_iadd t156_115
theorem t156_116 : decode (mb 156) 116 = .ok (.ireturn, 1) := by decide +kernel
theorem s156_116 (d : Nat) (l0 : Value) (l1 : Value) (l2 : Value) (x : Int32) (σ : Hs) : ru d 156 116 [l0, l1, l2] [.int x] σ = some (some (.int x), σ) := q_ireti t156_116 mr156
theorem t156_117 : decode (mb 156) 117 = .ok (.iload_n 1, 1) := by decide +kernel
theorem s156_117 (d : Nat) (l0 : Value) (i1 : Int32) (l2 : Value) (σ : Hs) : ru d 156 117 [l0, .int i1, l2] [] σ = ru d 156 118 [l0, .int i1, l2] [.int i1] σ := q_iload_n t156_117 rfl
theorem t156_118 : decode (mb 156) 118 = .ok (.iload_n 2, 1) := by decide +kernel
theorem s156_118 (d : Nat) (l0 : Value) (l1 : Value) (i2 : Int32) (w0 : Value) (σ : Hs) : ru d 156 118 [l0, l1, .int i2] [w0] σ = ru d 156 119 [l0, l1, .int i2] [.int i2, w0] σ := q_iload_n t156_118 rfl
theorem t156_119 : decode (mb 156) 119 = .ok (.isub, 1) := by decide +kernel
theorem s156_119 (d : Nat) (l0 : Value) (l1 : Value) (l2 : Value) (x y : Int32) (σ : Hs) : ru d 156 119 [l0, l1, l2] [.int y, .int x] σ = ru d 156 120 [l0, l1, l2] [.int (x - y)] σ := q_isub t156_119
theorem t156_120 : decode (mb 156) 120 = .ok (.ireturn, 1) := by decide +kernel
theorem s156_120 (d : Nat) (l0 : Value) (l1 : Value) (l2 : Value) (x : Int32) (σ : Hs) : ru d 156 120 [l0, l1, l2] [.int x] σ = some (some (.int x), σ) := q_ireti t156_120 mr156
theorem t156_121 : decode (mb 156) 121 = .ok (.iload_n 1, 1) := by decide +kernel
theorem s156_121 (d : Nat) (l0 : Value) (i1 : Int32) (l2 : Value) (σ : Hs) : ru d 156 121 [l0, .int i1, l2] [] σ = ru d 156 122 [l0, .int i1, l2] [.int i1] σ := q_iload_n t156_121 rfl
theorem t156_122 : decode (mb 156) 122 = .ok (.iload_n 2, 1) := by decide +kernel
theorem s156_122 (d : Nat) (l0 : Value) (l1 : Value) (i2 : Int32) (w0 : Value) (σ : Hs) : ru d 156 122 [l0, l1, .int i2] [w0] σ = ru d 156 123 [l0, l1, .int i2] [.int i2, w0] σ := q_iload_n t156_122 rfl
theorem t156_123 : decode (mb 156) 123 = .ok (.imul, 1) := by decide +kernel
theorem s156_123 (d : Nat) (l0 : Value) (l1 : Value) (l2 : Value) (x y : Int32) (σ : Hs) : ru d 156 123 [l0, l1, l2] [.int y, .int x] σ = ru d 156 124 [l0, l1, l2] [.int (x * y)] σ := q_imul t156_123
theorem t156_124 : decode (mb 156) 124 = .ok (.ireturn, 1) := by decide +kernel
theorem s156_124 (d : Nat) (l0 : Value) (l1 : Value) (l2 : Value) (x : Int32) (σ : Hs) : ru d 156 124 [l0, l1, l2] [.int x] σ = some (some (.int x), σ) := q_ireti t156_124 mr156
theorem t156_125 : decode (mb 156) 125 = .ok (.iload_n 2, 1) := by decide +kernel
theorem s156_125 (d : Nat) (l0 : Value) (l1 : Value) (i2 : Int32) (σ : Hs) : ru d 156 125 [l0, l1, .int i2] [] σ = ru d 156 126 [l0, l1, .int i2] [.int i2] σ := q_iload_n t156_125 rfl
theorem t156_126 : decode (mb 156) 126 = .ok (.ifCond .ne 7, 3) := by decide +kernel
theorem s156_126 (d : Nat) (l0 : Value) (l1 : Value) (l2 : Value) (x : Int32) (σ : Hs) : ru d 156 126 [l0, l1, l2] [.int x] σ = if x = 0 then ru d 156 129 [l0, l1, l2] [] σ else ru d 156 133 [l0, l1, l2] [] σ := q_if_ne t156_126 (by decide +kernel)
theorem t156_129 : decode (mb 156) 129 = .ok (.iconst 0, 1) := by decide +kernel
theorem s156_129 (d : Nat) (l0 : Value) (l1 : Value) (l2 : Value) (σ : Hs) : ru d 156 129 [l0, l1, l2] [] σ = ru d 156 130 [l0, l1, l2] [.int 0] σ := q_iconst t156_129 (by decide +kernel)
theorem t156_130 : decode (mb 156) 130 = .ok (.goto 6, 3) := by decide +kernel
theorem s156_130 (d : Nat) (l0 : Value) (l1 : Value) (l2 : Value) (w0 : Value) (σ : Hs) : ru d 156 130 [l0, l1, l2] [w0] σ = ru d 156 136 [l0, l1, l2] [w0] σ := q_goto t156_130 (by decide +kernel)
theorem t156_133 : decode (mb 156) 133 = .ok (.iload_n 1, 1) := by decide +kernel
theorem s156_133 (d : Nat) (l0 : Value) (i1 : Int32) (l2 : Value) (σ : Hs) : ru d 156 133 [l0, .int i1, l2] [] σ = ru d 156 134 [l0, .int i1, l2] [.int i1] σ := q_iload_n t156_133 rfl
theorem t156_134 : decode (mb 156) 134 = .ok (.iload_n 2, 1) := by decide +kernel
theorem s156_134 (d : Nat) (l0 : Value) (l1 : Value) (i2 : Int32) (w0 : Value) (σ : Hs) : ru d 156 134 [l0, l1, .int i2] [w0] σ = ru d 156 135 [l0, l1, .int i2] [.int i2, w0] σ := q_iload_n t156_134 rfl
theorem t156_135 : decode (mb 156) 135 = .ok (.idiv, 1) := by decide +kernel
theorem s156_135 (d : Nat) (l0 : Value) (l1 : Value) (l2 : Value) (x y : Int32) (σ : Hs) : ru d 156 135 [l0, l1, l2] [.int y, .int x] σ = gd (¬ y = 0) (ru d 156 136 [l0, l1, l2] [.int (x / y)] σ) := q_idiv t156_135
theorem t156_136 : decode (mb 156) 136 = .ok (.ireturn, 1) := by decide +kernel
theorem s156_136 (d : Nat) (l0 : Value) (l1 : Value) (l2 : Value) (x : Int32) (σ : Hs) : ru d 156 136 [l0, l1, l2] [.int x] σ = some (some (.int x), σ) := q_ireti t156_136 mr156
theorem t156_137 : decode (mb 156) 137 = .ok (.iload_n 2, 1) := by decide +kernel
theorem s156_137 (d : Nat) (l0 : Value) (l1 : Value) (i2 : Int32) (σ : Hs) : ru d 156 137 [l0, l1, .int i2] [] σ = ru d 156 138 [l0, l1, .int i2] [.int i2] σ := q_iload_n t156_137 rfl
theorem t156_138 : decode (mb 156) 138 = .ok (.ifCond .ne 7, 3) := by decide +kernel
theorem s156_138 (d : Nat) (l0 : Value) (l1 : Value) (l2 : Value) (x : Int32) (σ : Hs) : ru d 156 138 [l0, l1, l2] [.int x] σ = if x = 0 then ru d 156 141 [l0, l1, l2] [] σ else ru d 156 145 [l0, l1, l2] [] σ := q_if_ne t156_138 (by decide +kernel)
theorem t156_141 : decode (mb 156) 141 = .ok (.iconst 0, 1) := by decide +kernel
theorem s156_141 (d : Nat) (l0 : Value) (l1 : Value) (l2 : Value) (σ : Hs) : ru d 156 141 [l0, l1, l2] [] σ = ru d 156 142 [l0, l1, l2] [.int 0] σ := q_iconst t156_141 (by decide +kernel)
theorem t156_142 : decode (mb 156) 142 = .ok (.goto 6, 3) := by decide +kernel
theorem s156_142 (d : Nat) (l0 : Value) (l1 : Value) (l2 : Value) (w0 : Value) (σ : Hs) : ru d 156 142 [l0, l1, l2] [w0] σ = ru d 156 148 [l0, l1, l2] [w0] σ := q_goto t156_142 (by decide +kernel)
theorem t156_145 : decode (mb 156) 145 = .ok (.iload_n 1, 1) := by decide +kernel
theorem s156_145 (d : Nat) (l0 : Value) (i1 : Int32) (l2 : Value) (σ : Hs) : ru d 156 145 [l0, .int i1, l2] [] σ = ru d 156 146 [l0, .int i1, l2] [.int i1] σ := q_iload_n t156_145 rfl
theorem t156_146 : decode (mb 156) 146 = .ok (.iload_n 2, 1) := by decide +kernel
theorem s156_146 (d : Nat) (l0 : Value) (l1 : Value) (i2 : Int32) (w0 : Value) (σ : Hs) : ru d 156 146 [l0, l1, .int i2] [w0] σ = ru d 156 147 [l0, l1, .int i2] [.int i2, w0] σ := q_iload_n t156_146 rfl
theorem t156_147 : decode (mb 156) 147 = .ok (.irem, 1) := by decide +kernel
theorem s156_147 (d : Nat) (l0 : Value) (l1 : Value) (l2 : Value) (x y : Int32) (σ : Hs) : ru d 156 147 [l0, l1, l2] [.int y, .int x] σ = gd (¬ y = 0) (ru d 156 148 [l0, l1, l2] [.int (x - x / y * y)] σ) := q_irem t156_147
theorem t156_148 : decode (mb 156) 148 = .ok (.ireturn, 1) := by decide +kernel
theorem s156_148 (d : Nat) (l0 : Value) (l1 : Value) (l2 : Value) (x : Int32) (σ : Hs) : ru d 156 148 [l0, l1, l2] [.int x] σ = some (some (.int x), σ) := q_ireti t156_148 mr156
theorem c156 (d : Nat) (x0 : Int32) (x1 : Int32) (x2 : Int32) (σ : Hs) : callD (d + 1) 156 [.int x0, .int x1, .int x2] σ = ru d 156 0 [.int x0, .int x1, .int x2] [] σ := callD_ru ml156 rfl rfl (Nat.le_of_ble_eq_true rfl)
-- 157: Model.worked(I)I
theorem t157_0 : decode (mb 157) 0 = .ok (.iconst 0, 1) := by decide +kernel
theorem s157_0 (d : Nat) (l0 : Value) (l1 : Value) (l2 : Value) (l3 : Value) (l4 : Value) (σ : Hs) : ru d 157 0 [l0, l1, l2, l3, l4] [] σ = ru d 157 1 [l0, l1, l2, l3, l4] [.int 0] σ := q_iconst t157_0 (by decide +kernel)
theorem t157_1 : decode (mb 157) 1 = .ok (.istore_n 2, 1) := by decide +kernel
theorem s157_1 (d : Nat) (l0 : Value) (i1 : Int32) (l2 : Value) (l3 : Value) (l4 : Value) (x : Int32) (σ : Hs) : ru d 157 1 [l0, .int i1, l2, l3, l4] [.int x] σ = ru d 157 2 [l0, .int i1, .int x, l3, l4] [] σ := q_istore_n t157_1 ⟨Nat.le_of_ble_eq_true rfl, rfl⟩ rfl
theorem t157_2 : decode (mb 157) 2 = .ok (.iload_n 1, 1) := by decide +kernel
theorem s157_2 (d : Nat) (l0 : Value) (i1 : Int32) (l2 : Value) (l3 : Value) (l4 : Value) (σ : Hs) : ru d 157 2 [l0, .int i1, l2, l3, l4] [] σ = ru d 157 3 [l0, .int i1, l2, l3, l4] [.int i1] σ := q_iload_n t157_2 rfl
theorem t157_3 : decode (mb 157) 3 = .ok (.istore_n 3, 1) := by decide +kernel
theorem s157_3 (d : Nat) (l0 : Value) (l1 : Value) (i2 : Int32) (l3 : Value) (l4 : Value) (x : Int32) (σ : Hs) : ru d 157 3 [l0, l1, .int i2, l3, l4] [.int x] σ = ru d 157 4 [l0, l1, .int i2, .int x, l4] [] σ := q_istore_n t157_3 ⟨Nat.le_of_ble_eq_true rfl, rfl⟩ rfl
theorem t157_4 : decode (mb 157) 4 = .ok (.iload_n 3, 1) := by decide +kernel
theorem s157_4 (d : Nat) (l0 : Value) (l1 : Value) (l2 : Value) (i3 : Int32) (l4 : Value) (σ : Hs) : ru d 157 4 [l0, l1, l2, .int i3, l4] [] σ = ru d 157 5 [l0, l1, l2, .int i3, l4] [.int i3] σ := q_iload_n t157_4 rfl
theorem t157_5 : decode (mb 157) 5 = .ok (.iload_n 1, 1) := by decide +kernel
theorem s157_5 (d : Nat) (l0 : Value) (i1 : Int32) (l2 : Value) (l3 : Value) (l4 : Value) (w0 : Value) (σ : Hs) : ru d 157 5 [l0, .int i1, l2, l3, l4] [w0] σ = ru d 157 6 [l0, .int i1, l2, l3, l4] [.int i1, w0] σ := q_iload_n t157_5 rfl
theorem t157_6 : decode (mb 157) 6 = .ok (.aload_n 0, 1) := by decide +kernel
theorem s157_6 (d : Nat) (a0 : Nat) (l1 : Value) (l2 : Value) (l3 : Value) (l4 : Value) (w0 w1 : Value) (σ : Hs) : ru d 157 6 [.ref a0, l1, l2, l3, l4] [w0, w1] σ = ru d 157 7 [.ref a0, l1, l2, l3, l4] [.ref a0, w0, w1] σ := q_aload_n t157_6 rfl
theorem t157_7 : decode (mb 157) 7 = .ok (.getfield 9, 3) := by decide +kernel
theorem s157_7_o87 (d : Nat) (l0 : Value) (l1 : Value) (l2 : Value) (l3 : Value) (l4 : Value) (w0 w1 : Value) (σ : Hs) : ru d 157 7 [l0, l1, l2, l3, l4] [.ref 87, w0, w1] σ = ru d 157 10 [l0, l1, l2, l3, l4] [.ref 88, w0, w1] σ := q_getf t157_7 mo157 F8_9 rfl rfl
theorem t157_10 : decode (mb 157) 10 = .ok (.iload_n 1, 1) := by decide +kernel
theorem s157_10 (d : Nat) (l0 : Value) (i1 : Int32) (l2 : Value) (l3 : Value) (l4 : Value) (w0 w1 w2 : Value) (σ : Hs) : ru d 157 10 [l0, .int i1, l2, l3, l4] [w0, w1, w2] σ = ru d 157 11 [l0, .int i1, l2, l3, l4] [.int i1, w0, w1, w2] σ := q_iload_n t157_10 rfl
theorem t157_11 : decode (mb 157) 11 = .ok (.iconst 1, 1) := by decide +kernel
theorem s157_11 (d : Nat) (l0 : Value) (l1 : Value) (l2 : Value) (l3 : Value) (l4 : Value) (w0 w1 w2 w3 : Value) (σ : Hs) : ru d 157 11 [l0, l1, l2, l3, l4] [w0, w1, w2, w3] σ = ru d 157 12 [l0, l1, l2, l3, l4] [.int 1, w0, w1, w2, w3] σ := q_iconst t157_11 (by decide +kernel)
theorem t157_12 : decode (mb 157) 12 = .ok (.isub, 1) := by decide +kernel
theorem s157_12 (d : Nat) (l0 : Value) (l1 : Value) (l2 : Value) (l3 : Value) (l4 : Value) (x y : Int32) (w0 w1 w2 : Value) (σ : Hs) : ru d 157 12 [l0, l1, l2, l3, l4] [.int y, .int x, w0, w1, w2] σ = ru d 157 13 [l0, l1, l2, l3, l4] [.int (x - y), w0, w1, w2] σ := q_isub t157_12
theorem t157_13 : decode (mb 157) 13 = .ok (.iaload, 1) := by decide +kernel
theorem s157_13_o88 (d : Nat) (l0 : Value) (l1 : Value) (l2 : Value) (l3 : Value) (l4 : Value) (i : Int32) (w0 w1 : Value) (σ : Hs) : ru d 157 13 [l0, l1, l2, l3, l4] [.int i, .ref 88, w0, w1] σ = gd (vp_in i 545) (ru d 157 14 [l0, l1, l2, l3, l4] [.int (σ 88 i.toNatClampNeg), w0, w1] σ) := q_iald t157_13 rfl (by decide +kernel) rfl
theorem t157_14 : decode (mb 157) 14 = .ok (.iadd, 1) := by decide +kernel
theorem s157_14 (d : Nat) (l0 : Value) (l1 : Value) (l2 : Value) (l3 : Value) (l4 : Value) (x y : Int32) (w0 : Value) (σ : Hs) : ru d 157 14 [l0, l1, l2, l3, l4] [.int y, .int x, w0] σ = ru d 157 15 [l0, l1, l2, l3, l4] [.int (x + y), w0] σ := q_iadd t157_14
theorem t157_15 : decode (mb 157) 15 = .ok (.if_icmp .ge 126, 3) := by decide +kernel
theorem s157_15 (d : Nat) (l0 : Value) (l1 : Value) (l2 : Value) (l3 : Value) (l4 : Value) (x y : Int32) (σ : Hs) : ru d 157 15 [l0, l1, l2, l3, l4] [.int y, .int x] σ = if y ≤ x then ru d 157 141 [l0, l1, l2, l3, l4] [] σ else ru d 157 18 [l0, l1, l2, l3, l4] [] σ := q_ic_ge t157_15 (by decide +kernel)
theorem t157_18 : decode (mb 157) 18 = .ok (.aload_n 0, 1) := by decide +kernel
theorem s157_18 (d : Nat) (a0 : Nat) (l1 : Value) (l2 : Value) (l3 : Value) (l4 : Value) (σ : Hs) : ru d 157 18 [.ref a0, l1, l2, l3, l4] [] σ = ru d 157 19 [.ref a0, l1, l2, l3, l4] [.ref a0] σ := q_aload_n t157_18 rfl
theorem t157_19 : decode (mb 157) 19 = .ok (.getfield 9, 3) := by decide +kernel
theorem s157_19_o87 (d : Nat) (l0 : Value) (l1 : Value) (l2 : Value) (l3 : Value) (l4 : Value) (σ : Hs) : ru d 157 19 [l0, l1, l2, l3, l4] [.ref 87] σ = ru d 157 22 [l0, l1, l2, l3, l4] [.ref 88] σ := q_getf t157_19 mo157 F8_9 rfl rfl
theorem t157_22 : decode (mb 157) 22 = .ok (.iload_n 3, 1) := by decide +kernel
theorem s157_22 (d : Nat) (l0 : Value) (l1 : Value) (l2 : Value) (i3 : Int32) (l4 : Value) (w0 : Value) (σ : Hs) : ru d 157 22 [l0, l1, l2, .int i3, l4] [w0] σ = ru d 157 23 [l0, l1, l2, .int i3, l4] [.int i3, w0] σ := q_iload_n t157_22 rfl
theorem t157_23 : decode (mb 157) 23 = .ok (.iaload, 1) := by decide +kernel
theorem s157_23_o88 (d : Nat) (l0 : Value) (l1 : Value) (l2 : Value) (l3 : Value) (l4 : Value) (i : Int32) (σ : Hs) : ru d 157 23 [l0, l1, l2, l3, l4] [.int i, .ref 88] σ = gd (vp_in i 545) (ru d 157 24 [l0, l1, l2, l3, l4] [.int (σ 88 i.toNatClampNeg)] σ) := q_iald t157_23 rfl (by decide +kernel) rfl
theorem t157_24 : decode (mb 157) 24 = .ok (.istore 4, 2) := by decide +kernel
theorem s157_24 (d : Nat) (l0 : Value) (l1 : Value) (l2 : Value) (i3 : Int32) (l4 : Value) (x : Int32) (σ : Hs) : ru d 157 24 [l0, l1, l2, .int i3, l4] [.int x] σ = ru d 157 26 [l0, l1, l2, .int i3, .int x] [] σ := q_istore t157_24 ⟨Nat.le_of_ble_eq_true rfl, rfl⟩ rfl
theorem t157_26 : decode (mb 157) 26 = .ok (.iload 4, 2) := by decide +kernel
theorem s157_26 (d : Nat) (l0 : Value) (l1 : Value) (l2 : Value) (l3 : Value) (i4 : Int32) (σ : Hs) : ru d 157 26 [l0, l1, l2, l3, .int i4] [] σ = ru d 157 28 [l0, l1, l2, l3, .int i4] [.int i4] σ := q_iload t157_26 rfl
theorem t157_28 : decode (mb 157) 28 = .ok (.sipush 20000, 3) := by decide +kernel
theorem s157_28 (d : Nat) (l0 : Value) (l1 : Value) (l2 : Value) (l3 : Value) (l4 : Value) (w0 : Value) (σ : Hs) : ru d 157 28 [l0, l1, l2, l3, l4] [w0] σ = ru d 157 31 [l0, l1, l2, l3, l4] [.int 20000, w0] σ := q_sipush t157_28 (by decide +kernel)
theorem t157_31 : decode (mb 157) 31 = .ok (.if_icmp .ge 39, 3) := by decide +kernel
theorem s157_31 (d : Nat) (l0 : Value) (l1 : Value) (l2 : Value) (l3 : Value) (l4 : Value) (x y : Int32) (σ : Hs) : ru d 157 31 [l0, l1, l2, l3, l4] [.int y, .int x] σ = if y ≤ x then ru d 157 70 [l0, l1, l2, l3, l4] [] σ else ru d 157 34 [l0, l1, l2, l3, l4] [] σ := q_ic_ge t157_31 (by decide +kernel)
theorem t157_34 : decode (mb 157) 34 = .ok (.aload_n 0, 1) := by decide +kernel
theorem s157_34 (d : Nat) (a0 : Nat) (l1 : Value) (l2 : Value) (l3 : Value) (l4 : Value) (σ : Hs) : ru d 157 34 [.ref a0, l1, l2, l3, l4] [] σ = ru d 157 35 [.ref a0, l1, l2, l3, l4] [.ref a0] σ := q_aload_n t157_34 rfl
theorem t157_35 : decode (mb 157) 35 = .ok (.getfield 49, 3) := by decide +kernel
theorem s157_35_o87 (d : Nat) (l0 : Value) (l1 : Value) (l2 : Value) (l3 : Value) (l4 : Value) (σ : Hs) : ru d 157 35 [l0, l1, l2, l3, l4] [.ref 87] σ = ru d 157 38 [l0, l1, l2, l3, l4] [.ref 98] σ := q_getf t157_35 mo157 F8_49 rfl rfl
theorem t157_38 : decode (mb 157) 38 = .ok (.iload_n 2, 1) := by decide +kernel
theorem s157_38 (d : Nat) (l0 : Value) (l1 : Value) (i2 : Int32) (l3 : Value) (l4 : Value) (w0 : Value) (σ : Hs) : ru d 157 38 [l0, l1, .int i2, l3, l4] [w0] σ = ru d 157 39 [l0, l1, .int i2, l3, l4] [.int i2, w0] σ := q_iload_n t157_38 rfl
theorem t157_39 : decode (mb 157) 39 = .ok (.iload 4, 2) := by decide +kernel
theorem s157_39 (d : Nat) (l0 : Value) (l1 : Value) (l2 : Value) (l3 : Value) (i4 : Int32) (w0 w1 : Value) (σ : Hs) : ru d 157 39 [l0, l1, l2, l3, .int i4] [w0, w1] σ = ru d 157 41 [l0, l1, l2, l3, .int i4] [.int i4, w0, w1] σ := q_iload t157_39 rfl
theorem t157_41 : decode (mb 157) 41 = .ok (.sipush 10000, 3) := by decide +kernel
theorem s157_41 (d : Nat) (l0 : Value) (l1 : Value) (l2 : Value) (l3 : Value) (l4 : Value) (w0 w1 w2 : Value) (σ : Hs) : ru d 157 41 [l0, l1, l2, l3, l4] [w0, w1, w2] σ = ru d 157 44 [l0, l1, l2, l3, l4] [.int 10000, w0, w1, w2] σ := q_sipush t157_41 (by decide +kernel)
theorem t157_44 : decode (mb 157) 44 = .ok (.if_icmp .ge 8, 3) := by decide +kernel
theorem s157_44 (d : Nat) (l0 : Value) (l1 : Value) (l2 : Value) (l3 : Value) (l4 : Value) (x y : Int32) (w0 w1 : Value) (σ : Hs) : ru d 157 44 [l0, l1, l2, l3, l4] [.int y, .int x, w0, w1] σ = if y ≤ x then ru d 157 52 [l0, l1, l2, l3, l4] [w0, w1] σ else ru d 157 47 [l0, l1, l2, l3, l4] [w0, w1] σ := q_ic_ge t157_44 (by decide +kernel)
theorem t157_47 : decode (mb 157) 47 = .ok (.iload 4, 2) := by decide +kernel
theorem s157_47 (d : Nat) (l0 : Value) (l1 : Value) (l2 : Value) (l3 : Value) (i4 : Int32) (w0 w1 : Value) (σ : Hs) : ru d 157 47 [l0, l1, l2, l3, .int i4] [w0, w1] σ = ru d 157 49 [l0, l1, l2, l3, .int i4] [.int i4, w0, w1] σ := q_iload t157_47 rfl
theorem t157_49 : decode (mb 157) 49 = .ok (.goto 14, 3) := by decide +kernel
theorem s157_49 (d : Nat) (l0 : Value) (l1 : Value) (l2 : Value) (l3 : Value) (l4 : Value) (w0 w1 w2 : Value) (σ : Hs) : ru d 157 49 [l0, l1, l2, l3, l4] [w0, w1, w2] σ = ru d 157 63 [l0, l1, l2, l3, l4] [w0, w1, w2] σ := q_goto t157_49 (by decide +kernel)
theorem t157_52 : decode (mb 157) 52 = .ok (.aload_n 0, 1) := by decide +kernel
theorem s157_52 (d : Nat) (a0 : Nat) (l1 : Value) (l2 : Value) (l3 : Value) (l4 : Value) (w0 w1 : Value) (σ : Hs) : ru d 157 52 [.ref a0, l1, l2, l3, l4] [w0, w1] σ = ru d 157 53 [.ref a0, l1, l2, l3, l4] [.ref a0, w0, w1] σ := q_aload_n t157_52 rfl
theorem t157_53 : decode (mb 157) 53 = .ok (.getfield 46, 3) := by decide +kernel
theorem s157_53_o87 (d : Nat) (l0 : Value) (l1 : Value) (l2 : Value) (l3 : Value) (l4 : Value) (w0 w1 : Value) (σ : Hs) : ru d 157 53 [l0, l1, l2, l3, l4] [.ref 87, w0, w1] σ = ru d 157 56 [l0, l1, l2, l3, l4] [.ref 97, w0, w1] σ := q_getf t157_53 mo157 F8_46 rfl rfl
theorem t157_56 : decode (mb 157) 56 = .ok (.iload 4, 2) := by decide +kernel
theorem s157_56 (d : Nat) (l0 : Value) (l1 : Value) (l2 : Value) (l3 : Value) (i4 : Int32) (w0 w1 w2 : Value) (σ : Hs) : ru d 157 56 [l0, l1, l2, l3, .int i4] [w0, w1, w2] σ = ru d 157 58 [l0, l1, l2, l3, .int i4] [.int i4, w0, w1, w2] σ := q_iload t157_56 rfl
theorem t157_58 : decode (mb 157) 58 = .ok (.sipush 10000, 3) := by decide +kernel
theorem s157_58 (d : Nat) (l0 : Value) (l1 : Value) (l2 : Value) (l3 : Value) (l4 : Value) (w0 w1 w2 w3 : Value) (σ : Hs) : ru d 157 58 [l0, l1, l2, l3, l4] [w0, w1, w2, w3] σ = ru d 157 61 [l0, l1, l2, l3, l4] [.int 10000, w0, w1, w2, w3] σ := q_sipush t157_58 (by decide +kernel)
theorem t157_61 : decode (mb 157) 61 = .ok (.isub, 1) := by decide +kernel
theorem s157_61 (d : Nat) (l0 : Value) (l1 : Value) (l2 : Value) (l3 : Value) (l4 : Value) (x y : Int32) (w0 w1 w2 : Value) (σ : Hs) : ru d 157 61 [l0, l1, l2, l3, l4] [.int y, .int x, w0, w1, w2] σ = ru d 157 62 [l0, l1, l2, l3, l4] [.int (x - y), w0, w1, w2] σ := q_isub t157_61
theorem t157_62 : decode (mb 157) 62 = .ok (.iaload, 1) := by decide +kernel
theorem s157_62_o97 (d : Nat) (l0 : Value) (l1 : Value) (l2 : Value) (l3 : Value) (l4 : Value) (i : Int32) (w0 w1 : Value) (σ : Hs) : ru d 157 62 [l0, l1, l2, l3, l4] [.int i, .ref 97, w0, w1] σ = gd (vp_in i 4) (ru d 157 63 [l0, l1, l2, l3, l4] [.int (σ 97 i.toNatClampNeg), w0, w1] σ) := q_iald t157_62 rfl (by decide +kernel) rfl
theorem t157_63 : decode (mb 157) 63 = .ok (.iastore, 1) := by decide +kernel
theorem s157_63_o98 (d : Nat) (l0 : Value) (l1 : Value) (l2 : Value) (l3 : Value) (l4 : Value) (i x : Int32) (σ : Hs) : ru d 157 63 [l0, l1, l2, l3, l4] [.int x, .int i, .ref 98] σ = gd (vp_in i 60) (ru d 157 64 [l0, l1, l2, l3, l4] [] (up2 σ 98 i.toNatClampNeg x)) := q_iast t157_63 (by decide +kernel) rfl rfl
theorem t157_64 : decode (mb 157) 64 = .ok (.iinc 2 1, 3) := by decide +kernel
theorem s157_64 (d : Nat) (l0 : Value) (i1 : Int32) (i2 : Int32) (l3 : Value) (l4 : Value) (σ : Hs) : ru d 157 64 [l0, .int i1, .int i2, l3, l4] [] σ = ru d 157 67 [l0, .int i1, .int (i2 + 1), l3, l4] [] σ := q_iinc t157_64 ⟨Nat.le_of_ble_eq_true rfl, rfl⟩ rfl (by decide +kernel) rfl
theorem t157_67 : decode (mb 157) 67 = .ok (.goto 68, 3) := by decide +kernel
theorem s157_67 (d : Nat) (l0 : Value) (l1 : Value) (l2 : Value) (l3 : Value) (l4 : Value) (σ : Hs) : ru d 157 67 [l0, l1, l2, l3, l4] [] σ = ru d 157 135 [l0, l1, l2, l3, l4] [] σ := q_goto t157_67 (by decide +kernel)
theorem t157_70 : decode (mb 157) 70 = .ok (.iload 4, 2) := by decide +kernel
theorem s157_70 (d : Nat) (l0 : Value) (l1 : Value) (l2 : Value) (l3 : Value) (i4 : Int32) (σ : Hs) : ru d 157 70 [l0, l1, l2, l3, .int i4] [] σ = ru d 157 72 [l0, l1, l2, l3, .int i4] [.int i4] σ := q_iload t157_70 rfl
theorem t157_72 : decode (mb 157) 72 = .ok (.sipush 20010, 3) := by decide +kernel
theorem s157_72 (d : Nat) (l0 : Value) (l1 : Value) (l2 : Value) (l3 : Value) (l4 : Value) (w0 : Value) (σ : Hs) : ru d 157 72 [l0, l1, l2, l3, l4] [w0] σ = ru d 157 75 [l0, l1, l2, l3, l4] [.int 20010, w0] σ := q_sipush t157_72 (by decide +kernel)
theorem t157_75 : decode (mb 157) 75 = .ok (.if_icmp .ne 30, 3) := by decide +kernel
theorem s157_75 (d : Nat) (l0 : Value) (l1 : Value) (l2 : Value) (l3 : Value) (l4 : Value) (x y : Int32) (σ : Hs) : ru d 157 75 [l0, l1, l2, l3, l4] [.int y, .int x] σ = if x = y then ru d 157 78 [l0, l1, l2, l3, l4] [] σ else ru d 157 105 [l0, l1, l2, l3, l4] [] σ := q_ic_ne t157_75 (by decide +kernel)
theorem t157_78 : decode (mb 157) 78 = .ok (.aload_n 0, 1) := by decide +kernel
theorem s157_78 (d : Nat) (a0 : Nat) (l1 : Value) (l2 : Value) (l3 : Value) (l4 : Value) (σ : Hs) : ru d 157 78 [.ref a0, l1, l2, l3, l4] [] σ = ru d 157 79 [.ref a0, l1, l2, l3, l4] [.ref a0] σ := q_aload_n t157_78 rfl
theorem t157_79 : decode (mb 157) 79 = .ok (.getfield 49, 3) := by decide +kernel
theorem s157_79_o87 (d : Nat) (l0 : Value) (l1 : Value) (l2 : Value) (l3 : Value) (l4 : Value) (σ : Hs) : ru d 157 79 [l0, l1, l2, l3, l4] [.ref 87] σ = ru d 157 82 [l0, l1, l2, l3, l4] [.ref 98] σ := q_getf t157_79 mo157 F8_49 rfl rfl
theorem t157_82 : decode (mb 157) 82 = .ok (.iload_n 2, 1) := by decide +kernel
theorem s157_82 (d : Nat) (l0 : Value) (l1 : Value) (i2 : Int32) (l3 : Value) (l4 : Value) (w0 : Value) (σ : Hs) : ru d 157 82 [l0, l1, .int i2, l3, l4] [w0] σ = ru d 157 83 [l0, l1, .int i2, l3, l4] [.int i2, w0] σ := q_iload_n t157_82 rfl
theorem t157_83 : decode (mb 157) 83 = .ok (.iconst 1, 1) := by decide +kernel
theorem s157_83 (d : Nat) (l0 : Value) (l1 : Value) (l2 : Value) (l3 : Value) (l4 : Value) (w0 w1 : Value) (σ : Hs) : ru d 157 83 [l0, l1, l2, l3, l4] [w0, w1] σ = ru d 157 84 [l0, l1, l2, l3, l4] [.int 1, w0, w1] σ := q_iconst t157_83 (by decide +kernel)
theorem t157_84 : decode (mb 157) 84 = .ok (.isub, 1) := by decide +kernel
theorem s157_84 (d : Nat) (l0 : Value) (l1 : Value) (l2 : Value) (l3 : Value) (l4 : Value) (x y : Int32) (w0 : Value) (σ : Hs) : ru d 157 84 [l0, l1, l2, l3, l4] [.int y, .int x, w0] σ = ru d 157 85 [l0, l1, l2, l3, l4] [.int (x - y), w0] σ := q_isub t157_84
theorem t157_85 : decode (mb 157) 85 = .ok (.aload_n 0, 1) := by decide +kernel
theorem s157_85 (d : Nat) (a0 : Nat) (l1 : Value) (l2 : Value) (l3 : Value) (l4 : Value) (w0 w1 : Value) (σ : Hs) : ru d 157 85 [.ref a0, l1, l2, l3, l4] [w0, w1] σ = ru d 157 86 [.ref a0, l1, l2, l3, l4] [.ref a0, w0, w1] σ := q_aload_n t157_85 rfl
theorem t157_86 : decode (mb 157) 86 = .ok (.getfield 49, 3) := by decide +kernel
theorem s157_86_o87 (d : Nat) (l0 : Value) (l1 : Value) (l2 : Value) (l3 : Value) (l4 : Value) (w0 w1 : Value) (σ : Hs) : ru d 157 86 [l0, l1, l2, l3, l4] [.ref 87, w0, w1] σ = ru d 157 89 [l0, l1, l2, l3, l4] [.ref 98, w0, w1] σ := q_getf t157_86 mo157 F8_49 rfl rfl
theorem t157_89 : decode (mb 157) 89 = .ok (.iload_n 2, 1) := by decide +kernel
theorem s157_89 (d : Nat) (l0 : Value) (l1 : Value) (i2 : Int32) (l3 : Value) (l4 : Value) (w0 w1 w2 : Value) (σ : Hs) : ru d 157 89 [l0, l1, .int i2, l3, l4] [w0, w1, w2] σ = ru d 157 90 [l0, l1, .int i2, l3, l4] [.int i2, w0, w1, w2] σ := q_iload_n t157_89 rfl
theorem t157_90 : decode (mb 157) 90 = .ok (.iconst 1, 1) := by decide +kernel
theorem s157_90 (d : Nat) (l0 : Value) (l1 : Value) (l2 : Value) (l3 : Value) (l4 : Value) (w0 w1 w2 w3 : Value) (σ : Hs) : ru d 157 90 [l0, l1, l2, l3, l4] [w0, w1, w2, w3] σ = ru d 157 91 [l0, l1, l2, l3, l4] [.int 1, w0, w1, w2, w3] σ := q_iconst t157_90 (by decide +kernel)
theorem t157_91 : decode (mb 157) 91 = .ok (.isub, 1) := by decide +kernel
theorem s157_91 (d : Nat) (l0 : Value) (l1 : Value) (l2 : Value) (l3 : Value) (l4 : Value) (x y : Int32) (w0 w1 w2 : Value) (σ : Hs) : ru d 157 91 [l0, l1, l2, l3, l4] [.int y, .int x, w0, w1, w2] σ = ru d 157 92 [l0, l1, l2, l3, l4] [.int (x - y), w0, w1, w2] σ := q_isub t157_91
theorem t157_92 : decode (mb 157) 92 = .ok (.iaload, 1) := by decide +kernel
theorem s157_92_o98 (d : Nat) (l0 : Value) (l1 : Value) (l2 : Value) (l3 : Value) (l4 : Value) (i : Int32) (w0 w1 : Value) (σ : Hs) : ru d 157 92 [l0, l1, l2, l3, l4] [.int i, .ref 98, w0, w1] σ = gd (vp_in i 60) (ru d 157 93 [l0, l1, l2, l3, l4] [.int (σ 98 i.toNatClampNeg), w0, w1] σ) := q_iald t157_92 rfl (by decide +kernel) rfl
theorem t157_93 : decode (mb 157) 93 = .ok (.ifCond .ne 7, 3) := by decide +kernel
theorem s157_93 (d : Nat) (l0 : Value) (l1 : Value) (l2 : Value) (l3 : Value) (l4 : Value) (x : Int32) (w0 w1 : Value) (σ : Hs) : ru d 157 93 [l0, l1, l2, l3, l4] [.int x, w0, w1] σ = if x = 0 then ru d 157 96 [l0, l1, l2, l3, l4] [w0, w1] σ else ru d 157 100 [l0, l1, l2, l3, l4] [w0, w1] σ := q_if_ne t157_93 (by decide +kernel)
theorem t157_96 : decode (mb 157) 96 = .ok (.iconst 1, 1) := by decide +kernel
theorem s157_96 (d : Nat) (l0 : Value) (l1 : Value) (l2 : Value) (l3 : Value) (l4 : Value) (w0 w1 : Value) (σ : Hs) : ru d 157 96 [l0, l1, l2, l3, l4] [w0, w1] σ = ru d 157 97 [l0, l1, l2, l3, l4] [.int 1, w0, w1] σ := q_iconst t157_96 (by decide +kernel)
theorem t157_97 : decode (mb 157) 97 = .ok (.goto 4, 3) := by decide +kernel
theorem s157_97 (d : Nat) (l0 : Value) (l1 : Value) (l2 : Value) (l3 : Value) (l4 : Value) (w0 w1 w2 : Value) (σ : Hs) : ru d 157 97 [l0, l1, l2, l3, l4] [w0, w1, w2] σ = ru d 157 101 [l0, l1, l2, l3, l4] [w0, w1, w2] σ := q_goto t157_97 (by decide +kernel)
theorem t157_100 : decode (mb 157) 100 = .ok (.iconst 0, 1) := by decide +kernel
theorem s157_100 (d : Nat) (l0 : Value) (l1 : Value) (l2 : Value) (l3 : Value) (l4 : Value) (w0 w1 : Value) (σ : Hs) : ru d 157 100 [l0, l1, l2, l3, l4] [w0, w1] σ = ru d 157 101 [l0, l1, l2, l3, l4] [.int 0, w0, w1] σ := q_iconst t157_100 (by decide +kernel)
theorem t157_101 : decode (mb 157) 101 = .ok (.iastore, 1) := by decide +kernel
theorem s157_101_o98 (d : Nat) (l0 : Value) (l1 : Value) (l2 : Value) (l3 : Value) (l4 : Value) (i x : Int32) (σ : Hs) : ru d 157 101 [l0, l1, l2, l3, l4] [.int x, .int i, .ref 98] σ = gd (vp_in i 60) (ru d 157 102 [l0, l1, l2, l3, l4] [] (up2 σ 98 i.toNatClampNeg x)) := q_iast t157_101 (by decide +kernel) rfl rfl
theorem t157_102 : decode (mb 157) 102 = .ok (.goto 33, 3) := by decide +kernel
theorem s157_102 (d : Nat) (l0 : Value) (l1 : Value) (l2 : Value) (l3 : Value) (l4 : Value) (σ : Hs) : ru d 157 102 [l0, l1, l2, l3, l4] [] σ = ru d 157 135 [l0, l1, l2, l3, l4] [] σ := q_goto t157_102 (by decide +kernel)
theorem t157_105 : decode (mb 157) 105 = .ok (.iinc 2 (-1), 3) := by decide +kernel
theorem s157_105 (d : Nat) (l0 : Value) (i1 : Int32) (i2 : Int32) (l3 : Value) (l4 : Value) (σ : Hs) : ru d 157 105 [l0, .int i1, .int i2, l3, l4] [] σ = ru d 157 108 [l0, .int i1, .int (i2 + (-1)), l3, l4] [] σ := q_iinc t157_105 ⟨Nat.le_of_ble_eq_true rfl, rfl⟩ rfl (by decide +kernel) rfl
theorem t157_108 : decode (mb 157) 108 = .ok (.aload_n 0, 1) := by decide +kernel
theorem s157_108 (d : Nat) (a0 : Nat) (l1 : Value) (l2 : Value) (l3 : Value) (l4 : Value) (σ : Hs) : ru d 157 108 [.ref a0, l1, l2, l3, l4] [] σ = ru d 157 109 [.ref a0, l1, l2, l3, l4] [.ref a0] σ := q_aload_n t157_108 rfl
theorem t157_109 : decode (mb 157) 109 = .ok (.getfield 49, 3) := by decide +kernel
theorem s157_109_o87 (d : Nat) (l0 : Value) (l1 : Value) (l2 : Value) (l3 : Value) (l4 : Value) (σ : Hs) : ru d 157 109 [l0, l1, l2, l3, l4] [.ref 87] σ = ru d 157 112 [l0, l1, l2, l3, l4] [.ref 98] σ := q_getf t157_109 mo157 F8_49 rfl rfl
theorem t157_112 : decode (mb 157) 112 = .ok (.iload_n 2, 1) := by decide +kernel
theorem s157_112 (d : Nat) (l0 : Value) (l1 : Value) (i2 : Int32) (l3 : Value) (l4 : Value) (w0 : Value) (σ : Hs) : ru d 157 112 [l0, l1, .int i2, l3, l4] [w0] σ = ru d 157 113 [l0, l1, .int i2, l3, l4] [.int i2, w0] σ := q_iload_n t157_112 rfl
theorem t157_113 : decode (mb 157) 113 = .ok (.iconst 1, 1) := by decide +kernel
theorem s157_113 (d : Nat) (l0 : Value) (l1 : Value) (l2 : Value) (l3 : Value) (l4 : Value) (w0 w1 : Value) (σ : Hs) : ru d 157 113 [l0, l1, l2, l3, l4] [w0, w1] σ = ru d 157 114 [l0, l1, l2, l3, l4] [.int 1, w0, w1] σ := q_iconst t157_113 (by decide +kernel)
theorem t157_114 : decode (mb 157) 114 = .ok (.isub, 1) := by decide +kernel
theorem s157_114 (d : Nat) (l0 : Value) (l1 : Value) (l2 : Value) (l3 : Value) (l4 : Value) (x y : Int32) (w0 : Value) (σ : Hs) : ru d 157 114 [l0, l1, l2, l3, l4] [.int y, .int x, w0] σ = ru d 157 115 [l0, l1, l2, l3, l4] [.int (x - y), w0] σ := q_isub t157_114
theorem t157_115 : decode (mb 157) 115 = .ok (.iload 4, 2) := by decide +kernel
theorem s157_115 (d : Nat) (l0 : Value) (l1 : Value) (l2 : Value) (l3 : Value) (i4 : Int32) (w0 w1 : Value) (σ : Hs) : ru d 157 115 [l0, l1, l2, l3, .int i4] [w0, w1] σ = ru d 157 117 [l0, l1, l2, l3, .int i4] [.int i4, w0, w1] σ := q_iload t157_115 rfl
theorem t157_117 : decode (mb 157) 117 = .ok (.aload_n 0, 1) := by decide +kernel
theorem s157_117 (d : Nat) (a0 : Nat) (l1 : Value) (l2 : Value) (l3 : Value) (l4 : Value) (w0 w1 w2 : Value) (σ : Hs) : ru d 157 117 [.ref a0, l1, l2, l3, l4] [w0, w1, w2] σ = ru d 157 118 [.ref a0, l1, l2, l3, l4] [.ref a0, w0, w1, w2] σ := q_aload_n t157_117 rfl
theorem t157_118 : decode (mb 157) 118 = .ok (.getfield 49, 3) := by decide +kernel
theorem s157_118_o87 (d : Nat) (l0 : Value) (l1 : Value) (l2 : Value) (l3 : Value) (l4 : Value) (w0 w1 w2 : Value) (σ : Hs) : ru d 157 118 [l0, l1, l2, l3, l4] [.ref 87, w0, w1, w2] σ = ru d 157 121 [l0, l1, l2, l3, l4] [.ref 98, w0, w1, w2] σ := q_getf t157_118 mo157 F8_49 rfl rfl
theorem t157_121 : decode (mb 157) 121 = .ok (.iload_n 2, 1) := by decide +kernel
theorem s157_121 (d : Nat) (l0 : Value) (l1 : Value) (i2 : Int32) (l3 : Value) (l4 : Value) (w0 w1 w2 w3 : Value) (σ : Hs) : ru d 157 121 [l0, l1, .int i2, l3, l4] [w0, w1, w2, w3] σ = ru d 157 122 [l0, l1, .int i2, l3, l4] [.int i2, w0, w1, w2, w3] σ := q_iload_n t157_121 rfl
theorem t157_122 : decode (mb 157) 122 = .ok (.iconst 1, 1) := by decide +kernel
theorem s157_122 (d : Nat) (l0 : Value) (l1 : Value) (l2 : Value) (l3 : Value) (l4 : Value) (w0 w1 w2 w3 w4 : Value) (σ : Hs) : ru d 157 122 [l0, l1, l2, l3, l4] [w0, w1, w2, w3, w4] σ = ru d 157 123 [l0, l1, l2, l3, l4] [.int 1, w0, w1, w2, w3, w4] σ := q_iconst t157_122 (by decide +kernel)
theorem t157_123 : decode (mb 157) 123 = .ok (.isub, 1) := by decide +kernel
theorem s157_123 (d : Nat) (l0 : Value) (l1 : Value) (l2 : Value) (l3 : Value) (l4 : Value) (x y : Int32) (w0 w1 w2 w3 : Value) (σ : Hs) : ru d 157 123 [l0, l1, l2, l3, l4] [.int y, .int x, w0, w1, w2, w3] σ = ru d 157 124 [l0, l1, l2, l3, l4] [.int (x - y), w0, w1, w2, w3] σ := q_isub t157_123
theorem t157_124 : decode (mb 157) 124 = .ok (.iaload, 1) := by decide +kernel
theorem s157_124_o98 (d : Nat) (l0 : Value) (l1 : Value) (l2 : Value) (l3 : Value) (l4 : Value) (i : Int32) (w0 w1 w2 : Value) (σ : Hs) : ru d 157 124 [l0, l1, l2, l3, l4] [.int i, .ref 98, w0, w1, w2] σ = gd (vp_in i 60) (ru d 157 125 [l0, l1, l2, l3, l4] [.int (σ 98 i.toNatClampNeg), w0, w1, w2] σ) := q_iald t157_124 rfl (by decide +kernel) rfl
theorem t157_125 : decode (mb 157) 125 = .ok (.aload_n 0, 1) := by decide +kernel
theorem s157_125 (d : Nat) (a0 : Nat) (l1 : Value) (l2 : Value) (l3 : Value) (l4 : Value) (w0 w1 w2 w3 : Value) (σ : Hs) : ru d 157 125 [.ref a0, l1, l2, l3, l4] [w0, w1, w2, w3] σ = ru d 157 126 [.ref a0, l1, l2, l3, l4] [.ref a0, w0, w1, w2, w3] σ := q_aload_n t157_125 rfl
theorem t157_126 : decode (mb 157) 126 = .ok (.getfield 49, 3) := by decide +kernel
theorem s157_126_o87 (d : Nat) (l0 : Value) (l1 : Value) (l2 : Value) (l3 : Value) (l4 : Value) (w0 w1 w2 w3 : Value) (σ : Hs) : ru d 157 126 [l0, l1, l2, l3, l4] [.ref 87, w0, w1, w2, w3] σ = ru d 157 129 [l0, l1, l2, l3, l4] [.ref 98, w0, w1, w2, w3] σ := q_getf t157_126 mo157 F8_49 rfl rfl
theorem t157_129 : decode (mb 157) 129 = .ok (.iload_n 2, 1) := by decide +kernel
theorem s157_129 (d : Nat) (l0 : Value) (l1 : Value) (i2 : Int32) (l3 : Value) (l4 : Value) (w0 w1 w2 w3 w4 : Value) (σ : Hs) : ru d 157 129 [l0, l1, .int i2, l3, l4] [w0, w1, w2, w3, w4] σ = ru d 157 130 [l0, l1, .int i2, l3, l4] [.int i2, w0, w1, w2, w3, w4] σ := q_iload_n t157_129 rfl
theorem t157_130 : decode (mb 157) 130 = .ok (.iaload, 1) := by decide +kernel
theorem s157_130_o98 (d : Nat) (l0 : Value) (l1 : Value) (l2 : Value) (l3 : Value) (l4 : Value) (i : Int32) (w0 w1 w2 w3 : Value) (σ : Hs) : ru d 157 130 [l0, l1, l2, l3, l4] [.int i, .ref 98, w0, w1, w2, w3] σ = gd (vp_in i 60) (ru d 157 131 [l0, l1, l2, l3, l4] [.int (σ 98 i.toNatClampNeg), w0, w1, w2, w3] σ) := q_iald t157_130 rfl (by decide +kernel) rfl
theorem t157_131 : decode (mb 157) 131 = .ok (.invokestatic 214, 3) := by decide +kernel
theorem s157_131 (d : Nat) (l0 : Value) (l1 : Value) (l2 : Value) (l3 : Value) (l4 : Value) (v0 v1 v2 : Value) (w0 : Int32) (w1 : Nat) (σ : Hs) : ru d 157 131 [l0, l1, l2, l3, l4] [v2, v1, v0, .int w0, .ref w1] σ = kont (callD d 156 [v0, v1, v2] σ) d 157 134 [l0, l1, l2, l3, l4] [.int w0, .ref w1] := q_invs t157_131 mo157 (by decide +kernel) K8_214 mj156 (Nat.le_of_ble_eq_true rfl) rfl rfl (Nat.le_of_ble_eq_true rfl)
theorem t157_134 : decode (mb 157) 134 = .ok (.iastore, 1) := by decide +kernel
theorem s157_134_o98 (d : Nat) (l0 : Value) (l1 : Value) (l2 : Value) (l3 : Value) (l4 : Value) (i x : Int32) (σ : Hs) : ru d 157 134 [l0, l1, l2, l3, l4] [.int x, .int i, .ref 98] σ = gd (vp_in i 60) (ru d 157 135 [l0, l1, l2, l3, l4] [] (up2 σ 98 i.toNatClampNeg x)) := q_iast t157_134 (by decide +kernel) rfl rfl
theorem t157_135 : decode (mb 157) 135 = .ok (.iinc 3 1, 3) := by decide +kernel
theorem s157_135 (d : Nat) (l0 : Value) (l1 : Value) (i2 : Int32) (i3 : Int32) (l4 : Value) (σ : Hs) : ru d 157 135 [l0, l1, .int i2, .int i3, l4] [] σ = ru d 157 138 [l0, l1, .int i2, .int (i3 + 1), l4] [] σ := q_iinc t157_135 ⟨Nat.le_of_ble_eq_true rfl, rfl⟩ rfl (by decide +kernel) rfl
theorem t157_138 : decode (mb 157) 138 = .ok (.goto (-134), 3) := by decide +kernel
theorem s157_138 (d : Nat) (l0 : Value) (l1 : Value) (l2 : Value) (l3 : Value) (l4 : Value) (σ : Hs) : ru d 157 138 [l0, l1, l2, l3, l4] [] σ = ru d 157 4 [l0, l1, l2, l3, l4] [] σ := q_goto t157_138 (by decide +kernel)
theorem t157_141 : decode (mb 157) 141 = .ok (.aload_n 0, 1) := by decide +kernel
theorem s157_141 (d : Nat) (a0 : Nat) (l1 : Value) (l2 : Value) (l3 : Value) (l4 : Value) (σ : Hs) : ru d 157 141 [.ref a0, l1, l2, l3, l4] [] σ = ru d 157 142 [.ref a0, l1, l2, l3, l4] [.ref a0] σ := q_aload_n t157_141 rfl
theorem t157_142 : decode (mb 157) 142 = .ok (.getfield 49, 3) := by decide +kernel
theorem s157_142_o87 (d : Nat) (l0 : Value) (l1 : Value) (l2 : Value) (l3 : Value) (l4 : Value) (σ : Hs) : ru d 157 142 [l0, l1, l2, l3, l4] [.ref 87] σ = ru d 157 145 [l0, l1, l2, l3, l4] [.ref 98] σ := q_getf t157_142 mo157 F8_49 rfl rfl
theorem t157_145 : decode (mb 157) 145 = .ok (.iconst 0, 1) := by decide +kernel
theorem s157_145 (d : Nat) (l0 : Value) (l1 : Value) (l2 : Value) (l3 : Value) (l4 : Value) (w0 : Value) (σ : Hs) : ru d 157 145 [l0, l1, l2, l3, l4] [w0] σ = ru d 157 146 [l0, l1, l2, l3, l4] [.int 0, w0] σ := q_iconst t157_145 (by decide +kernel)
theorem t157_146 : decode (mb 157) 146 = .ok (.iaload, 1) := by decide +kernel
theorem s157_146_o98 (d : Nat) (l0 : Value) (l1 : Value) (l2 : Value) (l3 : Value) (l4 : Value) (i : Int32) (σ : Hs) : ru d 157 146 [l0, l1, l2, l3, l4] [.int i, .ref 98] σ = gd (vp_in i 60) (ru d 157 147 [l0, l1, l2, l3, l4] [.int (σ 98 i.toNatClampNeg)] σ) := q_iald t157_146 rfl (by decide +kernel) rfl
theorem t157_147 : decode (mb 157) 147 = .ok (.ireturn, 1) := by decide +kernel
theorem s157_147 (d : Nat) (l0 : Value) (l1 : Value) (l2 : Value) (l3 : Value) (l4 : Value) (x : Int32) (σ : Hs) : ru d 157 147 [l0, l1, l2, l3, l4] [.int x] σ = some (some (.int x), σ) := q_ireti t157_147 mr157
theorem c157 (d : Nat) (x0 : Nat) (x1 : Int32) (σ : Hs) : callD (d + 1) 157 [.ref x0, .int x1] σ = ru d 157 0 [.ref x0, .int x1, uu, uu, uu] [] σ := callD_ru ml157 rfl rfl (Nat.le_of_ble_eq_true rfl)
-- 158: Model.given(IIIII)I
theorem t158_0 : decode (mb 158) 0 = .ok (.aload_n 0, 1) := by decide +kernel
theorem s158_0 (d : Nat) (a0 : Nat) (l1 : Value) (l2 : Value) (l3 : Value) (l4 : Value) (l5 : Value) (l6 : Value) (σ : Hs) : ru d 158 0 [.ref a0, l1, l2, l3, l4, l5, l6] [] σ = ru d 158 1 [.ref a0, l1, l2, l3, l4, l5, l6] [.ref a0] σ := q_aload_n t158_0 rfl
theorem t158_1 : decode (mb 158) 1 = .ok (.getfield 46, 3) := by decide +kernel
theorem s158_1_o87 (d : Nat) (l0 : Value) (l1 : Value) (l2 : Value) (l3 : Value) (l4 : Value) (l5 : Value) (l6 : Value) (σ : Hs) : ru d 158 1 [l0, l1, l2, l3, l4, l5, l6] [.ref 87] σ = ru d 158 4 [l0, l1, l2, l3, l4, l5, l6] [.ref 97] σ := q_getf t158_1 mo158 F8_46 rfl rfl
theorem t158_4 : decode (mb 158) 4 = .ok (.iconst 0, 1) := by decide +kernel
theorem s158_4 (d : Nat) (l0 : Value) (l1 : Value) (l2 : Value) (l3 : Value) (l4 : Value) (l5 : Value) (l6 : Value) (w0 : Value) (σ : Hs) : ru d 158 4 [l0, l1, l2, l3, l4, l5, l6] [w0] σ = ru d 158 5 [l0, l1, l2, l3, l4, l5, l6] [.int 0, w0] σ := q_iconst t158_4 (by decide +kernel)
theorem t158_5 : decode (mb 158) 5 = .ok (.iload_n 2, 1) := by decide +kernel
theorem s158_5 (d : Nat) (l0 : Value) (l1 : Value) (i2 : Int32) (l3 : Value) (l4 : Value) (l5 : Value) (l6 : Value) (w0 w1 : Value) (σ : Hs) : ru d 158 5 [l0, l1, .int i2, l3, l4, l5, l6] [w0, w1] σ = ru d 158 6 [l0, l1, .int i2, l3, l4, l5, l6] [.int i2, w0, w1] σ := q_iload_n t158_5 rfl
theorem t158_6 : decode (mb 158) 6 = .ok (.iastore, 1) := by decide +kernel
theorem s158_6_o97 (d : Nat) (l0 : Value) (l1 : Value) (l2 : Value) (l3 : Value) (l4 : Value) (l5 : Value) (l6 : Value) (i x : Int32) (σ : Hs) : ru d 158 6 [l0, l1, l2, l3, l4, l5, l6] [.int x, .int i, .ref 97] σ = gd (vp_in i 4) (ru d 158 7 [l0, l1, l2, l3, l4, l5, l6] [] (up2 σ 97 i.toNatClampNeg x)) := q_iast t158_6 (by decide +kernel) rfl rfl
theorem t158_7 : decode (mb 158) 7 = .ok (.aload_n 0, 1) := by decide +kernel
theorem s158_7 (d : Nat) (a0 : Nat) (l1 : Value) (l2 : Value) (l3 : Value) (l4 : Value) (l5 : Value) (l6 : Value) (σ : Hs) : ru d 158 7 [.ref a0, l1, l2, l3, l4, l5, l6] [] σ = ru d 158 8 [.ref a0, l1, l2, l3, l4, l5, l6] [.ref a0] σ := q_aload_n t158_7 rfl
theorem t158_8 : decode (mb 158) 8 = .ok (.getfield 46, 3) := by decide +kernel
theorem s158_8_o87 (d : Nat) (l0 : Value) (l1 : Value) (l2 : Value) (l3 : Value) (l4 : Value) (l5 : Value) (l6 : Value) (σ : Hs) : ru d 158 8 [l0, l1, l2, l3, l4, l5, l6] [.ref 87] σ = ru d 158 11 [l0, l1, l2, l3, l4, l5, l6] [.ref 97] σ := q_getf t158_8 mo158 F8_46 rfl rfl
theorem t158_11 : decode (mb 158) 11 = .ok (.iconst 1, 1) := by decide +kernel
theorem s158_11 (d : Nat) (l0 : Value) (l1 : Value) (l2 : Value) (l3 : Value) (l4 : Value) (l5 : Value) (l6 : Value) (w0 : Value) (σ : Hs) : ru d 158 11 [l0, l1, l2, l3, l4, l5, l6] [w0] σ = ru d 158 12 [l0, l1, l2, l3, l4, l5, l6] [.int 1, w0] σ := q_iconst t158_11 (by decide +kernel)
theorem t158_12 : decode (mb 158) 12 = .ok (.iload_n 3, 1) := by decide +kernel
theorem s158_12 (d : Nat) (l0 : Value) (l1 : Value) (l2 : Value) (i3 : Int32) (l4 : Value) (l5 : Value) (l6 : Value) (w0 w1 : Value) (σ : Hs) : ru d 158 12 [l0, l1, l2, .int i3, l4, l5, l6] [w0, w1] σ = ru d 158 13 [l0, l1, l2, .int i3, l4, l5, l6] [.int i3, w0, w1] σ := q_iload_n t158_12 rfl
theorem t158_13 : decode (mb 158) 13 = .ok (.iastore, 1) := by decide +kernel
theorem s158_13_o97 (d : Nat) (l0 : Value) (l1 : Value) (l2 : Value) (l3 : Value) (l4 : Value) (l5 : Value) (l6 : Value) (i x : Int32) (σ : Hs) : ru d 158 13 [l0, l1, l2, l3, l4, l5, l6] [.int x, .int i, .ref 97] σ = gd (vp_in i 4) (ru d 158 14 [l0, l1, l2, l3, l4, l5, l6] [] (up2 σ 97 i.toNatClampNeg x)) := q_iast t158_13 (by decide +kernel) rfl rfl
theorem t158_14 : decode (mb 158) 14 = .ok (.aload_n 0, 1) := by decide +kernel
theorem s158_14 (d : Nat) (a0 : Nat) (l1 : Value) (l2 : Value) (l3 : Value) (l4 : Value) (l5 : Value) (l6 : Value) (σ : Hs) : ru d 158 14 [.ref a0, l1, l2, l3, l4, l5, l6] [] σ = ru d 158 15 [.ref a0, l1, l2, l3, l4, l5, l6] [.ref a0] σ := q_aload_n t158_14 rfl
theorem t158_15 : decode (mb 158) 15 = .ok (.getfield 46, 3) := by decide +kernel
theorem s158_15_o87 (d : Nat) (l0 : Value) (l1 : Value) (l2 : Value) (l3 : Value) (l4 : Value) (l5 : Value) (l6 : Value) (σ : Hs) : ru d 158 15 [l0, l1, l2, l3, l4, l5, l6] [.ref 87] σ = ru d 158 18 [l0, l1, l2, l3, l4, l5, l6] [.ref 97] σ := q_getf t158_15 mo158 F8_46 rfl rfl
theorem t158_18 : decode (mb 158) 18 = .ok (.iconst 2, 1) := by decide +kernel
theorem s158_18 (d : Nat) (l0 : Value) (l1 : Value) (l2 : Value) (l3 : Value) (l4 : Value) (l5 : Value) (l6 : Value) (w0 : Value) (σ : Hs) : ru d 158 18 [l0, l1, l2, l3, l4, l5, l6] [w0] σ = ru d 158 19 [l0, l1, l2, l3, l4, l5, l6] [.int 2, w0] σ := q_iconst t158_18 (by decide +kernel)
theorem t158_19 : decode (mb 158) 19 = .ok (.iload 4, 2) := by decide +kernel
theorem s158_19 (d : Nat) (l0 : Value) (l1 : Value) (l2 : Value) (l3 : Value) (i4 : Int32) (l5 : Value) (l6 : Value) (w0 w1 : Value) (σ : Hs) : ru d 158 19 [l0, l1, l2, l3, .int i4, l5, l6] [w0, w1] σ = ru d 158 21 [l0, l1, l2, l3, .int i4, l5, l6] [.int i4, w0, w1] σ := q_iload t158_19 rfl
theorem t158_21 : decode (mb 158) 21 = .ok (.iastore, 1) := by decide +kernel
theorem s158_21_o97 (d : Nat) (l0 : Value) (l1 : Value) (l2 : Value) (l3 : Value) (l4 : Value) (l5 : Value) (l6 : Value) (i x : Int32) (σ : Hs) : ru d 158 21 [l0, l1, l2, l3, l4, l5, l6] [.int x, .int i, .ref 97] σ = gd (vp_in i 4) (ru d 158 22 [l0, l1, l2, l3, l4, l5, l6] [] (up2 σ 97 i.toNatClampNeg x)) := q_iast t158_21 (by decide +kernel) rfl rfl
theorem t158_22 : decode (mb 158) 22 = .ok (.aload_n 0, 1) := by decide +kernel
theorem s158_22 (d : Nat) (a0 : Nat) (l1 : Value) (l2 : Value) (l3 : Value) (l4 : Value) (l5 : Value) (l6 : Value) (σ : Hs) : ru d 158 22 [.ref a0, l1, l2, l3, l4, l5, l6] [] σ = ru d 158 23 [.ref a0, l1, l2, l3, l4, l5, l6] [.ref a0] σ := q_aload_n t158_22 rfl
theorem t158_23 : decode (mb 158) 23 = .ok (.getfield 46, 3) := by decide +kernel
theorem s158_23_o87 (d : Nat) (l0 : Value) (l1 : Value) (l2 : Value) (l3 : Value) (l4 : Value) (l5 : Value) (l6 : Value) (σ : Hs) : ru d 158 23 [l0, l1, l2, l3, l4, l5, l6] [.ref 87] σ = ru d 158 26 [l0, l1, l2, l3, l4, l5, l6] [.ref 97] σ := q_getf t158_23 mo158 F8_46 rfl rfl
theorem t158_26 : decode (mb 158) 26 = .ok (.iconst 3, 1) := by decide +kernel
theorem s158_26 (d : Nat) (l0 : Value) (l1 : Value) (l2 : Value) (l3 : Value) (l4 : Value) (l5 : Value) (l6 : Value) (w0 : Value) (σ : Hs) : ru d 158 26 [l0, l1, l2, l3, l4, l5, l6] [w0] σ = ru d 158 27 [l0, l1, l2, l3, l4, l5, l6] [.int 3, w0] σ := q_iconst t158_26 (by decide +kernel)
theorem t158_27 : decode (mb 158) 27 = .ok (.iload 5, 2) := by decide +kernel
theorem s158_27 (d : Nat) (l0 : Value) (l1 : Value) (l2 : Value) (l3 : Value) (l4 : Value) (i5 : Int32) (l6 : Value) (w0 w1 : Value) (σ : Hs) : ru d 158 27 [l0, l1, l2, l3, l4, .int i5, l6] [w0, w1] σ = ru d 158 29 [l0, l1, l2, l3, l4, .int i5, l6] [.int i5, w0, w1] σ := q_iload t158_27 rfl
theorem t158_29 : decode (mb 158) 29 = .ok (.iastore, 1) := by decide +kernel
theorem s158_29_o97 (d : Nat) (l0 : Value) (l1 : Value) (l2 : Value) (l3 : Value) (l4 : Value) (l5 : Value) (l6 : Value) (i x : Int32) (σ : Hs) : ru d 158 29 [l0, l1, l2, l3, l4, l5, l6] [.int x, .int i, .ref 97] σ = gd (vp_in i 4) (ru d 158 30 [l0, l1, l2, l3, l4, l5, l6] [] (up2 σ 97 i.toNatClampNeg x)) := q_iast t158_29 (by decide +kernel) rfl rfl
theorem t158_30 : decode (mb 158) 30 = .ok (.sipush 359, 3) := by decide +kernel
theorem s158_30 (d : Nat) (l0 : Value) (l1 : Value) (l2 : Value) (l3 : Value) (l4 : Value) (l5 : Value) (l6 : Value) (σ : Hs) : ru d 158 30 [l0, l1, l2, l3, l4, l5, l6] [] σ = ru d 158 33 [l0, l1, l2, l3, l4, l5, l6] [.int 359] σ := q_sipush t158_30 (by decide +kernel)
theorem t158_33 : decode (mb 158) 33 = .ok (.bipush 62, 2) := by decide +kernel
theorem s158_33 (d : Nat) (l0 : Value) (l1 : Value) (l2 : Value) (l3 : Value) (l4 : Value) (l5 : Value) (l6 : Value) (w0 : Value) (σ : Hs) : ru d 158 33 [l0, l1, l2, l3, l4, l5, l6] [w0] σ = ru d 158 35 [l0, l1, l2, l3, l4, l5, l6] [.int 62, w0] σ := q_bipush t158_33 (by decide +kernel)
theorem t158_35 : decode (mb 158) 35 = .ok (.iload_n 1, 1) := by decide +kernel
theorem s158_35 (d : Nat) (l0 : Value) (i1 : Int32) (l2 : Value) (l3 : Value) (l4 : Value) (l5 : Value) (l6 : Value) (w0 w1 : Value) (σ : Hs) : ru d 158 35 [l0, .int i1, l2, l3, l4, l5, l6] [w0, w1] σ = ru d 158 36 [l0, .int i1, l2, l3, l4, l5, l6] [.int i1, w0, w1] σ := q_iload_n t158_35 rfl
theorem t158_36 : decode (mb 158) 36 = .ok (.imul, 1) := by decide +kernel
theorem s158_36 (d : Nat) (l0 : Value) (l1 : Value) (l2 : Value) (l3 : Value) (l4 : Value) (l5 : Value) (l6 : Value) (x y : Int32) (w0 : Value) (σ : Hs) : ru d 158 36 [l0, l1, l2, l3, l4, l5, l6] [.int y, .int x, w0] σ = ru d 158 37 [l0, l1, l2, l3, l4, l5, l6] [.int (x * y), w0] σ := q_imul t158_36
theorem t158_37 : decode (mb 158) 37 = .ok (.iadd, 1) := by decide +kernel
theorem s158_37 (d : Nat) (l0 : Value) (l1 : Value) (l2 : Value) (l3 : Value) (l4 : Value) (l5 : Value) (l6 : Value) (x y : Int32) (σ : Hs) : ru d 158 37 [l0, l1, l2, l3, l4, l5, l6] [.int y, .int x] σ = ru d 158 38 [l0, l1, l2, l3, l4, l5, l6] [.int (x + y)] σ := q_iadd t158_37
theorem t158_38 : decode (mb 158) 38 = .ok (.iconst 1, 1) := by decide +kernel
theorem s158_38 (d : Nat) (l0 : Value) (l1 : Value) (l2 : Value) (l3 : Value) (l4 : Value) (l5 : Value) (l6 : Value) (w0 : Value) (σ : Hs) : ru d 158 38 [l0, l1, l2, l3, l4, l5, l6] [w0] σ = ru d 158 39 [l0, l1, l2, l3, l4, l5, l6] [.int 1, w0] σ := q_iconst t158_38 (by decide +kernel)
theorem t158_39 : decode (mb 158) 39 = .ok (.iadd, 1) := by decide +kernel
theorem s158_39 (d : Nat) (l0 : Value) (l1 : Value) (l2 : Value) (l3 : Value) (l4 : Value) (l5 : Value) (l6 : Value) (x y : Int32) (σ : Hs) : ru d 158 39 [l0, l1, l2, l3, l4, l5, l6] [.int y, .int x] σ = ru d 158 40 [l0, l1, l2, l3, l4, l5, l6] [.int (x + y)] σ := q_iadd t158_39
theorem t158_40 : decode (mb 158) 40 = .ok (.istore 6, 2) := by decide +kernel
theorem s158_40 (d : Nat) (l0 : Value) (l1 : Value) (l2 : Value) (l3 : Value) (l4 : Value) (i5 : Int32) (l6 : Value) (x : Int32) (σ : Hs) : ru d 158 40 [l0, l1, l2, l3, l4, .int i5, l6] [.int x] σ = ru d 158 42 [l0, l1, l2, l3, l4, .int i5, .int x] [] σ := q_istore t158_40 ⟨Nat.le_of_ble_eq_true rfl, rfl⟩ rfl
theorem t158_42 : decode (mb 158) 42 = .ok (.aload_n 0, 1) := by decide +kernel
theorem s158_42 (d : Nat) (a0 : Nat) (l1 : Value) (l2 : Value) (l3 : Value) (l4 : Value) (l5 : Value) (l6 : Value) (σ : Hs) : ru d 158 42 [.ref a0, l1, l2, l3, l4, l5, l6] [] σ = ru d 158 43 [.ref a0, l1, l2, l3, l4, l5, l6] [.ref a0] σ := q_aload_n t158_42 rfl
theorem t158_43 : decode (mb 158) 43 = .ok (.getfield 9, 3) := by decide +kernel
theorem s158_43_o87 (d : Nat) (l0 : Value) (l1 : Value) (l2 : Value) (l3 : Value) (l4 : Value) (l5 : Value) (l6 : Value) (σ : Hs) : ru d 158 43 [l0, l1, l2, l3, l4, l5, l6] [.ref 87] σ = ru d 158 46 [l0, l1, l2, l3, l4, l5, l6] [.ref 88] σ := q_getf t158_43 mo158 F8_9 rfl rfl
theorem t158_46 : decode (mb 158) 46 = .ok (.iload 6, 2) := by decide +kernel
theorem s158_46 (d : Nat) (l0 : Value) (l1 : Value) (l2 : Value) (l3 : Value) (l4 : Value) (l5 : Value) (i6 : Int32) (w0 : Value) (σ : Hs) : ru d 158 46 [l0, l1, l2, l3, l4, l5, .int i6] [w0] σ = ru d 158 48 [l0, l1, l2, l3, l4, l5, .int i6] [.int i6, w0] σ := q_iload t158_46 rfl
theorem t158_48 : decode (mb 158) 48 = .ok (.iconst 1, 1) := by decide +kernel
theorem s158_48 (d : Nat) (l0 : Value) (l1 : Value) (l2 : Value) (l3 : Value) (l4 : Value) (l5 : Value) (l6 : Value) (w0 w1 : Value) (σ : Hs) : ru d 158 48 [l0, l1, l2, l3, l4, l5, l6] [w0, w1] σ = ru d 158 49 [l0, l1, l2, l3, l4, l5, l6] [.int 1, w0, w1] σ := q_iconst t158_48 (by decide +kernel)
theorem t158_49 : decode (mb 158) 49 = .ok (.isub, 1) := by decide +kernel
theorem s158_49 (d : Nat) (l0 : Value) (l1 : Value) (l2 : Value) (l3 : Value) (l4 : Value) (l5 : Value) (l6 : Value) (x y : Int32) (w0 : Value) (σ : Hs) : ru d 158 49 [l0, l1, l2, l3, l4, l5, l6] [.int y, .int x, w0] σ = ru d 158 50 [l0, l1, l2, l3, l4, l5, l6] [.int (x - y), w0] σ := q_isub t158_49
theorem t158_50 : decode (mb 158) 50 = .ok (.iaload, 1) := by decide +kernel
theorem s158_50_o88 (d : Nat) (l0 : Value) (l1 : Value) (l2 : Value) (l3 : Value) (l4 : Value) (l5 : Value) (l6 : Value) (i : Int32) (σ : Hs) : ru d 158 50 [l0, l1, l2, l3, l4, l5, l6] [.int i, .ref 88] σ = gd (vp_in i 545) (ru d 158 51 [l0, l1, l2, l3, l4, l5, l6] [.int (σ 88 i.toNatClampNeg)] σ) := q_iald t158_50 rfl (by decide +kernel) rfl
theorem t158_51 : decode (mb 158) 51 = .ok (.ifCond .le 10, 3) := by decide +kernel
theorem s158_51 (d : Nat) (l0 : Value) (l1 : Value) (l2 : Value) (l3 : Value) (l4 : Value) (l5 : Value) (l6 : Value) (x : Int32) (σ : Hs) : ru d 158 51 [l0, l1, l2, l3, l4, l5, l6] [.int x] σ = if x ≤ 0 then ru d 158 61 [l0, l1, l2, l3, l4, l5, l6] [] σ else ru d 158 54 [l0, l1, l2, l3, l4, l5, l6] [] σ := q_if_le t158_51 (by decide +kernel)
theorem t158_54 : decode (mb 158) 54 = .ok (.aload_n 0, 1) := by decide +kernel
theorem s158_54 (d : Nat) (a0 : Nat) (l1 : Value) (l2 : Value) (l3 : Value) (l4 : Value) (l5 : Value) (l6 : Value) (σ : Hs) : ru d 158 54 [.ref a0, l1, l2, l3, l4, l5, l6] [] σ = ru d 158 55 [.ref a0, l1, l2, l3, l4, l5, l6] [.ref a0] σ := q_aload_n t158_54 rfl
theorem t158_55 : decode (mb 158) 55 = .ok (.iload 6, 2) := by decide +kernel
theorem s158_55 (d : Nat) (l0 : Value) (l1 : Value) (l2 : Value) (l3 : Value) (l4 : Value) (l5 : Value) (i6 : Int32) (w0 : Value) (σ : Hs) : ru d 158 55 [l0, l1, l2, l3, l4, l5, .int i6] [w0] σ = ru d 158 57 [l0, l1, l2, l3, l4, l5, .int i6] [.int i6, w0] σ := q_iload t158_55 rfl
theorem t158_57 : decode (mb 158) 57 = .ok (.invokevirtual 218, 3) := by decide +kernel
theorem s158_57_o87 (d : Nat) (l0 : Value) (l1 : Value) (l2 : Value) (l3 : Value) (l4 : Value) (l5 : Value) (l6 : Value) (v1 : Value) (σ : Hs) : ru d 158 57 [l0, l1, l2, l3, l4, l5, l6] [v1, .ref 87] σ = kont (callD d 157 [.ref 87, v1] σ) d 158 60 [l0, l1, l2, l3, l4, l5, l6] [] := q_invv t158_57 mo158 K8_218 mj157 rfl rfl rfl rfl (Nat.le_of_ble_eq_true rfl)
theorem t158_60 : decode (mb 158) 60 = .ok (.ireturn, 1) := by decide +kernel
theorem s158_60 (d : Nat) (l0 : Value) (l1 : Value) (l2 : Value) (l3 : Value) (l4 : Value) (l5 : Value) (l6 : Value) (x : Int32) (σ : Hs) : ru d 158 60 [l0, l1, l2, l3, l4, l5, l6] [.int x] σ = some (some (.int x), σ) := q_ireti t158_60 mr158
theorem t158_61 : decode (mb 158) 61 = .ok (.iload_n 1, 1) := by decide +kernel
theorem s158_61 (d : Nat) (l0 : Value) (i1 : Int32) (l2 : Value) (l3 : Value) (l4 : Value) (l5 : Value) (l6 : Value) (σ : Hs) : ru d 158 61 [l0, .int i1, l2, l3, l4, l5, l6] [] σ = ru d 158 62 [l0, .int i1, l2, l3, l4, l5, l6] [.int i1] σ := q_iload_n t158_61 rfl
theorem t158_62 : decode (mb 158) 62 = .ok (.lookupswitch 34 #[(0, 26), (1, 32)], 26) := by decide +kernel
theorem f158_62 (x : Int32) : tgt 62 (Op.lookupswitch.offset (#[(0, 26), (1, 32)] : Array (Int × Int)).toList 34 x.toInt) = some (if x = 0 then 88 else (if x = 1 then 94 else 96)) := by
  by_cases h0 : x = 0
  · subst h0; decide +kernel
  by_cases h1 : x = 1
  · subst h1; decide +kernel
  have e0 : ¬ x.toInt = 0 := fun h => h0 (Int32.toInt_inj.mp (h.trans (by decide +kernel)))
  have e1 : ¬ x.toInt = 1 := fun h => h1 (Int32.toInt_inj.mp (h.trans (by decide +kernel)))
  have g0 : ¬ (0 : Int) = x.toInt := fun h => e0 h.symm
  have g1 : ¬ (1 : Int) = x.toInt := fun h => e1 h.symm
  simp only [Op.lookupswitch.offset_cons, Op.lookupswitch.offset_nil, if_neg g0, if_neg h0, if_neg g1, if_neg h1]
  decide +kernel
theorem s158_62 (d : Nat) (l0 : Value) (l1 : Value) (l2 : Value) (l3 : Value) (l4 : Value) (l5 : Value) (l6 : Value) (x : Int32) (σ : Hs) : ru d 158 62 [l0, l1, l2, l3, l4, l5, l6] [.int x] σ = if x = 0 then ru d 158 88 [l0, l1, l2, l3, l4, l5, l6] [] σ else if x = 1 then ru d 158 94 [l0, l1, l2, l3, l4, l5, l6] [] σ else ru d 158 96 [l0, l1, l2, l3, l4, l5, l6] [] σ := by
  refine (q_lsw t158_62 (by decide +kernel) (fun x => (if x = 0 then 88 else (if x = 1 then 94 else 96))) (f158_62 x)).trans ?_
  by_cases h0 : x = 0
  · rw [if_pos h0, if_pos h0]
  rw [if_neg h0, if_neg h0]
  by_cases h1 : x = 1
  · rw [if_pos h1, if_pos h1]
  rw [if_neg h1, if_neg h1]
theorem t158_88 : decode (mb 158) 88 = .ok (.iload_n 2, 1) := by decide +kernel
theorem s158_88 (d : Nat) (l0 : Value) (l1 : Value) (i2 : Int32) (l3 : Value) (l4 : Value) (l5 : Value) (l6 : Value) (σ : Hs) : ru d 158 88 [l0, l1, .int i2, l3, l4, l5, l6] [] σ = ru d 158 89 [l0, l1, .int i2, l3, l4, l5, l6] [.int i2] σ := q_iload_n t158_88 rfl
theorem t158_89 : decode (mb 158) 89 = .ok (.iconst 4, 1) := by decide +kernel
theorem s158_89 (d : Nat) (l0 : Value) (l1 : Value) (l2 : Value) (l3 : Value) (l4 : Value) (l5 : Value) (l6 : Value) (w0 : Value) (σ : Hs) : ru d 158 89 [l0, l1, l2, l3, l4, l5, l6] [w0] σ = ru d 158 90 [l0, l1, l2, l3, l4, l5, l6] [.int 4, w0] σ := q_iconst t158_89 (by decide +kernel)
theorem t158_90 : decode (mb 158) 90 = .ok (.idiv, 1) := by decide +kernel
theorem s158_90 (d : Nat) (l0 : Value) (l1 : Value) (l2 : Value) (l3 : Value) (l4 : Value) (l5 : Value) (l6 : Value) (x y : Int32) (σ : Hs) : ru d 158 90 [l0, l1, l2, l3, l4, l5, l6] [.int y, .int x] σ = gd (¬ y = 0) (ru d 158 91 [l0, l1, l2, l3, l4, l5, l6] [.int (x / y)] σ) := q_idiv t158_90
theorem t158_91 : decode (mb 158) 91 = .ok (.iconst 1, 1) := by decide +kernel
theorem s158_91 (d : Nat) (l0 : Value) (l1 : Value) (l2 : Value) (l3 : Value) (l4 : Value) (l5 : Value) (l6 : Value) (w0 : Value) (σ : Hs) : ru d 158 91 [l0, l1, l2, l3, l4, l5, l6] [w0] σ = ru d 158 92 [l0, l1, l2, l3, l4, l5, l6] [.int 1, w0] σ := q_iconst t158_91 (by decide +kernel)
theorem t158_92 : decode (mb 158) 92 = .ok (.iadd, 1) := by decide +kernel
theorem s158_92 (d : Nat) (l0 : Value) (l1 : Value) (l2 : Value) (l3 : Value) (l4 : Value) (l5 : Value) (l6 : Value) (x y : Int32) (σ : Hs) : ru d 158 92 [l0, l1, l2, l3, l4, l5, l6] [.int y, .int x] σ = ru d 158 93 [l0, l1, l2, l3, l4, l5, l6] [.int (x + y)] σ := q_iadd t158_92
theorem t158_93 : decode (mb 158) 93 = .ok (.ireturn, 1) := by decide +kernel
theorem s158_93 (d : Nat) (l0 : Value) (l1 : Value) (l2 : Value) (l3 : Value) (l4 : Value) (l5 : Value) (l6 : Value) (x : Int32) (σ : Hs) : ru d 158 93 [l0, l1, l2, l3, l4, l5, l6] [.int x] σ = some (some (.int x), σ) := q_ireti t158_93 mr158
theorem t158_94 : decode (mb 158) 94 = .ok (.iconst 1, 1) := by decide +kernel
theorem s158_94 (d : Nat) (l0 : Value) (l1 : Value) (l2 : Value) (l3 : Value) (l4 : Value) (l5 : Value) (l6 : Value) (σ : Hs) : ru d 158 94 [l0, l1, l2, l3, l4, l5, l6] [] σ = ru d 158 95 [l0, l1, l2, l3, l4, l5, l6] [.int 1] σ := q_iconst t158_94 (by decide +kernel)
theorem t158_95 : decode (mb 158) 95 = .ok (.ireturn, 1) := by decide +kernel
theorem s158_95 (d : Nat) (l0 : Value) (l1 : Value) (l2 : Value) (l3 : Value) (l4 : Value) (l5 : Value) (l6 : Value) (x : Int32) (σ : Hs) : ru d 158 95 [l0, l1, l2, l3, l4, l5, l6] [.int x] σ = some (some (.int x), σ) := q_ireti t158_95 mr158
theorem t158_96 : decode (mb 158) 96 = .ok (.iload_n 2, 1) := by decide +kernel
theorem s158_96 (d : Nat) (l0 : Value) (l1 : Value) (i2 : Int32) (l3 : Value) (l4 : Value) (l5 : Value) (l6 : Value) (σ : Hs) : ru d 158 96 [l0, l1, .int i2, l3, l4, l5, l6] [] σ = ru d 158 97 [l0, l1, .int i2, l3, l4, l5, l6] [.int i2] σ := q_iload_n t158_96 rfl
theorem t158_97 : decode (mb 158) 97 = .ok (.bipush 18, 2) := by decide +kernel
theorem s158_97 (d : Nat) (l0 : Value) (l1 : Value) (l2 : Value) (l3 : Value) (l4 : Value) (l5 : Value) (l6 : Value) (w0 : Value) (σ : Hs) : ru d 158 97 [l0, l1, l2, l3, l4, l5, l6] [w0] σ = ru d 158 99 [l0, l1, l2, l3, l4, l5, l6] [.int 18, w0] σ := q_bipush t158_97 (by decide +kernel)
theorem t158_99 : decode (mb 158) 99 = .ok (.if_icmp .ge 9, 3) := by decide +kernel
theorem s158_99 (d : Nat) (l0 : Value) (l1 : Value) (l2 : Value) (l3 : Value) (l4 : Value) (l5 : Value) (l6 : Value) (x y : Int32) (σ : Hs) : ru d 158 99 [l0, l1, l2, l3, l4, l5, l6] [.int y, .int x] σ = if y ≤ x then ru d 158 108 [l0, l1, l2, l3, l4, l5, l6] [] σ else ru d 158 102 [l0, l1, l2, l3, l4, l5, l6] [] σ := q_ic_ge t158_99 (by decide +kernel)
theorem t158_102 : decode (mb 158) 102 = .ok (.iload_n 2, 1) := by decide +kernel
theorem s158_102 (d : Nat) (l0 : Value) (l1 : Value) (i2 : Int32) (l3 : Value) (l4 : Value) (l5 : Value) (l6 : Value) (σ : Hs) : ru d 158 102 [l0, l1, .int i2, l3, l4, l5, l6] [] σ = ru d 158 103 [l0, l1, .int i2, l3, l4, l5, l6] [.int i2] σ := q_iload_n t158_102 rfl
theorem t158_103 : decode (mb 158) 103 = .ok (.bipush 6, 2) := by decide +kernel
theorem s158_103 (d : Nat) (l0 : Value) (l1 : Value) (l2 : Value) (l3 : Value) (l4 : Value) (l5 : Value) (l6 : Value) (w0 : Value) (σ : Hs) : ru d 158 103 [l0, l1, l2, l3, l4, l5, l6] [w0] σ = ru d 158 105 [l0, l1, l2, l3, l4, l5, l6] [.int 6, w0] σ := q_bipush t158_103 (by decide +kernel)
theorem t158_105 : decode (mb 158) 105 = .ok (.if_icmp .ge 8, 3) := by decide +kernel
theorem s158_105 (d : Nat) (l0 : Value) (l1 : Value) (l2 : Value) (l3 : Value) (l4 : Value) (l5 : Value) (l6 : Value) (x y : Int32) (σ : Hs) : ru d 158 105 [l0, l1, l2, l3, l4, l5, l6] [.int y, .int x] σ = if y ≤ x then ru d 158 113 [l0, l1, l2, l3, l4, l5, l6] [] σ else ru d 158 108 [l0, l1, l2, l3, l4, l5, l6] [] σ := q_ic_ge t158_105 (by decide +kernel)
theorem t158_108 : decode (mb 158) 108 = .ok (.bipush 90, 2) := by decide +kernel
theorem s158_108 (d : Nat) (l0 : Value) (l1 : Value) (l2 : Value) (l3 : Value) (l4 : Value) (l5 : Value) (l6 : Value) (σ : Hs) : ru d 158 108 [l0, l1, l2, l3, l4, l5, l6] [] σ = ru d 158 110 [l0, l1, l2, l3, l4, l5, l6] [.int 90] σ := q_bipush t158_108 (by decide +kernel)
theorem t158_110 : decode (mb 158) 110 = .ok (.goto 5, 3) := by decide +kernel
theorem s158_110 (d : Nat) (l0 : Value) (l1 : Value) (l2 : Value) (l3 : Value) (l4 : Value) (l5 : Value) (l6 : Value) (w0 : Value) (σ : Hs) : ru d 158 110 [l0, l1, l2, l3, l4, l5, l6] [w0] σ = ru d 158 115 [l0, l1, l2, l3, l4, l5, l6] [w0] σ := q_goto t158_110 (by decide +kernel)
theorem t158_113 : decode (mb 158) 113 = .ok (.bipush 40, 2) := by decide +kernel
theorem s158_113 (d : Nat) (l0 : Value) (l1 : Value) (l2 : Value) (l3 : Value) (l4 : Value) (l5 : Value) (l6 : Value) (σ : Hs) : ru d 158 113 [l0, l1, l2, l3, l4, l5, l6] [] σ = ru d 158 115 [l0, l1, l2, l3, l4, l5, l6] [.int 40] σ := q_bipush t158_113 (by decide +kernel)
theorem t158_115 : decode (mb 158) 115 = .ok (.ireturn, 1) := by decide +kernel
theorem s158_115 (d : Nat) (l0 : Value) (l1 : Value) (l2 : Value) (l3 : Value) (l4 : Value) (l5 : Value) (l6 : Value) (x : Int32) (σ : Hs) : ru d 158 115 [l0, l1, l2, l3, l4, l5, l6] [.int x] σ = some (some (.int x), σ) := q_ireti t158_115 mr158
theorem c158 (d : Nat) (x0 : Nat) (x1 : Int32) (x2 : Int32) (x3 : Int32) (x4 : Int32) (x5 : Int32) (σ : Hs) : callD (d + 1) 158 [.ref x0, .int x1, .int x2, .int x3, .int x4, .int x5] σ = ru d 158 0 [.ref x0, .int x1, .int x2, .int x3, .int x4, .int x5, uu] [] σ := callD_ru ml158 rfl rfl (Nat.le_of_ble_eq_true rfl)
-- 159: Model.sum_(I)I
theorem t159_0 : decode (mb 159) 0 = .ok (.iconst 0, 1) := by decide +kernel
theorem s159_0 (d : Nat) (l0 : Value) (l1 : Value) (l2 : Value) (l3 : Value) (σ : Hs) : ru d 159 0 [l0, l1, l2, l3] [] σ = ru d 159 1 [l0, l1, l2, l3] [.int 0] σ := q_iconst t159_0 (by decide +kernel)
theorem t159_1 : decode (mb 159) 1 = .ok (.istore_n 2, 1) := by decide +kernel
theorem s159_1 (d : Nat) (l0 : Value) (i1 : Int32) (l2 : Value) (l3 : Value) (x : Int32) (σ : Hs) : ru d 159 1 [l0, .int i1, l2, l3] [.int x] σ = ru d 159 2 [l0, .int i1, .int x, l3] [] σ := q_istore_n t159_1 ⟨Nat.le_of_ble_eq_true rfl, rfl⟩ rfl
theorem t159_2 : decode (mb 159) 2 = .ok (.iconst 0, 1) := by decide +kernel
theorem s159_2 (d : Nat) (l0 : Value) (l1 : Value) (l2 : Value) (l3 : Value) (σ : Hs) : ru d 159 2 [l0, l1, l2, l3] [] σ = ru d 159 3 [l0, l1, l2, l3] [.int 0] σ := q_iconst t159_2 (by decide +kernel)
theorem t159_3 : decode (mb 159) 3 = .ok (.istore_n 3, 1) := by decide +kernel
theorem s159_3 (d : Nat) (l0 : Value) (l1 : Value) (i2 : Int32) (l3 : Value) (x : Int32) (σ : Hs) : ru d 159 3 [l0, l1, .int i2, l3] [.int x] σ = ru d 159 4 [l0, l1, .int i2, .int x] [] σ := q_istore_n t159_3 ⟨Nat.le_of_ble_eq_true rfl, rfl⟩ rfl
theorem t159_4 : decode (mb 159) 4 = .ok (.iload_n 3, 1) := by decide +kernel
theorem s159_4 (d : Nat) (l0 : Value) (l1 : Value) (l2 : Value) (i3 : Int32) (σ : Hs) : ru d 159 4 [l0, l1, l2, .int i3] [] σ = ru d 159 5 [l0, l1, l2, .int i3] [.int i3] σ := q_iload_n t159_4 rfl
theorem t159_5 : decode (mb 159) 5 = .ok (.bipush 30, 2) := by decide +kernel
theorem s159_5 (d : Nat) (l0 : Value) (l1 : Value) (l2 : Value) (l3 : Value) (w0 : Value) (σ : Hs) : ru d 159 5 [l0, l1, l2, l3] [w0] σ = ru d 159 7 [l0, l1, l2, l3] [.int 30, w0] σ := q_bipush t159_5 (by decide +kernel)
theorem t159_7 : decode (mb 159) 7 = .ok (.if_icmp .ge 30, 3) := by decide +kernel
theorem s159_7 (d : Nat) (l0 : Value) (l1 : Value) (l2 : Value) (l3 : Value) (x y : Int32) (σ : Hs) : ru d 159 7 [l0, l1, l2, l3] [.int y, .int x] σ = if y ≤ x then ru d 159 37 [l0, l1, l2, l3] [] σ else ru d 159 10 [l0, l1, l2, l3] [] σ := q_ic_ge t159_7 (by decide +kernel)
theorem t159_10 : decode (mb 159) 10 = .ok (.iload_n 2, 1) := by decide +kernel
theorem s159_10 (d : Nat) (l0 : Value) (l1 : Value) (i2 : Int32) (l3 : Value) (σ : Hs) : ru d 159 10 [l0, l1, .int i2, l3] [] σ = ru d 159 11 [l0, l1, .int i2, l3] [.int i2] σ := q_iload_n t159_10 rfl
theorem t159_11 : decode (mb 159) 11 = .ok (.aload_n 0, 1) := by decide +kernel
theorem s159_11 (d : Nat) (a0 : Nat) (l1 : Value) (l2 : Value) (l3 : Value) (w0 : Value) (σ : Hs) : ru d 159 11 [.ref a0, l1, l2, l3] [w0] σ = ru d 159 12 [.ref a0, l1, l2, l3] [.ref a0, w0] σ := q_aload_n t159_11 rfl
theorem t159_12 : decode (mb 159) 12 = .ok (.iload_n 3, 1) := by decide +kernel
theorem s159_12 (d : Nat) (l0 : Value) (l1 : Value) (l2 : Value) (i3 : Int32) (w0 w1 : Value) (σ : Hs) : ru d 159 12 [l0, l1, l2, .int i3] [w0, w1] σ = ru d 159 13 [l0, l1, l2, .int i3] [.int i3, w0, w1] σ := q_iload_n t159_12 rfl
theorem t159_13 : decode (mb 159) 13 = .ok (.invokevirtual 88, 3) := by decide +kernel
theorem s159_13_o87 (d : Nat) (l0 : Value) (l1 : Value) (l2 : Value) (l3 : Value) (v1 : Value) (w0 : Int32) (σ : Hs) : ru d 159 13 [l0, l1, l2, l3] [v1, .ref 87, .int w0] σ = kont (callD d 121 [.ref 87, v1] σ) d 159 16 [l0, l1, l2, l3] [.int w0] := q_invv t159_13 mo159 K8_88 mj121 rfl rfl rfl rfl (Nat.le_of_ble_eq_true rfl)
theorem t159_16 : decode (mb 159) 16 = .ok (.ifCond .eq 12, 3) := by decide +kernel
theorem s159_16 (d : Nat) (l0 : Value) (l1 : Value) (l2 : Value) (l3 : Value) (x : Int32) (w0 : Value) (σ : Hs) : ru d 159 16 [l0, l1, l2, l3] [.int x, w0] σ = if x = 0 then ru d 159 28 [l0, l1, l2, l3] [w0] σ else ru d 159 19 [l0, l1, l2, l3] [w0] σ := q_if_eq t159_16 (by decide +kernel)
theorem t159_19 : decode (mb 159) 19 = .ok (.aload_n 0, 1) := by decide +kernel
theorem s159_19 (d : Nat) (a0 : Nat) (l1 : Value) (l2 : Value) (l3 : Value) (w0 : Value) (σ : Hs) : ru d 159 19 [.ref a0, l1, l2, l3] [w0] σ = ru d 159 20 [.ref a0, l1, l2, l3] [.ref a0, w0] σ := q_aload_n t159_19 rfl
theorem t159_20 : decode (mb 159) 20 = .ok (.iload_n 3, 1) := by decide +kernel
theorem s159_20 (d : Nat) (l0 : Value) (l1 : Value) (l2 : Value) (i3 : Int32) (w0 w1 : Value) (σ : Hs) : ru d 159 20 [l0, l1, l2, .int i3] [w0, w1] σ = ru d 159 21 [l0, l1, l2, .int i3] [.int i3, w0, w1] σ := q_iload_n t159_20 rfl
theorem t159_21 : decode (mb 159) 21 = .ok (.iload_n 1, 1) := by decide +kernel
theorem s159_21 (d : Nat) (l0 : Value) (i1 : Int32) (l2 : Value) (l3 : Value) (w0 w1 w2 : Value) (σ : Hs) : ru d 159 21 [l0, .int i1, l2, l3] [w0, w1, w2] σ = ru d 159 22 [l0, .int i1, l2, l3] [.int i1, w0, w1, w2] σ := q_iload_n t159_21 rfl
theorem t159_22 : decode (mb 159) 22 = .ok (.invokevirtual 85, 3) := by decide +kernel
theorem s159_22_o87 (d : Nat) (l0 : Value) (l1 : Value) (l2 : Value) (l3 : Value) (v1 v2 : Value) (w0 : Int32) (σ : Hs) : ru d 159 22 [l0, l1, l2, l3] [v2, v1, .ref 87, .int w0] σ = kont (callD d 118 [.ref 87, v1, v2] σ) d 159 25 [l0, l1, l2, l3] [.int w0] := q_invv t159_22 mo159 K8_85 mj118 rfl rfl rfl rfl (Nat.le_of_ble_eq_true rfl)
theorem t159_25 : decode (mb 159) 25 = .ok (.goto 4, 3) := by decide +kernel
theorem s159_25 (d : Nat) (l0 : Value) (l1 : Value) (l2 : Value) (l3 : Value) (w0 w1 : Value) (σ : Hs) : ru d 159 25 [l0, l1, l2, l3] [w0, w1] σ = ru d 159 29 [l0, l1, l2, l3] [w0, w1] σ := q_goto t159_25 (by decide +kernel)
theorem t159_28 : decode (mb 159) 28 = .ok (.iconst 0, 1) := by decide +kernel
theorem s159_28 (d : Nat) (l0 : Value) (l1 : Value) (l2 : Value) (l3 : Value) (w0 : Value) (σ : Hs) : ru d 159 28 [l0, l1, l2, l3] [w0] σ = ru d 159 29 [l0, l1, l2, l3] [.int 0, w0] σ := q_iconst t159_28 (by decide +kernel)
theorem t159_29 : decode (mb 159) 29 = .ok (.iadd, 1) := by decide +kernel
theorem s159_29 (d : Nat) (l0 : Value) (l1 : Value) (l2 : Value) (l3 : Value) (x y : Int32) (σ : Hs) : ru d 159 29 [l0, l1, l2, l3] [.int y, .int x] σ = ru d 159 30 [l0, l1, l2, l3] [.int (x + y)] σ := q_iadd t159_29
theorem t159_30 : decode (mb 159) 30 = .ok (.istore_n 2, 1) := by decide +kernel
theorem s159_30 (d : Nat) (l0 : Value) (i1 : Int32) (l2 : Value) (l3 : Value) (x : Int32) (σ : Hs) : ru d 159 30 [l0, .int i1, l2, l3] [.int x] σ = ru d 159 31 [l0, .int i1, .int x, l3] [] σ := q_istore_n t159_30 ⟨Nat.le_of_ble_eq_true rfl, rfl⟩ rfl
theorem t159_31 : decode (mb 159) 31 = .ok (.iinc 3 1, 3) := by decide +kernel
theorem s159_31 (d : Nat) (l0 : Value) (l1 : Value) (i2 : Int32) (i3 : Int32) (σ : Hs) : ru d 159 31 [l0, l1, .int i2, .int i3] [] σ = ru d 159 34 [l0, l1, .int i2, .int (i3 + 1)] [] σ := q_iinc t159_31 ⟨Nat.le_of_ble_eq_true rfl, rfl⟩ rfl (by decide +kernel) rfl
theorem t159_34 : decode (mb 159) 34 = .ok (.goto (-30), 3) := by decide +kernel
theorem s159_34 (d : Nat) (l0 : Value) (l1 : Value) (l2 : Value) (l3 : Value) (σ : Hs) : ru d 159 34 [l0, l1, l2, l3] [] σ = ru d 159 4 [l0, l1, l2, l3] [] σ := q_goto t159_34 (by decide +kernel)
theorem t159_37 : decode (mb 159) 37 = .ok (.iload_n 2, 1) := by decide +kernel
theorem s159_37 (d : Nat) (l0 : Value) (l1 : Value) (i2 : Int32) (l3 : Value) (σ : Hs) : ru d 159 37 [l0, l1, .int i2, l3] [] σ = ru d 159 38 [l0, l1, .int i2, l3] [.int i2] σ := q_iload_n t159_37 rfl
theorem t159_38 : decode (mb 159) 38 = .ok (.ireturn, 1) := by decide +kernel
theorem s159_38 (d : Nat) (l0 : Value) (l1 : Value) (l2 : Value) (l3 : Value) (x : Int32) (σ : Hs) : ru d 159 38 [l0, l1, l2, l3] [.int x] σ = some (some (.int x), σ) := q_ireti t159_38 mr159
theorem c159 (d : Nat) (x0 : Nat) (x1 : Int32) (σ : Hs) : callD (d + 1) 159 [.ref x0, .int x1] σ = ru d 159 0 [.ref x0, .int x1, uu, uu] [] σ := callD_ru ml159 rfl rfl (Nat.le_of_ble_eq_true rfl)
-- 160: Model.mayBe()Z
theorem t160_0 : decode (mb 160) 0 = .ok (.aload_n 0, 1) := by decide +kernel
theorem s160_0 (d : Nat) (a0 : Nat) (σ : Hs) : ru d 160 0 [.ref a0] [] σ = ru d 160 1 [.ref a0] [.ref a0] σ := q_aload_n t160_0 rfl
theorem t160_1 : decode (mb 160) 1 = .ok (.iconst 1, 1) := by decide +kernel
theorem s160_1 (d : Nat) (l0 : Value) (w0 : Value) (σ : Hs) : ru d 160 1 [l0] [w0] σ = ru d 160 2 [l0] [.int 1, w0] σ := q_iconst t160_1 (by decide +kernel)
theorem t160_2 : decode (mb 160) 2 = .ok (.aload_n 0, 1) := by decide +kernel
theorem s160_2 (d : Nat) (a0 : Nat) (w0 w1 : Value) (σ : Hs) : ru d 160 2 [.ref a0] [w0, w1] σ = ru d 160 3 [.ref a0] [.ref a0, w0, w1] σ := q_aload_n t160_2 rfl
theorem t160_3 : decode (mb 160) 3 = .ok (.getfield 9, 3) := by decide +kernel
theorem s160_3_o87 (d : Nat) (l0 : Value) (w0 w1 : Value) (σ : Hs) : ru d 160 3 [l0] [.ref 87, w0, w1] σ = ru d 160 6 [l0] [.ref 88, w0, w1] σ := q_getf t160_3 mo160 F8_9 rfl rfl
theorem t160_6 : decode (mb 160) 6 = .ok (.iconst 4, 1) := by decide +kernel
theorem s160_6 (d : Nat) (l0 : Value) (w0 w1 w2 : Value) (σ : Hs) : ru d 160 6 [l0] [w0, w1, w2] σ = ru d 160 7 [l0] [.int 4, w0, w1, w2] σ := q_iconst t160_6 (by decide +kernel)
theorem t160_7 : decode (mb 160) 7 = .ok (.iaload, 1) := by decide +kernel
theorem s160_7_o88 (d : Nat) (l0 : Value) (i : Int32) (w0 w1 : Value) (σ : Hs) : ru d 160 7 [l0] [.int i, .ref 88, w0, w1] σ = gd (vp_in i 545) (ru d 160 8 [l0] [.int (σ 88 i.toNatClampNeg), w0, w1] σ) := q_iald t160_7 rfl (by decide +kernel) rfl
theorem t160_8 : decode (mb 160) 8 = .ok (.bipush 60, 2) := by decide +kernel
theorem s160_8 (d : Nat) (l0 : Value) (w0 w1 w2 : Value) (σ : Hs) : ru d 160 8 [l0] [w0, w1, w2] σ = ru d 160 10 [l0] [.int 60, w0, w1, w2] σ := q_bipush t160_8 (by decide +kernel)
theorem t160_10 : decode (mb 160) 10 = .ok (.idiv, 1) := by decide +kernel
theorem s160_10 (d : Nat) (l0 : Value) (x y : Int32) (w0 w1 : Value) (σ : Hs) : ru d 160 10 [l0] [.int y, .int x, w0, w1] σ = gd (¬ y = 0) (ru d 160 11 [l0] [.int (x / y), w0, w1] σ) := q_idiv t160_10
theorem t160_11 : decode (mb 160) 11 = .ok (.aload_n 0, 1) := by decide +kernel
theorem s160_11 (d : Nat) (a0 : Nat) (w0 w1 w2 : Value) (σ : Hs) : ru d 160 11 [.ref a0] [w0, w1, w2] σ = ru d 160 12 [.ref a0] [.ref a0, w0, w1, w2] σ := q_aload_n t160_11 rfl
theorem t160_12 : decode (mb 160) 12 = .ok (.getfield 9, 3) := by decide +kernel
theorem s160_12_o87 (d : Nat) (l0 : Value) (w0 w1 w2 : Value) (σ : Hs) : ru d 160 12 [l0] [.ref 87, w0, w1, w2] σ = ru d 160 15 [l0] [.ref 88, w0, w1, w2] σ := q_getf t160_12 mo160 F8_9 rfl rfl
theorem t160_15 : decode (mb 160) 15 = .ok (.iconst 5, 1) := by decide +kernel
theorem s160_15 (d : Nat) (l0 : Value) (w0 w1 w2 w3 : Value) (σ : Hs) : ru d 160 15 [l0] [w0, w1, w2, w3] σ = ru d 160 16 [l0] [.int 5, w0, w1, w2, w3] σ := q_iconst t160_15 (by decide +kernel)
theorem t160_16 : decode (mb 160) 16 = .ok (.iaload, 1) := by decide +kernel
theorem s160_16_o88 (d : Nat) (l0 : Value) (i : Int32) (w0 w1 w2 : Value) (σ : Hs) : ru d 160 16 [l0] [.int i, .ref 88, w0, w1, w2] σ = gd (vp_in i 545) (ru d 160 17 [l0] [.int (σ 88 i.toNatClampNeg), w0, w1, w2] σ) := q_iald t160_16 rfl (by decide +kernel) rfl
theorem t160_17 : decode (mb 160) 17 = .ok (.aload_n 0, 1) := by decide +kernel
theorem s160_17 (d : Nat) (a0 : Nat) (w0 w1 w2 w3 : Value) (σ : Hs) : ru d 160 17 [.ref a0] [w0, w1, w2, w3] σ = ru d 160 18 [.ref a0] [.ref a0, w0, w1, w2, w3] σ := q_aload_n t160_17 rfl
theorem t160_18 : decode (mb 160) 18 = .ok (.bipush 6, 2) := by decide +kernel
theorem s160_18 (d : Nat) (l0 : Value) (w0 w1 w2 w3 w4 : Value) (σ : Hs) : ru d 160 18 [l0] [w0, w1, w2, w3, w4] σ = ru d 160 20 [l0] [.int 6, w0, w1, w2, w3, w4] σ := q_bipush t160_18 (by decide +kernel)
theorem t160_20 : decode (mb 160) 20 = .ok (.invokevirtual 221, 3) := by decide +kernel
theorem s160_20_o87 (d : Nat) (l0 : Value) (v1 : Value) (w0 : Int32) (w1 : Int32) (w2 : Int32) (w3 : Nat) (σ : Hs) : ru d 160 20 [l0] [v1, .ref 87, .int w0, .int w1, .int w2, .ref w3] σ = kont (callD d 159 [.ref 87, v1] σ) d 160 23 [l0] [.int w0, .int w1, .int w2, .ref w3] := q_invv t160_20 mo160 K8_221 mj159 rfl rfl rfl rfl (Nat.le_of_ble_eq_true rfl)
theorem t160_23 : decode (mb 160) 23 = .ok (.aload_n 0, 1) := by decide +kernel
theorem s160_23 (d : Nat) (a0 : Nat) (w0 w1 w2 w3 w4 : Value) (σ : Hs) : ru d 160 23 [.ref a0] [w0, w1, w2, w3, w4] σ = ru d 160 24 [.ref a0] [.ref a0, w0, w1, w2, w3, w4] σ := q_aload_n t160_23 rfl
theorem t160_24 : decode (mb 160) 24 = .ok (.iconst 0, 1) := by decide +kernel
theorem s160_24 (d : Nat) (l0 : Value) (w0 w1 w2 w3 w4 w5 : Value) (σ : Hs) : ru d 160 24 [l0] [w0, w1, w2, w3, w4, w5] σ = ru d 160 25 [l0] [.int 0, w0, w1, w2, w3, w4, w5] σ := q_iconst t160_24 (by decide +kernel)
theorem t160_25 : decode (mb 160) 25 = .ok (.invokevirtual 221, 3) := by decide +kernel
theorem s160_25_o87 (d : Nat) (l0 : Value) (v1 : Value) (w0 : Int32) (w1 : Int32) (w2 : Int32) (w3 : Int32) (w4 : Nat) (σ : Hs) : ru d 160 25 [l0] [v1, .ref 87, .int w0, .int w1, .int w2, .int w3, .ref w4] σ = kont (callD d 159 [.ref 87, v1] σ) d 160 28 [l0] [.int w0, .int w1, .int w2, .int w3, .ref w4] := q_invv t160_25 mo160 K8_221 mj159 rfl rfl rfl rfl (Nat.le_of_ble_eq_true rfl)
theorem t160_28 : decode (mb 160) 28 = .ok (.invokevirtual 223, 3) := by decide +kernel
theorem s160_28_o87 (d : Nat) (l0 : Value) (v1 v2 v3 v4 v5 : Value) (σ : Hs) : ru d 160 28 [l0] [v5, v4, v3, v2, v1, .ref 87] σ = kont (callD d 158 [.ref 87, v1, v2, v3, v4, v5] σ) d 160 31 [l0] [] := q_invv t160_28 mo160 K8_223 mj158 rfl rfl rfl rfl (Nat.le_of_ble_eq_true rfl)
theorem t160_31 : decode (mb 160) 31 = .ok (.ifCond .eq 7, 3) := by decide +kernel
theorem s160_31 (d : Nat) (l0 : Value) (x : Int32) (σ : Hs) : ru d 160 31 [l0] [.int x] σ = if x = 0 then ru d 160 38 [l0] [] σ else ru d 160 34 [l0] [] σ := q_if_eq t160_31 (by decide +kernel)
theorem t160_34 : decode (mb 160) 34 = .ok (.iconst 1, 1) := by decide +kernel
theorem s160_34 (d : Nat) (l0 : Value) (σ : Hs) : ru d 160 34 [l0] [] σ = ru d 160 35 [l0] [.int 1] σ := q_iconst t160_34 (by decide +kernel)
theorem t160_35 : decode (mb 160) 35 = .ok (.goto 4, 3) := by decide +kernel
theorem s160_35 (d : Nat) (l0 : Value) (w0 : Value) (σ : Hs) : ru d 160 35 [l0] [w0] σ = ru d 160 39 [l0] [w0] σ := q_goto t160_35 (by decide +kernel)
theorem t160_38 : decode (mb 160) 38 = .ok (.iconst 0, 1) := by decide +kernel
theorem s160_38 (d : Nat) (l0 : Value) (σ : Hs) : ru d 160 38 [l0] [] σ = ru d 160 39 [l0] [.int 0] σ := q_iconst t160_38 (by decide +kernel)
theorem t160_39 : decode (mb 160) 39 = .ok (.ireturn, 1) := by decide +kernel
theorem s160_39 (d : Nat) (l0 : Value) (x : Int32) (hx : isB x) (σ : Hs) : ru d 160 39 [l0] [.int x] σ = some (some (.int x), σ) := q_iretz t160_39 mr160 hx
theorem c160 (d : Nat) (x0 : Nat) (σ : Hs) : callD (d + 1) 160 [.ref x0] σ = ru d 160 0 [.ref x0] [] σ := callD_ru ml160 rfl rfl (Nat.le_of_ble_eq_true rfl)
-- 161: Model.may()I
theorem t161_0 : decode (mb 161) 0 = .ok (.aload_n 0, 1) := by decide +kernel
theorem s161_0 (d : Nat) (a0 : Nat) (σ : Hs) : ru d 161 0 [.ref a0] [] σ = ru d 161 1 [.ref a0] [.ref a0] σ := q_aload_n t161_0 rfl
theorem t161_1 : decode (mb 161) 1 = .ok (.invokevirtual 145, 3) := by decide +kernel
theorem s161_1_o87 (d : Nat) (l0 : Value) (σ : Hs) : ru d 161 1 [l0] [.ref 87] σ = kont (callD d 160 [.ref 87] σ) d 161 4 [l0] [] := q_invv t161_1 mo161 K8_145 mj160 rfl rfl rfl rfl (Nat.le_of_ble_eq_true rfl)
theorem t161_4 : decode (mb 161) 4 = .ok (.ifCond .eq 7, 3) := by decide +kernel
theorem s161_4 (d : Nat) (l0 : Value) (x : Int32) (σ : Hs) : ru d 161 4 [l0] [.int x] σ = if x = 0 then ru d 161 11 [l0] [] σ else ru d 161 7 [l0] [] σ := q_if_eq t161_4 (by decide +kernel)
theorem t161_7 : decode (mb 161) 7 = .ok (.iconst 1, 1) := by decide +kernel
theorem s161_7 (d : Nat) (l0 : Value) (σ : Hs) : ru d 161 7 [l0] [] σ = ru d 161 8 [l0] [.int 1] σ := q_iconst t161_7 (by decide +kernel)
theorem t161_8 : decode (mb 161) 8 = .ok (.goto 4, 3) := by decide +kernel
theorem s161_8 (d : Nat) (l0 : Value) (w0 : Value) (σ : Hs) : ru d 161 8 [l0] [w0] σ = ru d 161 12 [l0] [w0] σ := q_goto t161_8 (by decide +kernel)
theorem t161_11 : decode (mb 161) 11 = .ok (.iconst 0, 1) := by decide +kernel
theorem s161_11 (d : Nat) (l0 : Value) (σ : Hs) : ru d 161 11 [l0] [] σ = ru d 161 12 [l0] [.int 0] σ := q_iconst t161_11 (by decide +kernel)
theorem t161_12 : decode (mb 161) 12 = .ok (.ireturn, 1) := by decide +kernel
theorem s161_12 (d : Nat) (l0 : Value) (x : Int32) (σ : Hs) : ru d 161 12 [l0] [.int x] σ = some (some (.int x), σ) := q_ireti t161_12 mr161
theorem c161 (d : Nat) (x0 : Nat) (σ : Hs) : callD (d + 1) 161 [.ref x0] σ = ru d 161 0 [.ref x0] [] σ := callD_ru ml161 rfl rfl (Nat.le_of_ble_eq_true rfl)
-- 162: Model.burnsOf(I)I
theorem t162_0 : decode (mb 162) 0 = .ok (.aload_n 0, 1) := by decide +kernel
theorem s162_0 (d : Nat) (a0 : Nat) (l1 : Value) (l2 : Value) (l3 : Value) (σ : Hs) : ru d 162 0 [.ref a0, l1, l2, l3] [] σ = ru d 162 1 [.ref a0, l1, l2, l3] [.ref a0] σ := q_aload_n t162_0 rfl
theorem t162_1 : decode (mb 162) 1 = .ok (.iload_n 1, 1) := by decide +kernel
theorem s162_1 (d : Nat) (l0 : Value) (i1 : Int32) (l2 : Value) (l3 : Value) (w0 : Value) (σ : Hs) : ru d 162 1 [l0, .int i1, l2, l3] [w0] σ = ru d 162 2 [l0, .int i1, l2, l3] [.int i1, w0] σ := q_iload_n t162_1 rfl
theorem t162_2 : decode (mb 162) 2 = .ok (.iconst 2, 1) := by decide +kernel
theorem s162_2 (d : Nat) (l0 : Value) (l1 : Value) (l2 : Value) (l3 : Value) (w0 w1 : Value) (σ : Hs) : ru d 162 2 [l0, l1, l2, l3] [w0, w1] σ = ru d 162 3 [l0, l1, l2, l3] [.int 2, w0, w1] σ := q_iconst t162_2 (by decide +kernel)
theorem t162_3 : decode (mb 162) 3 = .ok (.invokevirtual 85, 3) := by decide +kernel
theorem s162_3_o87 (d : Nat) (l0 : Value) (l1 : Value) (l2 : Value) (l3 : Value) (v1 v2 : Value) (σ : Hs) : ru d 162 3 [l0, l1, l2, l3] [v2, v1, .ref 87] σ = kont (callD d 118 [.ref 87, v1, v2] σ) d 162 6 [l0, l1, l2, l3] [] := q_invv t162_3 mo162 K8_85 mj118 rfl rfl rfl rfl (Nat.le_of_ble_eq_true rfl)
theorem t162_6 : decode (mb 162) 6 = .ok (.istore_n 2, 1) := by decide +kernel
theorem s162_6 (d : Nat) (l0 : Value) (i1 : Int32) (l2 : Value) (l3 : Value) (x : Int32) (σ : Hs) : ru d 162 6 [l0, .int i1, l2, l3] [.int x] σ = ru d 162 7 [l0, .int i1, .int x, l3] [] σ := q_istore_n t162_6 ⟨Nat.le_of_ble_eq_true rfl, rfl⟩ rfl
theorem t162_7 : decode (mb 162) 7 = .ok (.aload_n 0, 1) := by decide +kernel
theorem s162_7 (d : Nat) (a0 : Nat) (l1 : Value) (l2 : Value) (l3 : Value) (σ : Hs) : ru d 162 7 [.ref a0, l1, l2, l3] [] σ = ru d 162 8 [.ref a0, l1, l2, l3] [.ref a0] σ := q_aload_n t162_7 rfl
theorem t162_8 : decode (mb 162) 8 = .ok (.iconst 0, 1) := by decide +kernel
theorem s162_8 (d : Nat) (l0 : Value) (l1 : Value) (l2 : Value) (l3 : Value) (w0 : Value) (σ : Hs) : ru d 162 8 [l0, l1, l2, l3] [w0] σ = ru d 162 9 [l0, l1, l2, l3] [.int 0, w0] σ := q_iconst t162_8 (by decide +kernel)
theorem t162_9 : decode (mb 162) 9 = .ok (.aload_n 0, 1) := by decide +kernel
theorem s162_9 (d : Nat) (a0 : Nat) (l1 : Value) (l2 : Value) (l3 : Value) (w0 w1 : Value) (σ : Hs) : ru d 162 9 [.ref a0, l1, l2, l3] [w0, w1] σ = ru d 162 10 [.ref a0, l1, l2, l3] [.ref a0, w0, w1] σ := q_aload_n t162_9 rfl
theorem t162_10 : decode (mb 162) 10 = .ok (.iload_n 1, 1) := by decide +kernel
theorem s162_10 (d : Nat) (l0 : Value) (i1 : Int32) (l2 : Value) (l3 : Value) (w0 w1 w2 : Value) (σ : Hs) : ru d 162 10 [l0, .int i1, l2, l3] [w0, w1, w2] σ = ru d 162 11 [l0, .int i1, l2, l3] [.int i1, w0, w1, w2] σ := q_iload_n t162_10 rfl
theorem t162_11 : decode (mb 162) 11 = .ok (.invokevirtual 128, 3) := by decide +kernel
theorem s162_11_o87 (d : Nat) (l0 : Value) (l1 : Value) (l2 : Value) (l3 : Value) (v1 : Value) (w0 : Int32) (w1 : Nat) (σ : Hs) : ru d 162 11 [l0, l1, l2, l3] [v1, .ref 87, .int w0, .ref w1] σ = kont (callD d 131 [.ref 87, v1] σ) d 162 14 [l0, l1, l2, l3] [.int w0, .ref w1] := q_invv t162_11 mo162 K8_128 mj131 rfl rfl rfl rfl (Nat.le_of_ble_eq_true rfl)
theorem t162_14 : decode (mb 162) 14 = .ok (.iload_n 2, 1) := by decide +kernel
theorem s162_14 (d : Nat) (l0 : Value) (l1 : Value) (i2 : Int32) (l3 : Value) (w0 w1 w2 : Value) (σ : Hs) : ru d 162 14 [l0, l1, .int i2, l3] [w0, w1, w2] σ = ru d 162 15 [l0, l1, .int i2, l3] [.int i2, w0, w1, w2] σ := q_iload_n t162_14 rfl
theorem t162_15 : decode (mb 162) 15 = .ok (.aload_n 0, 1) := by decide +kernel
theorem s162_15 (d : Nat) (a0 : Nat) (l1 : Value) (l2 : Value) (l3 : Value) (w0 w1 w2 w3 : Value) (σ : Hs) : ru d 162 15 [.ref a0, l1, l2, l3] [w0, w1, w2, w3] σ = ru d 162 16 [.ref a0, l1, l2, l3] [.ref a0, w0, w1, w2, w3] σ := q_aload_n t162_15 rfl
theorem t162_16 : decode (mb 162) 16 = .ok (.iload_n 1, 1) := by decide +kernel
theorem s162_16 (d : Nat) (l0 : Value) (i1 : Int32) (l2 : Value) (l3 : Value) (w0 w1 w2 w3 w4 : Value) (σ : Hs) : ru d 162 16 [l0, .int i1, l2, l3] [w0, w1, w2, w3, w4] σ = ru d 162 17 [l0, .int i1, l2, l3] [.int i1, w0, w1, w2, w3, w4] σ := q_iload_n t162_16 rfl
theorem t162_17 : decode (mb 162) 17 = .ok (.iconst 3, 1) := by decide +kernel
theorem s162_17 (d : Nat) (l0 : Value) (l1 : Value) (l2 : Value) (l3 : Value) (w0 w1 w2 w3 w4 w5 : Value) (σ : Hs) : ru d 162 17 [l0, l1, l2, l3] [w0, w1, w2, w3, w4, w5] σ = ru d 162 18 [l0, l1, l2, l3] [.int 3, w0, w1, w2, w3, w4, w5] σ := q_iconst t162_17 (by decide +kernel)
theorem t162_18 : decode (mb 162) 18 = .ok (.invokevirtual 85, 3) := by decide +kernel
theorem s162_18_o87 (d : Nat) (l0 : Value) (l1 : Value) (l2 : Value) (l3 : Value) (v1 v2 : Value) (w0 : Int32) (w1 : Int32) (w2 : Int32) (w3 : Nat) (σ : Hs) : ru d 162 18 [l0, l1, l2, l3] [v2, v1, .ref 87, .int w0, .int w1, .int w2, .ref w3] σ = kont (callD d 118 [.ref 87, v1, v2] σ) d 162 21 [l0, l1, l2, l3] [.int w0, .int w1, .int w2, .ref w3] := q_invv t162_18 mo162 K8_85 mj118 rfl rfl rfl rfl (Nat.le_of_ble_eq_true rfl)
theorem t162_21 : decode (mb 162) 21 = .ok (.aload_n 0, 1) := by decide +kernel
theorem s162_21 (d : Nat) (a0 : Nat) (l1 : Value) (l2 : Value) (l3 : Value) (w0 w1 w2 w3 w4 : Value) (σ : Hs) : ru d 162 21 [.ref a0, l1, l2, l3] [w0, w1, w2, w3, w4] σ = ru d 162 22 [.ref a0, l1, l2, l3] [.ref a0, w0, w1, w2, w3, w4] σ := q_aload_n t162_21 rfl
theorem t162_22 : decode (mb 162) 22 = .ok (.iload_n 1, 1) := by decide +kernel
theorem s162_22 (d : Nat) (l0 : Value) (i1 : Int32) (l2 : Value) (l3 : Value) (w0 w1 w2 w3 w4 w5 : Value) (σ : Hs) : ru d 162 22 [l0, .int i1, l2, l3] [w0, w1, w2, w3, w4, w5] σ = ru d 162 23 [l0, .int i1, l2, l3] [.int i1, w0, w1, w2, w3, w4, w5] σ := q_iload_n t162_22 rfl
theorem t162_23 : decode (mb 162) 23 = .ok (.iconst 5, 1) := by decide +kernel
theorem s162_23 (d : Nat) (l0 : Value) (l1 : Value) (l2 : Value) (l3 : Value) (w0 w1 w2 w3 w4 w5 w6 : Value) (σ : Hs) : ru d 162 23 [l0, l1, l2, l3] [w0, w1, w2, w3, w4, w5, w6] σ = ru d 162 24 [l0, l1, l2, l3] [.int 5, w0, w1, w2, w3, w4, w5, w6] σ := q_iconst t162_23 (by decide +kernel)
theorem t162_24 : decode (mb 162) 24 = .ok (.invokevirtual 85, 3) := by decide +kernel
theorem s162_24_o87 (d : Nat) (l0 : Value) (l1 : Value) (l2 : Value) (l3 : Value) (v1 v2 : Value) (w0 : Int32) (w1 : Int32) (w2 : Int32) (w3 : Int32) (w4 : Nat) (σ : Hs) : ru d 162 24 [l0, l1, l2, l3] [v2, v1, .ref 87, .int w0, .int w1, .int w2, .int w3, .ref w4] σ = kont (callD d 118 [.ref 87, v1, v2] σ) d 162 27 [l0, l1, l2, l3] [.int w0, .int w1, .int w2, .int w3, .ref w4] := q_invv t162_24 mo162 K8_85 mj118 rfl rfl rfl rfl (Nat.le_of_ble_eq_true rfl)
theorem t162_27 : decode (mb 162) 27 = .ok (.invokevirtual 223, 3) := by decide +kernel
theorem s162_27_o87 (d : Nat) (l0 : Value) (l1 : Value) (l2 : Value) (l3 : Value) (v1 v2 v3 v4 v5 : Value) (σ : Hs) : ru d 162 27 [l0, l1, l2, l3] [v5, v4, v3, v2, v1, .ref 87] σ = kont (callD d 158 [.ref 87, v1, v2, v3, v4, v5] σ) d 162 30 [l0, l1, l2, l3] [] := q_invv t162_27 mo162 K8_223 mj158 rfl rfl rfl rfl (Nat.le_of_ble_eq_true rfl)
theorem t162_30 : decode (mb 162) 30 = .ok (.iconst 1, 1) := by decide +kernel
theorem s162_30 (d : Nat) (l0 : Value) (l1 : Value) (l2 : Value) (l3 : Value) (w0 : Value) (σ : Hs) : ru d 162 30 [l0, l1, l2, l3] [w0] σ = ru d 162 31 [l0, l1, l2, l3] [.int 1, w0] σ := q_iconst t162_30 (by decide +kernel)
theorem t162_31 : decode (mb 162) 31 = .ok (.iload_n 2, 1) := by decide +kernel
theorem s162_31 (d : Nat) (l0 : Value) (l1 : Value) (i2 : Int32) (l3 : Value) (w0 w1 : Value) (σ : Hs) : ru d 162 31 [l0, l1, .int i2, l3] [w0, w1] σ = ru d 162 32 [l0, l1, .int i2, l3] [.int i2, w0, w1] σ := q_iload_n t162_31 rfl
theorem t162_32 : decode (mb 162) 32 = .ok (.invokestatic 227, 3) := by decide +kernel
theorem s162_32 (d : Nat) (l0 : Value) (l1 : Value) (l2 : Value) (l3 : Value) (v0 v1 v2 : Value) (σ : Hs) : ru d 162 32 [l0, l1, l2, l3] [v2, v1, v0] σ = kont (callD d 114 [v0, v1, v2] σ) d 162 35 [l0, l1, l2, l3] [] := q_invs t162_32 mo162 (by decide +kernel) K8_227 mj114 (Nat.le_of_ble_eq_true rfl) rfl rfl (Nat.le_of_ble_eq_true rfl)
theorem t162_35 : decode (mb 162) 35 = .ok (.istore_n 3, 1) := by decide +kernel
theorem s162_35 (d : Nat) (l0 : Value) (l1 : Value) (i2 : Int32) (l3 : Value) (x : Int32) (σ : Hs) : ru d 162 35 [l0, l1, .int i2, l3] [.int x] σ = ru d 162 36 [l0, l1, .int i2, .int x] [] σ := q_istore_n t162_35 ⟨Nat.le_of_ble_eq_true rfl, rfl⟩ rfl
theorem t162_36 : decode (mb 162) 36 = .ok (.aload_n 0, 1) := by decide +kernel
theorem s162_36 (d : Nat) (a0 : Nat) (l1 : Value) (l2 : Value) (l3 : Value) (σ : Hs) : ru d 162 36 [.ref a0, l1, l2, l3] [] σ = ru d 162 37 [.ref a0, l1, l2, l3] [.ref a0] σ := q_aload_n t162_36 rfl
theorem t162_37 : decode (mb 162) 37 = .ok (.iload_n 1, 1) := by decide +kernel
theorem s162_37 (d : Nat) (l0 : Value) (i1 : Int32) (l2 : Value) (l3 : Value) (w0 : Value) (σ : Hs) : ru d 162 37 [l0, .int i1, l2, l3] [w0] σ = ru d 162 38 [l0, .int i1, l2, l3] [.int i1, w0] σ := q_iload_n t162_37 rfl
theorem t162_38 : decode (mb 162) 38 = .ok (.iconst 1, 1) := by decide +kernel
theorem s162_38 (d : Nat) (l0 : Value) (l1 : Value) (l2 : Value) (l3 : Value) (w0 w1 : Value) (σ : Hs) : ru d 162 38 [l0, l1, l2, l3] [w0, w1] σ = ru d 162 39 [l0, l1, l2, l3] [.int 1, w0, w1] σ := q_iconst t162_38 (by decide +kernel)
theorem t162_39 : decode (mb 162) 39 = .ok (.invokevirtual 85, 3) := by decide +kernel
theorem s162_39_o87 (d : Nat) (l0 : Value) (l1 : Value) (l2 : Value) (l3 : Value) (v1 v2 : Value) (σ : Hs) : ru d 162 39 [l0, l1, l2, l3] [v2, v1, .ref 87] σ = kont (callD d 118 [.ref 87, v1, v2] σ) d 162 42 [l0, l1, l2, l3] [] := q_invv t162_39 mo162 K8_85 mj118 rfl rfl rfl rfl (Nat.le_of_ble_eq_true rfl)
theorem t162_42 : decode (mb 162) 42 = .ok (.tableswitch 63 1 6 #[38, 63, 47, 57, 57, 61], 38) := by decide +kernel
theorem f162_42 (x : Int32) : (tsw 1 6 #[38, 63, 47, 57, 57, 61] 63 x.toInt).bind (tgt 42) = some (if x = 1 then 80 else (if x = 2 then 105 else (if x = 3 then 89 else (if x = 4 then 99 else (if x = 5 then 99 else (if x = 6 then 103 else 105)))))) := by
  by_cases h0 : x = 1
  · subst h0; decide +kernel
  by_cases h1 : x = 2
  · subst h1; decide +kernel
  by_cases h2 : x = 3
  · subst h2; decide +kernel
  by_cases h3 : x = 4
  · subst h3; decide +kernel
  by_cases h4 : x = 5
  · subst h4; decide +kernel
  by_cases h5 : x = 6
  · subst h5; decide +kernel
  have e0 : ¬ x.toInt = 1 := fun h => h0 (Int32.toInt_inj.mp (h.trans (by decide +kernel)))
  have e1 : ¬ x.toInt = 2 := fun h => h1 (Int32.toInt_inj.mp (h.trans (by decide +kernel)))
  have e2 : ¬ x.toInt = 3 := fun h => h2 (Int32.toInt_inj.mp (h.trans (by decide +kernel)))
  have e3 : ¬ x.toInt = 4 := fun h => h3 (Int32.toInt_inj.mp (h.trans (by decide +kernel)))
  have e4 : ¬ x.toInt = 5 := fun h => h4 (Int32.toInt_inj.mp (h.trans (by decide +kernel)))
  have e5 : ¬ x.toInt = 6 := fun h => h5 (Int32.toInt_inj.mp (h.trans (by decide +kernel)))
  have e : x.toInt < 1 ∨ 6 < x.toInt := by omega
  unfold tsw
  rw [if_pos e, if_neg h0, if_neg h1, if_neg h2, if_neg h3, if_neg h4, if_neg h5]
  decide +kernel
theorem s162_42 (d : Nat) (l0 : Value) (l1 : Value) (l2 : Value) (l3 : Value) (x : Int32) (σ : Hs) : ru d 162 42 [l0, l1, l2, l3] [.int x] σ = if x = 1 then ru d 162 80 [l0, l1, l2, l3] [] σ else if x = 2 then ru d 162 105 [l0, l1, l2, l3] [] σ else if x = 3 then ru d 162 89 [l0, l1, l2, l3] [] σ else if x = 4 then ru d 162 99 [l0, l1, l2, l3] [] σ else if x = 5 then ru d 162 99 [l0, l1, l2, l3] [] σ else if x = 6 then ru d 162 103 [l0, l1, l2, l3] [] σ else ru d 162 105 [l0, l1, l2, l3] [] σ := by
  refine (q_tsw t162_42 (fun x => (if x = 1 then 80 else (if x = 2 then 105 else (if x = 3 then 89 else (if x = 4 then 99 else (if x = 5 then 99 else (if x = 6 then 103 else 105))))))) (f162_42 x)).trans ?_
  by_cases h0 : x = 1
  · rw [if_pos h0, if_pos h0]
  rw [if_neg h0, if_neg h0]
  by_cases h1 : x = 2
  · rw [if_pos h1, if_pos h1]
  rw [if_neg h1, if_neg h1]
  by_cases h2 : x = 3
  · rw [if_pos h2, if_pos h2]
  rw [if_neg h2, if_neg h2]
  by_cases h3 : x = 4
  · rw [if_pos h3, if_pos h3]
  rw [if_neg h3, if_neg h3]
  by_cases h4 : x = 5
  · rw [if_pos h4, if_pos h4]
  rw [if_neg h4, if_neg h4]
  by_cases h5 : x = 6
  · rw [if_pos h5, if_pos h5]
  rw [if_neg h5, if_neg h5]
theorem t162_80 : decode (mb 162) 80 = .ok (.iconst 2, 1) := by decide +kernel
theorem s162_80 (d : Nat) (l0 : Value) (l1 : Value) (l2 : Value) (l3 : Value) (σ : Hs) : ru d 162 80 [l0, l1, l2, l3] [] σ = ru d 162 81 [l0, l1, l2, l3] [.int 2] σ := q_iconst t162_80 (by decide +kernel)
theorem t162_81 : decode (mb 162) 81 = .ok (.iload_n 3, 1) := by decide +kernel
theorem s162_81 (d : Nat) (l0 : Value) (l1 : Value) (l2 : Value) (i3 : Int32) (w0 : Value) (σ : Hs) : ru d 162 81 [l0, l1, l2, .int i3] [w0] σ = ru d 162 82 [l0, l1, l2, .int i3] [.int i3, w0] σ := q_iload_n t162_81 rfl
theorem t162_82 : decode (mb 162) 82 = .ok (.imul, 1) := by decide +kernel
theorem s162_82 (d : Nat) (l0 : Value) (l1 : Value) (l2 : Value) (l3 : Value) (x y : Int32) (σ : Hs) : ru d 162 82 [l0, l1, l2, l3] [.int y, .int x] σ = ru d 162 83 [l0, l1, l2, l3] [.int (x * y)] σ := q_imul t162_82
theorem t162_83 : decode (mb 162) 83 = .ok (.iconst 0, 1) := by decide +kernel
theorem s162_83 (d : Nat) (l0 : Value) (l1 : Value) (l2 : Value) (l3 : Value) (w0 : Value) (σ : Hs) : ru d 162 83 [l0, l1, l2, l3] [w0] σ = ru d 162 84 [l0, l1, l2, l3] [.int 0, w0] σ := q_iconst t162_83 (by decide +kernel)
theorem t162_84 : decode (mb 162) 84 = .ok (.iload_n 2, 1) := by decide +kernel
theorem s162_84 (d : Nat) (l0 : Value) (l1 : Value) (i2 : Int32) (l3 : Value) (w0 w1 : Value) (σ : Hs) : ru d 162 84 [l0, l1, .int i2, l3] [w0, w1] σ = ru d 162 85 [l0, l1, .int i2, l3] [.int i2, w0, w1] σ := q_iload_n t162_84 rfl
theorem t162_85 : decode (mb 162) 85 = .ok (.invokestatic 227, 3) := by decide +kernel
theorem s162_85 (d : Nat) (l0 : Value) (l1 : Value) (l2 : Value) (l3 : Value) (v0 v1 v2 : Value) (σ : Hs) : ru d 162 85 [l0, l1, l2, l3] [v2, v1, v0] σ = kont (callD d 114 [v0, v1, v2] σ) d 162 88 [l0, l1, l2, l3] [] := q_invs t162_85 mo162 (by decide +kernel) K8_227 mj114 (Nat.le_of_ble_eq_true rfl) rfl rfl (Nat.le_of_ble_eq_true rfl)
theorem t162_88 : decode (mb 162) 88 = .ok (.ireturn, 1) := by decide +kernel
theorem s162_88 (d : Nat) (l0 : Value) (l1 : Value) (l2 : Value) (l3 : Value) (x : Int32) (σ : Hs) : ru d 162 88 [l0, l1, l2, l3] [.int x] σ = some (some (.int x), σ) := q_ireti t162_88 mr162
theorem t162_89 : decode (mb 162) 89 = .ok (.bipush 6, 2) := by decide +kernel
theorem s162_89 (d : Nat) (l0 : Value) (l1 : Value) (l2 : Value) (l3 : Value) (σ : Hs) : ru d 162 89 [l0, l1, l2, l3] [] σ = ru d 162 91 [l0, l1, l2, l3] [.int 6] σ := q_bipush t162_89 (by decide +kernel)
theorem t162_91 : decode (mb 162) 91 = .ok (.iload_n 3, 1) := by decide +kernel
theorem s162_91 (d : Nat) (l0 : Value) (l1 : Value) (l2 : Value) (i3 : Int32) (w0 : Value) (σ : Hs) : ru d 162 91 [l0, l1, l2, .int i3] [w0] σ = ru d 162 92 [l0, l1, l2, .int i3] [.int i3, w0] σ := q_iload_n t162_91 rfl
theorem t162_92 : decode (mb 162) 92 = .ok (.imul, 1) := by decide +kernel
theorem s162_92 (d : Nat) (l0 : Value) (l1 : Value) (l2 : Value) (l3 : Value) (x y : Int32) (σ : Hs) : ru d 162 92 [l0, l1, l2, l3] [.int y, .int x] σ = ru d 162 93 [l0, l1, l2, l3] [.int (x * y)] σ := q_imul t162_92
theorem t162_93 : decode (mb 162) 93 = .ok (.iconst 0, 1) := by decide +kernel
theorem s162_93 (d : Nat) (l0 : Value) (l1 : Value) (l2 : Value) (l3 : Value) (w0 : Value) (σ : Hs) : ru d 162 93 [l0, l1, l2, l3] [w0] σ = ru d 162 94 [l0, l1, l2, l3] [.int 0, w0] σ := q_iconst t162_93 (by decide +kernel)
theorem t162_94 : decode (mb 162) 94 = .ok (.iload_n 2, 1) := by decide +kernel
theorem s162_94 (d : Nat) (l0 : Value) (l1 : Value) (i2 : Int32) (l3 : Value) (w0 w1 : Value) (σ : Hs) : ru d 162 94 [l0, l1, .int i2, l3] [w0, w1] σ = ru d 162 95 [l0, l1, .int i2, l3] [.int i2, w0, w1] σ := q_iload_n t162_94 rfl
theorem t162_95 : decode (mb 162) 95 = .ok (.invokestatic 227, 3) := by decide +kernel
theorem s162_95 (d : Nat) (l0 : Value) (l1 : Value) (l2 : Value) (l3 : Value) (v0 v1 v2 : Value) (σ : Hs) : ru d 162 95 [l0, l1, l2, l3] [v2, v1, v0] σ = kont (callD d 114 [v0, v1, v2] σ) d 162 98 [l0, l1, l2, l3] [] := q_invs t162_95 mo162 (by decide +kernel) K8_227 mj114 (Nat.le_of_ble_eq_true rfl) rfl rfl (Nat.le_of_ble_eq_true rfl)
theorem t162_98 : decode (mb 162) 98 = .ok (.ireturn, 1) := by decide +kernel
theorem s162_98 (d : Nat) (l0 : Value) (l1 : Value) (l2 : Value) (l3 : Value) (x : Int32) (σ : Hs) : ru d 162 98 [l0, l1, l2, l3] [.int x] σ = some (some (.int x), σ) := q_ireti t162_98 mr162
theorem t162_99 : decode (mb 162) 99 = .ok (.iload_n 3, 1) := by decide +kernel
theorem s162_99 (d : Nat) (l0 : Value) (l1 : Value) (l2 : Value) (i3 : Int32) (σ : Hs) : ru d 162 99 [l0, l1, l2, .int i3] [] σ = ru d 162 100 [l0, l1, l2, .int i3] [.int i3] σ := q_iload_n t162_99 rfl
theorem t162_100 : decode (mb 162) 100 = .ok (.iconst 2, 1) := by decide +kernel
theorem s162_100 (d : Nat) (l0 : Value) (l1 : Value) (l2 : Value) (l3 : Value) (w0 : Value) (σ : Hs) : ru d 162 100 [l0, l1, l2, l3] [w0] σ = ru d 162 101 [l0, l1, l2, l3] [.int 2, w0] σ := q_iconst t162_100 (by decide +kernel)
theorem t162_101 : decode (mb 162) 101 = .ok (.idiv, 1) := by decide +kernel
theorem s162_101 (d : Nat) (l0 : Value) (l1 : Value) (l2 : Value) (l3 : Value) (x y : Int32) (σ : Hs) : ru d 162 101 [l0, l1, l2, l3] [.int y, .int x] σ = gd (¬ y = 0) (ru d 162 102 [l0, l1, l2, l3] [.int (x / y)] σ) := q_idiv t162_101
theorem t162_102 : decode (mb 162) 102 = .ok (.ireturn, 1) := by decide +kernel
theorem s162_102 (d : Nat) (l0 : Value) (l1 : Value) (l2 : Value) (l3 : Value) (x : Int32) (σ : Hs) : ru d 162 102 [l0, l1, l2, l3] [.int x] σ = some (some (.int x), σ) := q_ireti t162_102 mr162
theorem t162_103 : decode (mb 162) 103 = .ok (.iconst 0, 1) := by decide +kernel
theorem s162_103 (d : Nat) (l0 : Value) (l1 : Value) (l2 : Value) (l3 : Value) (σ : Hs) : ru d 162 103 [l0, l1, l2, l3] [] σ = ru d 162 104 [l0, l1, l2, l3] [.int 0] σ := q_iconst t162_103 (by decide +kernel)
theorem t162_104 : decode (mb 162) 104 = .ok (.ireturn, 1) := by decide +kernel
theorem s162_104 (d : Nat) (l0 : Value) (l1 : Value) (l2 : Value) (l3 : Value) (x : Int32) (σ : Hs) : ru d 162 104 [l0, l1, l2, l3] [.int x] σ = some (some (.int x), σ) := q_ireti t162_104 mr162
theorem t162_105 : decode (mb 162) 105 = .ok (.iload_n 3, 1) := by decide +kernel
theorem s162_105 (d : Nat) (l0 : Value) (l1 : Value) (l2 : Value) (i3 : Int32) (σ : Hs) : ru d 162 105 [l0, l1, l2, .int i3] [] σ = ru d 162 106 [l0, l1, l2, .int i3] [.int i3] σ := q_iload_n t162_105 rfl
theorem t162_106 : decode (mb 162) 106 = .ok (.ireturn, 1) := by decide +kernel
theorem s162_106 (d : Nat) (l0 : Value) (l1 : Value) (l2 : Value) (l3 : Value) (x : Int32) (σ : Hs) : ru d 162 106 [l0, l1, l2, l3] [.int x] σ = some (some (.int x), σ) := q_ireti t162_106 mr162
theorem c162 (d : Nat) (x0 : Nat) (x1 : Int32) (σ : Hs) : callD (d + 1) 162 [.ref x0, .int x1] σ = ru d 162 0 [.ref x0, .int x1, uu, uu] [] σ := callD_ru ml162 rfl rfl (Nat.le_of_ble_eq_true rfl)
-- 163: Model.more(II)I
theorem t163_0 : decode (mb 163) 0 = .ok (.ldc2_w 230, 3) := by decide +kernel
theorem s163_0 (d : Nat) (l0 : Value) (l1 : Value) (σ : Hs) : ru d 163 0 [l0, l1] [] σ = ru d 163 3 [l0, l1] [.long 1999999999] σ := q_ldc2 t163_0 mo163 L8_230
theorem t163_3 : decode (mb 163) 3 = .ok (.iload_n 0, 1) := by decide +kernel
theorem s163_3 (d : Nat) (i0 : Int32) (l1 : Value) (w0 : Value) (σ : Hs) : ru d 163 3 [.int i0, l1] [w0] σ = ru d 163 4 [.int i0, l1] [.int i0, w0] σ := q_iload_n t163_3 rfl
theorem t163_4 : decode (mb 163) 4 = .ok (.i2l, 1) := by decide +kernel
theorem s163_4 (d : Nat) (l0 : Value) (l1 : Value) (x : Int32) (w0 : Value) (σ : Hs) : ru d 163 4 [l0, l1] [.int x, w0] σ = ru d 163 5 [l0, l1] [.long x.toInt64, w0] σ := q_i2l t163_4
theorem t163_5 : decode (mb 163) 5 = .ok (.iload_n 1, 1) := by decide +kernel
theorem s163_5 (d : Nat) (l0 : Value) (i1 : Int32) (w0 w1 : Value) (σ : Hs) : ru d 163 5 [l0, .int i1] [w0, w1] σ = ru d 163 6 [l0, .int i1] [.int i1, w0, w1] σ := q_iload_n t163_5 rfl
theorem t163_6 : decode (mb 163) 6 = .ok (.i2l, 1) := by decide +kernel
theorem s163_6 (d : Nat) (l0 : Value) (l1 : Value) (x : Int32) (w0 w1 : Value) (σ : Hs) : ru d 163 6 [l0, l1] [.int x, w0, w1] σ = ru d 163 7 [l0, l1] [.long x.toInt64, w0, w1] σ := q_i2l t163_6
theorem t163_7 : decode (mb 163) 7 = .ok (.ladd, 1) := by decide +kernel
theorem s163_7 (d : Nat) (l0 : Value) (l1 : Value) (x y : Int64) (w0 : Value) (σ : Hs) : ru d 163 7 [l0, l1] [.long y, .long x, w0] σ = ru d 163 8 [l0, l1] [.long (x + y), w0] σ := q_ladd t163_7
theorem t163_8 : decode (mb 163) 8 = .ok (.invokestatic 232, 3) := by decide +kernel
theorem s163_8 (d : Nat) (l0 : Value) (l1 : Value) (x y : Int64) (σ : Hs) : ru d 163 8 [l0, l1] [.long y, .long x] σ = ru d 163 11 [l0, l1] [.long (jminL x y)] σ := q_mj t163_8 mo163 (by decide +kernel) (by decide +kernel) (by decide +kernel) (by decide +kernel) (Nat.le_of_ble_eq_true rfl)
theorem t163_11 : decode (mb 163) 11 = .ok (.l2i, 1) := by decide +kernel
theorem s163_11 (d : Nat) (l0 : Value) (l1 : Value) (x : Int64) (σ : Hs) : ru d 163 11 [l0, l1] [.long x] σ = ru d 163 12 [l0, l1] [.int x.toInt32] σ := q_l2i t163_11
theorem t163_12 : decode (mb 163) 12 = .ok (.ireturn, 1) := by decide +kernel
theorem s163_12 (d : Nat) (l0 : Value) (l1 : Value) (x : Int32) (σ : Hs) : ru d 163 12 [l0, l1] [.int x] σ = some (some (.int x), σ) := q_ireti t163_12 mr163
theorem c163 (d : Nat) (x0 : Int32) (x1 : Int32) (σ : Hs) : callD (d + 1) 163 [.int x0, .int x1] σ = ru d 163 0 [.int x0, .int x1] [] σ := callD_ru ml163 rfl rfl (Nat.le_of_ble_eq_true rfl)
-- 164: Model.warms(II)V
theorem t164_0 : decode (mb 164) 0 = .ok (.aload_n 0, 1) := by decide +kernel
theorem s164_0 (d : Nat) (a0 : Nat) (l1 : Value) (l2 : Value) (σ : Hs) : ru d 164 0 [.ref a0, l1, l2] [] σ = ru d 164 1 [.ref a0, l1, l2] [.ref a0] σ := q_aload_n t164_0 rfl
theorem t164_1 : decode (mb 164) 1 = .ok (.iload_n 1, 1) := by decide +kernel
theorem s164_1 (d : Nat) (l0 : Value) (i1 : Int32) (l2 : Value) (w0 : Value) (σ : Hs) : ru d 164 1 [l0, .int i1, l2] [w0] σ = ru d 164 2 [l0, .int i1, l2] [.int i1, w0] σ := q_iload_n t164_1 rfl
theorem t164_2 : decode (mb 164) 2 = .ok (.iconst 5, 1) := by decide +kernel
theorem s164_2 (d : Nat) (l0 : Value) (l1 : Value) (l2 : Value) (w0 w1 : Value) (σ : Hs) : ru d 164 2 [l0, l1, l2] [w0, w1] σ = ru d 164 3 [l0, l1, l2] [.int 5, w0, w1] σ := q_iconst t164_2 (by decide +kernel)
theorem t164_3 : decode (mb 164) 3 = .ok (.aload_n 0, 1) := by decide +kernel
theorem s164_3 (d : Nat) (a0 : Nat) (l1 : Value) (l2 : Value) (w0 w1 w2 : Value) (σ : Hs) : ru d 164 3 [.ref a0, l1, l2] [w0, w1, w2] σ = ru d 164 4 [.ref a0, l1, l2] [.ref a0, w0, w1, w2] σ := q_aload_n t164_3 rfl
theorem t164_4 : decode (mb 164) 4 = .ok (.iload_n 1, 1) := by decide +kernel
theorem s164_4 (d : Nat) (l0 : Value) (i1 : Int32) (l2 : Value) (w0 w1 w2 w3 : Value) (σ : Hs) : ru d 164 4 [l0, .int i1, l2] [w0, w1, w2, w3] σ = ru d 164 5 [l0, .int i1, l2] [.int i1, w0, w1, w2, w3] σ := q_iload_n t164_4 rfl
theorem t164_5 : decode (mb 164) 5 = .ok (.iconst 5, 1) := by decide +kernel
theorem s164_5 (d : Nat) (l0 : Value) (l1 : Value) (l2 : Value) (w0 w1 w2 w3 w4 : Value) (σ : Hs) : ru d 164 5 [l0, l1, l2] [w0, w1, w2, w3, w4] σ = ru d 164 6 [l0, l1, l2] [.int 5, w0, w1, w2, w3, w4] σ := q_iconst t164_5 (by decide +kernel)
theorem t164_6 : decode (mb 164) 6 = .ok (.invokevirtual 85, 3) := by decide +kernel
theorem s164_6_o87 (d : Nat) (l0 : Value) (l1 : Value) (l2 : Value) (v1 v2 : Value) (w0 : Int32) (w1 : Int32) (w2 : Nat) (σ : Hs) : ru d 164 6 [l0, l1, l2] [v2, v1, .ref 87, .int w0, .int w1, .ref w2] σ = kont (callD d 118 [.ref 87, v1, v2] σ) d 164 9 [l0, l1, l2] [.int w0, .int w1, .ref w2] := q_invv t164_6 mo164 K8_85 mj118 rfl rfl rfl rfl (Nat.le_of_ble_eq_true rfl)
theorem t164_9 : decode (mb 164) 9 = .ok (.iload_n 2, 1) := by decide +kernel
theorem s164_9 (d : Nat) (l0 : Value) (l1 : Value) (i2 : Int32) (w0 w1 w2 w3 : Value) (σ : Hs) : ru d 164 9 [l0, l1, .int i2] [w0, w1, w2, w3] σ = ru d 164 10 [l0, l1, .int i2] [.int i2, w0, w1, w2, w3] σ := q_iload_n t164_9 rfl
theorem t164_10 : decode (mb 164) 10 = .ok (.iadd, 1) := by decide +kernel
theorem s164_10 (d : Nat) (l0 : Value) (l1 : Value) (l2 : Value) (x y : Int32) (w0 w1 w2 : Value) (σ : Hs) : ru d 164 10 [l0, l1, l2] [.int y, .int x, w0, w1, w2] σ = ru d 164 11 [l0, l1, l2] [.int (x + y), w0, w1, w2] σ := q_iadd t164_10
theorem t164_11 : decode (mb 164) 11 = .ok (.iconst 0, 1) := by decide +kernel
theorem s164_11 (d : Nat) (l0 : Value) (l1 : Value) (l2 : Value) (w0 w1 w2 w3 : Value) (σ : Hs) : ru d 164 11 [l0, l1, l2] [w0, w1, w2, w3] σ = ru d 164 12 [l0, l1, l2] [.int 0, w0, w1, w2, w3] σ := q_iconst t164_11 (by decide +kernel)
theorem t164_12 : decode (mb 164) 12 = .ok (.sipush 9999, 3) := by decide +kernel
theorem s164_12 (d : Nat) (l0 : Value) (l1 : Value) (l2 : Value) (w0 w1 w2 w3 w4 : Value) (σ : Hs) : ru d 164 12 [l0, l1, l2] [w0, w1, w2, w3, w4] σ = ru d 164 15 [l0, l1, l2] [.int 9999, w0, w1, w2, w3, w4] σ := q_sipush t164_12 (by decide +kernel)
theorem t164_15 : decode (mb 164) 15 = .ok (.invokestatic 227, 3) := by decide +kernel
theorem s164_15 (d : Nat) (l0 : Value) (l1 : Value) (l2 : Value) (v0 v1 v2 : Value) (w0 : Int32) (w1 : Int32) (w2 : Nat) (σ : Hs) : ru d 164 15 [l0, l1, l2] [v2, v1, v0, .int w0, .int w1, .ref w2] σ = kont (callD d 114 [v0, v1, v2] σ) d 164 18 [l0, l1, l2] [.int w0, .int w1, .ref w2] := q_invs t164_15 mo164 (by decide +kernel) K8_227 mj114 (Nat.le_of_ble_eq_true rfl) rfl rfl (Nat.le_of_ble_eq_true rfl)
theorem t164_18 : decode (mb 164) 18 = .ok (.invokevirtual 96, 3) := by decide +kernel
theorem s164_18_o87 (d : Nat) (l0 : Value) (l1 : Value) (l2 : Value) (v1 v2 v3 : Value) (σ : Hs) : ru d 164 18 [l0, l1, l2] [v3, v2, v1, .ref 87] σ = kont (callD d 119 [.ref 87, v1, v2, v3] σ) d 164 21 [l0, l1, l2] [] := q_invv t164_18 mo164 K8_96 mj119 rfl rfl rfl rfl (Nat.le_of_ble_eq_true rfl)
theorem t164_21 : decode (mb 164) 21 = .ok (.return_, 1) := by decide +kernel
theorem s164_21 (d : Nat) (l0 : Value) (l1 : Value) (l2 : Value) (σ : Hs) : ru d 164 21 [l0, l1, l2] [] σ = some (none, σ) := q_vret t164_21 mr164
theorem c164 (d : Nat) (x0 : Nat) (x1 : Int32) (x2 : Int32) (σ : Hs) : callD (d + 1) 164 [.ref x0, .int x1, .int x2] σ = ru d 164 0 [.ref x0, .int x1, .int x2] [] σ := callD_ru ml164 rfl rfl (Nat.le_of_ble_eq_true rfl)
