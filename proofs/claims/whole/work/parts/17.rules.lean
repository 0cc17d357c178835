-- 148: Model.either()V
theorem t148_0 : decode (mb 148) 0 = .ok (.aload_n 0, 1) := by decide +kernel
theorem s148_0 (d : Nat) (a0 : Nat) (σ : Hs) : ru d 148 0 [.ref a0] [] σ = ru d 148 1 [.ref a0] [.ref a0] σ := q_aload_n t148_0 rfl
theorem t148_1 : decode (mb 148) 1 = .ok (.invokevirtual 174, 3) := by decide +kernel
theorem s148_1_o87 (d : Nat) (l0 : Value) (σ : Hs) : ru d 148 1 [l0] [.ref 87] σ = kont (callD d 149 [.ref 87] σ) d 148 4 [l0] [] := q_invv t148_1 mo148 K8_174 mj149 rfl rfl rfl rfl (Nat.le_of_ble_eq_true rfl)
theorem t148_4 : decode (mb 148) 4 = .ok (.aload_n 0, 1) := by decide +kernel
theorem s148_4 (d : Nat) (a0 : Nat) (σ : Hs) : ru d 148 4 [.ref a0] [] σ = ru d 148 5 [.ref a0] [.ref a0] σ := q_aload_n t148_4 rfl
theorem t148_5 : decode (mb 148) 5 = .ok (.bipush 124, 2) := by decide +kernel
theorem s148_5 (d : Nat) (l0 : Value) (w0 : Value) (σ : Hs) : ru d 148 5 [l0] [w0] σ = ru d 148 7 [l0] [.int 124, w0] σ := q_bipush t148_5 (by decide +kernel)
theorem t148_7 : decode (mb 148) 7 = .ok (.invokevirtual 177, 3) := by decide +kernel
theorem s148_7_o87 (d : Nat) (l0 : Value) (v1 : Value) (σ : Hs) : ru d 148 7 [l0] [v1, .ref 87] σ = kont (callD d 146 [.ref 87, v1] σ) d 148 10 [l0] [] := q_invv t148_7 mo148 K8_177 mj146 rfl rfl rfl rfl (Nat.le_of_ble_eq_true rfl)
theorem t148_10 : decode (mb 148) 10 = .ok (.ifCond .eq 17, 3) := by decide +kernel
theorem s148_10 (d : Nat) (l0 : Value) (x : Int32) (σ : Hs) : ru d 148 10 [l0] [.int x] σ = if x = 0 then ru d 148 27 [l0] [] σ else ru d 148 13 [l0] [] σ := q_if_eq t148_10 (by decide +kernel)
theorem t148_13 : decode (mb 148) 13 = .ok (.aload_n 0, 1) := by decide +kernel
theorem s148_13 (d : Nat) (a0 : Nat) (σ : Hs) : ru d 148 13 [.ref a0] [] σ = ru d 148 14 [.ref a0] [.ref a0] σ := q_aload_n t148_13 rfl
theorem t148_14 : decode (mb 148) 14 = .ok (.invokevirtual 174, 3) := by decide +kernel
theorem s148_14_o87 (d : Nat) (l0 : Value) (σ : Hs) : ru d 148 14 [l0] [.ref 87] σ = kont (callD d 149 [.ref 87] σ) d 148 17 [l0] [] := q_invv t148_14 mo148 K8_174 mj149 rfl rfl rfl rfl (Nat.le_of_ble_eq_true rfl)
theorem t148_17 : decode (mb 148) 17 = .ok (.aload_n 0, 1) := by decide +kernel
theorem s148_17 (d : Nat) (a0 : Nat) (σ : Hs) : ru d 148 17 [.ref a0] [] σ = ru d 148 18 [.ref a0] [.ref a0] σ := q_aload_n t148_17 rfl
theorem t148_18 : decode (mb 148) 18 = .ok (.sipush 20000, 3) := by decide +kernel
theorem s148_18 (d : Nat) (l0 : Value) (w0 : Value) (σ : Hs) : ru d 148 18 [l0] [w0] σ = ru d 148 21 [l0] [.int 20000, w0] σ := q_sipush t148_18 (by decide +kernel)
theorem t148_21 : decode (mb 148) 21 = .ok (.invokevirtual 180, 3) := by decide +kernel
theorem s148_21_o87 (d : Nat) (l0 : Value) (v1 : Value) (σ : Hs) : ru d 148 21 [l0] [v1, .ref 87] σ = kont (callD d 147 [.ref 87, v1] σ) d 148 24 [l0] [] := q_invv t148_21 mo148 K8_180 mj147 rfl rfl rfl rfl (Nat.le_of_ble_eq_true rfl)
theorem t148_24 : decode (mb 148) 24 = .ok (.goto (-20), 3) := by decide +kernel
theorem s148_24 (d : Nat) (l0 : Value) (σ : Hs) : ru d 148 24 [l0] [] σ = ru d 148 4 [l0] [] σ := q_goto t148_24 (by decide +kernel)
theorem t148_27 : decode (mb 148) 27 = .ok (.return_, 1) := by decide +kernel
theorem s148_27 (d : Nat) (l0 : Value) (σ : Hs) : ru d 148 27 [l0] [] σ = some (none, σ) := q_vret t148_27 mr148
theorem c148 (d : Nat) (x0 : Nat) (σ : Hs) : callD (d + 1) 148 [.ref x0] σ = ru d 148 0 [.ref x0] [] σ := callD_ru ml148 rfl rfl (Nat.le_of_ble_eq_true rfl)
-- 149: Model.both()V
theorem t149_0 : decode (mb 149) 0 = .ok (.aload_n 0, 1) := by decide +kernel
theorem s149_0 (d : Nat) (a0 : Nat) (σ : Hs) : ru d 149 0 [.ref a0] [] σ = ru d 149 1 [.ref a0] [.ref a0] σ := q_aload_n t149_0 rfl
theorem t149_1 : decode (mb 149) 1 = .ok (.invokevirtual 183, 3) := by decide +kernel
theorem s149_1_o87 (d : Nat) (l0 : Value) (σ : Hs) : ru d 149 1 [l0] [.ref 87] σ = kont (callD d 150 [.ref 87] σ) d 149 4 [l0] [] := q_invv t149_1 mo149 K8_183 mj150 rfl rfl rfl rfl (Nat.le_of_ble_eq_true rfl)
theorem t149_4 : decode (mb 149) 4 = .ok (.aload_n 0, 1) := by decide +kernel
theorem s149_4 (d : Nat) (a0 : Nat) (σ : Hs) : ru d 149 4 [.ref a0] [] σ = ru d 149 5 [.ref a0] [.ref a0] σ := q_aload_n t149_4 rfl
theorem t149_5 : decode (mb 149) 5 = .ok (.bipush 38, 2) := by decide +kernel
theorem s149_5 (d : Nat) (l0 : Value) (w0 : Value) (σ : Hs) : ru d 149 5 [l0] [w0] σ = ru d 149 7 [l0] [.int 38, w0] σ := q_bipush t149_5 (by decide +kernel)
theorem t149_7 : decode (mb 149) 7 = .ok (.invokevirtual 177, 3) := by decide +kernel
theorem s149_7_o87 (d : Nat) (l0 : Value) (v1 : Value) (σ : Hs) : ru d 149 7 [l0] [v1, .ref 87] σ = kont (callD d 146 [.ref 87, v1] σ) d 149 10 [l0] [] := q_invv t149_7 mo149 K8_177 mj146 rfl rfl rfl rfl (Nat.le_of_ble_eq_true rfl)
theorem t149_10 : decode (mb 149) 10 = .ok (.ifCond .eq 17, 3) := by decide +kernel
theorem s149_10 (d : Nat) (l0 : Value) (x : Int32) (σ : Hs) : ru d 149 10 [l0] [.int x] σ = if x = 0 then ru d 149 27 [l0] [] σ else ru d 149 13 [l0] [] σ := q_if_eq t149_10 (by decide +kernel)
theorem t149_13 : decode (mb 149) 13 = .ok (.aload_n 0, 1) := by decide +kernel
theorem s149_13 (d : Nat) (a0 : Nat) (σ : Hs) : ru d 149 13 [.ref a0] [] σ = ru d 149 14 [.ref a0] [.ref a0] σ := q_aload_n t149_13 rfl
theorem t149_14 : decode (mb 149) 14 = .ok (.invokevirtual 183, 3) := by decide +kernel
theorem s149_14_o87 (d : Nat) (l0 : Value) (σ : Hs) : ru d 149 14 [l0] [.ref 87] σ = kont (callD d 150 [.ref 87] σ) d 149 17 [l0] [] := q_invv t149_14 mo149 K8_183 mj150 rfl rfl rfl rfl (Nat.le_of_ble_eq_true rfl)
theorem t149_17 : decode (mb 149) 17 = .ok (.aload_n 0, 1) := by decide +kernel
theorem s149_17 (d : Nat) (a0 : Nat) (σ : Hs) : ru d 149 17 [.ref a0] [] σ = ru d 149 18 [.ref a0] [.ref a0] σ := q_aload_n t149_17 rfl
theorem t149_18 : decode (mb 149) 18 = .ok (.sipush 20001, 3) := by decide +kernel
theorem s149_18 (d : Nat) (l0 : Value) (w0 : Value) (σ : Hs) : ru d 149 18 [l0] [w0] σ = ru d 149 21 [l0] [.int 20001, w0] σ := q_sipush t149_18 (by decide +kernel)
theorem t149_21 : decode (mb 149) 21 = .ok (.invokevirtual 180, 3) := by decide +kernel
theorem s149_21_o87 (d : Nat) (l0 : Value) (v1 : Value) (σ : Hs) : ru d 149 21 [l0] [v1, .ref 87] σ = kont (callD d 147 [.ref 87, v1] σ) d 149 24 [l0] [] := q_invv t149_21 mo149 K8_180 mj147 rfl rfl rfl rfl (Nat.le_of_ble_eq_true rfl)
theorem t149_24 : decode (mb 149) 24 = .ok (.goto (-20), 3) := by decide +kernel
theorem s149_24 (d : Nat) (l0 : Value) (σ : Hs) : ru d 149 24 [l0] [] σ = ru d 149 4 [l0] [] σ := q_goto t149_24 (by decide +kernel)
theorem t149_27 : decode (mb 149) 27 = .ok (.return_, 1) := by decide +kernel
theorem s149_27 (d : Nat) (l0 : Value) (σ : Hs) : ru d 149 27 [l0] [] σ = some (none, σ) := q_vret t149_27 mr149
theorem c149 (d : Nat) (x0 : Nat) (σ : Hs) : callD (d + 1) 149 [.ref x0] σ = ru d 149 0 [.ref x0] [] σ := callD_ru ml149 rfl rfl (Nat.le_of_ble_eq_true rfl)
-- 150: Model.compared()V
theorem t150_0 : decode (mb 150) 0 = .ok (.aload_n 0, 1) := by decide +kernel
theorem s150_0 (d : Nat) (a0 : Nat) (l1 : Value) (σ : Hs) : ru d 150 0 [.ref a0, l1] [] σ = ru d 150 1 [.ref a0, l1] [.ref a0] σ := q_aload_n t150_0 rfl
theorem t150_1 : decode (mb 150) 1 = .ok (.invokevirtual 186, 3) := by decide +kernel
theorem s150_1_o87 (d : Nat) (l0 : Value) (l1 : Value) (σ : Hs) : ru d 150 1 [l0, l1] [.ref 87] σ = kont (callD d 151 [.ref 87] σ) d 150 4 [l0, l1] [] := q_invv t150_1 mo150 K8_186 mj151 rfl rfl rfl rfl (Nat.le_of_ble_eq_true rfl)
theorem t150_4 : decode (mb 150) 4 = .ok (.aload_n 0, 1) := by decide +kernel
theorem s150_4 (d : Nat) (a0 : Nat) (l1 : Value) (σ : Hs) : ru d 150 4 [.ref a0, l1] [] σ = ru d 150 5 [.ref a0, l1] [.ref a0] σ := q_aload_n t150_4 rfl
theorem t150_5 : decode (mb 150) 5 = .ok (.bipush 60, 2) := by decide +kernel
theorem s150_5 (d : Nat) (l0 : Value) (l1 : Value) (w0 : Value) (σ : Hs) : ru d 150 5 [l0, l1] [w0] σ = ru d 150 7 [l0, l1] [.int 60, w0] σ := q_bipush t150_5 (by decide +kernel)
theorem t150_7 : decode (mb 150) 7 = .ok (.invokevirtual 177, 3) := by decide +kernel
theorem s150_7_o87 (d : Nat) (l0 : Value) (l1 : Value) (v1 : Value) (σ : Hs) : ru d 150 7 [l0, l1] [v1, .ref 87] σ = kont (callD d 146 [.ref 87, v1] σ) d 150 10 [l0, l1] [] := q_invv t150_7 mo150 K8_177 mj146 rfl rfl rfl rfl (Nat.le_of_ble_eq_true rfl)
theorem t150_10 : decode (mb 150) 10 = .ok (.ifCond .eq 9, 3) := by decide +kernel
theorem s150_10 (d : Nat) (l0 : Value) (l1 : Value) (x : Int32) (σ : Hs) : ru d 150 10 [l0, l1] [.int x] σ = if x = 0 then ru d 150 19 [l0, l1] [] σ else ru d 150 13 [l0, l1] [] σ := q_if_eq t150_10 (by decide +kernel)
theorem t150_13 : decode (mb 150) 13 = .ok (.sipush 20002, 3) := by decide +kernel
theorem s150_13 (d : Nat) (l0 : Value) (l1 : Value) (σ : Hs) : ru d 150 13 [l0, l1] [] σ = ru d 150 16 [l0, l1] [.int 20002] σ := q_sipush t150_13 (by decide +kernel)
theorem t150_16 : decode (mb 150) 16 = .ok (.goto 34, 3) := by decide +kernel
theorem s150_16 (d : Nat) (l0 : Value) (l1 : Value) (w0 : Value) (σ : Hs) : ru d 150 16 [l0, l1] [w0] σ = ru d 150 50 [l0, l1] [w0] σ := q_goto t150_16 (by decide +kernel)
theorem t150_19 : decode (mb 150) 19 = .ok (.aload_n 0, 1) := by decide +kernel
theorem s150_19 (d : Nat) (a0 : Nat) (l1 : Value) (σ : Hs) : ru d 150 19 [.ref a0, l1] [] σ = ru d 150 20 [.ref a0, l1] [.ref a0] σ := q_aload_n t150_19 rfl
theorem t150_20 : decode (mb 150) 20 = .ok (.bipush 61, 2) := by decide +kernel
theorem s150_20 (d : Nat) (l0 : Value) (l1 : Value) (w0 : Value) (σ : Hs) : ru d 150 20 [l0, l1] [w0] σ = ru d 150 22 [l0, l1] [.int 61, w0] σ := q_bipush t150_20 (by decide +kernel)
theorem t150_22 : decode (mb 150) 22 = .ok (.invokevirtual 177, 3) := by decide +kernel
theorem s150_22_o87 (d : Nat) (l0 : Value) (l1 : Value) (v1 : Value) (σ : Hs) : ru d 150 22 [l0, l1] [v1, .ref 87] σ = kont (callD d 146 [.ref 87, v1] σ) d 150 25 [l0, l1] [] := q_invv t150_22 mo150 K8_177 mj146 rfl rfl rfl rfl (Nat.le_of_ble_eq_true rfl)
theorem t150_25 : decode (mb 150) 25 = .ok (.ifCond .eq 9, 3) := by decide +kernel
theorem s150_25 (d : Nat) (l0 : Value) (l1 : Value) (x : Int32) (σ : Hs) : ru d 150 25 [l0, l1] [.int x] σ = if x = 0 then ru d 150 34 [l0, l1] [] σ else ru d 150 28 [l0, l1] [] σ := q_if_eq t150_25 (by decide +kernel)
theorem t150_28 : decode (mb 150) 28 = .ok (.sipush 20003, 3) := by decide +kernel
theorem s150_28 (d : Nat) (l0 : Value) (l1 : Value) (σ : Hs) : ru d 150 28 [l0, l1] [] σ = ru d 150 31 [l0, l1] [.int 20003] σ := q_sipush t150_28 (by decide +kernel)
theorem t150_31 : decode (mb 150) 31 = .ok (.goto 19, 3) := by decide +kernel
theorem s150_31 (d : Nat) (l0 : Value) (l1 : Value) (w0 : Value) (σ : Hs) : ru d 150 31 [l0, l1] [w0] σ = ru d 150 50 [l0, l1] [w0] σ := q_goto t150_31 (by decide +kernel)
theorem t150_34 : decode (mb 150) 34 = .ok (.aload_n 0, 1) := by decide +kernel
theorem s150_34 (d : Nat) (a0 : Nat) (l1 : Value) (σ : Hs) : ru d 150 34 [.ref a0, l1] [] σ = ru d 150 35 [.ref a0, l1] [.ref a0] σ := q_aload_n t150_34 rfl
theorem t150_35 : decode (mb 150) 35 = .ok (.bipush 62, 2) := by decide +kernel
theorem s150_35 (d : Nat) (l0 : Value) (l1 : Value) (w0 : Value) (σ : Hs) : ru d 150 35 [l0, l1] [w0] σ = ru d 150 37 [l0, l1] [.int 62, w0] σ := q_bipush t150_35 (by decide +kernel)
theorem t150_37 : decode (mb 150) 37 = .ok (.invokevirtual 177, 3) := by decide +kernel
theorem s150_37_o87 (d : Nat) (l0 : Value) (l1 : Value) (v1 : Value) (σ : Hs) : ru d 150 37 [l0, l1] [v1, .ref 87] σ = kont (callD d 146 [.ref 87, v1] σ) d 150 40 [l0, l1] [] := q_invv t150_37 mo150 K8_177 mj146 rfl rfl rfl rfl (Nat.le_of_ble_eq_true rfl)
theorem t150_40 : decode (mb 150) 40 = .ok (.ifCond .eq 9, 3) := by decide +kernel
theorem s150_40 (d : Nat) (l0 : Value) (l1 : Value) (x : Int32) (σ : Hs) : ru d 150 40 [l0, l1] [.int x] σ = if x = 0 then ru d 150 49 [l0, l1] [] σ else ru d 150 43 [l0, l1] [] σ := q_if_eq t150_40 (by decide +kernel)
theorem t150_43 : decode (mb 150) 43 = .ok (.sipush 20004, 3) := by decide +kernel
theorem s150_43 (d : Nat) (l0 : Value) (l1 : Value) (σ : Hs) : ru d 150 43 [l0, l1] [] σ = ru d 150 46 [l0, l1] [.int 20004] σ := q_sipush t150_43 (by decide +kernel)
theorem t150_46 : decode (mb 150) 46 = .ok (.goto 4, 3) := by decide +kernel
theorem s150_46 (d : Nat) (l0 : Value) (l1 : Value) (w0 : Value) (σ : Hs) : ru d 150 46 [l0, l1] [w0] σ = ru d 150 50 [l0, l1] [w0] σ := q_goto t150_46 (by decide +kernel)
theorem t150_49 : decode (mb 150) 49 = .ok (.iconst 0, 1) := by decide +kernel
theorem s150_49 (d : Nat) (l0 : Value) (l1 : Value) (σ : Hs) : ru d 150 49 [l0, l1] [] σ = ru d 150 50 [l0, l1] [.int 0] σ := q_iconst t150_49 (by decide +kernel)
theorem t150_50 : decode (mb 150) 50 = .ok (.istore_n 1, 1) := by decide +kernel
theorem s150_50 (d : Nat) (a0 : Nat) (l1 : Value) (x : Int32) (σ : Hs) : ru d 150 50 [.ref a0, l1] [.int x] σ = ru d 150 51 [.ref a0, .int x] [] σ := q_istore_n t150_50 ⟨Nat.le_of_ble_eq_true rfl, rfl⟩ rfl
theorem t150_51 : decode (mb 150) 51 = .ok (.iload_n 1, 1) := by decide +kernel
theorem s150_51 (d : Nat) (l0 : Value) (i1 : Int32) (σ : Hs) : ru d 150 51 [l0, .int i1] [] σ = ru d 150 52 [l0, .int i1] [.int i1] σ := q_iload_n t150_51 rfl
theorem t150_52 : decode (mb 150) 52 = .ok (.ifCond .le 12, 3) := by decide +kernel
theorem s150_52 (d : Nat) (l0 : Value) (l1 : Value) (x : Int32) (σ : Hs) : ru d 150 52 [l0, l1] [.int x] σ = if x ≤ 0 then ru d 150 64 [l0, l1] [] σ else ru d 150 55 [l0, l1] [] σ := q_if_le t150_52 (by decide +kernel)
theorem t150_55 : decode (mb 150) 55 = .ok (.aload_n 0, 1) := by decide +kernel
theorem s150_55 (d : Nat) (a0 : Nat) (l1 : Value) (σ : Hs) : ru d 150 55 [.ref a0, l1] [] σ = ru d 150 56 [.ref a0, l1] [.ref a0] σ := q_aload_n t150_55 rfl
theorem t150_56 : decode (mb 150) 56 = .ok (.invokevirtual 186, 3) := by decide +kernel
theorem s150_56_o87 (d : Nat) (l0 : Value) (l1 : Value) (σ : Hs) : ru d 150 56 [l0, l1] [.ref 87] σ = kont (callD d 151 [.ref 87] σ) d 150 59 [l0, l1] [] := q_invv t150_56 mo150 K8_186 mj151 rfl rfl rfl rfl (Nat.le_of_ble_eq_true rfl)
theorem t150_59 : decode (mb 150) 59 = .ok (.aload_n 0, 1) := by decide +kernel
theorem s150_59 (d : Nat) (a0 : Nat) (l1 : Value) (σ : Hs) : ru d 150 59 [.ref a0, l1] [] σ = ru d 150 60 [.ref a0, l1] [.ref a0] σ := q_aload_n t150_59 rfl
theorem t150_60 : decode (mb 150) 60 = .ok (.iload_n 1, 1) := by decide +kernel
theorem s150_60 (d : Nat) (l0 : Value) (i1 : Int32) (w0 : Value) (σ : Hs) : ru d 150 60 [l0, .int i1] [w0] σ = ru d 150 61 [l0, .int i1] [.int i1, w0] σ := q_iload_n t150_60 rfl
theorem t150_61 : decode (mb 150) 61 = .ok (.invokevirtual 180, 3) := by decide +kernel
theorem s150_61_o87 (d : Nat) (l0 : Value) (l1 : Value) (v1 : Value) (σ : Hs) : ru d 150 61 [l0, l1] [v1, .ref 87] σ = kont (callD d 147 [.ref 87, v1] σ) d 150 64 [l0, l1] [] := q_invv t150_61 mo150 K8_180 mj147 rfl rfl rfl rfl (Nat.le_of_ble_eq_true rfl)
theorem t150_64 : decode (mb 150) 64 = .ok (.return_, 1) := by decide +kernel
theorem s150_64 (d : Nat) (l0 : Value) (l1 : Value) (σ : Hs) : ru d 150 64 [l0, l1] [] σ = some (none, σ) := q_vret t150_64 mr150
theorem c150 (d : Nat) (x0 : Nat) (σ : Hs) : callD (d + 1) 150 [.ref x0] σ = ru d 150 0 [.ref x0, uu] [] σ := callD_ru ml150 rfl rfl (Nat.le_of_ble_eq_true rfl)
-- 151: Model.sum()V
theorem t151_0 : decode (mb 151) 0 = .ok (.aload_n 0, 1) := by decide +kernel
theorem s151_0 (d : Nat) (a0 : Nat) (l1 : Value) (σ : Hs) : ru d 151 0 [.ref a0, l1] [] σ = ru d 151 1 [.ref a0, l1] [.ref a0] σ := q_aload_n t151_0 rfl
theorem t151_1 : decode (mb 151) 1 = .ok (.invokevirtual 189, 3) := by decide +kernel
theorem s151_1_o87 (d : Nat) (l0 : Value) (l1 : Value) (σ : Hs) : ru d 151 1 [l0, l1] [.ref 87] σ = kont (callD d 152 [.ref 87] σ) d 151 4 [l0, l1] [] := q_invv t151_1 mo151 K8_189 mj152 rfl rfl rfl rfl (Nat.le_of_ble_eq_true rfl)
theorem t151_4 : decode (mb 151) 4 = .ok (.aload_n 0, 1) := by decide +kernel
theorem s151_4 (d : Nat) (a0 : Nat) (l1 : Value) (σ : Hs) : ru d 151 4 [.ref a0, l1] [] σ = ru d 151 5 [.ref a0, l1] [.ref a0] σ := q_aload_n t151_4 rfl
theorem t151_5 : decode (mb 151) 5 = .ok (.bipush 43, 2) := by decide +kernel
theorem s151_5 (d : Nat) (l0 : Value) (l1 : Value) (w0 : Value) (σ : Hs) : ru d 151 5 [l0, l1] [w0] σ = ru d 151 7 [l0, l1] [.int 43, w0] σ := q_bipush t151_5 (by decide +kernel)
theorem t151_7 : decode (mb 151) 7 = .ok (.invokevirtual 177, 3) := by decide +kernel
theorem s151_7_o87 (d : Nat) (l0 : Value) (l1 : Value) (v1 : Value) (σ : Hs) : ru d 151 7 [l0, l1] [v1, .ref 87] σ = kont (callD d 146 [.ref 87, v1] σ) d 151 10 [l0, l1] [] := q_invv t151_7 mo151 K8_177 mj146 rfl rfl rfl rfl (Nat.le_of_ble_eq_true rfl)
theorem t151_10 : decode (mb 151) 10 = .ok (.ifCond .eq 9, 3) := by decide +kernel
theorem s151_10 (d : Nat) (l0 : Value) (l1 : Value) (x : Int32) (σ : Hs) : ru d 151 10 [l0, l1] [.int x] σ = if x = 0 then ru d 151 19 [l0, l1] [] σ else ru d 151 13 [l0, l1] [] σ := q_if_eq t151_10 (by decide +kernel)
theorem t151_13 : decode (mb 151) 13 = .ok (.sipush 20005, 3) := by decide +kernel
theorem s151_13 (d : Nat) (l0 : Value) (l1 : Value) (σ : Hs) : ru d 151 13 [l0, l1] [] σ = ru d 151 16 [l0, l1] [.int 20005] σ := q_sipush t151_13 (by decide +kernel)
theorem t151_16 : decode (mb 151) 16 = .ok (.goto 19, 3) := by decide +kernel
theorem s151_16 (d : Nat) (l0 : Value) (l1 : Value) (w0 : Value) (σ : Hs) : ru d 151 16 [l0, l1] [w0] σ = ru d 151 35 [l0, l1] [w0] σ := q_goto t151_16 (by decide +kernel)
theorem t151_19 : decode (mb 151) 19 = .ok (.aload_n 0, 1) := by decide +kernel
theorem s151_19 (d : Nat) (a0 : Nat) (l1 : Value) (σ : Hs) : ru d 151 19 [.ref a0, l1] [] σ = ru d 151 20 [.ref a0, l1] [.ref a0] σ := q_aload_n t151_19 rfl
theorem t151_20 : decode (mb 151) 20 = .ok (.bipush 45, 2) := by decide +kernel
theorem s151_20 (d : Nat) (l0 : Value) (l1 : Value) (w0 : Value) (σ : Hs) : ru d 151 20 [l0, l1] [w0] σ = ru d 151 22 [l0, l1] [.int 45, w0] σ := q_bipush t151_20 (by decide +kernel)
theorem t151_22 : decode (mb 151) 22 = .ok (.invokevirtual 177, 3) := by decide +kernel
theorem s151_22_o87 (d : Nat) (l0 : Value) (l1 : Value) (v1 : Value) (σ : Hs) : ru d 151 22 [l0, l1] [v1, .ref 87] σ = kont (callD d 146 [.ref 87, v1] σ) d 151 25 [l0, l1] [] := q_invv t151_22 mo151 K8_177 mj146 rfl rfl rfl rfl (Nat.le_of_ble_eq_true rfl)
theorem t151_25 : decode (mb 151) 25 = .ok (.ifCond .eq 9, 3) := by decide +kernel
theorem s151_25 (d : Nat) (l0 : Value) (l1 : Value) (x : Int32) (σ : Hs) : ru d 151 25 [l0, l1] [.int x] σ = if x = 0 then ru d 151 34 [l0, l1] [] σ else ru d 151 28 [l0, l1] [] σ := q_if_eq t151_25 (by decide +kernel)
theorem t151_28 : decode (mb 151) 28 = .ok (.sipush 20006, 3) := by decide +kernel
theorem s151_28 (d : Nat) (l0 : Value) (l1 : Value) (σ : Hs) : ru d 151 28 [l0, l1] [] σ = ru d 151 31 [l0, l1] [.int 20006] σ := q_sipush t151_28 (by decide +kernel)
theorem t151_31 : decode (mb 151) 31 = .ok (.goto 4, 3) := by decide +kernel
theorem s151_31 (d : Nat) (l0 : Value) (l1 : Value) (w0 : Value) (σ : Hs) : ru d 151 31 [l0, l1] [w0] σ = ru d 151 35 [l0, l1] [w0] σ := q_goto t151_31 (by decide +kernel)
theorem t151_34 : decode (mb 151) 34 = .ok (.iconst 0, 1) := by decide +kernel
theorem s151_34 (d : Nat) (l0 : Value) (l1 : Value) (σ : Hs) : ru d 151 34 [l0, l1] [] σ = ru d 151 35 [l0, l1] [.int 0] σ := q_iconst t151_34 (by decide +kernel)
theorem t151_35 : decode (mb 151) 35 = .ok (.istore_n 1, 1) := by decide +kernel
theorem s151_35 (d : Nat) (a0 : Nat) (l1 : Value) (x : Int32) (σ : Hs) : ru d 151 35 [.ref a0, l1] [.int x] σ = ru d 151 36 [.ref a0, .int x] [] σ := q_istore_n t151_35 ⟨Nat.le_of_ble_eq_true rfl, rfl⟩ rfl
theorem t151_36 : decode (mb 151) 36 = .ok (.iload_n 1, 1) := by decide +kernel
theorem s151_36 (d : Nat) (l0 : Value) (i1 : Int32) (σ : Hs) : ru d 151 36 [l0, .int i1] [] σ = ru d 151 37 [l0, .int i1] [.int i1] σ := q_iload_n t151_36 rfl
theorem t151_37 : decode (mb 151) 37 = .ok (.ifCond .le 47, 3) := by decide +kernel
theorem s151_37 (d : Nat) (l0 : Value) (l1 : Value) (x : Int32) (σ : Hs) : ru d 151 37 [l0, l1] [.int x] σ = if x ≤ 0 then ru d 151 84 [l0, l1] [] σ else ru d 151 40 [l0, l1] [] σ := q_if_le t151_37 (by decide +kernel)
theorem t151_40 : decode (mb 151) 40 = .ok (.aload_n 0, 1) := by decide +kernel
theorem s151_40 (d : Nat) (a0 : Nat) (l1 : Value) (σ : Hs) : ru d 151 40 [.ref a0, l1] [] σ = ru d 151 41 [.ref a0, l1] [.ref a0] σ := q_aload_n t151_40 rfl
theorem t151_41 : decode (mb 151) 41 = .ok (.invokevirtual 189, 3) := by decide +kernel
theorem s151_41_o87 (d : Nat) (l0 : Value) (l1 : Value) (σ : Hs) : ru d 151 41 [l0, l1] [.ref 87] σ = kont (callD d 152 [.ref 87] σ) d 151 44 [l0, l1] [] := q_invv t151_41 mo151 K8_189 mj152 rfl rfl rfl rfl (Nat.le_of_ble_eq_true rfl)
theorem t151_44 : decode (mb 151) 44 = .ok (.aload_n 0, 1) := by decide +kernel
theorem s151_44 (d : Nat) (a0 : Nat) (l1 : Value) (σ : Hs) : ru d 151 44 [.ref a0, l1] [] σ = ru d 151 45 [.ref a0, l1] [.ref a0] σ := q_aload_n t151_44 rfl
theorem t151_45 : decode (mb 151) 45 = .ok (.iload_n 1, 1) := by decide +kernel
theorem s151_45 (d : Nat) (l0 : Value) (i1 : Int32) (w0 : Value) (σ : Hs) : ru d 151 45 [l0, .int i1] [w0] σ = ru d 151 46 [l0, .int i1] [.int i1, w0] σ := q_iload_n t151_45 rfl
theorem t151_46 : decode (mb 151) 46 = .ok (.invokevirtual 180, 3) := by decide +kernel
theorem s151_46_o87 (d : Nat) (l0 : Value) (l1 : Value) (v1 : Value) (σ : Hs) : ru d 151 46 [l0, l1] [v1, .ref 87] σ = kont (callD d 147 [.ref 87, v1] σ) d 151 49 [l0, l1] [] := q_invv t151_46 mo151 K8_180 mj147 rfl rfl rfl rfl (Nat.le_of_ble_eq_true rfl)
theorem t151_49 : decode (mb 151) 49 = .ok (.aload_n 0, 1) := by decide +kernel
theorem s151_49 (d : Nat) (a0 : Nat) (l1 : Value) (σ : Hs) : ru d 151 49 [.ref a0, l1] [] σ = ru d 151 50 [.ref a0, l1] [.ref a0] σ := q_aload_n t151_49 rfl
theorem t151_50 : decode (mb 151) 50 = .ok (.bipush 43, 2) := by decide +kernel
theorem s151_50 (d : Nat) (l0 : Value) (l1 : Value) (w0 : Value) (σ : Hs) : ru d 151 50 [l0, l1] [w0] σ = ru d 151 52 [l0, l1] [.int 43, w0] σ := q_bipush t151_50 (by decide +kernel)
theorem t151_52 : decode (mb 151) 52 = .ok (.invokevirtual 177, 3) := by decide +kernel
theorem s151_52_o87 (d : Nat) (l0 : Value) (l1 : Value) (v1 : Value) (σ : Hs) : ru d 151 52 [l0, l1] [v1, .ref 87] σ = kont (callD d 146 [.ref 87, v1] σ) d 151 55 [l0, l1] [] := q_invv t151_52 mo151 K8_177 mj146 rfl rfl rfl rfl (Nat.le_of_ble_eq_true rfl)
theorem t151_55 : decode (mb 151) 55 = .ok (.ifCond .eq 9, 3) := by decide +kernel
theorem s151_55 (d : Nat) (l0 : Value) (l1 : Value) (x : Int32) (σ : Hs) : ru d 151 55 [l0, l1] [.int x] σ = if x = 0 then ru d 151 64 [l0, l1] [] σ else ru d 151 58 [l0, l1] [] σ := q_if_eq t151_55 (by decide +kernel)
theorem t151_58 : decode (mb 151) 58 = .ok (.sipush 20005, 3) := by decide +kernel
theorem s151_58 (d : Nat) (l0 : Value) (l1 : Value) (σ : Hs) : ru d 151 58 [l0, l1] [] σ = ru d 151 61 [l0, l1] [.int 20005] σ := q_sipush t151_58 (by decide +kernel)
theorem t151_61 : decode (mb 151) 61 = .ok (.goto 19, 3) := by decide +kernel
theorem s151_61 (d : Nat) (l0 : Value) (l1 : Value) (w0 : Value) (σ : Hs) : ru d 151 61 [l0, l1] [w0] σ = ru d 151 80 [l0, l1] [w0] σ := q_goto t151_61 (by decide +kernel)
theorem t151_64 : decode (mb 151) 64 = .ok (.aload_n 0, 1) := by decide +kernel
theorem s151_64 (d : Nat) (a0 : Nat) (l1 : Value) (σ : Hs) : ru d 151 64 [.ref a0, l1] [] σ = ru d 151 65 [.ref a0, l1] [.ref a0] σ := q_aload_n t151_64 rfl
theorem t151_65 : decode (mb 151) 65 = .ok (.bipush 45, 2) := by decide +kernel
theorem s151_65 (d : Nat) (l0 : Value) (l1 : Value) (w0 : Value) (σ : Hs) : ru d 151 65 [l0, l1] [w0] σ = ru d 151 67 [l0, l1] [.int 45, w0] σ := q_bipush t151_65 (by decide +kernel)
theorem t151_67 : decode (mb 151) 67 = .ok (.invokevirtual 177, 3) := by decide +kernel
theorem s151_67_o87 (d : Nat) (l0 : Value) (l1 : Value) (v1 : Value) (σ : Hs) : ru d 151 67 [l0, l1] [v1, .ref 87] σ = kont (callD d 146 [.ref 87, v1] σ) d 151 70 [l0, l1] [] := q_invv t151_67 mo151 K8_177 mj146 rfl rfl rfl rfl (Nat.le_of_ble_eq_true rfl)
theorem t151_70 : decode (mb 151) 70 = .ok (.ifCond .eq 9, 3) := by decide +kernel
theorem s151_70 (d : Nat) (l0 : Value) (l1 : Value) (x : Int32) (σ : Hs) : ru d 151 70 [l0, l1] [.int x] σ = if x = 0 then ru d 151 79 [l0, l1] [] σ else ru d 151 73 [l0, l1] [] σ := q_if_eq t151_70 (by decide +kernel)
theorem t151_73 : decode (mb 151) 73 = .ok (.sipush 20006, 3) := by decide +kernel
theorem s151_73 (d : Nat) (l0 : Value) (l1 : Value) (σ : Hs) : ru d 151 73 [l0, l1] [] σ = ru d 151 76 [l0, l1] [.int 20006] σ := q_sipush t151_73 (by decide +kernel)
theorem t151_76 : decode (mb 151) 76 = .ok (.goto 4, 3) := by decide +kernel
theorem s151_76 (d : Nat) (l0 : Value) (l1 : Value) (w0 : Value) (σ : Hs) : ru d 151 76 [l0, l1] [w0] σ = ru d 151 80 [l0, l1] [w0] σ := q_goto t151_76 (by decide +kernel)
theorem t151_79 : decode (mb 151) 79 = .ok (.iconst 0, 1) := by decide +kernel
theorem s151_79 (d : Nat) (l0 : Value) (l1 : Value) (σ : Hs) : ru d 151 79 [l0, l1] [] σ = ru d 151 80 [l0, l1] [.int 0] σ := q_iconst t151_79 (by decide +kernel)
theorem t151_80 : decode (mb 151) 80 = .ok (.istore_n 1, 1) := by decide +kernel
theorem s151_80 (d : Nat) (a0 : Nat) (l1 : Value) (x : Int32) (σ : Hs) : ru d 151 80 [.ref a0, l1] [.int x] σ = ru d 151 81 [.ref a0, .int x] [] σ := q_istore_n t151_80 ⟨Nat.le_of_ble_eq_true rfl, rfl⟩ rfl
theorem t151_81 : decode (mb 151) 81 = .ok (.goto (-45), 3) := by decide +kernel
theorem s151_81 (d : Nat) (l0 : Value) (l1 : Value) (σ : Hs) : ru d 151 81 [l0, l1] [] σ = ru d 151 36 [l0, l1] [] σ := q_goto t151_81 (by decide +kernel)
theorem t151_84 : decode (mb 151) 84 = .ok (.return_, 1) := by decide +kernel
theorem s151_84 (d : Nat) (l0 : Value) (l1 : Value) (σ : Hs) : ru d 151 84 [l0, l1] [] σ = some (none, σ) := q_vret t151_84 mr151
theorem c151 (d : Nat) (x0 : Nat) (σ : Hs) : callD (d + 1) 151 [.ref x0] σ = ru d 151 0 [.ref x0, uu] [] σ := callD_ru ml151 rfl rfl (Nat.le_of_ble_eq_true rfl)
-- 152: Model.product()V
theorem t152_0 : decode (mb 152) 0 = .ok (.aload_n 0, 1) := by decide +kernel
theorem s152_0 (d : Nat) (a0 : Nat) (l1 : Value) (σ : Hs) : ru d 152 0 [.ref a0, l1] [] σ = ru d 152 1 [.ref a0, l1] [.ref a0] σ := q_aload_n t152_0 rfl
theorem t152_1 : decode (mb 152) 1 = .ok (.invokevirtual 192, 3) := by decide +kernel
theorem s152_1_o87 (d : Nat) (l0 : Value) (l1 : Value) (σ : Hs) : ru d 152 1 [l0, l1] [.ref 87] σ = kont (callD d 154 [.ref 87] σ) d 152 4 [l0, l1] [] := q_invv t152_1 mo152 K8_192 mj154 rfl rfl rfl rfl (Nat.le_of_ble_eq_true rfl)
theorem t152_4 : decode (mb 152) 4 = .ok (.aload_n 0, 1) := by decide +kernel
theorem s152_4 (d : Nat) (a0 : Nat) (l1 : Value) (σ : Hs) : ru d 152 4 [.ref a0, l1] [] σ = ru d 152 5 [.ref a0, l1] [.ref a0] σ := q_aload_n t152_4 rfl
theorem t152_5 : decode (mb 152) 5 = .ok (.bipush 42, 2) := by decide +kernel
theorem s152_5 (d : Nat) (l0 : Value) (l1 : Value) (w0 : Value) (σ : Hs) : ru d 152 5 [l0, l1] [w0] σ = ru d 152 7 [l0, l1] [.int 42, w0] σ := q_bipush t152_5 (by decide +kernel)
theorem t152_7 : decode (mb 152) 7 = .ok (.invokevirtual 177, 3) := by decide +kernel
theorem s152_7_o87 (d : Nat) (l0 : Value) (l1 : Value) (v1 : Value) (σ : Hs) : ru d 152 7 [l0, l1] [v1, .ref 87] σ = kont (callD d 146 [.ref 87, v1] σ) d 152 10 [l0, l1] [] := q_invv t152_7 mo152 K8_177 mj146 rfl rfl rfl rfl (Nat.le_of_ble_eq_true rfl)
theorem t152_10 : decode (mb 152) 10 = .ok (.ifCond .eq 9, 3) := by decide +kernel
theorem s152_10 (d : Nat) (l0 : Value) (l1 : Value) (x : Int32) (σ : Hs) : ru d 152 10 [l0, l1] [.int x] σ = if x = 0 then ru d 152 19 [l0, l1] [] σ else ru d 152 13 [l0, l1] [] σ := q_if_eq t152_10 (by decide +kernel)
theorem t152_13 : decode (mb 152) 13 = .ok (.sipush 20007, 3) := by decide +kernel
theorem s152_13 (d : Nat) (l0 : Value) (l1 : Value) (σ : Hs) : ru d 152 13 [l0, l1] [] σ = ru d 152 16 [l0, l1] [.int 20007] σ := q_sipush t152_13 (by decide +kernel)
theorem t152_16 : decode (mb 152) 16 = .ok (.goto 34, 3) := by decide +kernel
theorem s152_16 (d : Nat) (l0 : Value) (l1 : Value) (w0 : Value) (σ : Hs) : ru d 152 16 [l0, l1] [w0] σ = ru d 152 50 [l0, l1] [w0] σ := q_goto t152_16 (by decide +kernel)
theorem t152_19 : decode (mb 152) 19 = .ok (.aload_n 0, 1) := by decide +kernel
theorem s152_19 (d : Nat) (a0 : Nat) (l1 : Value) (σ : Hs) : ru d 152 19 [.ref a0, l1] [] σ = ru d 152 20 [.ref a0, l1] [.ref a0] σ := q_aload_n t152_19 rfl
theorem t152_20 : decode (mb 152) 20 = .ok (.bipush 47, 2) := by decide +kernel
theorem s152_20 (d : Nat) (l0 : Value) (l1 : Value) (w0 : Value) (σ : Hs) : ru d 152 20 [l0, l1] [w0] σ = ru d 152 22 [l0, l1] [.int 47, w0] σ := q_bipush t152_20 (by decide +kernel)
theorem t152_22 : decode (mb 152) 22 = .ok (.invokevirtual 177, 3) := by decide +kernel
theorem s152_22_o87 (d : Nat) (l0 : Value) (l1 : Value) (v1 : Value) (σ : Hs) : ru d 152 22 [l0, l1] [v1, .ref 87] σ = kont (callD d 146 [.ref 87, v1] σ) d 152 25 [l0, l1] [] := q_invv t152_22 mo152 K8_177 mj146 rfl rfl rfl rfl (Nat.le_of_ble_eq_true rfl)
theorem t152_25 : decode (mb 152) 25 = .ok (.ifCond .eq 9, 3) := by decide +kernel
theorem s152_25 (d : Nat) (l0 : Value) (l1 : Value) (x : Int32) (σ : Hs) : ru d 152 25 [l0, l1] [.int x] σ = if x = 0 then ru d 152 34 [l0, l1] [] σ else ru d 152 28 [l0, l1] [] σ := q_if_eq t152_25 (by decide +kernel)
theorem t152_28 : decode (mb 152) 28 = .ok (.sipush 20008, 3) := by decide +kernel
theorem s152_28 (d : Nat) (l0 : Value) (l1 : Value) (σ : Hs) : ru d 152 28 [l0, l1] [] σ = ru d 152 31 [l0, l1] [.int 20008] σ := q_sipush t152_28 (by decide +kernel)
theorem t152_31 : decode (mb 152) 31 = .ok (.goto 19, 3) := by decide +kernel
theorem s152_31 (d : Nat) (l0 : Value) (l1 : Value) (w0 : Value) (σ : Hs) : ru d 152 31 [l0, l1] [w0] σ = ru d 152 50 [l0, l1] [w0] σ := q_goto t152_31 (by decide +kernel)
theorem t152_34 : decode (mb 152) 34 = .ok (.aload_n 0, 1) := by decide +kernel
theorem s152_34 (d : Nat) (a0 : Nat) (l1 : Value) (σ : Hs) : ru d 152 34 [.ref a0, l1] [] σ = ru d 152 35 [.ref a0, l1] [.ref a0] σ := q_aload_n t152_34 rfl
theorem t152_35 : decode (mb 152) 35 = .ok (.bipush 37, 2) := by decide +kernel
theorem s152_35 (d : Nat) (l0 : Value) (l1 : Value) (w0 : Value) (σ : Hs) : ru d 152 35 [l0, l1] [w0] σ = ru d 152 37 [l0, l1] [.int 37, w0] σ := q_bipush t152_35 (by decide +kernel)
theorem t152_37 : decode (mb 152) 37 = .ok (.invokevirtual 177, 3) := by decide +kernel
theorem s152_37_o87 (d : Nat) (l0 : Value) (l1 : Value) (v1 : Value) (σ : Hs) : ru d 152 37 [l0, l1] [v1, .ref 87] σ = kont (callD d 146 [.ref 87, v1] σ) d 152 40 [l0, l1] [] := q_invv t152_37 mo152 K8_177 mj146 rfl rfl rfl rfl (Nat.le_of_ble_eq_true rfl)
theorem t152_40 : decode (mb 152) 40 = .ok (.ifCond .eq 9, 3) := by decide +kernel
theorem s152_40 (d : Nat) (l0 : Value) (l1 : Value) (x : Int32) (σ : Hs) : ru d 152 40 [l0, l1] [.int x] σ = if x = 0 then ru d 152 49 [l0, l1] [] σ else ru d 152 43 [l0, l1] [] σ := q_if_eq t152_40 (by decide +kernel)
theorem t152_43 : decode (mb 152) 43 = .ok (.sipush 20009, 3) := by decide +kernel
theorem s152_43 (d : Nat) (l0 : Value) (l1 : Value) (σ : Hs) : ru d 152 43 [l0, l1] [] σ = ru d 152 46 [l0, l1] [.int 20009] σ := q_sipush t152_43 (by decide +kernel)
theorem t152_46 : decode (mb 152) 46 = .ok (.goto 4, 3) := by decide +kernel
theorem s152_46 (d : Nat) (l0 : Value) (l1 : Value) (w0 : Value) (σ : Hs) : ru d 152 46 [l0, l1] [w0] σ = ru d 152 50 [l0, l1] [w0] σ := q_goto t152_46 (by decide +kernel)
theorem t152_49 : decode (mb 152) 49 = .ok (.iconst 0, 1) := by decide +kernel
theorem s152_49 (d : Nat) (l0 : Value) (l1 : Value) (σ : Hs) : ru d 152 49 [l0, l1] [] σ = ru d 152 50 [l0, l1] [.int 0] σ := q_iconst t152_49 (by decide +kernel)
theorem t152_50 : decode (mb 152) 50 = .ok (.istore_n 1, 1) := by decide +kernel
theorem s152_50 (d : Nat) (a0 : Nat) (l1 : Value) (x : Int32) (σ : Hs) : ru d 152 50 [.ref a0, l1] [.int x] σ = ru d 152 51 [.ref a0, .int x] [] σ := q_istore_n t152_50 ⟨Nat.le_of_ble_eq_true rfl, rfl⟩ rfl
theorem t152_51 : decode (mb 152) 51 = .ok (.iload_n 1, 1) := by decide +kernel
theorem s152_51 (d : Nat) (l0 : Value) (i1 : Int32) (σ : Hs) : ru d 152 51 [l0, .int i1] [] σ = ru d 152 52 [l0, .int i1] [.int i1] σ := q_iload_n t152_51 rfl
theorem t152_52 : decode (mb 152) 52 = .ok (.ifCond .le 62, 3) := by decide +kernel
theorem s152_52 (d : Nat) (l0 : Value) (l1 : Value) (x : Int32) (σ : Hs) : ru d 152 52 [l0, l1] [.int x] σ = if x ≤ 0 then ru d 152 114 [l0, l1] [] σ else ru d 152 55 [l0, l1] [] σ := q_if_le t152_52 (by decide +kernel)
theorem t152_55 : decode (mb 152) 55 = .ok (.aload_n 0, 1) := by decide +kernel
theorem s152_55 (d : Nat) (a0 : Nat) (l1 : Value) (σ : Hs) : ru d 152 55 [.ref a0, l1] [] σ = ru d 152 56 [.ref a0, l1] [.ref a0] σ := q_aload_n t152_55 rfl
theorem t152_56 : decode (mb 152) 56 = .ok (.invokevirtual 192, 3) := by decide +kernel
theorem s152_56_o87 (d : Nat) (l0 : Value) (l1 : Value) (σ : Hs) : ru d 152 56 [l0, l1] [.ref 87] σ = kont (callD d 154 [.ref 87] σ) d 152 59 [l0, l1] [] := q_invv t152_56 mo152 K8_192 mj154 rfl rfl rfl rfl (Nat.le_of_ble_eq_true rfl)
theorem t152_59 : decode (mb 152) 59 = .ok (.aload_n 0, 1) := by decide +kernel
theorem s152_59 (d : Nat) (a0 : Nat) (l1 : Value) (σ : Hs) : ru d 152 59 [.ref a0, l1] [] σ = ru d 152 60 [.ref a0, l1] [.ref a0] σ := q_aload_n t152_59 rfl
theorem t152_60 : decode (mb 152) 60 = .ok (.iload_n 1, 1) := by decide +kernel
theorem s152_60 (d : Nat) (l0 : Value) (i1 : Int32) (w0 : Value) (σ : Hs) : ru d 152 60 [l0, .int i1] [w0] σ = ru d 152 61 [l0, .int i1] [.int i1, w0] σ := q_iload_n t152_60 rfl
theorem t152_61 : decode (mb 152) 61 = .ok (.invokevirtual 180, 3) := by decide +kernel
theorem s152_61_o87 (d : Nat) (l0 : Value) (l1 : Value) (v1 : Value) (σ : Hs) : ru d 152 61 [l0, l1] [v1, .ref 87] σ = kont (callD d 147 [.ref 87, v1] σ) d 152 64 [l0, l1] [] := q_invv t152_61 mo152 K8_180 mj147 rfl rfl rfl rfl (Nat.le_of_ble_eq_true rfl)
theorem t152_64 : decode (mb 152) 64 = .ok (.aload_n 0, 1) := by decide +kernel
theorem s152_64 (d : Nat) (a0 : Nat) (l1 : Value) (σ : Hs) : ru d 152 64 [.ref a0, l1] [] σ = ru d 152 65 [.ref a0, l1] [.ref a0] σ := q_aload_n t152_64 rfl
theorem t152_65 : decode (mb 152) 65 = .ok (.bipush 42, 2) := by decide +kernel
theorem s152_65 (d : Nat) (l0 : Value) (l1 : Value) (w0 : Value) (σ : Hs) : ru d 152 65 [l0, l1] [w0] σ = ru d 152 67 [l0, l1] [.int 42, w0] σ := q_bipush t152_65 (by decide +kernel)
theorem t152_67 : decode (mb 152) 67 = .ok (.invokevirtual 177, 3) := by decide +kernel
theorem s152_67_o87 (d : Nat) (l0 : Value) (l1 : Value) (v1 : Value) (σ : Hs) : ru d 152 67 [l0, l1] [v1, .ref 87] σ = kont (callD d 146 [.ref 87, v1] σ) d 152 70 [l0, l1] [] := q_invv t152_67 mo152 K8_177 mj146 rfl rfl rfl rfl (Nat.le_of_ble_eq_true rfl)
theorem t152_70 : decode (mb 152) 70 = .ok (.ifCond .eq 9, 3) := by decide +kernel
theorem s152_70 (d : Nat) (l0 : Value) (l1 : Value) (x : Int32) (σ : Hs) : ru d 152 70 [l0, l1] [.int x] σ = if x = 0 then ru d 152 79 [l0, l1] [] σ else ru d 152 73 [l0, l1] [] σ := q_if_eq t152_70 (by decide +kernel)
theorem t152_73 : decode (mb 152) 73 = .ok (.sipush 20007, 3) := by decide +kernel
theorem s152_73 (d : Nat) (l0 : Value) (l1 : Value) (σ : Hs) : ru d 152 73 [l0, l1] [] σ = ru d 152 76 [l0, l1] [.int 20007] σ := q_sipush t152_73 (by decide +kernel)
theorem t152_76 : decode (mb 152) 76 = .ok (.goto 34, 3) := by decide +kernel
theorem s152_76 (d : Nat) (l0 : Value) (l1 : Value) (w0 : Value) (σ : Hs) : ru d 152 76 [l0, l1] [w0] σ = ru d 152 110 [l0, l1] [w0] σ := q_goto t152_76 (by decide +kernel)
theorem t152_79 : decode (mb 152) 79 = .ok (.aload_n 0, 1) := by decide +kernel
theorem s152_79 (d : Nat) (a0 : Nat) (l1 : Value) (σ : Hs) : ru d 152 79 [.ref a0, l1] [] σ = ru d 152 80 [.ref a0, l1] [.ref a0] σ := q_aload_n t152_79 rfl
theorem t152_80 : decode (mb 152) 80 = .ok (.bipush 47, 2) := by decide +kernel
theorem s152_80 (d : Nat) (l0 : Value) (l1 : Value) (w0 : Value) (σ : Hs) : ru d 152 80 [l0, l1] [w0] σ = ru d 152 82 [l0, l1] [.int 47, w0] σ := q_bipush t152_80 (by decide +kernel)
theorem t152_82 : decode (mb 152) 82 = .ok (.invokevirtual 177, 3) := by decide +kernel
theorem s152_82_o87 (d : Nat) (l0 : Value) (l1 : Value) (v1 : Value) (σ : Hs) : ru d 152 82 [l0, l1] [v1, .ref 87] σ = kont (callD d 146 [.ref 87, v1] σ) d 152 85 [l0, l1] [] := q_invv t152_82 mo152 K8_177 mj146 rfl rfl rfl rfl (Nat.le_of_ble_eq_true rfl)
theorem t152_85 : decode (mb 152) 85 = .ok (.ifCond .eq 9, 3) := by decide +kernel
theorem s152_85 (d : Nat) (l0 : Value) (l1 : Value) (x : Int32) (σ : Hs) : ru d 152 85 [l0, l1] [.int x] σ = if x = 0 then ru d 152 94 [l0, l1] [] σ else ru d 152 88 [l0, l1] [] σ := q_if_eq t152_85 (by decide +kernel)
theorem t152_88 : decode (mb 152) 88 = .ok (.sipush 20008, 3) := by decide +kernel
theorem s152_88 (d : Nat) (l0 : Value) (l1 : Value) (σ : Hs) : ru d 152 88 [l0, l1] [] σ = ru d 152 91 [l0, l1] [.int 20008] σ := q_sipush t152_88 (by decide +kernel)
theorem t152_91 : decode (mb 152) 91 = .ok (.goto 19, 3) := by decide +kernel
theorem s152_91 (d : Nat) (l0 : Value) (l1 : Value) (w0 : Value) (σ : Hs) : ru d 152 91 [l0, l1] [w0] σ = ru d 152 110 [l0, l1] [w0] σ := q_goto t152_91 (by decide +kernel)
theorem t152_94 : decode (mb 152) 94 = .ok (.aload_n 0, 1) := by decide +kernel
theorem s152_94 (d : Nat) (a0 : Nat) (l1 : Value) (σ : Hs) : ru d 152 94 [.ref a0, l1] [] σ = ru d 152 95 [.ref a0, l1] [.ref a0] σ := q_aload_n t152_94 rfl
theorem t152_95 : decode (mb 152) 95 = .ok (.bipush 37, 2) := by decide +kernel
theorem s152_95 (d : Nat) (l0 : Value) (l1 : Value) (w0 : Value) (σ : Hs) : ru d 152 95 [l0, l1] [w0] σ = ru d 152 97 [l0, l1] [.int 37, w0] σ := q_bipush t152_95 (by decide +kernel)
theorem t152_97 : decode (mb 152) 97 = .ok (.invokevirtual 177, 3) := by decide +kernel
theorem s152_97_o87 (d : Nat) (l0 : Value) (l1 : Value) (v1 : Value) (σ : Hs) : ru d 152 97 [l0, l1] [v1, .ref 87] σ = kont (callD d 146 [.ref 87, v1] σ) d 152 100 [l0, l1] [] := q_invv t152_97 mo152 K8_177 mj146 rfl rfl rfl rfl (Nat.le_of_ble_eq_true rfl)
theorem t152_100 : decode (mb 152) 100 = .ok (.ifCond .eq 9, 3) := by decide +kernel
theorem s152_100 (d : Nat) (l0 : Value) (l1 : Value) (x : Int32) (σ : Hs) : ru d 152 100 [l0, l1] [.int x] σ = if x = 0 then ru d 152 109 [l0, l1] [] σ else ru d 152 103 [l0, l1] [] σ := q_if_eq t152_100 (by decide +kernel)
theorem t152_103 : decode (mb 152) 103 = .ok (.sipush 20009, 3) := by decide +kernel
theorem s152_103 (d : Nat) (l0 : Value) (l1 : Value) (σ : Hs) : ru d 152 103 [l0, l1] [] σ = ru d 152 106 [l0, l1] [.int 20009] σ := q_sipush t152_103 (by decide +kernel)
theorem t152_106 : decode (mb 152) 106 = .ok (.goto 4, 3) := by decide +kernel
theorem s152_106 (d : Nat) (l0 : Value) (l1 : Value) (w0 : Value) (σ : Hs) : ru d 152 106 [l0, l1] [w0] σ = ru d 152 110 [l0, l1] [w0] σ := q_goto t152_106 (by decide +kernel)
theorem t152_109 : decode (mb 152) 109 = .ok (.iconst 0, 1) := by decide +kernel
theorem s152_109 (d : Nat) (l0 : Value) (l1 : Value) (σ : Hs) : ru d 152 109 [l0, l1] [] σ = ru d 152 110 [l0, l1] [.int 0] σ := q_iconst t152_109 (by decide +kernel)
theorem t152_110 : decode (mb 152) 110 = .ok (.istore_n 1, 1) := by decide +kernel
theorem s152_110 (d : Nat) (a0 : Nat) (l1 : Value) (x : Int32) (σ : Hs) : ru d 152 110 [.ref a0, l1] [.int x] σ = ru d 152 111 [.ref a0, .int x] [] σ := q_istore_n t152_110 ⟨Nat.le_of_ble_eq_true rfl, rfl⟩ rfl
theorem t152_111 : decode (mb 152) 111 = .ok (.goto (-60), 3) := by decide +kernel
theorem s152_111 (d : Nat) (l0 : Value) (l1 : Value) (σ : Hs) : ru d 152 111 [l0, l1] [] σ = ru d 152 51 [l0, l1] [] σ := q_goto t152_111 (by decide +kernel)
theorem t152_114 : decode (mb 152) 114 = .ok (.return_, 1) := by decide +kernel
theorem s152_114 (d : Nat) (l0 : Value) (l1 : Value) (σ : Hs) : ru d 152 114 [l0, l1] [] σ = some (none, σ) := q_vret t152_114 mr152
theorem c152 (d : Nat) (x0 : Nat) (σ : Hs) : callD (d + 1) 152 [.ref x0] σ = ru d 152 0 [.ref x0, uu] [] σ := callD_ru ml152 rfl rfl (Nat.le_of_ble_eq_true rfl)
-- 153: Model.nameOf(I)I
theorem t153_0 : decode (mb 153) 0 = .ok (.iconst (-1), 1) := by decide +kernel
theorem s153_0 (d : Nat) (l0 : Value) (l1 : Value) (l2 : Value) (l3 : Value) (σ : Hs) : ru d 153 0 [l0, l1, l2, l3] [] σ = ru d 153 1 [l0, l1, l2, l3] [.int (-1)] σ := q_iconst t153_0 (by decide +kernel)
theorem t153_1 : decode (mb 153) 1 = .ok (.istore_n 2, 1) := by decide +kernel
theorem s153_1 (d : Nat) (l0 : Value) (i1 : Int32) (l2 : Value) (l3 : Value) (x : Int32) (σ : Hs) : ru d 153 1 [l0, .int i1, l2, l3] [.int x] σ = ru d 153 2 [l0, .int i1, .int x, l3] [] σ := q_istore_n t153_1 ⟨Nat.le_of_ble_eq_true rfl, rfl⟩ rfl
theorem t153_2 : decode (mb 153) 2 = .ok (.iconst 0, 1) := by decide +kernel
theorem s153_2 (d : Nat) (l0 : Value) (l1 : Value) (l2 : Value) (l3 : Value) (σ : Hs) : ru d 153 2 [l0, l1, l2, l3] [] σ = ru d 153 3 [l0, l1, l2, l3] [.int 0] σ := q_iconst t153_2 (by decide +kernel)
theorem t153_3 : decode (mb 153) 3 = .ok (.istore_n 3, 1) := by decide +kernel
theorem s153_3 (d : Nat) (l0 : Value) (l1 : Value) (i2 : Int32) (l3 : Value) (x : Int32) (σ : Hs) : ru d 153 3 [l0, l1, .int i2, l3] [.int x] σ = ru d 153 4 [l0, l1, .int i2, .int x] [] σ := q_istore_n t153_3 ⟨Nat.le_of_ble_eq_true rfl, rfl⟩ rfl
theorem t153_4 : decode (mb 153) 4 = .ok (.iload_n 3, 1) := by decide +kernel
theorem s153_4 (d : Nat) (l0 : Value) (l1 : Value) (l2 : Value) (i3 : Int32) (σ : Hs) : ru d 153 4 [l0, l1, l2, .int i3] [] σ = ru d 153 5 [l0, l1, l2, .int i3] [.int i3] σ := q_iload_n t153_4 rfl
theorem t153_5 : decode (mb 153) 5 = .ok (.aload_n 0, 1) := by decide +kernel
theorem s153_5 (d : Nat) (a0 : Nat) (l1 : Value) (l2 : Value) (l3 : Value) (w0 : Value) (σ : Hs) : ru d 153 5 [.ref a0, l1, l2, l3] [w0] σ = ru d 153 6 [.ref a0, l1, l2, l3] [.ref a0, w0] σ := q_aload_n t153_5 rfl
theorem t153_6 : decode (mb 153) 6 = .ok (.getfield 39, 3) := by decide +kernel
theorem s153_6_o87 (d : Nat) (l0 : Value) (l1 : Value) (l2 : Value) (l3 : Value) (w0 : Value) (σ : Hs) : ru d 153 6 [l0, l1, l2, l3] [.ref 87, w0] σ = ru d 153 9 [l0, l1, l2, l3] [.ref 95, w0] σ := q_getf t153_6 mo153 F8_39 rfl rfl
theorem t153_9 : decode (mb 153) 9 = .ok (.aload_n 0, 1) := by decide +kernel
theorem s153_9 (d : Nat) (a0 : Nat) (l1 : Value) (l2 : Value) (l3 : Value) (w0 w1 : Value) (σ : Hs) : ru d 153 9 [.ref a0, l1, l2, l3] [w0, w1] σ = ru d 153 10 [.ref a0, l1, l2, l3] [.ref a0, w0, w1] σ := q_aload_n t153_9 rfl
theorem t153_10 : decode (mb 153) 10 = .ok (.getfield 195, 3) := by decide +kernel
theorem s153_10_o87 (d : Nat) (l0 : Value) (l1 : Value) (l2 : Value) (l3 : Value) (w0 w1 : Value) (σ : Hs) : ru d 153 10 [l0, l1, l2, l3] [.ref 87, w0, w1] σ = ru d 153 13 [l0, l1, l2, l3] [.int (σ 87 11), w0, w1] σ := q_getf t153_10 mo153 F8_195 rfl rfl
theorem t153_13 : decode (mb 153) 13 = .ok (.aaload, 1) := by decide +kernel
theorem s153_13_o95 (d : Nat) (l0 : Value) (l1 : Value) (l2 : Value) (l3 : Value) (i : Int32) (w0 : Value) (σ : Hs) : ru d 153 13 [l0, l1, l2, l3] [.int i, .ref 95, w0] σ = gd (vp_in i 3) (ru d 153 14 [l0, l1, l2, l3] [.ref (cr 95 i.toNatClampNeg), w0] σ) := q_aald t153_13 (by decide +kernel) (by decide +kernel) rfl
theorem t153_14 : decode (mb 153) 14 = .ok (.invokevirtual 198, 3) := by decide +kernel
theorem s153_14_o119 (d : Nat) (l0 : Value) (l1 : Value) (l2 : Value) (l3 : Value) (w0 : Int32) (σ : Hs) : ru d 153 14 [l0, l1, l2, l3] [.ref 119, .int w0] σ = kont (callD d 217 [.ref 119] σ) d 153 17 [l0, l1, l2, l3] [.int w0] := q_invv t153_14 mo153 K8_198 mj217 rfl rfl rfl rfl (Nat.le_of_ble_eq_true rfl)
theorem s153_14_o120 (d : Nat) (l0 : Value) (l1 : Value) (l2 : Value) (l3 : Value) (w0 : Int32) (σ : Hs) : ru d 153 14 [l0, l1, l2, l3] [.ref 120, .int w0] σ = kont (callD d 217 [.ref 120] σ) d 153 17 [l0, l1, l2, l3] [.int w0] := q_invv t153_14 mo153 K8_198 mj217 rfl rfl rfl rfl (Nat.le_of_ble_eq_true rfl)
theorem s153_14_o121 (d : Nat) (l0 : Value) (l1 : Value) (l2 : Value) (l3 : Value) (w0 : Int32) (σ : Hs) : ru d 153 14 [l0, l1, l2, l3] [.ref 121, .int w0] σ = kont (callD d 217 [.ref 121] σ) d 153 17 [l0, l1, l2, l3] [.int w0] := q_invv t153_14 mo153 K8_198 mj217 rfl rfl rfl rfl (Nat.le_of_ble_eq_true rfl)
theorem t153_17 : decode (mb 153) 17 = .ok (.if_icmp .ge 32, 3) := by decide +kernel
theorem s153_17 (d : Nat) (l0 : Value) (l1 : Value) (l2 : Value) (l3 : Value) (x y : Int32) (σ : Hs) : ru d 153 17 [l0, l1, l2, l3] [.int y, .int x] σ = if y ≤ x then ru d 153 49 [l0, l1, l2, l3] [] σ else ru d 153 20 [l0, l1, l2, l3] [] σ := q_ic_ge t153_17 (by decide +kernel)
theorem t153_20 : decode (mb 153) 20 = .ok (.aload_n 0, 1) := by decide +kernel
theorem s153_20 (d : Nat) (a0 : Nat) (l1 : Value) (l2 : Value) (l3 : Value) (σ : Hs) : ru d 153 20 [.ref a0, l1, l2, l3] [] σ = ru d 153 21 [.ref a0, l1, l2, l3] [.ref a0] σ := q_aload_n t153_20 rfl
theorem t153_21 : decode (mb 153) 21 = .ok (.getfield 39, 3) := by decide +kernel
theorem s153_21_o87 (d : Nat) (l0 : Value) (l1 : Value) (l2 : Value) (l3 : Value) (σ : Hs) : ru d 153 21 [l0, l1, l2, l3] [.ref 87] σ = ru d 153 24 [l0, l1, l2, l3] [.ref 95] σ := q_getf t153_21 mo153 F8_39 rfl rfl
theorem t153_24 : decode (mb 153) 24 = .ok (.aload_n 0, 1) := by decide +kernel
theorem s153_24 (d : Nat) (a0 : Nat) (l1 : Value) (l2 : Value) (l3 : Value) (w0 : Value) (σ : Hs) : ru d 153 24 [.ref a0, l1, l2, l3] [w0] σ = ru d 153 25 [.ref a0, l1, l2, l3] [.ref a0, w0] σ := q_aload_n t153_24 rfl
theorem t153_25 : decode (mb 153) 25 = .ok (.getfield 195, 3) := by decide +kernel
theorem s153_25_o87 (d : Nat) (l0 : Value) (l1 : Value) (l2 : Value) (l3 : Value) (w0 : Value) (σ : Hs) : ru d 153 25 [l0, l1, l2, l3] [.ref 87, w0] σ = ru d 153 28 [l0, l1, l2, l3] [.int (σ 87 11), w0] σ := q_getf t153_25 mo153 F8_195 rfl rfl
theorem t153_28 : decode (mb 153) 28 = .ok (.aaload, 1) := by decide +kernel
theorem s153_28_o95 (d : Nat) (l0 : Value) (l1 : Value) (l2 : Value) (l3 : Value) (i : Int32) (σ : Hs) : ru d 153 28 [l0, l1, l2, l3] [.int i, .ref 95] σ = gd (vp_in i 3) (ru d 153 29 [l0, l1, l2, l3] [.ref (cr 95 i.toNatClampNeg)] σ) := q_aald t153_28 (by decide +kernel) (by decide +kernel) rfl
theorem t153_29 : decode (mb 153) 29 = .ok (.iload_n 3, 1) := by decide +kernel
theorem s153_29 (d : Nat) (l0 : Value) (l1 : Value) (l2 : Value) (i3 : Int32) (w0 : Value) (σ : Hs) : ru d 153 29 [l0, l1, l2, .int i3] [w0] σ = ru d 153 30 [l0, l1, l2, .int i3] [.int i3, w0] σ := q_iload_n t153_29 rfl
theorem t153_30 : decode (mb 153) 30 = .ok (.invokevirtual 201, 3) := by decide +kernel
theorem s153_30_o119 (d : Nat) (l0 : Value) (l1 : Value) (l2 : Value) (l3 : Value) (v1 : Value) (σ : Hs) : ru d 153 30 [l0, l1, l2, l3] [v1, .ref 119] σ = kont (callD d 227 [.ref 119, v1] σ) d 153 33 [l0, l1, l2, l3] [] := q_invv t153_30 mo153 K8_201 mj227 rfl rfl rfl rfl (Nat.le_of_ble_eq_true rfl)
theorem s153_30_o120 (d : Nat) (l0 : Value) (l1 : Value) (l2 : Value) (l3 : Value) (v1 : Value) (σ : Hs) : ru d 153 30 [l0, l1, l2, l3] [v1, .ref 120] σ = kont (callD d 227 [.ref 120, v1] σ) d 153 33 [l0, l1, l2, l3] [] := q_invv t153_30 mo153 K8_201 mj227 rfl rfl rfl rfl (Nat.le_of_ble_eq_true rfl)
theorem s153_30_o121 (d : Nat) (l0 : Value) (l1 : Value) (l2 : Value) (l3 : Value) (v1 : Value) (σ : Hs) : ru d 153 30 [l0, l1, l2, l3] [v1, .ref 121] σ = kont (callD d 227 [.ref 121, v1] σ) d 153 33 [l0, l1, l2, l3] [] := q_invv t153_30 mo153 K8_201 mj227 rfl rfl rfl rfl (Nat.le_of_ble_eq_true rfl)
theorem t153_33 : decode (mb 153) 33 = .ok (.iload_n 1, 1) := by decide +kernel
theorem s153_33 (d : Nat) (l0 : Value) (i1 : Int32) (l2 : Value) (l3 : Value) (w0 : Value) (σ : Hs) : ru d 153 33 [l0, .int i1, l2, l3] [w0] σ = ru d 153 34 [l0, .int i1, l2, l3] [.int i1, w0] σ := q_iload_n t153_33 rfl
theorem t153_34 : decode (mb 153) 34 = .ok (.if_icmp .ne 7, 3) := by decide +kernel
theorem s153_34 (d : Nat) (l0 : Value) (l1 : Value) (l2 : Value) (l3 : Value) (x y : Int32) (σ : Hs) : ru d 153 34 [l0, l1, l2, l3] [.int y, .int x] σ = if x = y then ru d 153 37 [l0, l1, l2, l3] [] σ else ru d 153 41 [l0, l1, l2, l3] [] σ := q_ic_ne t153_34 (by decide +kernel)
theorem t153_37 : decode (mb 153) 37 = .ok (.iload_n 3, 1) := by decide +kernel
theorem s153_37 (d : Nat) (l0 : Value) (l1 : Value) (l2 : Value) (i3 : Int32) (σ : Hs) : ru d 153 37 [l0, l1, l2, .int i3] [] σ = ru d 153 38 [l0, l1, l2, .int i3] [.int i3] σ := q_iload_n t153_37 rfl
theorem t153_38 : decode (mb 153) 38 = .ok (.goto 4, 3) := by decide +kernel
theorem s153_38 (d : Nat) (l0 : Value) (l1 : Value) (l2 : Value) (l3 : Value) (w0 : Value) (σ : Hs) : ru d 153 38 [l0, l1, l2, l3] [w0] σ = ru d 153 42 [l0, l1, l2, l3] [w0] σ := q_goto t153_38 (by decide +kernel)
theorem t153_41 : decode (mb 153) 41 = .ok (.iload_n 2, 1) := by decide +kernel
theorem s153_41 (d : Nat) (l0 : Value) (l1 : Value) (i2 : Int32) (l3 : Value) (σ : Hs) : ru d 153 41 [l0, l1, .int i2, l3] [] σ = ru d 153 42 [l0, l1, .int i2, l3] [.int i2] σ := q_iload_n t153_41 rfl
theorem t153_42 : decode (mb 153) 42 = .ok (.istore_n 2, 1) := by decide +kernel
theorem s153_42 (d : Nat) (l0 : Value) (i1 : Int32) (l2 : Value) (l3 : Value) (x : Int32) (σ : Hs) : ru d 153 42 [l0, .int i1, l2, l3] [.int x] σ = ru d 153 43 [l0, .int i1, .int x, l3] [] σ := q_istore_n t153_42 ⟨Nat.le_of_ble_eq_true rfl, rfl⟩ rfl
theorem t153_43 : decode (mb 153) 43 = .ok (.iinc 3 1, 3) := by decide +kernel
theorem s153_43 (d : Nat) (l0 : Value) (l1 : Value) (i2 : Int32) (i3 : Int32) (σ : Hs) : ru d 153 43 [l0, l1, .int i2, .int i3] [] σ = ru d 153 46 [l0, l1, .int i2, .int (i3 + 1)] [] σ := q_iinc t153_43 ⟨Nat.le_of_ble_eq_true rfl, rfl⟩ rfl (by decide +kernel) rfl
theorem t153_46 : decode (mb 153) 46 = .ok (.goto (-42), 3) := by decide +kernel
theorem s153_46 (d : Nat) (l0 : Value) (l1 : Value) (l2 : Value) (l3 : Value) (σ : Hs) : ru d 153 46 [l0, l1, l2, l3] [] σ = ru d 153 4 [l0, l1, l2, l3] [] σ := q_goto t153_46 (by decide +kernel)
theorem t153_49 : decode (mb 153) 49 = .ok (.iload_n 2, 1) := by decide +kernel
theorem s153_49 (d : Nat) (l0 : Value) (l1 : Value) (i2 : Int32) (l3 : Value) (σ : Hs) : ru d 153 49 [l0, l1, .int i2, l3] [] σ = ru d 153 50 [l0, l1, .int i2, l3] [.int i2] σ := q_iload_n t153_49 rfl
theorem t153_50 : decode (mb 153) 50 = .ok (.ireturn, 1) := by decide +kernel
theorem s153_50 (d : Nat) (l0 : Value) (l1 : Value) (l2 : Value) (l3 : Value) (x : Int32) (σ : Hs) : ru d 153 50 [l0, l1, l2, l3] [.int x] σ = some (some (.int x), σ) := q_ireti t153_50 mr153
theorem c153 (d : Nat) (x0 : Nat) (x1 : Int32) (σ : Hs) : callD (d + 1) 153 [.ref x0, .int x1] σ = ru d 153 0 [.ref x0, .int x1, uu, uu] [] σ := callD_ru ml153 rfl rfl (Nat.le_of_ble_eq_true rfl)
-- 154: Model.one()V
theorem t154_0 : decode (mb 154) 0 = .ok (.aload_n 0, 1) := by decide +kernel
theorem s154_0 (d : Nat) (a0 : Nat) (l1 : Value) (l2 : Value) (l3 : Value) (σ : Hs) : ru d 154 0 [.ref a0, l1, l2, l3] [] σ = ru d 154 1 [.ref a0, l1, l2, l3] [.ref a0] σ := q_aload_n t154_0 rfl
theorem t154_1 : decode (mb 154) 1 = .ok (.invokevirtual 167, 3) := by decide +kernel
theorem s154_1_o87 (d : Nat) (l0 : Value) (l1 : Value) (l2 : Value) (l3 : Value) (σ : Hs) : ru d 154 1 [l0, l1, l2, l3] [.ref 87] σ = kont (callD d 145 [.ref 87] σ) d 154 4 [l0, l1, l2, l3] [] := q_invv t154_1 mo154 K8_167 mj145 rfl rfl rfl rfl (Nat.le_of_ble_eq_true rfl)
theorem t154_4 : decode (mb 154) 4 = .ok (.istore_n 1, 1) := by decide +kernel
theorem s154_4 (d : Nat) (a0 : Nat) (l1 : Value) (l2 : Value) (l3 : Value) (x : Int32) (σ : Hs) : ru d 154 4 [.ref a0, l1, l2, l3] [.int x] σ = ru d 154 5 [.ref a0, .int x, l2, l3] [] σ := q_istore_n t154_4 ⟨Nat.le_of_ble_eq_true rfl, rfl⟩ rfl
theorem t154_5 : decode (mb 154) 5 = .ok (.iload_n 1, 1) := by decide +kernel
theorem s154_5 (d : Nat) (l0 : Value) (i1 : Int32) (l2 : Value) (l3 : Value) (σ : Hs) : ru d 154 5 [l0, .int i1, l2, l3] [] σ = ru d 154 6 [l0, .int i1, l2, l3] [.int i1] σ := q_iload_n t154_5 rfl
theorem t154_6 : decode (mb 154) 6 = .ok (.bipush 33, 2) := by decide +kernel
theorem s154_6 (d : Nat) (l0 : Value) (l1 : Value) (l2 : Value) (l3 : Value) (w0 : Value) (σ : Hs) : ru d 154 6 [l0, l1, l2, l3] [w0] σ = ru d 154 8 [l0, l1, l2, l3] [.int 33, w0] σ := q_bipush t154_6 (by decide +kernel)
theorem t154_8 : decode (mb 154) 8 = .ok (.if_icmp .eq 9, 3) := by decide +kernel
theorem s154_8 (d : Nat) (l0 : Value) (l1 : Value) (l2 : Value) (l3 : Value) (x y : Int32) (σ : Hs) : ru d 154 8 [l0, l1, l2, l3] [.int y, .int x] σ = if x = y then ru d 154 17 [l0, l1, l2, l3] [] σ else ru d 154 11 [l0, l1, l2, l3] [] σ := q_ic_eq t154_8 (by decide +kernel)
theorem t154_11 : decode (mb 154) 11 = .ok (.iload_n 1, 1) := by decide +kernel
theorem s154_11 (d : Nat) (l0 : Value) (i1 : Int32) (l2 : Value) (l3 : Value) (σ : Hs) : ru d 154 11 [l0, .int i1, l2, l3] [] σ = ru d 154 12 [l0, .int i1, l2, l3] [.int i1] σ := q_iload_n t154_11 rfl
theorem t154_12 : decode (mb 154) 12 = .ok (.bipush 40, 2) := by decide +kernel
theorem s154_12 (d : Nat) (l0 : Value) (l1 : Value) (l2 : Value) (l3 : Value) (w0 : Value) (σ : Hs) : ru d 154 12 [l0, l1, l2, l3] [w0] σ = ru d 154 14 [l0, l1, l2, l3] [.int 40, w0] σ := q_bipush t154_12 (by decide +kernel)
theorem t154_14 : decode (mb 154) 14 = .ok (.if_icmp .ne 102, 3) := by decide +kernel
theorem s154_14 (d : Nat) (l0 : Value) (l1 : Value) (l2 : Value) (l3 : Value) (x y : Int32) (σ : Hs) : ru d 154 14 [l0, l1, l2, l3] [.int y, .int x] σ = if x = y then ru d 154 17 [l0, l1, l2, l3] [] σ else ru d 154 116 [l0, l1, l2, l3] [] σ := q_ic_ne t154_14 (by decide +kernel)
theorem t154_17 : decode (mb 154) 17 = .ok (.aload_n 0, 1) := by decide +kernel
theorem s154_17 (d : Nat) (a0 : Nat) (l1 : Value) (l2 : Value) (l3 : Value) (σ : Hs) : ru d 154 17 [.ref a0, l1, l2, l3] [] σ = ru d 154 18 [.ref a0, l1, l2, l3] [.ref a0] σ := q_aload_n t154_17 rfl
theorem t154_18 : decode (mb 154) 18 = .ok (.aload_n 0, 1) := by decide +kernel
theorem s154_18 (d : Nat) (a0 : Nat) (l1 : Value) (l2 : Value) (l3 : Value) (w0 : Value) (σ : Hs) : ru d 154 18 [.ref a0, l1, l2, l3] [w0] σ = ru d 154 19 [.ref a0, l1, l2, l3] [.ref a0, w0] σ := q_aload_n t154_18 rfl
theorem t154_19 : decode (mb 154) 19 = .ok (.getfield 205, 3) := by decide +kernel
theorem s154_19_o87 (d : Nat) (l0 : Value) (l1 : Value) (l2 : Value) (l3 : Value) (w0 : Value) (σ : Hs) : ru d 154 19 [l0, l1, l2, l3] [.ref 87, w0] σ = ru d 154 22 [l0, l1, l2, l3] [.int (σ 87 10), w0] σ := q_getf t154_19 mo154 F8_205 rfl rfl
theorem t154_22 : decode (mb 154) 22 = .ok (.iconst 5, 1) := by decide +kernel
theorem s154_22 (d : Nat) (l0 : Value) (l1 : Value) (l2 : Value) (l3 : Value) (w0 w1 : Value) (σ : Hs) : ru d 154 22 [l0, l1, l2, l3] [w0, w1] σ = ru d 154 23 [l0, l1, l2, l3] [.int 5, w0, w1] σ := q_iconst t154_22 (by decide +kernel)
theorem t154_23 : decode (mb 154) 23 = .ok (.if_icmp .ne 7, 3) := by decide +kernel
theorem s154_23 (d : Nat) (l0 : Value) (l1 : Value) (l2 : Value) (l3 : Value) (x y : Int32) (w0 : Value) (σ : Hs) : ru d 154 23 [l0, l1, l2, l3] [.int y, .int x, w0] σ = if x = y then ru d 154 26 [l0, l1, l2, l3] [w0] σ else ru d 154 30 [l0, l1, l2, l3] [w0] σ := q_ic_ne t154_23 (by decide +kernel)
theorem t154_26 : decode (mb 154) 26 = .ok (.iconst 1, 1) := by decide +kernel
theorem s154_26 (d : Nat) (l0 : Value) (l1 : Value) (l2 : Value) (l3 : Value) (w0 : Value) (σ : Hs) : ru d 154 26 [l0, l1, l2, l3] [w0] σ = ru d 154 27 [l0, l1, l2, l3] [.int 1, w0] σ := q_iconst t154_26 (by decide +kernel)
theorem t154_27 : decode (mb 154) 27 = .ok (.goto 4, 3) := by decide +kernel
theorem s154_27 (d : Nat) (l0 : Value) (l1 : Value) (l2 : Value) (l3 : Value) (w0 w1 : Value) (σ : Hs) : ru d 154 27 [l0, l1, l2, l3] [w0, w1] σ = ru d 154 31 [l0, l1, l2, l3] [w0, w1] σ := q_goto t154_27 (by decide +kernel)
theorem t154_30 : decode (mb 154) 30 = .ok (.iconst 0, 1) := by decide +kernel
theorem s154_30 (d : Nat) (l0 : Value) (l1 : Value) (l2 : Value) (l3 : Value) (w0 : Value) (σ : Hs) : ru d 154 30 [l0, l1, l2, l3] [w0] σ = ru d 154 31 [l0, l1, l2, l3] [.int 0, w0] σ := q_iconst t154_30 (by decide +kernel)
theorem t154_31 : decode (mb 154) 31 = .ok (.putfield 159, 3) := by decide +kernel
theorem s154_31_o87 (d : Nat) (l0 : Value) (l1 : Value) (l2 : Value) (l3 : Value) (x : Int32) (hx : isB x) (σ : Hs) : ru d 154 31 [l0, l1, l2, l3] [.int x, .ref 87] σ = ru d 154 34 [l0, l1, l2, l3] [] (up2 σ 87 12 x) := q_putz t154_31 mo154 F8_159 (by decide +kernel) rfl rfl hx
theorem t154_34 : decode (mb 154) 34 = .ok (.aload_n 0, 1) := by decide +kernel
theorem s154_34 (d : Nat) (a0 : Nat) (l1 : Value) (l2 : Value) (l3 : Value) (σ : Hs) : ru d 154 34 [.ref a0, l1, l2, l3] [] σ = ru d 154 35 [.ref a0, l1, l2, l3] [.ref a0] σ := q_aload_n t154_34 rfl
theorem t154_35 : decode (mb 154) 35 = .ok (.getfield 159, 3) := by decide +kernel
theorem s154_35_o87 (d : Nat) (l0 : Value) (l1 : Value) (l2 : Value) (l3 : Value) (σ : Hs) : ru d 154 35 [l0, l1, l2, l3] [.ref 87] σ = ru d 154 38 [l0, l1, l2, l3] [.int (σ 87 12)] σ := q_getf t154_35 mo154 F8_159 rfl rfl
theorem t154_38 : decode (mb 154) 38 = .ok (.ifCond .ne 209, 3) := by decide +kernel
theorem s154_38 (d : Nat) (l0 : Value) (l1 : Value) (l2 : Value) (l3 : Value) (x : Int32) (σ : Hs) : ru d 154 38 [l0, l1, l2, l3] [.int x] σ = if x = 0 then ru d 154 41 [l0, l1, l2, l3] [] σ else ru d 154 247 [l0, l1, l2, l3] [] σ := q_if_ne t154_38 (by decide +kernel)
theorem t154_41 : decode (mb 154) 41 = .ok (.aload_n 0, 1) := by decide +kernel
theorem s154_41 (d : Nat) (a0 : Nat) (l1 : Value) (l2 : Value) (l3 : Value) (σ : Hs) : ru d 154 41 [.ref a0, l1, l2, l3] [] σ = ru d 154 42 [.ref a0, l1, l2, l3] [.ref a0] σ := q_aload_n t154_41 rfl
theorem t154_42 : decode (mb 154) 42 = .ok (.dup, 1) := by decide +kernel
theorem s154_42 (d : Nat) (l0 : Value) (l1 : Value) (l2 : Value) (l3 : Value) (x : Nat) (σ : Hs) : ru d 154 42 [l0, l1, l2, l3] [.ref x] σ = ru d 154 43 [l0, l1, l2, l3] [.ref x, .ref x] σ := q_dup t154_42 rfl
theorem t154_43 : decode (mb 154) 43 = .ok (.getfield 205, 3) := by decide +kernel
theorem s154_43_o87 (d : Nat) (l0 : Value) (l1 : Value) (l2 : Value) (l3 : Value) (w0 : Value) (σ : Hs) : ru d 154 43 [l0, l1, l2, l3] [.ref 87, w0] σ = ru d 154 46 [l0, l1, l2, l3] [.int (σ 87 10), w0] σ := q_getf t154_43 mo154 F8_205 rfl rfl
theorem t154_46 : decode (mb 154) 46 = .ok (.iconst 1, 1) := by decide +kernel
theorem s154_46 (d : Nat) (l0 : Value) (l1 : Value) (l2 : Value) (l3 : Value) (w0 w1 : Value) (σ : Hs) : ru d 154 46 [l0, l1, l2, l3] [w0, w1] σ = ru d 154 47 [l0, l1, l2, l3] [.int 1, w0, w1] σ := q_iconst t154_46 (by decide +kernel)
theorem t154_47 : decode (mb 154) 47 = .ok (.iadd, 1) := by decide +kernel
theorem s154_47 (d : Nat) (l0 : Value) (l1 : Value) (l2 : Value) (l3 : Value) (x y : Int32) (w0 : Value) (σ : Hs) : ru d 154 47 [l0, l1, l2, l3] [.int y, .int x, w0] σ = ru d 154 48 [l0, l1, l2, l3] [.int (x + y), w0] σ := q_iadd t154_47
theorem t154_48 : decode (mb 154) 48 = .ok (.putfield 205, 3) := by decide +kernel
theorem s154_48_o87 (d : Nat) (l0 : Value) (l1 : Value) (l2 : Value) (l3 : Value) (x : Int32) (σ : Hs) : ru d 154 48 [l0, l1, l2, l3] [.int x, .ref 87] σ = ru d 154 51 [l0, l1, l2, l3] [] (up2 σ 87 10 x) := q_puti t154_48 mo154 F8_205 (by decide +kernel) rfl rfl
theorem t154_51 : decode (mb 154) 51 = .ok (.aload_n 0, 1) := by decide +kernel
theorem s154_51 (d : Nat) (a0 : Nat) (l1 : Value) (l2 : Value) (l3 : Value) (σ : Hs) : ru d 154 51 [.ref a0, l1, l2, l3] [] σ = ru d 154 52 [.ref a0, l1, l2, l3] [.ref a0] σ := q_aload_n t154_51 rfl
theorem t154_52 : decode (mb 154) 52 = .ok (.dup, 1) := by decide +kernel
theorem s154_52 (d : Nat) (l0 : Value) (l1 : Value) (l2 : Value) (l3 : Value) (x : Nat) (σ : Hs) : ru d 154 52 [l0, l1, l2, l3] [.ref x] σ = ru d 154 53 [l0, l1, l2, l3] [.ref x, .ref x] σ := q_dup t154_52 rfl
theorem t154_53 : decode (mb 154) 53 = .ok (.getfield 163, 3) := by decide +kernel
theorem s154_53_o87 (d : Nat) (l0 : Value) (l1 : Value) (l2 : Value) (l3 : Value) (w0 : Value) (σ : Hs) : ru d 154 53 [l0, l1, l2, l3] [.ref 87, w0] σ = ru d 154 56 [l0, l1, l2, l3] [.int (σ 87 9), w0] σ := q_getf t154_53 mo154 F8_163 rfl rfl
theorem t154_56 : decode (mb 154) 56 = .ok (.iconst 1, 1) := by decide +kernel
theorem s154_56 (d : Nat) (l0 : Value) (l1 : Value) (l2 : Value) (l3 : Value) (w0 w1 : Value) (σ : Hs) : ru d 154 56 [l0, l1, l2, l3] [w0, w1] σ = ru d 154 57 [l0, l1, l2, l3] [.int 1, w0, w1] σ := q_iconst t154_56 (by decide +kernel)
theorem t154_57 : decode (mb 154) 57 = .ok (.iadd, 1) := by decide +kernel
theorem s154_57 (d : Nat) (l0 : Value) (l1 : Value) (l2 : Value) (l3 : Value) (x y : Int32) (w0 : Value) (σ : Hs) : ru d 154 57 [l0, l1, l2, l3] [.int y, .int x, w0] σ = ru d 154 58 [l0, l1, l2, l3] [.int (x + y), w0] σ := q_iadd t154_57
theorem t154_58 : decode (mb 154) 58 = .ok (.putfield 163, 3) := by decide +kernel
theorem s154_58_o87 (d : Nat) (l0 : Value) (l1 : Value) (l2 : Value) (l3 : Value) (x : Int32) (σ : Hs) : ru d 154 58 [l0, l1, l2, l3] [.int x, .ref 87] σ = ru d 154 61 [l0, l1, l2, l3] [] (up2 σ 87 9 x) := q_puti t154_58 mo154 F8_163 (by decide +kernel) rfl rfl
theorem t154_61 : decode (mb 154) 61 = .ok (.iload_n 1, 1) := by decide +kernel
theorem s154_61 (d : Nat) (l0 : Value) (i1 : Int32) (l2 : Value) (l3 : Value) (σ : Hs) : ru d 154 61 [l0, .int i1, l2, l3] [] σ = ru d 154 62 [l0, .int i1, l2, l3] [.int i1] σ := q_iload_n t154_61 rfl
theorem t154_62 : decode (mb 154) 62 = .ok (.bipush 33, 2) := by decide +kernel
theorem s154_62 (d : Nat) (l0 : Value) (l1 : Value) (l2 : Value) (l3 : Value) (w0 : Value) (σ : Hs) : ru d 154 62 [l0, l1, l2, l3] [w0] σ = ru d 154 64 [l0, l1, l2, l3] [.int 33, w0] σ := q_bipush t154_62 (by decide +kernel)
theorem t154_64 : decode (mb 154) 64 = .ok (.if_icmp .ne 17, 3) := by decide +kernel
theorem s154_64 (d : Nat) (l0 : Value) (l1 : Value) (l2 : Value) (l3 : Value) (x y : Int32) (σ : Hs) : ru d 154 64 [l0, l1, l2, l3] [.int y, .int x] σ = if x = y then ru d 154 67 [l0, l1, l2, l3] [] σ else ru d 154 81 [l0, l1, l2, l3] [] σ := q_ic_ne t154_64 (by decide +kernel)
theorem t154_67 : decode (mb 154) 67 = .ok (.aload_n 0, 1) := by decide +kernel
theorem s154_67 (d : Nat) (a0 : Nat) (l1 : Value) (l2 : Value) (l3 : Value) (σ : Hs) : ru d 154 67 [.ref a0, l1, l2, l3] [] σ = ru d 154 68 [.ref a0, l1, l2, l3] [.ref a0] σ := q_aload_n t154_67 rfl
theorem t154_68 : decode (mb 154) 68 = .ok (.invokevirtual 192, 3) := by decide +kernel
theorem s154_68_o87 (d : Nat) (l0 : Value) (l1 : Value) (l2 : Value) (l3 : Value) (σ : Hs) : ru d 154 68 [l0, l1, l2, l3] [.ref 87] σ = kont (callD d 154 [.ref 87] σ) d 154 71 [l0, l1, l2, l3] [] := q_invv t154_68 mo154 K8_192 mj154 rfl rfl rfl rfl (Nat.le_of_ble_eq_true rfl)
theorem t154_71 : decode (mb 154) 71 = .ok (.aload_n 0, 1) := by decide +kernel
theorem s154_71 (d : Nat) (a0 : Nat) (l1 : Value) (l2 : Value) (l3 : Value) (σ : Hs) : ru d 154 71 [.ref a0, l1, l2, l3] [] σ = ru d 154 72 [.ref a0, l1, l2, l3] [.ref a0] σ := q_aload_n t154_71 rfl
theorem t154_72 : decode (mb 154) 72 = .ok (.sipush 20010, 3) := by decide +kernel
theorem s154_72 (d : Nat) (l0 : Value) (l1 : Value) (l2 : Value) (l3 : Value) (w0 : Value) (σ : Hs) : ru d 154 72 [l0, l1, l2, l3] [w0] σ = ru d 154 75 [l0, l1, l2, l3] [.int 20010, w0] σ := q_sipush t154_72 (by decide +kernel)
theorem t154_75 : decode (mb 154) 75 = .ok (.invokevirtual 180, 3) := by decide +kernel
theorem s154_75_o87 (d : Nat) (l0 : Value) (l1 : Value) (l2 : Value) (l3 : Value) (v1 : Value) (σ : Hs) : ru d 154 75 [l0, l1, l2, l3] [v1, .ref 87] σ = kont (callD d 147 [.ref 87, v1] σ) d 154 78 [l0, l1, l2, l3] [] := q_invv t154_75 mo154 K8_180 mj147 rfl rfl rfl rfl (Nat.le_of_ble_eq_true rfl)
theorem t154_78 : decode (mb 154) 78 = .ok (.goto 25, 3) := by decide +kernel
theorem s154_78 (d : Nat) (l0 : Value) (l1 : Value) (l2 : Value) (l3 : Value) (σ : Hs) : ru d 154 78 [l0, l1, l2, l3] [] σ = ru d 154 103 [l0, l1, l2, l3] [] σ := q_goto t154_78 (by decide +kernel)
theorem t154_81 : decode (mb 154) 81 = .ok (.aload_n 0, 1) := by decide +kernel
theorem s154_81 (d : Nat) (a0 : Nat) (l1 : Value) (l2 : Value) (l3 : Value) (σ : Hs) : ru d 154 81 [.ref a0, l1, l2, l3] [] σ = ru d 154 82 [.ref a0, l1, l2, l3] [.ref a0] σ := q_aload_n t154_81 rfl
theorem t154_82 : decode (mb 154) 82 = .ok (.invokevirtual 208, 3) := by decide +kernel
theorem s154_82_o87 (d : Nat) (l0 : Value) (l1 : Value) (l2 : Value) (l3 : Value) (σ : Hs) : ru d 154 82 [l0, l1, l2, l3] [.ref 87] σ = kont (callD d 148 [.ref 87] σ) d 154 85 [l0, l1, l2, l3] [] := q_invv t154_82 mo154 K8_208 mj148 rfl rfl rfl rfl (Nat.le_of_ble_eq_true rfl)
theorem t154_85 : decode (mb 154) 85 = .ok (.aload_n 0, 1) := by decide +kernel
theorem s154_85 (d : Nat) (a0 : Nat) (l1 : Value) (l2 : Value) (l3 : Value) (σ : Hs) : ru d 154 85 [.ref a0, l1, l2, l3] [] σ = ru d 154 86 [.ref a0, l1, l2, l3] [.ref a0] σ := q_aload_n t154_85 rfl
theorem t154_86 : decode (mb 154) 86 = .ok (.aload_n 0, 1) := by decide +kernel
theorem s154_86 (d : Nat) (a0 : Nat) (l1 : Value) (l2 : Value) (l3 : Value) (w0 : Value) (σ : Hs) : ru d 154 86 [.ref a0, l1, l2, l3] [w0] σ = ru d 154 87 [.ref a0, l1, l2, l3] [.ref a0, w0] σ := q_aload_n t154_86 rfl
theorem t154_87 : decode (mb 154) 87 = .ok (.bipush 41, 2) := by decide +kernel
theorem s154_87 (d : Nat) (l0 : Value) (l1 : Value) (l2 : Value) (l3 : Value) (w0 w1 : Value) (σ : Hs) : ru d 154 87 [l0, l1, l2, l3] [w0, w1] σ = ru d 154 89 [l0, l1, l2, l3] [.int 41, w0, w1] σ := q_bipush t154_87 (by decide +kernel)
theorem t154_89 : decode (mb 154) 89 = .ok (.invokevirtual 177, 3) := by decide +kernel
theorem s154_89_o87 (d : Nat) (l0 : Value) (l1 : Value) (l2 : Value) (l3 : Value) (v1 : Value) (w0 : Nat) (σ : Hs) : ru d 154 89 [l0, l1, l2, l3] [v1, .ref 87, .ref w0] σ = kont (callD d 146 [.ref 87, v1] σ) d 154 92 [l0, l1, l2, l3] [.ref w0] := q_invv t154_89 mo154 K8_177 mj146 rfl rfl rfl rfl (Nat.le_of_ble_eq_true rfl)
theorem t154_92 : decode (mb 154) 92 = .ok (.ifCond .ne 7, 3) := by decide +kernel
theorem s154_92 (d : Nat) (l0 : Value) (l1 : Value) (l2 : Value) (l3 : Value) (x : Int32) (w0 : Value) (σ : Hs) : ru d 154 92 [l0, l1, l2, l3] [.int x, w0] σ = if x = 0 then ru d 154 95 [l0, l1, l2, l3] [w0] σ else ru d 154 99 [l0, l1, l2, l3] [w0] σ := q_if_ne t154_92 (by decide +kernel)
theorem t154_95 : decode (mb 154) 95 = .ok (.iconst 1, 1) := by decide +kernel
theorem s154_95 (d : Nat) (l0 : Value) (l1 : Value) (l2 : Value) (l3 : Value) (w0 : Value) (σ : Hs) : ru d 154 95 [l0, l1, l2, l3] [w0] σ = ru d 154 96 [l0, l1, l2, l3] [.int 1, w0] σ := q_iconst t154_95 (by decide +kernel)
theorem t154_96 : decode (mb 154) 96 = .ok (.goto 4, 3) := by decide +kernel
theorem s154_96 (d : Nat) (l0 : Value) (l1 : Value) (l2 : Value) (l3 : Value) (w0 w1 : Value) (σ : Hs) : ru d 154 96 [l0, l1, l2, l3] [w0, w1] σ = ru d 154 100 [l0, l1, l2, l3] [w0, w1] σ := q_goto t154_96 (by decide +kernel)
theorem t154_99 : decode (mb 154) 99 = .ok (.iconst 0, 1) := by decide +kernel
theorem s154_99 (d : Nat) (l0 : Value) (l1 : Value) (l2 : Value) (l3 : Value) (w0 : Value) (σ : Hs) : ru d 154 99 [l0, l1, l2, l3] [w0] σ = ru d 154 100 [l0, l1, l2, l3] [.int 0, w0] σ := q_iconst t154_99 (by decide +kernel)
theorem t154_100 : decode (mb 154) 100 = .ok (.putfield 159, 3) := by decide +kernel
theorem s154_100_o87 (d : Nat) (l0 : Value) (l1 : Value) (l2 : Value) (l3 : Value) (x : Int32) (hx : isB x) (σ : Hs) : ru d 154 100 [l0, l1, l2, l3] [.int x, .ref 87] σ = ru d 154 103 [l0, l1, l2, l3] [] (up2 σ 87 12 x) := q_putz t154_100 mo154 F8_159 (by decide +kernel) rfl rfl hx
theorem t154_103 : decode (mb 154) 103 = .ok (.aload_n 0, 1) := by decide +kernel
theorem s154_103 (d : Nat) (a0 : Nat) (l1 : Value) (l2 : Value) (l3 : Value) (σ : Hs) : ru d 154 103 [.ref a0, l1, l2, l3] [] σ = ru d 154 104 [.ref a0, l1, l2, l3] [.ref a0] σ := q_aload_n t154_103 rfl
theorem t154_104 : decode (mb 154) 104 = .ok (.dup, 1) := by decide +kernel
theorem s154_104 (d : Nat) (l0 : Value) (l1 : Value) (l2 : Value) (l3 : Value) (x : Nat) (σ : Hs) : ru d 154 104 [l0, l1, l2, l3] [.ref x] σ = ru d 154 105 [l0, l1, l2, l3] [.ref x, .ref x] σ := q_dup t154_104 rfl
theorem t154_105 : decode (mb 154) 105 = .ok (.getfield 205, 3) := by decide +kernel
theorem s154_105_o87 (d : Nat) (l0 : Value) (l1 : Value) (l2 : Value) (l3 : Value) (w0 : Value) (σ : Hs) : ru d 154 105 [l0, l1, l2, l3] [.ref 87, w0] σ = ru d 154 108 [l0, l1, l2, l3] [.int (σ 87 10), w0] σ := q_getf t154_105 mo154 F8_205 rfl rfl
theorem t154_108 : decode (mb 154) 108 = .ok (.iconst 1, 1) := by decide +kernel
theorem s154_108 (d : Nat) (l0 : Value) (l1 : Value) (l2 : Value) (l3 : Value) (w0 w1 : Value) (σ : Hs) : ru d 154 108 [l0, l1, l2, l3] [w0, w1] σ = ru d 154 109 [l0, l1, l2, l3] [.int 1, w0, w1] σ := q_iconst t154_108 (by decide +kernel)
theorem t154_109 : decode (mb 154) 109 = .ok (.isub, 1) := by decide +kernel
theorem s154_109 (d : Nat) (l0 : Value) (l1 : Value) (l2 : Value) (l3 : Value) (x y : Int32) (w0 : Value) (σ : Hs) : ru d 154 109 [l0, l1, l2, l3] [.int y, .int x, w0] σ = ru d 154 110 [l0, l1, l2, l3] [.int (x - y), w0] σ := q_isub t154_109
theorem t154_110 : decode (mb 154) 110 = .ok (.putfield 205, 3) := by decide +kernel
theorem s154_110_o87 (d : Nat) (l0 : Value) (l1 : Value) (l2 : Value) (l3 : Value) (x : Int32) (σ : Hs) : ru d 154 110 [l0, l1, l2, l3] [.int x, .ref 87] σ = ru d 154 113 [l0, l1, l2, l3] [] (up2 σ 87 10 x) := q_puti t154_110 mo154 F8_205 (by decide +kernel) rfl rfl
theorem t154_113 : decode (mb 154) 113 = .ok (.goto 134, 3) := by decide +kernel
theorem s154_113 (d : Nat) (l0 : Value) (l1 : Value) (l2 : Value) (l3 : Value) (σ : Hs) : ru d 154 113 [l0, l1, l2, l3] [] σ = ru d 154 247 [l0, l1, l2, l3] [] σ := q_goto t154_113 (by decide +kernel)
theorem t154_116 : decode (mb 154) 116 = .ok (.iload_n 1, 1) := by decide +kernel
theorem s154_116 (d : Nat) (l0 : Value) (i1 : Int32) (l2 : Value) (l3 : Value) (σ : Hs) : ru d 154 116 [l0, .int i1, l2, l3] [] σ = ru d 154 117 [l0, .int i1, l2, l3] [.int i1] σ := q_iload_n t154_116 rfl
theorem t154_117 : decode (mb 154) 117 = .ok (.bipush 48, 2) := by decide +kernel
theorem s154_117 (d : Nat) (l0 : Value) (l1 : Value) (l2 : Value) (l3 : Value) (w0 : Value) (σ : Hs) : ru d 154 117 [l0, l1, l2, l3] [w0] σ = ru d 154 119 [l0, l1, l2, l3] [.int 48, w0] σ := q_bipush t154_117 (by decide +kernel)
theorem t154_119 : decode (mb 154) 119 = .ok (.bipush 57, 2) := by decide +kernel
theorem s154_119 (d : Nat) (l0 : Value) (l1 : Value) (l2 : Value) (l3 : Value) (w0 w1 : Value) (σ : Hs) : ru d 154 119 [l0, l1, l2, l3] [w0, w1] σ = ru d 154 121 [l0, l1, l2, l3] [.int 57, w0, w1] σ := q_bipush t154_119 (by decide +kernel)
theorem t154_121 : decode (mb 154) 121 = .ok (.invokestatic 81, 3) := by decide +kernel
theorem s154_121 (d : Nat) (l0 : Value) (l1 : Value) (l2 : Value) (l3 : Value) (v0 v1 v2 : Value) (σ : Hs) : ru d 154 121 [l0, l1, l2, l3] [v2, v1, v0] σ = kont (callD d 113 [v0, v1, v2] σ) d 154 124 [l0, l1, l2, l3] [] := q_invs t154_121 mo154 (by decide +kernel) K8_81 mj113 (Nat.le_of_ble_eq_true rfl) rfl rfl (Nat.le_of_ble_eq_true rfl)
theorem t154_124 : decode (mb 154) 124 = .ok (.ifCond .eq 63, 3) := by decide +kernel
theorem s154_124 (d : Nat) (l0 : Value) (l1 : Value) (l2 : Value) (l3 : Value) (x : Int32) (σ : Hs) : ru d 154 124 [l0, l1, l2, l3] [.int x] σ = if x = 0 then ru d 154 187 [l0, l1, l2, l3] [] σ else ru d 154 127 [l0, l1, l2, l3] [] σ := q_if_eq t154_124 (by decide +kernel)
theorem t154_127 : decode (mb 154) 127 = .ok (.iconst 0, 1) := by decide +kernel
theorem s154_127 (d : Nat) (l0 : Value) (l1 : Value) (l2 : Value) (l3 : Value) (σ : Hs) : ru d 154 127 [l0, l1, l2, l3] [] σ = ru d 154 128 [l0, l1, l2, l3] [.int 0] σ := q_iconst t154_127 (by decide +kernel)
theorem t154_128 : decode (mb 154) 128 = .ok (.istore_n 2, 1) := by decide +kernel
theorem s154_128 (d : Nat) (l0 : Value) (i1 : Int32) (l2 : Value) (l3 : Value) (x : Int32) (σ : Hs) : ru d 154 128 [l0, .int i1, l2, l3] [.int x] σ = ru d 154 129 [l0, .int i1, .int x, l3] [] σ := q_istore_n t154_128 ⟨Nat.le_of_ble_eq_true rfl, rfl⟩ rfl
theorem t154_129 : decode (mb 154) 129 = .ok (.iconst 0, 1) := by decide +kernel
theorem s154_129 (d : Nat) (l0 : Value) (l1 : Value) (l2 : Value) (l3 : Value) (σ : Hs) : ru d 154 129 [l0, l1, l2, l3] [] σ = ru d 154 130 [l0, l1, l2, l3] [.int 0] σ := q_iconst t154_129 (by decide +kernel)
theorem t154_130 : decode (mb 154) 130 = .ok (.istore_n 3, 1) := by decide +kernel
theorem s154_130 (d : Nat) (l0 : Value) (l1 : Value) (i2 : Int32) (l3 : Value) (x : Int32) (σ : Hs) : ru d 154 130 [l0, l1, .int i2, l3] [.int x] σ = ru d 154 131 [l0, l1, .int i2, .int x] [] σ := q_istore_n t154_130 ⟨Nat.le_of_ble_eq_true rfl, rfl⟩ rfl
theorem t154_131 : decode (mb 154) 131 = .ok (.iload_n 3, 1) := by decide +kernel
theorem s154_131 (d : Nat) (l0 : Value) (l1 : Value) (l2 : Value) (i3 : Int32) (σ : Hs) : ru d 154 131 [l0, l1, l2, .int i3] [] σ = ru d 154 132 [l0, l1, l2, .int i3] [.int i3] σ := q_iload_n t154_131 rfl
theorem t154_132 : decode (mb 154) 132 = .ok (.iconst 4, 1) := by decide +kernel
theorem s154_132 (d : Nat) (l0 : Value) (l1 : Value) (l2 : Value) (l3 : Value) (w0 : Value) (σ : Hs) : ru d 154 132 [l0, l1, l2, l3] [w0] σ = ru d 154 133 [l0, l1, l2, l3] [.int 4, w0] σ := q_iconst t154_132 (by decide +kernel)
theorem t154_133 : decode (mb 154) 133 = .ok (.if_icmp .ge 46, 3) := by decide +kernel
theorem s154_133 (d : Nat) (l0 : Value) (l1 : Value) (l2 : Value) (l3 : Value) (x y : Int32) (σ : Hs) : ru d 154 133 [l0, l1, l2, l3] [.int y, .int x] σ = if y ≤ x then ru d 154 179 [l0, l1, l2, l3] [] σ else ru d 154 136 [l0, l1, l2, l3] [] σ := q_ic_ge t154_133 (by decide +kernel)
theorem t154_136 : decode (mb 154) 136 = .ok (.aload_n 0, 1) := by decide +kernel
theorem s154_136 (d : Nat) (a0 : Nat) (l1 : Value) (l2 : Value) (l3 : Value) (σ : Hs) : ru d 154 136 [.ref a0, l1, l2, l3] [] σ = ru d 154 137 [.ref a0, l1, l2, l3] [.ref a0] σ := q_aload_n t154_136 rfl
theorem t154_137 : decode (mb 154) 137 = .ok (.invokevirtual 167, 3) := by decide +kernel
theorem s154_137_o87 (d : Nat) (l0 : Value) (l1 : Value) (l2 : Value) (l3 : Value) (σ : Hs) : ru d 154 137 [l0, l1, l2, l3] [.ref 87] σ = kont (callD d 145 [.ref 87] σ) d 154 140 [l0, l1, l2, l3] [] := q_invv t154_137 mo154 K8_167 mj145 rfl rfl rfl rfl (Nat.le_of_ble_eq_true rfl)
theorem t154_140 : decode (mb 154) 140 = .ok (.bipush 48, 2) := by decide +kernel
theorem s154_140 (d : Nat) (l0 : Value) (l1 : Value) (l2 : Value) (l3 : Value) (w0 : Value) (σ : Hs) : ru d 154 140 [l0, l1, l2, l3] [w0] σ = ru d 154 142 [l0, l1, l2, l3] [.int 48, w0] σ := q_bipush t154_140 (by decide +kernel)
theorem t154_142 : decode (mb 154) 142 = .ok (.bipush 57, 2) := by decide +kernel
theorem s154_142 (d : Nat) (l0 : Value) (l1 : Value) (l2 : Value) (l3 : Value) (w0 w1 : Value) (σ : Hs) : ru d 154 142 [l0, l1, l2, l3] [w0, w1] σ = ru d 154 144 [l0, l1, l2, l3] [.int 57, w0, w1] σ := q_bipush t154_142 (by decide +kernel)
theorem t154_144 : decode (mb 154) 144 = .ok (.invokestatic 81, 3) := by decide +kernel
theorem s154_144 (d : Nat) (l0 : Value) (l1 : Value) (l2 : Value) (l3 : Value) (v0 v1 v2 : Value) (σ : Hs) : ru d 154 144 [l0, l1, l2, l3] [v2, v1, v0] σ = kont (callD d 113 [v0, v1, v2] σ) d 154 147 [l0, l1, l2, l3] [] := q_invs t154_144 mo154 (by decide +kernel) K8_81 mj113 (Nat.le_of_ble_eq_true rfl) rfl rfl (Nat.le_of_ble_eq_true rfl)
theorem t154_147 : decode (mb 154) 147 = .ok (.ifCond .eq 32, 3) := by decide +kernel
theorem s154_147 (d : Nat) (l0 : Value) (l1 : Value) (l2 : Value) (l3 : Value) (x : Int32) (σ : Hs) : ru d 154 147 [l0, l1, l2, l3] [.int x] σ = if x = 0 then ru d 154 179 [l0, l1, l2, l3] [] σ else ru d 154 150 [l0, l1, l2, l3] [] σ := q_if_eq t154_147 (by decide +kernel)
theorem t154_150 : decode (mb 154) 150 = .ok (.bipush 10, 2) := by decide +kernel
theorem s154_150 (d : Nat) (l0 : Value) (l1 : Value) (l2 : Value) (l3 : Value) (σ : Hs) : ru d 154 150 [l0, l1, l2, l3] [] σ = ru d 154 152 [l0, l1, l2, l3] [.int 10] σ := q_bipush t154_150 (by decide +kernel)
theorem t154_152 : decode (mb 154) 152 = .ok (.iload_n 2, 1) := by decide +kernel
theorem s154_152 (d : Nat) (l0 : Value) (l1 : Value) (i2 : Int32) (l3 : Value) (w0 : Value) (σ : Hs) : ru d 154 152 [l0, l1, .int i2, l3] [w0] σ = ru d 154 153 [l0, l1, .int i2, l3] [.int i2, w0] σ := q_iload_n t154_152 rfl
theorem t154_153 : decode (mb 154) 153 = .ok (.imul, 1) := by decide +kernel
theorem s154_153 (d : Nat) (l0 : Value) (l1 : Value) (l2 : Value) (l3 : Value) (x y : Int32) (σ : Hs) : ru d 154 153 [l0, l1, l2, l3] [.int y, .int x] σ = ru d 154 154 [l0, l1, l2, l3] [.int (x * y)] σ := q_imul t154_153
theorem t154_154 : decode (mb 154) 154 = .ok (.aload_n 0, 1) := by decide +kernel
theorem s154_154 (d : Nat) (a0 : Nat) (l1 : Value) (l2 : Value) (l3 : Value) (w0 : Value) (σ : Hs) : ru d 154 154 [.ref a0, l1, l2, l3] [w0] σ = ru d 154 155 [.ref a0, l1, l2, l3] [.ref a0, w0] σ := q_aload_n t154_154 rfl
theorem t154_155 : decode (mb 154) 155 = .ok (.invokevirtual 167, 3) := by decide +kernel
theorem s154_155_o87 (d : Nat) (l0 : Value) (l1 : Value) (l2 : Value) (l3 : Value) (w0 : Int32) (σ : Hs) : ru d 154 155 [l0, l1, l2, l3] [.ref 87, .int w0] σ = kont (callD d 145 [.ref 87] σ) d 154 158 [l0, l1, l2, l3] [.int w0] := q_invv t154_155 mo154 K8_167 mj145 rfl rfl rfl rfl (Nat.le_of_ble_eq_true rfl)
theorem t154_158 : decode (mb 154) 158 = .ok (.iadd, 1) := by decide +kernel
theorem s154_158 (d : Nat) (l0 : Value) (l1 : Value) (l2 : Value) (l3 : Value) (x y : Int32) (σ : Hs) : ru d 154 158 [l0, l1, l2, l3] [.int y, .int x] σ = ru d 154 159 [l0, l1, l2, l3] [.int (x + y)] σ := q_iadd t154_158
theorem t154_159 : decode (mb 154) 159 = .ok (.bipush 48, 2) := by decide +kernel
theorem s154_159 (d : Nat) (l0 : Value) (l1 : Value) (l2 : Value) (l3 : Value) (w0 : Value) (σ : Hs) : ru d 154 159 [l0, l1, l2, l3] [w0] σ = ru d 154 161 [l0, l1, l2, l3] [.int 48, w0] σ := q_bipush t154_159 (by decide +kernel)
theorem t154_161 : decode (mb 154) 161 = .ok (.isub, 1) := by decide +kernel
theorem s154_161 (d : Nat) (l0 : Value) (l1 : Value) (l2 : Value) (l3 : Value) (x y : Int32) (σ : Hs) : ru d 154 161 [l0, l1, l2, l3] [.int y, .int x] σ = ru d 154 162 [l0, l1, l2, l3] [.int (x - y)] σ := q_isub t154_161
theorem t154_162 : decode (mb 154) 162 = .ok (.istore_n 2, 1) := by decide +kernel
theorem s154_162 (d : Nat) (l0 : Value) (i1 : Int32) (l2 : Value) (l3 : Value) (x : Int32) (σ : Hs) : ru d 154 162 [l0, .int i1, l2, l3] [.int x] σ = ru d 154 163 [l0, .int i1, .int x, l3] [] σ := q_istore_n t154_162 ⟨Nat.le_of_ble_eq_true rfl, rfl⟩ rfl
theorem t154_163 : decode (mb 154) 163 = .ok (.aload_n 0, 1) := by decide +kernel
theorem s154_163 (d : Nat) (a0 : Nat) (l1 : Value) (l2 : Value) (l3 : Value) (σ : Hs) : ru d 154 163 [.ref a0, l1, l2, l3] [] σ = ru d 154 164 [.ref a0, l1, l2, l3] [.ref a0] σ := q_aload_n t154_163 rfl
theorem t154_164 : decode (mb 154) 164 = .ok (.dup, 1) := by decide +kernel
theorem s154_164 (d : Nat) (l0 : Value) (l1 : Value) (l2 : Value) (l3 : Value) (x : Nat) (σ : Hs) : ru d 154 164 [l0, l1, l2, l3] [.ref x] σ = ru d 154 165 [l0, l1, l2, l3] [.ref x, .ref x] σ := q_dup t154_164 rfl
theorem t154_165 : decode (mb 154) 165 = .ok (.getfield 163, 3) := by decide +kernel
theorem s154_165_o87 (d : Nat) (l0 : Value) (l1 : Value) (l2 : Value) (l3 : Value) (w0 : Value) (σ : Hs) : ru d 154 165 [l0, l1, l2, l3] [.ref 87, w0] σ = ru d 154 168 [l0, l1, l2, l3] [.int (σ 87 9), w0] σ := q_getf t154_165 mo154 F8_163 rfl rfl
theorem t154_168 : decode (mb 154) 168 = .ok (.iconst 1, 1) := by decide +kernel
theorem s154_168 (d : Nat) (l0 : Value) (l1 : Value) (l2 : Value) (l3 : Value) (w0 w1 : Value) (σ : Hs) : ru d 154 168 [l0, l1, l2, l3] [w0, w1] σ = ru d 154 169 [l0, l1, l2, l3] [.int 1, w0, w1] σ := q_iconst t154_168 (by decide +kernel)
theorem t154_169 : decode (mb 154) 169 = .ok (.iadd, 1) := by decide +kernel
theorem s154_169 (d : Nat) (l0 : Value) (l1 : Value) (l2 : Value) (l3 : Value) (x y : Int32) (w0 : Value) (σ : Hs) : ru d 154 169 [l0, l1, l2, l3] [.int y, .int x, w0] σ = ru d 154 170 [l0, l1, l2, l3] [.int (x + y), w0] σ := q_iadd t154_169
theorem t154_170 : decode (mb 154) 170 = .ok (.putfield 163, 3) := by decide +kernel
theorem s154_170_o87 (d : Nat) (l0 : Value) (l1 : Value) (l2 : Value) (l3 : Value) (x : Int32) (σ : Hs) : ru d 154 170 [l0, l1, l2, l3] [.int x, .ref 87] σ = ru d 154 173 [l0, l1, l2, l3] [] (up2 σ 87 9 x) := q_puti t154_170 mo154 F8_163 (by decide +kernel) rfl rfl
theorem t154_173 : decode (mb 154) 173 = .ok (.iinc 3 1, 3) := by decide +kernel
theorem s154_173 (d : Nat) (l0 : Value) (l1 : Value) (i2 : Int32) (i3 : Int32) (σ : Hs) : ru d 154 173 [l0, l1, .int i2, .int i3] [] σ = ru d 154 176 [l0, l1, .int i2, .int (i3 + 1)] [] σ := q_iinc t154_173 ⟨Nat.le_of_ble_eq_true rfl, rfl⟩ rfl (by decide +kernel) rfl
theorem t154_176 : decode (mb 154) 176 = .ok (.goto (-45), 3) := by decide +kernel
theorem s154_176 (d : Nat) (l0 : Value) (l1 : Value) (l2 : Value) (l3 : Value) (σ : Hs) : ru d 154 176 [l0, l1, l2, l3] [] σ = ru d 154 131 [l0, l1, l2, l3] [] σ := q_goto t154_176 (by decide +kernel)
theorem t154_179 : decode (mb 154) 179 = .ok (.aload_n 0, 1) := by decide +kernel
theorem s154_179 (d : Nat) (a0 : Nat) (l1 : Value) (l2 : Value) (l3 : Value) (σ : Hs) : ru d 154 179 [.ref a0, l1, l2, l3] [] σ = ru d 154 180 [.ref a0, l1, l2, l3] [.ref a0] σ := q_aload_n t154_179 rfl
theorem t154_180 : decode (mb 154) 180 = .ok (.iload_n 2, 1) := by decide +kernel
theorem s154_180 (d : Nat) (l0 : Value) (l1 : Value) (i2 : Int32) (l3 : Value) (w0 : Value) (σ : Hs) : ru d 154 180 [l0, l1, .int i2, l3] [w0] σ = ru d 154 181 [l0, l1, .int i2, l3] [.int i2, w0] σ := q_iload_n t154_180 rfl
theorem t154_181 : decode (mb 154) 181 = .ok (.invokevirtual 180, 3) := by decide +kernel
theorem s154_181_o87 (d : Nat) (l0 : Value) (l1 : Value) (l2 : Value) (l3 : Value) (v1 : Value) (σ : Hs) : ru d 154 181 [l0, l1, l2, l3] [v1, .ref 87] σ = kont (callD d 147 [.ref 87, v1] σ) d 154 184 [l0, l1, l2, l3] [] := q_invv t154_181 mo154 K8_180 mj147 rfl rfl rfl rfl (Nat.le_of_ble_eq_true rfl)
theorem t154_184 : decode (mb 154) 184 = .ok (.goto 63, 3) := by decide +kernel
theorem s154_184 (d : Nat) (l0 : Value) (l1 : Value) (l2 : Value) (l3 : Value) (σ : Hs) : ru d 154 184 [l0, l1, l2, l3] [] σ = ru d 154 247 [l0, l1, l2, l3] [] σ := q_goto t154_184 (by decide +kernel)
theorem t154_187 : decode (mb 154) 187 = .ok (.iload_n 1, 1) := by decide +kernel
theorem s154_187 (d : Nat) (l0 : Value) (i1 : Int32) (l2 : Value) (l3 : Value) (σ : Hs) : ru d 154 187 [l0, .int i1, l2, l3] [] σ = ru d 154 188 [l0, .int i1, l2, l3] [.int i1] σ := q_iload_n t154_187 rfl
theorem t154_188 : decode (mb 154) 188 = .ok (.ifCond .ge 7, 3) := by decide +kernel
theorem s154_188 (d : Nat) (l0 : Value) (l1 : Value) (l2 : Value) (l3 : Value) (x : Int32) (σ : Hs) : ru d 154 188 [l0, l1, l2, l3] [.int x] σ = if 0 ≤ x then ru d 154 195 [l0, l1, l2, l3] [] σ else ru d 154 191 [l0, l1, l2, l3] [] σ := q_if_ge t154_188 (by decide +kernel)
theorem t154_191 : decode (mb 154) 191 = .ok (.iconst (-1), 1) := by decide +kernel
theorem s154_191 (d : Nat) (l0 : Value) (l1 : Value) (l2 : Value) (l3 : Value) (σ : Hs) : ru d 154 191 [l0, l1, l2, l3] [] σ = ru d 154 192 [l0, l1, l2, l3] [.int (-1)] σ := q_iconst t154_191 (by decide +kernel)
theorem t154_192 : decode (mb 154) 192 = .ok (.goto 8, 3) := by decide +kernel
theorem s154_192 (d : Nat) (l0 : Value) (l1 : Value) (l2 : Value) (l3 : Value) (w0 : Value) (σ : Hs) : ru d 154 192 [l0, l1, l2, l3] [w0] σ = ru d 154 200 [l0, l1, l2, l3] [w0] σ := q_goto t154_192 (by decide +kernel)
theorem t154_195 : decode (mb 154) 195 = .ok (.aload_n 0, 1) := by decide +kernel
theorem s154_195 (d : Nat) (a0 : Nat) (l1 : Value) (l2 : Value) (l3 : Value) (σ : Hs) : ru d 154 195 [.ref a0, l1, l2, l3] [] σ = ru d 154 196 [.ref a0, l1, l2, l3] [.ref a0] σ := q_aload_n t154_195 rfl
theorem t154_196 : decode (mb 154) 196 = .ok (.iload_n 1, 1) := by decide +kernel
theorem s154_196 (d : Nat) (l0 : Value) (i1 : Int32) (l2 : Value) (l3 : Value) (w0 : Value) (σ : Hs) : ru d 154 196 [l0, .int i1, l2, l3] [w0] σ = ru d 154 197 [l0, .int i1, l2, l3] [.int i1, w0] σ := q_iload_n t154_196 rfl
theorem t154_197 : decode (mb 154) 197 = .ok (.invokevirtual 211, 3) := by decide +kernel
theorem s154_197_o87 (d : Nat) (l0 : Value) (l1 : Value) (l2 : Value) (l3 : Value) (v1 : Value) (σ : Hs) : ru d 154 197 [l0, l1, l2, l3] [v1, .ref 87] σ = kont (callD d 153 [.ref 87, v1] σ) d 154 200 [l0, l1, l2, l3] [] := q_invv t154_197 mo154 K8_211 mj153 rfl rfl rfl rfl (Nat.le_of_ble_eq_true rfl)
theorem t154_200 : decode (mb 154) 200 = .ok (.istore_n 2, 1) := by decide +kernel
theorem s154_200 (d : Nat) (l0 : Value) (i1 : Int32) (l2 : Value) (l3 : Value) (x : Int32) (σ : Hs) : ru d 154 200 [l0, .int i1, l2, l3] [.int x] σ = ru d 154 201 [l0, .int i1, .int x, l3] [] σ := q_istore_n t154_200 ⟨Nat.le_of_ble_eq_true rfl, rfl⟩ rfl
theorem t154_201 : decode (mb 154) 201 = .ok (.aload_n 0, 1) := by decide +kernel
theorem s154_201 (d : Nat) (a0 : Nat) (l1 : Value) (l2 : Value) (l3 : Value) (σ : Hs) : ru d 154 201 [.ref a0, l1, l2, l3] [] σ = ru d 154 202 [.ref a0, l1, l2, l3] [.ref a0] σ := q_aload_n t154_201 rfl
theorem t154_202 : decode (mb 154) 202 = .ok (.aload_n 0, 1) := by decide +kernel
theorem s154_202 (d : Nat) (a0 : Nat) (l1 : Value) (l2 : Value) (l3 : Value) (w0 : Value) (σ : Hs) : ru d 154 202 [.ref a0, l1, l2, l3] [w0] σ = ru d 154 203 [.ref a0, l1, l2, l3] [.ref a0, w0] σ := q_aload_n t154_202 rfl
theorem t154_203 : decode (mb 154) 203 = .ok (.getfield 159, 3) := by decide +kernel
theorem s154_203_o87 (d : Nat) (l0 : Value) (l1 : Value) (l2 : Value) (l3 : Value) (w0 : Value) (σ : Hs) : ru d 154 203 [l0, l1, l2, l3] [.ref 87, w0] σ = ru d 154 206 [l0, l1, l2, l3] [.int (σ 87 12), w0] σ := q_getf t154_203 mo154 F8_159 rfl rfl
theorem t154_206 : decode (mb 154) 206 = .ok (.ifCond .ne 7, 3) := by decide +kernel
theorem s154_206 (d : Nat) (l0 : Value) (l1 : Value) (l2 : Value) (l3 : Value) (x : Int32) (w0 : Value) (σ : Hs) : ru d 154 206 [l0, l1, l2, l3] [.int x, w0] σ = if x = 0 then ru d 154 209 [l0, l1, l2, l3] [w0] σ else ru d 154 213 [l0, l1, l2, l3] [w0] σ := q_if_ne t154_206 (by decide +kernel)
theorem t154_209 : decode (mb 154) 209 = .ok (.iload_n 2, 1) := by decide +kernel
theorem s154_209 (d : Nat) (l0 : Value) (l1 : Value) (i2 : Int32) (l3 : Value) (w0 : Value) (σ : Hs) : ru d 154 209 [l0, l1, .int i2, l3] [w0] σ = ru d 154 210 [l0, l1, .int i2, l3] [.int i2, w0] σ := q_iload_n t154_209 rfl
theorem t154_210 : decode (mb 154) 210 = .ok (.ifCond .ge 7, 3) := by decide +kernel
theorem s154_210 (d : Nat) (l0 : Value) (l1 : Value) (l2 : Value) (l3 : Value) (x : Int32) (w0 : Value) (σ : Hs) : ru d 154 210 [l0, l1, l2, l3] [.int x, w0] σ = if 0 ≤ x then ru d 154 217 [l0, l1, l2, l3] [w0] σ else ru d 154 213 [l0, l1, l2, l3] [w0] σ := q_if_ge t154_210 (by decide +kernel)
theorem t154_213 : decode (mb 154) 213 = .ok (.iconst 1, 1) := by decide +kernel
theorem s154_213 (d : Nat) (l0 : Value) (l1 : Value) (l2 : Value) (l3 : Value) (w0 : Value) (σ : Hs) : ru d 154 213 [l0, l1, l2, l3] [w0] σ = ru d 154 214 [l0, l1, l2, l3] [.int 1, w0] σ := q_iconst t154_213 (by decide +kernel)
theorem t154_214 : decode (mb 154) 214 = .ok (.goto 4, 3) := by decide +kernel
theorem s154_214 (d : Nat) (l0 : Value) (l1 : Value) (l2 : Value) (l3 : Value) (w0 w1 : Value) (σ : Hs) : ru d 154 214 [l0, l1, l2, l3] [w0, w1] σ = ru d 154 218 [l0, l1, l2, l3] [w0, w1] σ := q_goto t154_214 (by decide +kernel)
theorem t154_217 : decode (mb 154) 217 = .ok (.iconst 0, 1) := by decide +kernel
theorem s154_217 (d : Nat) (l0 : Value) (l1 : Value) (l2 : Value) (l3 : Value) (w0 : Value) (σ : Hs) : ru d 154 217 [l0, l1, l2, l3] [w0] σ = ru d 154 218 [l0, l1, l2, l3] [.int 0, w0] σ := q_iconst t154_217 (by decide +kernel)
theorem t154_218 : decode (mb 154) 218 = .ok (.putfield 159, 3) := by decide +kernel
theorem s154_218_o87 (d : Nat) (l0 : Value) (l1 : Value) (l2 : Value) (l3 : Value) (x : Int32) (hx : isB x) (σ : Hs) : ru d 154 218 [l0, l1, l2, l3] [.int x, .ref 87] σ = ru d 154 221 [l0, l1, l2, l3] [] (up2 σ 87 12 x) := q_putz t154_218 mo154 F8_159 (by decide +kernel) rfl rfl hx
theorem t154_221 : decode (mb 154) 221 = .ok (.aload_n 0, 1) := by decide +kernel
theorem s154_221 (d : Nat) (a0 : Nat) (l1 : Value) (l2 : Value) (l3 : Value) (σ : Hs) : ru d 154 221 [.ref a0, l1, l2, l3] [] σ = ru d 154 222 [.ref a0, l1, l2, l3] [.ref a0] σ := q_aload_n t154_221 rfl
theorem t154_222 : decode (mb 154) 222 = .ok (.getfield 159, 3) := by decide +kernel
theorem s154_222_o87 (d : Nat) (l0 : Value) (l1 : Value) (l2 : Value) (l3 : Value) (σ : Hs) : ru d 154 222 [l0, l1, l2, l3] [.ref 87] σ = ru d 154 225 [l0, l1, l2, l3] [.int (σ 87 12)] σ := q_getf t154_222 mo154 F8_159 rfl rfl
theorem t154_225 : decode (mb 154) 225 = .ok (.ifCond .ne 22, 3) := by decide +kernel
theorem s154_225 (d : Nat) (l0 : Value) (l1 : Value) (l2 : Value) (l3 : Value) (x : Int32) (σ : Hs) : ru d 154 225 [l0, l1, l2, l3] [.int x] σ = if x = 0 then ru d 154 228 [l0, l1, l2, l3] [] σ else ru d 154 247 [l0, l1, l2, l3] [] σ := q_if_ne t154_225 (by decide +kernel)
theorem t154_228 : decode (mb 154) 228 = .ok (.aload_n 0, 1) := by decide +kernel
theorem s154_228 (d : Nat) (a0 : Nat) (l1 : Value) (l2 : Value) (l3 : Value) (σ : Hs) : ru d 154 228 [.ref a0, l1, l2, l3] [] σ = ru d 154 229 [.ref a0, l1, l2, l3] [.ref a0] σ := q_aload_n t154_228 rfl
theorem t154_229 : decode (mb 154) 229 = .ok (.sipush 10000, 3) := by decide +kernel
theorem s154_229 (d : Nat) (l0 : Value) (l1 : Value) (l2 : Value) (l3 : Value) (w0 : Value) (σ : Hs) : ru d 154 229 [l0, l1, l2, l3] [w0] σ = ru d 154 232 [l0, l1, l2, l3] [.int 10000, w0] σ := q_sipush t154_229 (by decide +kernel)
theorem t154_232 : decode (mb 154) 232 = .ok (.iload_n 2, 1) := by decide +kernel
theorem s154_232 (d : Nat) (l0 : Value) (l1 : Value) (i2 : Int32) (l3 : Value) (w0 w1 : Value) (σ : Hs) : ru d 154 232 [l0, l1, .int i2, l3] [w0, w1] σ = ru d 154 233 [l0, l1, .int i2, l3] [.int i2, w0, w1] σ := q_iload_n t154_232 rfl
theorem t154_233 : decode (mb 154) 233 = .ok (.iadd, 1) := by decide +kernel
theorem s154_233 (d : Nat) (l0 : Value) (l1 : Value) (l2 : Value) (l3 : Value) (x y : Int32) (w0 : Value) (σ : Hs) : ru d 154 233 [l0, l1, l2, l3] [.int y, .int x, w0] σ = ru d 154 234 [l0, l1, l2, l3] [.int (x + y), w0] σ := q_iadd t154_233
theorem t154_234 : decode (mb 154) 234 = .ok (.invokevirtual 180, 3) := by decide +kernel
theorem s154_234_o87 (d : Nat) (l0 : Value) (l1 : Value) (l2 : Value) (l3 : Value) (v1 : Value) (σ : Hs) : ru d 154 234 [l0, l1, l2, l3] [v1, .ref 87] σ = kont (callD d 147 [.ref 87, v1] σ) d 154 237 [l0, l1, l2, l3] [] := q_invv t154_234 mo154 K8_180 mj147 rfl rfl rfl rfl (Nat.le_of_ble_eq_true rfl)
theorem t154_237 : decode (mb 154) 237 = .ok (.aload_n 0, 1) := by decide +kernel
theorem s154_237 (d : Nat) (a0 : Nat) (l1 : Value) (l2 : Value) (l3 : Value) (σ : Hs) : ru d 154 237 [.ref a0, l1, l2, l3] [] σ = ru d 154 238 [.ref a0, l1, l2, l3] [.ref a0] σ := q_aload_n t154_237 rfl
theorem t154_238 : decode (mb 154) 238 = .ok (.dup, 1) := by decide +kernel
theorem s154_238 (d : Nat) (l0 : Value) (l1 : Value) (l2 : Value) (l3 : Value) (x : Nat) (σ : Hs) : ru d 154 238 [l0, l1, l2, l3] [.ref x] σ = ru d 154 239 [l0, l1, l2, l3] [.ref x, .ref x] σ := q_dup t154_238 rfl
theorem t154_239 : decode (mb 154) 239 = .ok (.getfield 163, 3) := by decide +kernel
theorem s154_239_o87 (d : Nat) (l0 : Value) (l1 : Value) (l2 : Value) (l3 : Value) (w0 : Value) (σ : Hs) : ru d 154 239 [l0, l1, l2, l3] [.ref 87, w0] σ = ru d 154 242 [l0, l1, l2, l3] [.int (σ 87 9), w0] σ := q_getf t154_239 mo154 F8_163 rfl rfl
theorem t154_242 : decode (mb 154) 242 = .ok (.iconst 1, 1) := by decide +kernel
theorem s154_242 (d : Nat) (l0 : Value) (l1 : Value) (l2 : Value) (l3 : Value) (w0 w1 : Value) (σ : Hs) : ru d 154 242 [l0, l1, l2, l3] [w0, w1] σ = ru d 154 243 [l0, l1, l2, l3] [.int 1, w0, w1] σ := q_iconst t154_242 (by decide +kernel)
theorem t154_243 : decode (mb 154) 243 = .ok (.iadd, 1) := by decide +kernel
theorem s154_243 (d : Nat) (l0 : Value) (l1 : Value) (l2 : Value) (l3 : Value) (x y : Int32) (w0 : Value) (σ : Hs) : ru d 154 243 [l0, l1, l2, l3] [.int y, .int x, w0] σ = ru d 154 244 [l0, l1, l2, l3] [.int (x + y), w0] σ := q_iadd t154_243
theorem t154_244 : decode (mb 154) 244 = .ok (.putfield 163, 3) := by decide +kernel
theorem s154_244_o87 (d : Nat) (l0 : Value) (l1 : Value) (l2 : Value) (l3 : Value) (x : Int32) (σ : Hs) : ru d 154 244 [l0, l1, l2, l3] [.int x, .ref 87] σ = ru d 154 247 [l0, l1, l2, l3] [] (up2 σ 87 9 x) := q_puti t154_244 mo154 F8_163 (by decide +kernel) rfl rfl
theorem t154_247 : decode (mb 154) 247 = .ok (.return_, 1) := by decide +kernel
theorem s154_247 (d : Nat) (l0 : Value) (l1 : Value) (l2 : Value) (l3 : Value) (σ : Hs) : ru d 154 247 [l0, l1, l2, l3] [] σ = some (none, σ) := q_vret t154_247 mr154
theorem c154 (d : Nat) (x0 : Nat) (σ : Hs) : callD (d + 1) 154 [.ref x0] σ = ru d 154 0 [.ref x0, uu, uu, uu] [] σ := callD_ru ml154 rfl rfl (Nat.le_of_ble_eq_true rfl)
-- 155: Model.text(I)I
theorem t155_0 : decode (mb 155) 0 = .ok (.iload_n 1, 1) := by decide +kernel
theorem s155_0 (d : Nat) (l0 : Value) (i1 : Int32) (l2 : Value) (σ : Hs) : ru d 155 0 [l0, .int i1, l2] [] σ = ru d 155 1 [l0, .int i1, l2] [.int i1] σ := q_iload_n t155_0 rfl
theorem t155_1 : decode (mb 155) 1 = .ok (.iconst 0, 1) := by decide +kernel
theorem s155_1 (d : Nat) (l0 : Value) (l1 : Value) (l2 : Value) (w0 : Value) (σ : Hs) : ru d 155 1 [l0, l1, l2] [w0] σ = ru d 155 2 [l0, l1, l2] [.int 0, w0] σ := q_iconst t155_1 (by decide +kernel)
theorem t155_2 : decode (mb 155) 2 = .ok (.iconst 2, 1) := by decide +kernel
theorem s155_2 (d : Nat) (l0 : Value) (l1 : Value) (l2 : Value) (w0 w1 : Value) (σ : Hs) : ru d 155 2 [l0, l1, l2] [w0, w1] σ = ru d 155 3 [l0, l1, l2] [.int 2, w0, w1] σ := q_iconst t155_2 (by decide +kernel)
theorem t155_3 : decode (mb 155) 3 = .ok (.invokestatic 81, 3) := by decide +kernel
theorem s155_3 (d : Nat) (l0 : Value) (l1 : Value) (l2 : Value) (v0 v1 v2 : Value) (σ : Hs) : ru d 155 3 [l0, l1, l2] [v2, v1, v0] σ = kont (callD d 113 [v0, v1, v2] σ) d 155 6 [l0, l1, l2] [] := q_invs t155_3 mo155 (by decide +kernel) K8_81 mj113 (Nat.le_of_ble_eq_true rfl) rfl rfl (Nat.le_of_ble_eq_true rfl)
theorem t155_6 : decode (mb 155) 6 = .ok (.ifCond .ne 10, 3) := by decide +kernel
theorem s155_6 (d : Nat) (l0 : Value) (l1 : Value) (l2 : Value) (x : Int32) (σ : Hs) : ru d 155 6 [l0, l1, l2] [.int x] σ = if x = 0 then ru d 155 9 [l0, l1, l2] [] σ else ru d 155 16 [l0, l1, l2] [] σ := q_if_ne t155_6 (by decide +kernel)
theorem t155_9 : decode (mb 155) 9 = .ok (.aload_n 0, 1) := by decide +kernel
theorem s155_9 (d : Nat) (a0 : Nat) (l1 : Value) (l2 : Value) (σ : Hs) : ru d 155 9 [.ref a0, l1, l2] [] σ = ru d 155 10 [.ref a0, l1, l2] [.ref a0] σ := q_aload_n t155_9 rfl
theorem t155_10 : decode (mb 155) 10 = .ok (.ldc 104, 2) := by decide +kernel
theorem s155_10 (d : Nat) (l0 : Value) (l1 : Value) (l2 : Value) (w0 : Value) (σ : Hs) : ru d 155 10 [l0, l1, l2] [w0] σ = ru d 155 12 [l0, l1, l2] [.int (-1000001), w0] σ := q_ldc t155_10 mo155 C8_104
theorem t155_12 : decode (mb 155) 12 = .ok (.invokevirtual 105, 3) := by decide +kernel
theorem s155_12_o87 (d : Nat) (l0 : Value) (l1 : Value) (l2 : Value) (v1 : Value) (σ : Hs) : ru d 155 12 [l0, l1, l2] [v1, .ref 87] σ = kont (callD d 112 [.ref 87, v1] σ) d 155 15 [l0, l1, l2] [] := q_invv t155_12 mo155 K8_105 mj112 rfl rfl rfl rfl (Nat.le_of_ble_eq_true rfl)
theorem t155_15 : decode (mb 155) 15 = .ok (.ireturn, 1) := by decide +kernel
theorem s155_15 (d : Nat) (l0 : Value) (l1 : Value) (l2 : Value) (x : Int32) (σ : Hs) : ru d 155 15 [l0, l1, l2] [.int x] σ = some (some (.int x), σ) := q_ireti t155_15 mr155
theorem t155_16 : decode (mb 155) 16 = .ok (.aload_n 0, 1) := by decide +kernel
theorem s155_16 (d : Nat) (a0 : Nat) (l1 : Value) (l2 : Value) (σ : Hs) : ru d 155 16 [.ref a0, l1, l2] [] σ = ru d 155 17 [.ref a0, l1, l2] [.ref a0] σ := q_aload_n t155_16 rfl
theorem t155_17 : decode (mb 155) 17 = .ok (.iload_n 1, 1) := by decide +kernel
theorem s155_17 (d : Nat) (l0 : Value) (i1 : Int32) (l2 : Value) (w0 : Value) (σ : Hs) : ru d 155 17 [l0, .int i1, l2] [w0] σ = ru d 155 18 [l0, .int i1, l2] [.int i1, w0] σ := q_iload_n t155_17 rfl
theorem t155_18 : decode (mb 155) 18 = .ok (.putfield 195, 3) := by decide +kernel
theorem s155_18_o87 (d : Nat) (l0 : Value) (l1 : Value) (l2 : Value) (x : Int32) (σ : Hs) : ru d 155 18 [l0, l1, l2] [.int x, .ref 87] σ = ru d 155 21 [l0, l1, l2] [] (up2 σ 87 11 x) := q_puti t155_18 mo155 F8_195 (by decide +kernel) rfl rfl
theorem t155_21 : decode (mb 155) 21 = .ok (.aload_n 0, 1) := by decide +kernel
theorem s155_21 (d : Nat) (a0 : Nat) (l1 : Value) (l2 : Value) (σ : Hs) : ru d 155 21 [.ref a0, l1, l2] [] σ = ru d 155 22 [.ref a0, l1, l2] [.ref a0] σ := q_aload_n t155_21 rfl
theorem t155_22 : decode (mb 155) 22 = .ok (.iconst 0, 1) := by decide +kernel
theorem s155_22 (d : Nat) (l0 : Value) (l1 : Value) (l2 : Value) (w0 : Value) (σ : Hs) : ru d 155 22 [l0, l1, l2] [w0] σ = ru d 155 23 [l0, l1, l2] [.int 0, w0] σ := q_iconst t155_22 (by decide +kernel)
theorem t155_23 : decode (mb 155) 23 = .ok (.putfield 163, 3) := by decide +kernel
theorem s155_23_o87 (d : Nat) (l0 : Value) (l1 : Value) (l2 : Value) (x : Int32) (σ : Hs) : ru d 155 23 [l0, l1, l2] [.int x, .ref 87] σ = ru d 155 26 [l0, l1, l2] [] (up2 σ 87 9 x) := q_puti t155_23 mo155 F8_163 (by decide +kernel) rfl rfl
theorem t155_26 : decode (mb 155) 26 = .ok (.aload_n 0, 1) := by decide +kernel
theorem s155_26 (d : Nat) (a0 : Nat) (l1 : Value) (l2 : Value) (σ : Hs) : ru d 155 26 [.ref a0, l1, l2] [] σ = ru d 155 27 [.ref a0, l1, l2] [.ref a0] σ := q_aload_n t155_26 rfl
theorem t155_27 : decode (mb 155) 27 = .ok (.iconst 0, 1) := by decide +kernel
theorem s155_27 (d : Nat) (l0 : Value) (l1 : Value) (l2 : Value) (w0 : Value) (σ : Hs) : ru d 155 27 [l0, l1, l2] [w0] σ = ru d 155 28 [l0, l1, l2] [.int 0, w0] σ := q_iconst t155_27 (by decide +kernel)
theorem t155_28 : decode (mb 155) 28 = .ok (.putfield 205, 3) := by decide +kernel
theorem s155_28_o87 (d : Nat) (l0 : Value) (l1 : Value) (l2 : Value) (x : Int32) (σ : Hs) : ru d 155 28 [l0, l1, l2] [.int x, .ref 87] σ = ru d 155 31 [l0, l1, l2] [] (up2 σ 87 10 x) := q_puti t155_28 mo155 F8_205 (by decide +kernel) rfl rfl
theorem t155_31 : decode (mb 155) 31 = .ok (.aload_n 0, 1) := by decide +kernel
theorem s155_31 (d : Nat) (a0 : Nat) (l1 : Value) (l2 : Value) (σ : Hs) : ru d 155 31 [.ref a0, l1, l2] [] σ = ru d 155 32 [.ref a0, l1, l2] [.ref a0] σ := q_aload_n t155_31 rfl
theorem t155_32 : decode (mb 155) 32 = .ok (.iconst 0, 1) := by decide +kernel
theorem s155_32 (d : Nat) (l0 : Value) (l1 : Value) (l2 : Value) (w0 : Value) (σ : Hs) : ru d 155 32 [l0, l1, l2] [w0] σ = ru d 155 33 [l0, l1, l2] [.int 0, w0] σ := q_iconst t155_32 (by decide +kernel)
theorem t155_33 : decode (mb 155) 33 = .ok (.putfield 159, 3) := by decide +kernel
theorem s155_33_o87 (d : Nat) (l0 : Value) (l1 : Value) (l2 : Value) (x : Int32) (hx : isB x) (σ : Hs) : ru d 155 33 [l0, l1, l2] [.int x, .ref 87] σ = ru d 155 36 [l0, l1, l2] [] (up2 σ 87 12 x) := q_putz t155_33 mo155 F8_159 (by decide +kernel) rfl rfl hx
theorem t155_36 : decode (mb 155) 36 = .ok (.aload_n 0, 1) := by decide +kernel
theorem s155_36 (d : Nat) (a0 : Nat) (l1 : Value) (l2 : Value) (σ : Hs) : ru d 155 36 [.ref a0, l1, l2] [] σ = ru d 155 37 [.ref a0, l1, l2] [.ref a0] σ := q_aload_n t155_36 rfl
theorem t155_37 : decode (mb 155) 37 = .ok (.iconst 0, 1) := by decide +kernel
theorem s155_37 (d : Nat) (l0 : Value) (l1 : Value) (l2 : Value) (w0 : Value) (σ : Hs) : ru d 155 37 [l0, l1, l2] [w0] σ = ru d 155 38 [l0, l1, l2] [.int 0, w0] σ := q_iconst t155_37 (by decide +kernel)
theorem t155_38 : decode (mb 155) 38 = .ok (.putfield 171, 3) := by decide +kernel
theorem s155_38_o87 (d : Nat) (l0 : Value) (l1 : Value) (l2 : Value) (x : Int32) (σ : Hs) : ru d 155 38 [l0, l1, l2] [.int x, .ref 87] σ = ru d 155 41 [l0, l1, l2] [] (up2 σ 87 14 x) := q_puti t155_38 mo155 F8_171 (by decide +kernel) rfl rfl
theorem t155_41 : decode (mb 155) 41 = .ok (.aload_n 0, 1) := by decide +kernel
theorem s155_41 (d : Nat) (a0 : Nat) (l1 : Value) (l2 : Value) (σ : Hs) : ru d 155 41 [.ref a0, l1, l2] [] σ = ru d 155 42 [.ref a0, l1, l2] [.ref a0] σ := q_aload_n t155_41 rfl
theorem t155_42 : decode (mb 155) 42 = .ok (.invokevirtual 208, 3) := by decide +kernel
theorem s155_42_o87 (d : Nat) (l0 : Value) (l1 : Value) (l2 : Value) (σ : Hs) : ru d 155 42 [l0, l1, l2] [.ref 87] σ = kont (callD d 148 [.ref 87] σ) d 155 45 [l0, l1, l2] [] := q_invv t155_42 mo155 K8_208 mj148 rfl rfl rfl rfl (Nat.le_of_ble_eq_true rfl)
theorem t155_45 : decode (mb 155) 45 = .ok (.aload_n 0, 1) := by decide +kernel
theorem s155_45 (d : Nat) (a0 : Nat) (l1 : Value) (l2 : Value) (σ : Hs) : ru d 155 45 [.ref a0, l1, l2] [] σ = ru d 155 46 [.ref a0, l1, l2] [.ref a0] σ := q_aload_n t155_45 rfl
theorem t155_46 : decode (mb 155) 46 = .ok (.aload_n 0, 1) := by decide +kernel
theorem s155_46 (d : Nat) (a0 : Nat) (l1 : Value) (l2 : Value) (w0 : Value) (σ : Hs) : ru d 155 46 [.ref a0, l1, l2] [w0] σ = ru d 155 47 [.ref a0, l1, l2] [.ref a0, w0] σ := q_aload_n t155_46 rfl
theorem t155_47 : decode (mb 155) 47 = .ok (.getfield 159, 3) := by decide +kernel
theorem s155_47_o87 (d : Nat) (l0 : Value) (l1 : Value) (l2 : Value) (w0 : Value) (σ : Hs) : ru d 155 47 [l0, l1, l2] [.ref 87, w0] σ = ru d 155 50 [l0, l1, l2] [.int (σ 87 12), w0] σ := q_getf t155_47 mo155 F8_159 rfl rfl
theorem t155_50 : decode (mb 155) 50 = .ok (.ifCond .ne 16, 3) := by decide +kernel
theorem s155_50 (d : Nat) (l0 : Value) (l1 : Value) (l2 : Value) (x : Int32) (w0 : Value) (σ : Hs) : ru d 155 50 [l0, l1, l2] [.int x, w0] σ = if x = 0 then ru d 155 53 [l0, l1, l2] [w0] σ else ru d 155 66 [l0, l1, l2] [w0] σ := q_if_ne t155_50 (by decide +kernel)
theorem t155_53 : decode (mb 155) 53 = .ok (.aload_n 0, 1) := by decide +kernel
theorem s155_53 (d : Nat) (a0 : Nat) (l1 : Value) (l2 : Value) (w0 : Value) (σ : Hs) : ru d 155 53 [.ref a0, l1, l2] [w0] σ = ru d 155 54 [.ref a0, l1, l2] [.ref a0, w0] σ := q_aload_n t155_53 rfl
theorem t155_54 : decode (mb 155) 54 = .ok (.getfield 163, 3) := by decide +kernel
theorem s155_54_o87 (d : Nat) (l0 : Value) (l1 : Value) (l2 : Value) (w0 : Value) (σ : Hs) : ru d 155 54 [l0, l1, l2] [.ref 87, w0] σ = ru d 155 57 [l0, l1, l2] [.int (σ 87 9), w0] σ := q_getf t155_54 mo155 F8_163 rfl rfl
theorem t155_57 : decode (mb 155) 57 = .ok (.aload_n 0, 1) := by decide +kernel
theorem s155_57 (d : Nat) (a0 : Nat) (l1 : Value) (l2 : Value) (w0 w1 : Value) (σ : Hs) : ru d 155 57 [.ref a0, l1, l2] [w0, w1] σ = ru d 155 58 [.ref a0, l1, l2] [.ref a0, w0, w1] σ := q_aload_n t155_57 rfl
theorem t155_58 : decode (mb 155) 58 = .ok (.getfield 9, 3) := by decide +kernel
theorem s155_58_o87 (d : Nat) (l0 : Value) (l1 : Value) (l2 : Value) (w0 w1 : Value) (σ : Hs) : ru d 155 58 [l0, l1, l2] [.ref 87, w0, w1] σ = ru d 155 61 [l0, l1, l2] [.ref 88, w0, w1] σ := q_getf t155_58 mo155 F8_9 rfl rfl
theorem t155_61 : decode (mb 155) 61 = .ok (.iconst 1, 1) := by decide +kernel
theorem s155_61 (d : Nat) (l0 : Value) (l1 : Value) (l2 : Value) (w0 w1 w2 : Value) (σ : Hs) : ru d 155 61 [l0, l1, l2] [w0, w1, w2] σ = ru d 155 62 [l0, l1, l2] [.int 1, w0, w1, w2] σ := q_iconst t155_61 (by decide +kernel)
theorem t155_62 : decode (mb 155) 62 = .ok (.iaload, 1) := by decide +kernel
theorem s155_62_o88 (d : Nat) (l0 : Value) (l1 : Value) (l2 : Value) (i : Int32) (w0 w1 : Value) (σ : Hs) : ru d 155 62 [l0, l1, l2] [.int i, .ref 88, w0, w1] σ = gd (vp_in i 545) (ru d 155 63 [l0, l1, l2] [.int (σ 88 i.toNatClampNeg), w0, w1] σ) := q_iald t155_62 rfl (by decide +kernel) rfl
theorem t155_63 : decode (mb 155) 63 = .ok (.if_icmp .ge 7, 3) := by decide +kernel
theorem s155_63 (d : Nat) (l0 : Value) (l1 : Value) (l2 : Value) (x y : Int32) (w0 : Value) (σ : Hs) : ru d 155 63 [l0, l1, l2] [.int y, .int x, w0] σ = if y ≤ x then ru d 155 70 [l0, l1, l2] [w0] σ else ru d 155 66 [l0, l1, l2] [w0] σ := q_ic_ge t155_63 (by decide +kernel)
theorem t155_66 : decode (mb 155) 66 = .ok (.iconst 1, 1) := by decide +kernel
theorem s155_66 (d : Nat) (l0 : Value) (l1 : Value) (l2 : Value) (w0 : Value) (σ : Hs) : ru d 155 66 [l0, l1, l2] [w0] σ = ru d 155 67 [l0, l1, l2] [.int 1, w0] σ := q_iconst t155_66 (by decide +kernel)
theorem t155_67 : decode (mb 155) 67 = .ok (.goto 4, 3) := by decide +kernel
theorem s155_67 (d : Nat) (l0 : Value) (l1 : Value) (l2 : Value) (w0 w1 : Value) (σ : Hs) : ru d 155 67 [l0, l1, l2] [w0, w1] σ = ru d 155 71 [l0, l1, l2] [w0, w1] σ := q_goto t155_67 (by decide +kernel)
theorem t155_70 : decode (mb 155) 70 = .ok (.iconst 0, 1) := by decide +kernel
theorem s155_70 (d : Nat) (l0 : Value) (l1 : Value) (l2 : Value) (w0 : Value) (σ : Hs) : ru d 155 70 [l0, l1, l2] [w0] σ = ru d 155 71 [l0, l1, l2] [.int 0, w0] σ := q_iconst t155_70 (by decide +kernel)
theorem t155_71 : decode (mb 155) 71 = .ok (.putfield 159, 3) := by decide +kernel
theorem s155_71_o87 (d : Nat) (l0 : Value) (l1 : Value) (l2 : Value) (x : Int32) (hx : isB x) (σ : Hs) : ru d 155 71 [l0, l1, l2] [.int x, .ref 87] σ = ru d 155 74 [l0, l1, l2] [] (up2 σ 87 12 x) := q_putz t155_71 mo155 F8_159 (by decide +kernel) rfl rfl hx
theorem t155_74 : decode (mb 155) 74 = .ok (.aload_n 0, 1) := by decide +kernel
theorem s155_74 (d : Nat) (a0 : Nat) (l1 : Value) (l2 : Value) (σ : Hs) : ru d 155 74 [.ref a0, l1, l2] [] σ = ru d 155 75 [.ref a0, l1, l2] [.ref a0] σ := q_aload_n t155_74 rfl
theorem t155_75 : decode (mb 155) 75 = .ok (.getfield 9, 3) := by decide +kernel
theorem s155_75_o87 (d : Nat) (l0 : Value) (l1 : Value) (l2 : Value) (σ : Hs) : ru d 155 75 [l0, l1, l2] [.ref 87] σ = ru d 155 78 [l0, l1, l2] [.ref 88] σ := q_getf t155_75 mo155 F8_9 rfl rfl
theorem t155_78 : decode (mb 155) 78 = .ok (.iconst 1, 1) := by decide +kernel
theorem s155_78 (d : Nat) (l0 : Value) (l1 : Value) (l2 : Value) (w0 : Value) (σ : Hs) : ru d 155 78 [l0, l1, l2] [w0] σ = ru d 155 79 [l0, l1, l2] [.int 1, w0] σ := q_iconst t155_78 (by decide +kernel)
theorem t155_79 : decode (mb 155) 79 = .ok (.iconst 0, 1) := by decide +kernel
theorem s155_79 (d : Nat) (l0 : Value) (l1 : Value) (l2 : Value) (w0 w1 : Value) (σ : Hs) : ru d 155 79 [l0, l1, l2] [w0, w1] σ = ru d 155 80 [l0, l1, l2] [.int 0, w0, w1] σ := q_iconst t155_79 (by decide +kernel)
theorem t155_80 : decode (mb 155) 80 = .ok (.iastore, 1) := by decide +kernel
theorem s155_80_o88 (d : Nat) (l0 : Value) (l1 : Value) (l2 : Value) (i x : Int32) (σ : Hs) : ru d 155 80 [l0, l1, l2] [.int x, .int i, .ref 88] σ = gd (vp_in i 545) (ru d 155 81 [l0, l1, l2] [] (up2 σ 88 i.toNatClampNeg x)) := q_iast t155_80 (by decide +kernel) rfl rfl
theorem t155_81 : decode (mb 155) 81 = .ok (.aload_n 0, 1) := by decide +kernel
theorem s155_81 (d : Nat) (a0 : Nat) (l1 : Value) (l2 : Value) (σ : Hs) : ru d 155 81 [.ref a0, l1, l2] [] σ = ru d 155 82 [.ref a0, l1, l2] [.ref a0] σ := q_aload_n t155_81 rfl
theorem t155_82 : decode (mb 155) 82 = .ok (.getfield 159, 3) := by decide +kernel
theorem s155_82_o87 (d : Nat) (l0 : Value) (l1 : Value) (l2 : Value) (σ : Hs) : ru d 155 82 [l0, l1, l2] [.ref 87] σ = ru d 155 85 [l0, l1, l2] [.int (σ 87 12)] σ := q_getf t155_82 mo155 F8_159 rfl rfl
theorem t155_85 : decode (mb 155) 85 = .ok (.ifCond .eq 11, 3) := by decide +kernel
theorem s155_85 (d : Nat) (l0 : Value) (l1 : Value) (l2 : Value) (x : Int32) (σ : Hs) : ru d 155 85 [l0, l1, l2] [.int x] σ = if x = 0 then ru d 155 96 [l0, l1, l2] [] σ else ru d 155 88 [l0, l1, l2] [] σ := q_if_eq t155_85 (by decide +kernel)
theorem t155_88 : decode (mb 155) 88 = .ok (.bipush (-10), 2) := by decide +kernel
theorem s155_88 (d : Nat) (l0 : Value) (l1 : Value) (l2 : Value) (σ : Hs) : ru d 155 88 [l0, l1, l2] [] σ = ru d 155 90 [l0, l1, l2] [.int (-10)] σ := q_bipush t155_88 (by decide +kernel)
theorem t155_90 : decode (mb 155) 90 = .ok (.aload_n 0, 1) := by decide +kernel
theorem s155_90 (d : Nat) (a0 : Nat) (l1 : Value) (l2 : Value) (w0 : Value) (σ : Hs) : ru d 155 90 [.ref a0, l1, l2] [w0] σ = ru d 155 91 [.ref a0, l1, l2] [.ref a0, w0] σ := q_aload_n t155_90 rfl
theorem t155_91 : decode (mb 155) 91 = .ok (.getfield 163, 3) := by decide +kernel
theorem s155_91_o87 (d : Nat) (l0 : Value) (l1 : Value) (l2 : Value) (w0 : Value) (σ : Hs) : ru d 155 91 [l0, l1, l2] [.ref 87, w0] σ = ru d 155 94 [l0, l1, l2] [.int (σ 87 9), w0] σ := q_getf t155_91 mo155 F8_163 rfl rfl
theorem t155_94 : decode (mb 155) 94 = .ok (.isub, 1) := by decide +kernel
theorem s155_94 (d : Nat) (l0 : Value) (l1 : Value) (l2 : Value) (x y : Int32) (σ : Hs) : ru d 155 94 [l0, l1, l2] [.int y, .int x] σ = ru d 155 95 [l0, l1, l2] [.int (x - y)] σ := q_isub t155_94
theorem t155_95 : decode (mb 155) 95 = .ok (.ireturn, 1) := by decide +kernel
theorem s155_95 (d : Nat) (l0 : Value) (l1 : Value) (l2 : Value) (x : Int32) (σ : Hs) : ru d 155 95 [l0, l1, l2] [.int x] σ = some (some (.int x), σ) := q_ireti t155_95 mr155
theorem t155_96 : decode (mb 155) 96 = .ok (.aload_n 0, 1) := by decide +kernel
theorem s155_96 (d : Nat) (a0 : Nat) (l1 : Value) (l2 : Value) (σ : Hs) : ru d 155 96 [.ref a0, l1, l2] [] σ = ru d 155 97 [.ref a0, l1, l2] [.ref a0] σ := q_aload_n t155_96 rfl
theorem t155_97 : decode (mb 155) 97 = .ok (.getfield 9, 3) := by decide +kernel
theorem s155_97_o87 (d : Nat) (l0 : Value) (l1 : Value) (l2 : Value) (σ : Hs) : ru d 155 97 [l0, l1, l2] [.ref 87] σ = ru d 155 100 [l0, l1, l2] [.ref 88] σ := q_getf t155_97 mo155 F8_9 rfl rfl
theorem t155_100 : decode (mb 155) 100 = .ok (.sipush 359, 3) := by decide +kernel
theorem s155_100 (d : Nat) (l0 : Value) (l1 : Value) (l2 : Value) (w0 : Value) (σ : Hs) : ru d 155 100 [l0, l1, l2] [w0] σ = ru d 155 103 [l0, l1, l2] [.int 359, w0] σ := q_sipush t155_100 (by decide +kernel)
theorem t155_103 : decode (mb 155) 103 = .ok (.bipush 62, 2) := by decide +kernel
theorem s155_103 (d : Nat) (l0 : Value) (l1 : Value) (l2 : Value) (w0 w1 : Value) (σ : Hs) : ru d 155 103 [l0, l1, l2] [w0, w1] σ = ru d 155 105 [l0, l1, l2] [.int 62, w0, w1] σ := q_bipush t155_103 (by decide +kernel)
theorem t155_105 : decode (mb 155) 105 = .ok (.aload_n 0, 1) := by decide +kernel
theorem s155_105 (d : Nat) (a0 : Nat) (l1 : Value) (l2 : Value) (w0 w1 w2 : Value) (σ : Hs) : ru d 155 105 [.ref a0, l1, l2] [w0, w1, w2] σ = ru d 155 106 [.ref a0, l1, l2] [.ref a0, w0, w1, w2] σ := q_aload_n t155_105 rfl
theorem t155_106 : decode (mb 155) 106 = .ok (.getfield 195, 3) := by decide +kernel
theorem s155_106_o87 (d : Nat) (l0 : Value) (l1 : Value) (l2 : Value) (w0 w1 w2 : Value) (σ : Hs) : ru d 155 106 [l0, l1, l2] [.ref 87, w0, w1, w2] σ = ru d 155 109 [l0, l1, l2] [.int (σ 87 11), w0, w1, w2] σ := q_getf t155_106 mo155 F8_195 rfl rfl
theorem t155_109 : decode (mb 155) 109 = .ok (.imul, 1) := by decide +kernel
theorem s155_109 (d : Nat) (l0 : Value) (l1 : Value) (l2 : Value) (x y : Int32) (w0 w1 : Value) (σ : Hs) : ru d 155 109 [l0, l1, l2] [.int y, .int x, w0, w1] σ = ru d 155 110 [l0, l1, l2] [.int (x * y), w0, w1] σ := q_imul t155_109
theorem t155_110 : decode (mb 155) 110 = .ok (.iadd, 1) := by decide +kernel
theorem s155_110 (d : Nat) (l0 : Value) (l1 : Value) (l2 : Value) (x y : Int32) (w0 : Value) (σ : Hs) : ru d 155 110 [l0, l1, l2] [.int y, .int x, w0] σ = ru d 155 111 [l0, l1, l2] [.int (x + y), w0] σ := q_iadd t155_110
theorem t155_111 : decode (mb 155) 111 = .ok (.aload_n 0, 1) := by decide +kernel
theorem s155_111 (d : Nat) (a0 : Nat) (l1 : Value) (l2 : Value) (w0 w1 : Value) (σ : Hs) : ru d 155 111 [.ref a0, l1, l2] [w0, w1] σ = ru d 155 112 [.ref a0, l1, l2] [.ref a0, w0, w1] σ := q_aload_n t155_111 rfl
theorem t155_112 : decode (mb 155) 112 = .ok (.getfield 171, 3) := by decide +kernel
theorem s155_112_o87 (d : Nat) (l0 : Value) (l1 : Value) (l2 : Value) (w0 w1 : Value) (σ : Hs) : ru d 155 112 [l0, l1, l2] [.ref 87, w0, w1] σ = ru d 155 115 [l0, l1, l2] [.int (σ 87 14), w0, w1] σ := q_getf t155_112 mo155 F8_171 rfl rfl
theorem t155_115 : decode (mb 155) 115 = .ok (.iastore, 1) := by decide +kernel
theorem s155_115_o88 (d : Nat) (l0 : Value) (l1 : Value) (l2 : Value) (i x : Int32) (σ : Hs) : ru d 155 115 [l0, l1, l2] [.int x, .int i, .ref 88] σ = gd (vp_in i 545) (ru d 155 116 [l0, l1, l2] [] (up2 σ 88 i.toNatClampNeg x)) := q_iast t155_115 (by decide +kernel) rfl rfl
theorem t155_116 : decode (mb 155) 116 = .ok (.iconst 0, 1) := by decide +kernel
theorem s155_116 (d : Nat) (l0 : Value) (l1 : Value) (l2 : Value) (σ : Hs) : ru d 155 116 [l0, l1, l2] [] σ = ru d 155 117 [l0, l1, l2] [.int 0] σ := q_iconst t155_116 (by decide +kernel)
theorem t155_117 : decode (mb 155) 117 = .ok (.istore_n 2, 1) := by decide +kernel
theorem s155_117 (d : Nat) (l0 : Value) (i1 : Int32) (l2 : Value) (x : Int32) (σ : Hs) : ru d 155 117 [l0, .int i1, l2] [.int x] σ = ru d 155 118 [l0, .int i1, .int x] [] σ := q_istore_n t155_117 ⟨Nat.le_of_ble_eq_true rfl, rfl⟩ rfl
theorem t155_118 : decode (mb 155) 118 = .ok (.iload_n 2, 1) := by decide +kernel
theorem s155_118 (d : Nat) (l0 : Value) (l1 : Value) (i2 : Int32) (σ : Hs) : ru d 155 118 [l0, l1, .int i2] [] σ = ru d 155 119 [l0, l1, .int i2] [.int i2] σ := q_iload_n t155_118 rfl
theorem t155_119 : decode (mb 155) 119 = .ok (.aload_n 0, 1) := by decide +kernel
theorem s155_119 (d : Nat) (a0 : Nat) (l1 : Value) (l2 : Value) (w0 : Value) (σ : Hs) : ru d 155 119 [.ref a0, l1, l2] [w0] σ = ru d 155 120 [.ref a0, l1, l2] [.ref a0, w0] σ := q_aload_n t155_119 rfl
theorem t155_120 : decode (mb 155) 120 = .ok (.getfield 171, 3) := by decide +kernel
theorem s155_120_o87 (d : Nat) (l0 : Value) (l1 : Value) (l2 : Value) (w0 : Value) (σ : Hs) : ru d 155 120 [l0, l1, l2] [.ref 87, w0] σ = ru d 155 123 [l0, l1, l2] [.int (σ 87 14), w0] σ := q_getf t155_120 mo155 F8_171 rfl rfl
theorem t155_123 : decode (mb 155) 123 = .ok (.if_icmp .ge 35, 3) := by decide +kernel
theorem s155_123 (d : Nat) (l0 : Value) (l1 : Value) (l2 : Value) (x y : Int32) (σ : Hs) : ru d 155 123 [l0, l1, l2] [.int y, .int x] σ = if y ≤ x then ru d 155 158 [l0, l1, l2] [] σ else ru d 155 126 [l0, l1, l2] [] σ := q_ic_ge t155_123 (by decide +kernel)
theorem t155_126 : decode (mb 155) 126 = .ok (.aload_n 0, 1) := by decide +kernel
theorem s155_126 (d : Nat) (a0 : Nat) (l1 : Value) (l2 : Value) (σ : Hs) : ru d 155 126 [.ref a0, l1, l2] [] σ = ru d 155 127 [.ref a0, l1, l2] [.ref a0] σ := q_aload_n t155_126 rfl
theorem t155_127 : decode (mb 155) 127 = .ok (.getfield 9, 3) := by decide +kernel
theorem s155_127_o87 (d : Nat) (l0 : Value) (l1 : Value) (l2 : Value) (σ : Hs) : ru d 155 127 [l0, l1, l2] [.ref 87] σ = ru d 155 130 [l0, l1, l2] [.ref 88] σ := q_getf t155_127 mo155 F8_9 rfl rfl
theorem t155_130 : decode (mb 155) 130 = .ok (.sipush 359, 3) := by decide +kernel
theorem s155_130 (d : Nat) (l0 : Value) (l1 : Value) (l2 : Value) (w0 : Value) (σ : Hs) : ru d 155 130 [l0, l1, l2] [w0] σ = ru d 155 133 [l0, l1, l2] [.int 359, w0] σ := q_sipush t155_130 (by decide +kernel)
theorem t155_133 : decode (mb 155) 133 = .ok (.bipush 62, 2) := by decide +kernel
theorem s155_133 (d : Nat) (l0 : Value) (l1 : Value) (l2 : Value) (w0 w1 : Value) (σ : Hs) : ru d 155 133 [l0, l1, l2] [w0, w1] σ = ru d 155 135 [l0, l1, l2] [.int 62, w0, w1] σ := q_bipush t155_133 (by decide +kernel)
theorem t155_135 : decode (mb 155) 135 = .ok (.aload_n 0, 1) := by decide +kernel
theorem s155_135 (d : Nat) (a0 : Nat) (l1 : Value) (l2 : Value) (w0 w1 w2 : Value) (σ : Hs) : ru d 155 135 [.ref a0, l1, l2] [w0, w1, w2] σ = ru d 155 136 [.ref a0, l1, l2] [.ref a0, w0, w1, w2] σ := q_aload_n t155_135 rfl
theorem t155_136 : decode (mb 155) 136 = .ok (.getfield 195, 3) := by decide +kernel
theorem s155_136_o87 (d : Nat) (l0 : Value) (l1 : Value) (l2 : Value) (w0 w1 w2 : Value) (σ : Hs) : ru d 155 136 [l0, l1, l2] [.ref 87, w0, w1, w2] σ = ru d 155 139 [l0, l1, l2] [.int (σ 87 11), w0, w1, w2] σ := q_getf t155_136 mo155 F8_195 rfl rfl
theorem t155_139 : decode (mb 155) 139 = .ok (.imul, 1) := by decide +kernel
theorem s155_139 (d : Nat) (l0 : Value) (l1 : Value) (l2 : Value) (x y : Int32) (w0 w1 : Value) (σ : Hs) : ru d 155 139 [l0, l1, l2] [.int y, .int x, w0, w1] σ = ru d 155 140 [l0, l1, l2] [.int (x * y), w0, w1] σ := q_imul t155_139
theorem t155_140 : decode (mb 155) 140 = .ok (.iadd, 1) := by decide +kernel
theorem s155_140 (d : Nat) (l0 : Value) (l1 : Value) (l2 : Value) (x y : Int32) (w0 : Value) (σ : Hs) : ru d 155 140 [l0, l1, l2] [.int y, .int x, w0] σ = ru d 155 141 [l0, l1, l2] [.int (x + y), w0] σ := q_iadd t155_140
theorem t155_141 : decode (mb 155) 141 = .ok (.iconst 1, 1) := by decide +kernel
theorem s155_141 (d : Nat) (l0 : Value) (l1 : Value) (l2 : Value) (w0 w1 : Value) (σ : Hs) : ru d 155 141 [l0, l1, l2] [w0, w1] σ = ru d 155 142 [l0, l1, l2] [.int 1, w0, w1] σ := q_iconst t155_141 (by decide +kernel)
theorem t155_142 : decode (mb 155) 142 = .ok (.iadd, 1) := by decide +kernel
theorem s155_142 (d : Nat) (l0 : Value) (l1 : Value) (l2 : Value) (x y : Int32) (w0 : Value) (σ : Hs) : ru d 155 142 [l0, l1, l2] [.int y, .int x, w0] σ = ru d 155 143 [l0, l1, l2] [.int (x + y), w0] σ := q_iadd t155_142
theorem t155_143 : decode (mb 155) 143 = .ok (.iload_n 2, 1) := by decide +kernel
theorem s155_143 (d : Nat) (l0 : Value) (l1 : Value) (i2 : Int32) (w0 w1 : Value) (σ : Hs) : ru d 155 143 [l0, l1, .int i2] [w0, w1] σ = ru d 155 144 [l0, l1, .int i2] [.int i2, w0, w1] σ := q_iload_n t155_143 rfl
theorem t155_144 : decode (mb 155) 144 = .ok (.iadd, 1) := by decide +kernel
theorem s155_144 (d : Nat) (l0 : Value) (l1 : Value) (l2 : Value) (x y : Int32) (w0 : Value) (σ : Hs) : ru d 155 144 [l0, l1, l2] [.int y, .int x, w0] σ = ru d 155 145 [l0, l1, l2] [.int (x + y), w0] σ := q_iadd t155_144
theorem t155_145 : decode (mb 155) 145 = .ok (.aload_n 0, 1) := by decide +kernel
theorem s155_145 (d : Nat) (a0 : Nat) (l1 : Value) (l2 : Value) (w0 w1 : Value) (σ : Hs) : ru d 155 145 [.ref a0, l1, l2] [w0, w1] σ = ru d 155 146 [.ref a0, l1, l2] [.ref a0, w0, w1] σ := q_aload_n t155_145 rfl
theorem t155_146 : decode (mb 155) 146 = .ok (.getfield 43, 3) := by decide +kernel
theorem s155_146_o87 (d : Nat) (l0 : Value) (l1 : Value) (l2 : Value) (w0 w1 : Value) (σ : Hs) : ru d 155 146 [l0, l1, l2] [.ref 87, w0, w1] σ = ru d 155 149 [l0, l1, l2] [.ref 96, w0, w1] σ := q_getf t155_146 mo155 F8_43 rfl rfl
theorem t155_149 : decode (mb 155) 149 = .ok (.iload_n 2, 1) := by decide +kernel
theorem s155_149 (d : Nat) (l0 : Value) (l1 : Value) (i2 : Int32) (w0 w1 w2 : Value) (σ : Hs) : ru d 155 149 [l0, l1, .int i2] [w0, w1, w2] σ = ru d 155 150 [l0, l1, .int i2] [.int i2, w0, w1, w2] σ := q_iload_n t155_149 rfl
theorem t155_150 : decode (mb 155) 150 = .ok (.iaload, 1) := by decide +kernel
theorem s155_150_o96 (d : Nat) (l0 : Value) (l1 : Value) (l2 : Value) (i : Int32) (w0 w1 : Value) (σ : Hs) : ru d 155 150 [l0, l1, l2] [.int i, .ref 96, w0, w1] σ = gd (vp_in i 60) (ru d 155 151 [l0, l1, l2] [.int (σ 96 i.toNatClampNeg), w0, w1] σ) := q_iald t155_150 rfl (by decide +kernel) rfl
theorem t155_151 : decode (mb 155) 151 = .ok (.iastore, 1) := by decide +kernel
theorem s155_151_o88 (d : Nat) (l0 : Value) (l1 : Value) (l2 : Value) (i x : Int32) (σ : Hs) : ru d 155 151 [l0, l1, l2] [.int x, .int i, .ref 88] σ = gd (vp_in i 545) (ru d 155 152 [l0, l1, l2] [] (up2 σ 88 i.toNatClampNeg x)) := q_iast t155_151 (by decide +kernel) rfl rfl
theorem t155_152 : decode (mb 155) 152 = .ok (.iinc 2 1, 3) := by decide +kernel
theorem s155_152 (d : Nat) (l0 : Value) (i1 : Int32) (i2 : Int32) (σ : Hs) : ru d 155 152 [l0, .int i1, .int i2] [] σ = ru d 155 155 [l0, .int i1, .int (i2 + 1)] [] σ := q_iinc t155_152 ⟨Nat.le_of_ble_eq_true rfl, rfl⟩ rfl (by decide +kernel) rfl
theorem t155_155 : decode (mb 155) 155 = .ok (.goto (-37), 3) := by decide +kernel
theorem s155_155 (d : Nat) (l0 : Value) (l1 : Value) (l2 : Value) (σ : Hs) : ru d 155 155 [l0, l1, l2] [] σ = ru d 155 118 [l0, l1, l2] [] σ := q_goto t155_155 (by decide +kernel)
theorem t155_158 : decode (mb 155) 158 = .ok (.iconst 1, 1) := by decide +kernel
theorem s155_158 (d : Nat) (l0 : Value) (l1 : Value) (l2 : Value) (σ : Hs) : ru d 155 158 [l0, l1, l2] [] σ = ru d 155 159 [l0, l1, l2] [.int 1] σ := q_iconst t155_158 (by decide +kernel)
theorem t155_159 : decode (mb 155) 159 = .ok (.ireturn, 1) := by decide +kernel
theorem s155_159 (d : Nat) (l0 : Value) (l1 : Value) (l2 : Value) (x : Int32) (σ : Hs) : ru d 155 159 [l0, l1, l2] [.int x] σ = some (some (.int x), σ) := q_ireti t155_159 mr155
theorem c155 (d : Nat) (x0 : Nat) (x1 : Int32) (σ : Hs) : callD (d + 1) 155 [.ref x0, .int x1] σ = ru d 155 0 [.ref x0, .int x1, uu] [] σ := callD_ru ml155 rfl rfl (Nat.le_of_ble_eq_true rfl)
-- 156: Model.untell(I)I
theorem t156_0 : decode (mb 156) 0 = .ok (.iload_n 1, 1) := by decide +kernel
theorem s156_0 (d : Nat) (l0 : Value) (i1 : Int32) (σ : Hs) : ru d 156 0 [l0, .int i1] [] σ = ru d 156 1 [l0, .int i1] [.int i1] σ := q_iload_n t156_0 rfl
theorem t156_1 : decode (mb 156) 1 = .ok (.iconst 0, 1) := by decide +kernel
theorem s156_1 (d : Nat) (l0 : Value) (l1 : Value) (w0 : Value) (σ : Hs) : ru d 156 1 [l0, l1] [w0] σ = ru d 156 2 [l0, l1] [.int 0, w0] σ := q_iconst t156_1 (by decide +kernel)
theorem t156_2 : decode (mb 156) 2 = .ok (.iconst 2, 1) := by decide +kernel
theorem s156_2 (d : Nat) (l0 : Value) (l1 : Value) (w0 w1 : Value) (σ : Hs) : ru d 156 2 [l0, l1] [w0, w1] σ = ru d 156 3 [l0, l1] [.int 2, w0, w1] σ := q_iconst t156_2 (by decide +kernel)
theorem t156_3 : decode (mb 156) 3 = .ok (.invokestatic 81, 3) := by decide +kernel
theorem s156_3 (d : Nat) (l0 : Value) (l1 : Value) (v0 v1 v2 : Value) (σ : Hs) : ru d 156 3 [l0, l1] [v2, v1, v0] σ = kont (callD d 113 [v0, v1, v2] σ) d 156 6 [l0, l1] [] := q_invs t156_3 mo156 (by decide +kernel) K8_81 mj113 (Nat.le_of_ble_eq_true rfl) rfl rfl (Nat.le_of_ble_eq_true rfl)
theorem t156_6 : decode (mb 156) 6 = .ok (.ifCond .eq 27, 3) := by decide +kernel
theorem s156_6 (d : Nat) (l0 : Value) (l1 : Value) (x : Int32) (σ : Hs) : ru d 156 6 [l0, l1] [.int x] σ = if x = 0 then ru d 156 33 [l0, l1] [] σ else ru d 156 9 [l0, l1] [] σ := q_if_eq t156_6 (by decide +kernel)
theorem t156_9 : decode (mb 156) 9 = .ok (.aload_n 0, 1) := by decide +kernel
theorem s156_9 (d : Nat) (a0 : Nat) (l1 : Value) (σ : Hs) : ru d 156 9 [.ref a0, l1] [] σ = ru d 156 10 [.ref a0, l1] [.ref a0] σ := q_aload_n t156_9 rfl
theorem t156_10 : decode (mb 156) 10 = .ok (.sipush 359, 3) := by decide +kernel
theorem s156_10 (d : Nat) (l0 : Value) (l1 : Value) (w0 : Value) (σ : Hs) : ru d 156 10 [l0, l1] [w0] σ = ru d 156 13 [l0, l1] [.int 359, w0] σ := q_sipush t156_10 (by decide +kernel)
theorem t156_13 : decode (mb 156) 13 = .ok (.bipush 62, 2) := by decide +kernel
theorem s156_13 (d : Nat) (l0 : Value) (l1 : Value) (w0 w1 : Value) (σ : Hs) : ru d 156 13 [l0, l1] [w0, w1] σ = ru d 156 15 [l0, l1] [.int 62, w0, w1] σ := q_bipush t156_13 (by decide +kernel)
theorem t156_15 : decode (mb 156) 15 = .ok (.iload_n 1, 1) := by decide +kernel
theorem s156_15 (d : Nat) (l0 : Value) (i1 : Int32) (w0 w1 w2 : Value) (σ : Hs) : ru d 156 15 [l0, .int i1] [w0, w1, w2] σ = ru d 156 16 [l0, .int i1] [.int i1, w0, w1, w2] σ := q_iload_n t156_15 rfl
theorem t156_16 : decode (mb 156) 16 = .ok (.imul, 1) := by decide +kernel
theorem s156_16 (d : Nat) (l0 : Value) (l1 : Value) (x y : Int32) (w0 w1 : Value) (σ : Hs) : ru d 156 16 [l0, l1] [.int y, .int x, w0, w1] σ = ru d 156 17 [l0, l1] [.int (x * y), w0, w1] σ := q_imul t156_16
theorem t156_17 : decode (mb 156) 17 = .ok (.iadd, 1) := by decide +kernel
theorem s156_17 (d : Nat) (l0 : Value) (l1 : Value) (x y : Int32) (w0 : Value) (σ : Hs) : ru d 156 17 [l0, l1] [.int y, .int x, w0] σ = ru d 156 18 [l0, l1] [.int (x + y), w0] σ := q_iadd t156_17
theorem t156_18 : decode (mb 156) 18 = .ok (.iconst 0, 1) := by decide +kernel
theorem s156_18 (d : Nat) (l0 : Value) (l1 : Value) (w0 w1 : Value) (σ : Hs) : ru d 156 18 [l0, l1] [w0, w1] σ = ru d 156 19 [l0, l1] [.int 0, w0, w1] σ := q_iconst t156_18 (by decide +kernel)
theorem t156_19 : decode (mb 156) 19 = .ok (.invokevirtual 135, 3) := by decide +kernel
theorem s156_19_o87 (d : Nat) (l0 : Value) (l1 : Value) (v1 v2 : Value) (σ : Hs) : ru d 156 19 [l0, l1] [v2, v1, .ref 87] σ = kont (callD d 117 [.ref 87, v1, v2] σ) d 156 22 [l0, l1] [] := q_invv t156_19 mo156 K8_135 mj117 rfl rfl rfl rfl (Nat.le_of_ble_eq_true rfl)
theorem t156_22 : decode (mb 156) 22 = .ok (.ifCond .le 7, 3) := by decide +kernel
theorem s156_22 (d : Nat) (l0 : Value) (l1 : Value) (x : Int32) (σ : Hs) : ru d 156 22 [l0, l1] [.int x] σ = if x ≤ 0 then ru d 156 29 [l0, l1] [] σ else ru d 156 25 [l0, l1] [] σ := q_if_le t156_22 (by decide +kernel)
theorem t156_25 : decode (mb 156) 25 = .ok (.iconst 1, 1) := by decide +kernel
theorem s156_25 (d : Nat) (l0 : Value) (l1 : Value) (σ : Hs) : ru d 156 25 [l0, l1] [] σ = ru d 156 26 [l0, l1] [.int 1] σ := q_iconst t156_25 (by decide +kernel)
theorem t156_26 : decode (mb 156) 26 = .ok (.goto 13, 3) := by decide +kernel
theorem s156_26 (d : Nat) (l0 : Value) (l1 : Value) (w0 : Value) (σ : Hs) : ru d 156 26 [l0, l1] [w0] σ = ru d 156 39 [l0, l1] [w0] σ := q_goto t156_26 (by decide +kernel)
theorem t156_29 : decode (mb 156) 29 = .ok (.iconst 0, 1) := by decide +kernel
theorem s156_29 (d : Nat) (l0 : Value) (l1 : Value) (σ : Hs) : ru d 156 29 [l0, l1] [] σ = ru d 156 30 [l0, l1] [.int 0] σ := q_iconst t156_29 (by decide +kernel)
theorem t156_30 : decode (mb 156) 30 = .ok (.goto 9, 3) := by decide +kernel
theorem s156_30 (d : Nat) (l0 : Value) (l1 : Value) (w0 : Value) (σ : Hs) : ru d 156 30 [l0, l1] [w0] σ = ru d 156 39 [l0, l1] [w0] σ := q_goto t156_30 (by decide +kernel)
theorem t156_33 : decode (mb 156) 33 = .ok (.aload_n 0, 1) := by decide +kernel
theorem s156_33 (d : Nat) (a0 : Nat) (l1 : Value) (σ : Hs) : ru d 156 33 [.ref a0, l1] [] σ = ru d 156 34 [.ref a0, l1] [.ref a0] σ := q_aload_n t156_33 rfl
theorem t156_34 : decode (mb 156) 34 = .ok (.ldc 104, 2) := by decide +kernel
theorem s156_34 (d : Nat) (l0 : Value) (l1 : Value) (w0 : Value) (σ : Hs) : ru d 156 34 [l0, l1] [w0] σ = ru d 156 36 [l0, l1] [.int (-1000001), w0] σ := q_ldc t156_34 mo156 C8_104
theorem t156_36 : decode (mb 156) 36 = .ok (.invokevirtual 105, 3) := by decide +kernel
theorem s156_36_o87 (d : Nat) (l0 : Value) (l1 : Value) (v1 : Value) (σ : Hs) : ru d 156 36 [l0, l1] [v1, .ref 87] σ = kont (callD d 112 [.ref 87, v1] σ) d 156 39 [l0, l1] [] := q_invv t156_36 mo156 K8_105 mj112 rfl rfl rfl rfl (Nat.le_of_ble_eq_true rfl)
theorem t156_39 : decode (mb 156) 39 = .ok (.ireturn, 1) := by decide +kernel
theorem s156_39 (d : Nat) (l0 : Value) (l1 : Value) (x : Int32) (σ : Hs) : ru d 156 39 [l0, l1] [.int x] σ = some (some (.int x), σ) := q_ireti t156_39 mr156
theorem c156 (d : Nat) (x0 : Nat) (x1 : Int32) (σ : Hs) : callD (d + 1) 156 [.ref x0, .int x1] σ = ru d 156 0 [.ref x0, .int x1] [] σ := callD_ru ml156 rfl rfl (Nat.le_of_ble_eq_true rfl)
-- 157: Model.done(III)I
theorem t157_0 : decode (mb 157) 0 = .ok (.iload_n 0, 1) := by decide +kernel
theorem s157_0 (d : Nat) (i0 : Int32) (l1 : Value) (l2 : Value) (σ : Hs) : ru d 157 0 [.int i0, l1, l2] [] σ = ru d 157 1 [.int i0, l1, l2] [.int i0] σ := q_iload_n t157_0 rfl
theorem t157_1 : decode (mb 157) 1 = .ok (.tableswitch 136 20000 20008 #[51, 65, 79, 90, 101, 112, 116, 120, 124], 51) := by decide +kernel
theorem f157_1 (x : Int32) : (tsw 20000 20008 #[51, 65, 79, 90, 101, 112, 116, 120, 124] 136 x.toInt).bind (tgt 1) = some (if x = 20000 then 52 else (if x = 20001 then 66 else (if x = 20002 then 80 else (if x = 20003 then 91 else (if x = 20004 then 102 else (if x = 20005 then 113 else (if x = 20006 then 117 else (if x = 20007 then 121 else (if x = 20008 then 125 else 137))))))))) := by
  by_cases h0 : x = 20000
  · subst h0; decide +kernel
  by_cases h1 : x = 20001
  · subst h1; decide +kernel
  by_cases h2 : x = 20002
  · subst h2; decide +kernel
  by_cases h3 : x = 20003
  · subst h3; decide +kernel
  by_cases h4 : x = 20004
  · subst h4; decide +kernel
  by_cases h5 : x = 20005
  · subst h5; decide +kernel
  by_cases h6 : x = 20006
  · subst h6; decide +kernel
  by_cases h7 : x = 20007
  · subst h7; decide +kernel
  by_cases h8 : x = 20008
  · subst h8; decide +kernel
  have e0 : ¬ x.toInt = 20000 := fun h => h0 (Int32.toInt_inj.mp (h.trans (by decide +kernel)))
  have e1 : ¬ x.toInt = 20001 := fun h => h1 (Int32.toInt_inj.mp (h.trans (by decide +kernel)))
  have e2 : ¬ x.toInt = 20002 := fun h => h2 (Int32.toInt_inj.mp (h.trans (by decide +kernel)))
  have e3 : ¬ x.toInt = 20003 := fun h => h3 (Int32.toInt_inj.mp (h.trans (by decide +kernel)))
  have e4 : ¬ x.toInt = 20004 := fun h => h4 (Int32.toInt_inj.mp (h.trans (by decide +kernel)))
  have e5 : ¬ x.toInt = 20005 := fun h => h5 (Int32.toInt_inj.mp (h.trans (by decide +kernel)))
  have e6 : ¬ x.toInt = 20006 := fun h => h6 (Int32.toInt_inj.mp (h.trans (by decide +kernel)))
  have e7 : ¬ x.toInt = 20007 := fun h => h7 (Int32.toInt_inj.mp (h.trans (by decide +kernel)))
  have e8 : ¬ x.toInt = 20008 := fun h => h8 (Int32.toInt_inj.mp (h.trans (by decide +kernel)))
  have e : x.toInt < 20000 ∨ 20008 < x.toInt := by omega
  unfold tsw
  rw [if_pos e, if_neg h0, if_neg h1, if_neg h2, if_neg h3, if_neg h4, if_neg h5, if_neg h6, if_neg h7, if_neg h8]
  decide +kernel
theorem s157_1 (d : Nat) (l0 : Value) (l1 : Value) (l2 : Value) (x : Int32) (σ : Hs) : ru d 157 1 [l0, l1, l2] [.int x] σ = if x = 20000 then ru d 157 52 [l0, l1, l2] [] σ else if x = 20001 then ru d 157 66 [l0, l1, l2] [] σ else if x = 20002 then ru d 157 80 [l0, l1, l2] [] σ else if x = 20003 then ru d 157 91 [l0, l1, l2] [] σ else if x = 20004 then ru d 157 102 [l0, l1, l2] [] σ else if x = 20005 then ru d 157 113 [l0, l1, l2] [] σ else if x = 20006 then ru d 157 117 [l0, l1, l2] [] σ else if x = 20007 then ru d 157 121 [l0, l1, l2] [] σ else if x = 20008 then ru d 157 125 [l0, l1, l2] [] σ else ru d 157 137 [l0, l1, l2] [] σ := by
  refine (q_tsw t157_1 (fun x => (if x = 20000 then 52 else (if x = 20001 then 66 else (if x = 20002 then 80 else (if x = 20003 then 91 else (if x = 20004 then 102 else (if x = 20005 then 113 else (if x = 20006 then 117 else (if x = 20007 then 121 else (if x = 20008 then 125 else 137)))))))))) (f157_1 x)).trans ?_
  by_cases h0 : x = 20000
  · rw [if_pos h0, if_pos h0]
  rw [if_neg h0, if_neg h0]
  by_cases h1 : x = 20001
  · rw [if_pos h1, if_pos h1]
  rw [if_neg h1, if_neg h1]
  by_cases h2 : x = 20002
  · rw [if_pos h2, if_pos h2]
  rw [if_neg h2, if_neg h2]
  by_cases h3 : x = 20003
  · rw [if_pos h3, if_pos h3]
  rw [if_neg h3, if_neg h3]
  by_cases h4 : x = 20004
  · rw [if_pos h4, if_pos h4]
  rw [if_neg h4, if_neg h4]
  by_cases h5 : x = 20005
  · rw [if_pos h5, if_pos h5]
  rw [if_neg h5, if_neg h5]
  by_cases h6 : x = 20006
  · rw [if_pos h6, if_pos h6]
  rw [if_neg h6, if_neg h6]
  by_cases h7 : x = 20007
  · rw [if_pos h7, if_pos h7]
  rw [if_neg h7, if_neg h7]
  by_cases h8 : x = 20008
  · rw [if_pos h8, if_pos h8]
  rw [if_neg h8, if_neg h8]
theorem t157_52 : decode (mb 157) 52 = .ok (.iload_n 1, 1) := by decide +kernel
theorem s157_52 (d : Nat) (l0 : Value) (i1 : Int32) (l2 : Value) (σ : Hs) : ru d 157 52 [l0, .int i1, l2] [] σ = ru d 157 53 [l0, .int i1, l2] [.int i1] σ := q_iload_n t157_52 rfl
theorem t157_53 : decode (mb 157) 53 = .ok (.ifCond .ne 7, 3) := by decide +kernel
theorem s157_53 (d : Nat) (l0 : Value) (l1 : Value) (l2 : Value) (x : Int32) (σ : Hs) : ru d 157 53 [l0, l1, l2] [.int x] σ = if x = 0 then ru d 157 56 [l0, l1, l2] [] σ else ru d 157 60 [l0, l1, l2] [] σ := q_if_ne t157_53 (by decide +kernel)
theorem t157_56 : decode (mb 157) 56 = .ok (.iload_n 2, 1) := by decide +kernel
theorem s157_56 (d : Nat) (l0 : Value) (l1 : Value) (i2 : Int32) (σ : Hs) : ru d 157 56 [l0, l1, .int i2] [] σ = ru d 157 57 [l0, l1, .int i2] [.int i2] σ := q_iload_n t157_56 rfl
theorem t157_57 : decode (mb 157) 57 = .ok (.ifCond .eq 7, 3) := by decide +kernel
theorem s157_57 (d : Nat) (l0 : Value) (l1 : Value) (l2 : Value) (x : Int32) (σ : Hs) : ru d 157 57 [l0, l1, l2] [.int x] σ = if x = 0 then ru d 157 64 [l0, l1, l2] [] σ else ru d 157 60 [l0, l1, l2] [] σ := q_if_eq t157_57 (by decide +kernel)
theorem t157_60 : decode (mb 157) 60 = .ok (.iconst 1, 1) := by decide +kernel
theorem s157_60 (d : Nat) (l0 : Value) (l1 : Value) (l2 : Value) (σ : Hs) : ru d 157 60 [l0, l1, l2] [] σ = ru d 157 61 [l0, l1, l2] [.int 1] σ := q_iconst t157_60 (by decide +kernel)
theorem t157_61 : decode (mb 157) 61 = .ok (.goto 4, 3) := by decide +kernel
theorem s157_61 (d : Nat) (l0 : Value) (l1 : Value) (l2 : Value) (w0 : Value) (σ : Hs) : ru d 157 61 [l0, l1, l2] [w0] σ = ru d 157 65 [l0, l1, l2] [w0] σ := q_goto t157_61 (by decide +kernel)
theorem t157_64 : decode (mb 157) 64 = .ok (.iconst 0, 1) := by decide +kernel
theorem s157_64 (d : Nat) (l0 : Value) (l1 : Value) (l2 : Value) (σ : Hs) : ru d 157 64 [l0, l1, l2] [] σ = ru d 157 65 [l0, l1, l2] [.int 0] σ := q_iconst t157_64 (by decide +kernel)
theorem t157_65 : decode (mb 157) 65 = .ok (.ireturn, 1) := by decide +kernel
theorem s157_65 (d : Nat) (l0 : Value) (l1 : Value) (l2 : Value) (x : Int32) (σ : Hs) : ru d 157 65 [l0, l1, l2] [.int x] σ = some (some (.int x), σ) := q_ireti t157_65 mr157
theorem t157_66 : decode (mb 157) 66 = .ok (.iload_n 1, 1) := by decide +kernel
theorem s157_66 (d : Nat) (l0 : Value) (i1 : Int32) (l2 : Value) (σ : Hs) : ru d 157 66 [l0, .int i1, l2] [] σ = ru d 157 67 [l0, .int i1, l2] [.int i1] σ := q_iload_n t157_66 rfl
theorem t157_67 : decode (mb 157) 67 = .ok (.ifCond .eq 11, 3) := by decide +kernel
theorem s157_67 (d : Nat) (l0 : Value) (l1 : Value) (l2 : Value) (x : Int32) (σ : Hs) : ru d 157 67 [l0, l1, l2] [.int x] σ = if x = 0 then ru d 157 78 [l0, l1, l2] [] σ else ru d 157 70 [l0, l1, l2] [] σ := q_if_eq t157_67 (by decide +kernel)
theorem t157_70 : decode (mb 157) 70 = .ok (.iload_n 2, 1) := by decide +kernel
theorem s157_70 (d : Nat) (l0 : Value) (l1 : Value) (i2 : Int32) (σ : Hs) : ru d 157 70 [l0, l1, .int i2] [] σ = ru d 157 71 [l0, l1, .int i2] [.int i2] σ := q_iload_n t157_70 rfl
theorem t157_71 : decode (mb 157) 71 = .ok (.ifCond .eq 7, 3) := by decide +kernel
theorem s157_71 (d : Nat) (l0 : Value) (l1 : Value) (l2 : Value) (x : Int32) (σ : Hs) : ru d 157 71 [l0, l1, l2] [.int x] σ = if x = 0 then ru d 157 78 [l0, l1, l2] [] σ else ru d 157 74 [l0, l1, l2] [] σ := q_if_eq t157_71 (by decide +kernel)
theorem t157_74 : decode (mb 157) 74 = .ok (.iconst 1, 1) := by decide +kernel
theorem s157_74 (d : Nat) (l0 : Value) (l1 : Value) (l2 : Value) (σ : Hs) : ru d 157 74 [l0, l1, l2] [] σ = ru d 157 75 [l0, l1, l2] [.int 1] σ := q_iconst t157_74 (by decide +kernel)
theorem t157_75 : decode (mb 157) 75 = .ok (.goto 4, 3) := by decide +kernel
theorem s157_75 (d : Nat) (l0 : Value) (l1 : Value) (l2 : Value) (w0 : Value) (σ : Hs) : ru d 157 75 [l0, l1, l2] [w0] σ = ru d 157 79 [l0, l1, l2] [w0] σ := q_goto t157_75 (by decide +kernel)
theorem t157_78 : decode (mb 157) 78 = .ok (.iconst 0, 1) := by decide +kernel
theorem s157_78 (d : Nat) (l0 : Value) (l1 : Value) (l2 : Value) (σ : Hs) : ru d 157 78 [l0, l1, l2] [] σ = ru d 157 79 [l0, l1, l2] [.int 0] σ := q_iconst t157_78 (by decide +kernel)
theorem t157_79 : decode (mb 157) 79 = .ok (.ireturn, 1) := by decide +kernel
theorem s157_79 (d : Nat) (l0 : Value) (l1 : Value) (l2 : Value) (x : Int32) (σ : Hs) : ru d 157 79 [l0, l1, l2] [.int x] σ = some (some (.int x), σ) := q_ireti t157_79 mr157
theorem t157_80 : decode (mb 157) 80 = .ok (.iload_n 1, 1) := by decide +kernel
theorem s157_80 (d : Nat) (l0 : Value) (i1 : Int32) (l2 : Value) (σ : Hs) : ru d 157 80 [l0, .int i1, l2] [] σ = ru d 157 81 [l0, .int i1, l2] [.int i1] σ := q_iload_n t157_80 rfl
theorem t157_81 : decode (mb 157) 81 = .ok (.iload_n 2, 1) := by decide +kernel
theorem s157_81 (d : Nat) (l0 : Value) (l1 : Value) (i2 : Int32) (w0 : Value) (σ : Hs) : ru d 157 81 [l0, l1, .int i2] [w0] σ = ru d 157 82 [l0, l1, .int i2] [.int i2, w0] σ := q_iload_n t157_81 rfl
theorem t157_82 : decode (mb 157) 82 = .ok (.if_icmp .ge 7, 3) := by decide +kernel
theorem s157_82 (d : Nat) (l0 : Value) (l1 : Value) (l2 : Value) (x y : Int32) (σ : Hs) : ru d 157 82 [l0, l1, l2] [.int y, .int x] σ = if y ≤ x then ru d 157 89 [l0, l1, l2] [] σ else ru d 157 85 [l0, l1, l2] [] σ := q_ic_ge t157_82 (by decide +kernel)
theorem t157_85 : decode (mb 157) 85 = .ok (.iconst 1, 1) := by decide +kernel
theorem s157_85 (d : Nat) (l0 : Value) (l1 : Value) (l2 : Value) (σ : Hs) : ru d 157 85 [l0, l1, l2] [] σ = ru d 157 86 [l0, l1, l2] [.int 1] σ := q_iconst t157_85 (by decide +kernel)
theorem t157_86 : decode (mb 157) 86 = .ok (.goto 4, 3) := by decide +kernel
theorem s157_86 (d : Nat) (l0 : Value) (l1 : Value) (l2 : Value) (w0 : Value) (σ : Hs) : ru d 157 86 [l0, l1, l2] [w0] σ = ru d 157 90 [l0, l1, l2] [w0] σ := q_goto t157_86 (by decide +kernel)
theorem t157_89 : decode (mb 157) 89 = .ok (.iconst 0, 1) := by decide +kernel
theorem s157_89 (d : Nat) (l0 : Value) (l1 : Value) (l2 : Value) (σ : Hs) : ru d 157 89 [l0, l1, l2] [] σ = ru d 157 90 [l0, l1, l2] [.int 0] σ := q_iconst t157_89 (by decide +kernel)
theorem t157_90 : decode (mb 157) 90 = .ok (.ireturn, 1) := by decide +kernel
theorem s157_90 (d : Nat) (l0 : Value) (l1 : Value) (l2 : Value) (x : Int32) (σ : Hs) : ru d 157 90 [l0, l1, l2] [.int x] σ = some (some (.int x), σ) := q_ireti t157_90 mr157
theorem t157_91 : decode (mb 157) 91 = .ok (.iload_n 1, 1) := by decide +kernel
theorem s157_91 (d : Nat) (l0 : Value) (i1 : Int32) (l2 : Value) (σ : Hs) : ru d 157 91 [l0, .int i1, l2] [] σ = ru d 157 92 [l0, .int i1, l2] [.int i1] σ := q_iload_n t157_91 rfl
theorem t157_92 : decode (mb 157) 92 = .ok (.iload_n 2, 1) := by decide +kernel
theorem s157_92 (d : Nat) (l0 : Value) (l1 : Value) (i2 : Int32) (w0 : Value) (σ : Hs) : ru d 157 92 [l0, l1, .int i2] [w0] σ = ru d 157 93 [l0, l1, .int i2] [.int i2, w0] σ := q_iload_n t157_92 rfl
theorem t157_93 : decode (mb 157) 93 = .ok (.if_icmp .ne 7, 3) := by decide +kernel
theorem s157_93 (d : Nat) (l0 : Value) (l1 : Value) (l2 : Value) (x y : Int32) (σ : Hs) : ru d 157 93 [l0, l1, l2] [.int y, .int x] σ = if x = y then ru d 157 96 [l0, l1, l2] [] σ else ru d 157 100 [l0, l1, l2] [] σ := q_ic_ne t157_93 (by decide +kernel)
theorem t157_96 : decode (mb 157) 96 = .ok (.iconst 1, 1) := by decide +kernel
theorem s157_96 (d : Nat) (l0 : Value) (l1 : Value) (l2 : Value) (σ : Hs) : ru d 157 96 [l0, l1, l2] [] σ = ru d 157 97 [l0, l1, l2] [.int 1] σ := q_iconst t157_96 (by decide +kernel)
theorem t157_97 : decode (mb 157) 97 = .ok (.goto 4, 3) := by decide +kernel
theorem s157_97 (d : Nat) (l0 : Value) (l1 : Value) (l2 : Value) (w0 : Value) (σ : Hs) : ru d 157 97 [l0, l1, l2] [w0] σ = ru d 157 101 [l0, l1, l2] [w0] σ := q_goto t157_97 (by decide +kernel)
theorem t157_100 : decode (mb 157) 100 = .ok (.iconst 0, 1) := by decide +kernel
theorem s157_100 (d : Nat) (l0 : Value) (l1 : Value) (l2 : Value) (σ : Hs) : ru d 157 100 [l0, l1, l2] [] σ = ru d 157 101 [l0, l1, l2] [.int 0] σ := q_iconst t157_100 (by decide +kernel)
theorem t157_101 : decode (mb 157) 101 = .ok (.ireturn, 1) := by decide +kernel
theorem s157_101 (d : Nat) (l0 : Value) (l1 : Value) (l2 : Value) (x : Int32) (σ : Hs) : ru d 157 101 [l0, l1, l2] [.int x] σ = some (some (.int x), σ) := q_ireti t157_101 mr157
theorem t157_102 : decode (mb 157) 102 = .ok (.iload_n 1, 1) := by decide +kernel
theorem s157_102 (d : Nat) (l0 : Value) (i1 : Int32) (l2 : Value) (σ : Hs) : ru d 157 102 [l0, .int i1, l2] [] σ = ru d 157 103 [l0, .int i1, l2] [.int i1] σ := q_iload_n t157_102 rfl
theorem t157_103 : decode (mb 157) 103 = .ok (.iload_n 2, 1) := by decide +kernel
theorem s157_103 (d : Nat) (l0 : Value) (l1 : Value) (i2 : Int32) (w0 : Value) (σ : Hs) : ru d 157 103 [l0, l1, .int i2] [w0] σ = ru d 157 104 [l0, l1, .int i2] [.int i2, w0] σ := q_iload_n t157_103 rfl
theorem t157_104 : decode (mb 157) 104 = .ok (.if_icmp .le 7, 3) := by decide +kernel
theorem s157_104 (d : Nat) (l0 : Value) (l1 : Value) (l2 : Value) (x y : Int32) (σ : Hs) : ru d 157 104 [l0, l1, l2] [.int y, .int x] σ = if x ≤ y then ru d 157 111 [l0, l1, l2] [] σ else ru d 157 107 [l0, l1, l2] [] σ := q_ic_le t157_104 (by decide +kernel)
theorem t157_107 : decode (mb 157) 107 = .ok (.iconst 1, 1) := by decide +kernel
theorem s157_107 (d : Nat) (l0 : Value) (l1 : Value) (l2 : Value) (σ : Hs) : ru d 157 107 [l0, l1, l2] [] σ = ru d 157 108 [l0, l1, l2] [.int 1] σ := q_iconst t157_107 (by decide +kernel)
theorem t157_108 : decode (mb 157) 108 = .ok (.goto 4, 3) := by decide +kernel
theorem s157_108 (d : Nat) (l0 : Value) (l1 : Value) (l2 : Value) (w0 : Value) (σ : Hs) : ru d 157 108 [l0, l1, l2] [w0] σ = ru d 157 112 [l0, l1, l2] [w0] σ := q_goto t157_108 (by decide +kernel)
theorem t157_111 : decode (mb 157) 111 = .ok (.iconst 0, 1) := by decide +kernel
theorem s157_111 (d : Nat) (l0 : Value) (l1 : Value) (l2 : Value) (σ : Hs) : ru d 157 111 [l0, l1, l2] [] σ = ru d 157 112 [l0, l1, l2] [.int 0] σ := q_iconst t157_111 (by decide +kernel)
theorem t157_112 : decode (mb 157) 112 = .ok (.ireturn, 1) := by decide +kernel
theorem s157_112 (d : Nat) (l0 : Value) (l1 : Value) (l2 : Value) (x : Int32) (σ : Hs) : ru d 157 112 [l0, l1, l2] [.int x] σ = some (some (.int x), σ) := q_ireti t157_112 mr157
theorem t157_113 : decode (mb 157) 113 = .ok (.iload_n 1, 1) := by decide +kernel
theorem s157_113 (d : Nat) (l0 : Value) (i1 : Int32) (l2 : Value) (σ : Hs) : ru d 157 113 [l0, .int i1, l2] [] σ = ru d 157 114 [l0, .int i1, l2] [.int i1] σ := q_iload_n t157_113 rfl
theorem t157_114 : decode (mb 157) 114 = .ok (.iload_n 2, 1) := by decide +kernel
theorem s157_114 (d : Nat) (l0 : Value) (l1 : Value) (i2 : Int32) (w0 : Value) (σ : Hs) : ru d 157 114 [l0, l1, .int i2] [w0] σ = ru d 157 115 [l0, l1, .int i2] [.int i2, w0] σ := q_iload_n t157_114 rfl
theorem t157_115 : decode (mb 157) 115 = .ok (.iadd, 1) := by decide +kernel
theorem s157_115 (d : Nat) (l0 : Value) (l1 : Value) (l2 : Value) (x y : Int32) (σ : Hs) : ru d 157 115 [l0, l1, l2] [.int y, .int x] σ = ru d 157 116 [l0, l1, l2] [.int (x + y)] σ := q_iadd t157_115
theorem t157_116 : decode (mb 157) 116 = .ok (.ireturn, 1) := by decide +kernel
theorem s157_116 (d : Nat) (l0 : Value) (l1 : Value) (l2 : Value) (x : Int32) (σ : Hs) : ru d 157 116 [l0, l1, l2] [.int x] σ = some (some (.int x), σ) := q_ireti t157_116 mr157
theorem t157_117 : decode (mb 157) 117 = .ok (.iload_n 1, 1) := by decide +kernel
theorem s157_117 (d : Nat) (l0 : Value) (i1 : Int32) (l2 : Value) (σ : Hs) : ru d 157 117 [l0, .int i1, l2] [] σ = ru d 157 118 [l0, .int i1, l2] [.int i1] σ := q_iload_n t157_117 rfl
theorem t157_118 : decode (mb 157) 118 = .ok (.iload_n 2, 1) := by decide +kernel
theorem s157_118 (d : Nat) (l0 : Value) (l1 : Value) (i2 : Int32) (w0 : Value) (σ : Hs) : ru d 157 118 [l0, l1, .int i2] [w0] σ = ru d 157 119 [l0, l1, .int i2] [.int i2, w0] σ := q_iload_n t157_118 rfl
theorem t157_119 : decode (mb 157) 119 = .ok (.isub, 1) := by decide +kernel
theorem s157_119 (d : Nat) (l0 : Value) (l1 : Value) (l2 : Value) (x y : Int32) (σ : Hs) : ru d 157 119 [l0, l1, l2] [.int y, .int x] σ = ru d 157 120 [l0, l1, l2] [.int (x - y)] σ := q_isub t157_119
theorem t157_120 : decode (mb 157) 120 = .ok (.ireturn, 1) := by decide +kernel
theorem s157_120 (d : Nat) (l0 : Value) (l1 : Value) (l2 : Value) (x : Int32) (σ : Hs) : ru d 157 120 [l0, l1, l2] [.int x] σ = some (some (.int x), σ) := q_ireti t157_120 mr157
theorem t157_121 : decode (mb 157) 121 = .ok (.iload_n 1, 1) := by decide +kernel
theorem s157_121 (d : Nat) (l0 : Value) (i1 : Int32) (l2 : Value) (σ : Hs) : ru d 157 121 [l0, .int i1, l2] [] σ = ru d 157 122 [l0, .int i1, l2] [.int i1] σ := q_iload_n t157_121 rfl
theorem t157_122 : decode (mb 157) 122 = .ok (.iload_n 2, 1) := by decide +kernel
theorem s157_122 (d : Nat) (l0 : Value) (l1 : Value) (i2 : Int32) (w0 : Value) (σ : Hs) : ru d 157 122 [l0, l1, .int i2] [w0] σ = ru d 157 123 [l0, l1, .int i2] [.int i2, w0] σ := q_iload_n t157_122 rfl
theorem t157_123 : decode (mb 157) 123 = .ok (.imul, 1) := by decide +kernel
theorem s157_123 (d : Nat) (l0 : Value) (l1 : Value) (l2 : Value) (x y : Int32) (σ : Hs) : ru d 157 123 [l0, l1, l2] [.int y, .int x] σ = ru d 157 124 [l0, l1, l2] [.int (x * y)] σ := q_imul t157_123
theorem t157_124 : decode (mb 157) 124 = .ok (.ireturn, 1) := by decide +kernel
theorem s157_124 (d : Nat) (l0 : Value) (l1 : Value) (l2 : Value) (x : Int32) (σ : Hs) : ru d 157 124 [l0, l1, l2] [.int x] σ = some (some (.int x), σ) := q_ireti t157_124 mr157
theorem t157_125 : decode (mb 157) 125 = .ok (.iload_n 2, 1) := by decide +kernel
theorem s157_125 (d : Nat) (l0 : Value) (l1 : Value) (i2 : Int32) (σ : Hs) : ru d 157 125 [l0, l1, .int i2] [] σ = ru d 157 126 [l0, l1, .int i2] [.int i2] σ := q_iload_n t157_125 rfl
theorem t157_126 : decode (mb 157) 126 = .ok (.ifCond .ne 7, 3) := by decide +kernel
theorem s157_126 (d : Nat) (l0 : Value) (l1 : Value) (l2 : Value) (x : Int32) (σ : Hs) : ru d 157 126 [l0, l1, l2] [.int x] σ = if x = 0 then ru d 157 129 [l0, l1, l2] [] σ else ru d 157 133 [l0, l1, l2] [] σ := q_if_ne t157_126 (by decide +kernel)
theorem t157_129 : decode (mb 157) 129 = .ok (.iconst 0, 1) := by decide +kernel
theorem s157_129 (d : Nat) (l0 : Value) (l1 : Value) (l2 : Value) (σ : Hs) : ru d 157 129 [l0, l1, l2] [] σ = ru d 157 130 [l0, l1, l2] [.int 0] σ := q_iconst t157_129 (by decide +kernel)
theorem t157_130 : decode (mb 157) 130 = .ok (.goto 6, 3) := by decide +kernel
theorem s157_130 (d : Nat) (l0 : Value) (l1 : Value) (l2 : Value) (w0 : Value) (σ : Hs) : ru d 157 130 [l0, l1, l2] [w0] σ = ru d 157 136 [l0, l1, l2] [w0] σ := q_goto t157_130 (by decide +kernel)
theorem t157_133 : decode (mb 157) 133 = .ok (.iload_n 1, 1) := by decide +kernel
theorem s157_133 (d : Nat) (l0 : Value) (i1 : Int32) (l2 : Value) (σ : Hs) : ru d 157 133 [l0, .int i1, l2] [] σ = ru d 157 134 [l0, .int i1, l2] [.int i1] σ := q_iload_n t157_133 rfl
theorem t157_134 : decode (mb 157) 134 = .ok (.iload_n 2, 1) := by decide +kernel
theorem s157_134 (d : Nat) (l0 : Value) (l1 : Value) (i2 : Int32) (w0 : Value) (σ : Hs) : ru d 157 134 [l0, l1, .int i2] [w0] σ = ru d 157 135 [l0, l1, .int i2] [.int i2, w0] σ := q_iload_n t157_134 rfl
theorem t157_135 : decode (mb 157) 135 = .ok (.idiv, 1) := by decide +kernel
theorem s157_135 (d : Nat) (l0 : Value) (l1 : Value) (l2 : Value) (x y : Int32) (σ : Hs) : ru d 157 135 [l0, l1, l2] [.int y, .int x] σ = gd (¬ y = 0) (ru d 157 136 [l0, l1, l2] [.int (x / y)] σ) := q_idiv t157_135
theorem t157_136 : decode (mb 157) 136 = .ok (.ireturn, 1) := by decide +kernel
theorem s157_136 (d : Nat) (l0 : Value) (l1 : Value) (l2 : Value) (x : Int32) (σ : Hs) : ru d 157 136 [l0, l1, l2] [.int x] σ = some (some (.int x), σ) := q_ireti t157_136 mr157
theorem t157_137 : decode (mb 157) 137 = .ok (.iload_n 2, 1) := by decide +kernel
theorem s157_137 (d : Nat) (l0 : Value) (l1 : Value) (i2 : Int32) (σ : Hs) : ru d 157 137 [l0, l1, .int i2] [] σ = ru d 157 138 [l0, l1, .int i2] [.int i2] σ := q_iload_n t157_137 rfl
theorem t157_138 : decode (mb 157) 138 = .ok (.ifCond .ne 7, 3) := by decide +kernel
theorem s157_138 (d : Nat) (l0 : Value) (l1 : Value) (l2 : Value) (x : Int32) (σ : Hs) : ru d 157 138 [l0, l1, l2] [.int x] σ = if x = 0 then ru d 157 141 [l0, l1, l2] [] σ else ru d 157 145 [l0, l1, l2] [] σ := q_if_ne t157_138 (by decide +kernel)
theorem t157_141 : decode (mb 157) 141 = .ok (.iconst 0, 1) := by decide +kernel
theorem s157_141 (d : Nat) (l0 : Value) (l1 : Value) (l2 : Value) (σ : Hs) : ru d 157 141 [l0, l1, l2] [] σ = ru d 157 142 [l0, l1, l2] [.int 0] σ := q_iconst t157_141 (by decide +kernel)
theorem t157_142 : decode (mb 157) 142 = .ok (.goto 6, 3) := by decide +kernel
theorem s157_142 (d : Nat) (l0 : Value) (l1 : Value) (l2 : Value) (w0 : Value) (σ : Hs) : ru d 157 142 [l0, l1, l2] [w0] σ = ru d 157 148 [l0, l1, l2] [w0] σ := q_goto t157_142 (by decide +kernel)
theorem t157_145 : decode (mb 157) 145 = .ok (.iload_n 1, 1) := by decide +kernel
theorem s157_145 (d : Nat) (l0 : Value) (i1 : Int32) (l2 : Value) (σ : Hs) : ru d 157 145 [l0, .int i1, l2] [] σ = ru d 157 146 [l0, .int i1, l2] [.int i1] σ := q_iload_n t157_145 rfl
theorem t157_146 : decode (mb 157) 146 = .ok (.iload_n 2, 1) := by decide +kernel
theorem s157_146 (d : Nat) (l0 : Value) (l1 : Value) (i2 : Int32) (w0 : Value) (σ : Hs) : ru d 157 146 [l0, l1, .int i2] [w0] σ = ru d 157 147 [l0, l1, .int i2] [.int i2, w0] σ := q_iload_n t157_146 rfl
theorem t157_147 : decode (mb 157) 147 = .ok (.irem, 1) := by decide +kernel
theorem s157_147 (d : Nat) (l0 : Value) (l1 : Value) (l2 : Value) (x y : Int32) (σ : Hs) : ru d 157 147 [l0, l1, l2] [.int y, .int x] σ = gd (¬ y = 0) (ru d 157 148 [l0, l1, l2] [.int (x - x / y * y)] σ) := q_irem t157_147
theorem t157_148 : decode (mb 157) 148 = .ok (.ireturn, 1) := by decide +kernel
theorem s157_148 (d : Nat) (l0 : Value) (l1 : Value) (l2 : Value) (x : Int32) (σ : Hs) : ru d 157 148 [l0, l1, l2] [.int x] σ = some (some (.int x), σ) := q_ireti t157_148 mr157
theorem c157 (d : Nat) (x0 : Int32) (x1 : Int32) (x2 : Int32) (σ : Hs) : callD (d + 1) 157 [.int x0, .int x1, .int x2] σ = ru d 157 0 [.int x0, .int x1, .int x2] [] σ := callD_ru ml157 rfl rfl (Nat.le_of_ble_eq_true rfl)
-- 158: Model.worked(I)I
theorem t158_0 : decode (mb 158) 0 = .ok (.iconst 0, 1) := by decide +kernel
theorem s158_0 (d : Nat) (l0 : Value) (l1 : Value) (l2 : Value) (l3 : Value) (l4 : Value) (σ : Hs) : ru d 158 0 [l0, l1, l2, l3, l4] [] σ = ru d 158 1 [l0, l1, l2, l3, l4] [.int 0] σ := q_iconst t158_0 (by decide +kernel)
theorem t158_1 : decode (mb 158) 1 = .ok (.istore_n 2, 1) := by decide +kernel
theorem s158_1 (d : Nat) (l0 : Value) (i1 : Int32) (l2 : Value) (l3 : Value) (l4 : Value) (x : Int32) (σ : Hs) : ru d 158 1 [l0, .int i1, l2, l3, l4] [.int x] σ = ru d 158 2 [l0, .int i1, .int x, l3, l4] [] σ := q_istore_n t158_1 ⟨Nat.le_of_ble_eq_true rfl, rfl⟩ rfl
theorem t158_2 : decode (mb 158) 2 = .ok (.iload_n 1, 1) := by decide +kernel
theorem s158_2 (d : Nat) (l0 : Value) (i1 : Int32) (l2 : Value) (l3 : Value) (l4 : Value) (σ : Hs) : ru d 158 2 [l0, .int i1, l2, l3, l4] [] σ = ru d 158 3 [l0, .int i1, l2, l3, l4] [.int i1] σ := q_iload_n t158_2 rfl
theorem t158_3 : decode (mb 158) 3 = .ok (.istore_n 3, 1) := by decide +kernel
theorem s158_3 (d : Nat) (l0 : Value) (l1 : Value) (i2 : Int32) (l3 : Value) (l4 : Value) (x : Int32) (σ : Hs) : ru d 158 3 [l0, l1, .int i2, l3, l4] [.int x] σ = ru d 158 4 [l0, l1, .int i2, .int x, l4] [] σ := q_istore_n t158_3 ⟨Nat.le_of_ble_eq_true rfl, rfl⟩ rfl
theorem t158_4 : decode (mb 158) 4 = .ok (.iload_n 3, 1) := by decide +kernel
theorem s158_4 (d : Nat) (l0 : Value) (l1 : Value) (l2 : Value) (i3 : Int32) (l4 : Value) (σ : Hs) : ru d 158 4 [l0, l1, l2, .int i3, l4] [] σ = ru d 158 5 [l0, l1, l2, .int i3, l4] [.int i3] σ := q_iload_n t158_4 rfl
theorem t158_5 : decode (mb 158) 5 = .ok (.iload_n 1, 1) := by decide +kernel
theorem s158_5 (d : Nat) (l0 : Value) (i1 : Int32) (l2 : Value) (l3 : Value) (l4 : Value) (w0 : Value) (σ : Hs) : ru d 158 5 [l0, .int i1, l2, l3, l4] [w0] σ = ru d 158 6 [l0, .int i1, l2, l3, l4] [.int i1, w0] σ := q_iload_n t158_5 rfl
theorem t158_6 : decode (mb 158) 6 = .ok (.aload_n 0, 1) := by decide +kernel
theorem s158_6 (d : Nat) (a0 : Nat) (l1 : Value) (l2 : Value) (l3 : Value) (l4 : Value) (w0 w1 : Value) (σ : Hs) : ru d 158 6 [.ref a0, l1, l2, l3, l4] [w0, w1] σ = ru d 158 7 [.ref a0, l1, l2, l3, l4] [.ref a0, w0, w1] σ := q_aload_n t158_6 rfl
theorem t158_7 : decode (mb 158) 7 = .ok (.getfield 9, 3) := by decide +kernel
theorem s158_7_o87 (d : Nat) (l0 : Value) (l1 : Value) (l2 : Value) (l3 : Value) (l4 : Value) (w0 w1 : Value) (σ : Hs) : ru d 158 7 [l0, l1, l2, l3, l4] [.ref 87, w0, w1] σ = ru d 158 10 [l0, l1, l2, l3, l4] [.ref 88, w0, w1] σ := q_getf t158_7 mo158 F8_9 rfl rfl
theorem t158_10 : decode (mb 158) 10 = .ok (.iload_n 1, 1) := by decide +kernel
theorem s158_10 (d : Nat) (l0 : Value) (i1 : Int32) (l2 : Value) (l3 : Value) (l4 : Value) (w0 w1 w2 : Value) (σ : Hs) : ru d 158 10 [l0, .int i1, l2, l3, l4] [w0, w1, w2] σ = ru d 158 11 [l0, .int i1, l2, l3, l4] [.int i1, w0, w1, w2] σ := q_iload_n t158_10 rfl
theorem t158_11 : decode (mb 158) 11 = .ok (.iconst 1, 1) := by decide +kernel
theorem s158_11 (d : Nat) (l0 : Value) (l1 : Value) (l2 : Value) (l3 : Value) (l4 : Value) (w0 w1 w2 w3 : Value) (σ : Hs) : ru d 158 11 [l0, l1, l2, l3, l4] [w0, w1, w2, w3] σ = ru d 158 12 [l0, l1, l2, l3, l4] [.int 1, w0, w1, w2, w3] σ := q_iconst t158_11 (by decide +kernel)
theorem t158_12 : decode (mb 158) 12 = .ok (.isub, 1) := by decide +kernel
theorem s158_12 (d : Nat) (l0 : Value) (l1 : Value) (l2 : Value) (l3 : Value) (l4 : Value) (x y : Int32) (w0 w1 w2 : Value) (σ : Hs) : ru d 158 12 [l0, l1, l2, l3, l4] [.int y, .int x, w0, w1, w2] σ = ru d 158 13 [l0, l1, l2, l3, l4] [.int (x - y), w0, w1, w2] σ := q_isub t158_12
theorem t158_13 : decode (mb 158) 13 = .ok (.iaload, 1) := by decide +kernel
theorem s158_13_o88 (d : Nat) (l0 : Value) (l1 : Value) (l2 : Value) (l3 : Value) (l4 : Value) (i : Int32) (w0 w1 : Value) (σ : Hs) : ru d 158 13 [l0, l1, l2, l3, l4] [.int i, .ref 88, w0, w1] σ = gd (vp_in i 545) (ru d 158 14 [l0, l1, l2, l3, l4] [.int (σ 88 i.toNatClampNeg), w0, w1] σ) := q_iald t158_13 rfl (by decide +kernel) rfl
theorem t158_14 : decode (mb 158) 14 = .ok (.iadd, 1) := by decide +kernel
theorem s158_14 (d : Nat) (l0 : Value) (l1 : Value) (l2 : Value) (l3 : Value) (l4 : Value) (x y : Int32) (w0 : Value) (σ : Hs) : ru d 158 14 [l0, l1, l2, l3, l4] [.int y, .int x, w0] σ = ru d 158 15 [l0, l1, l2, l3, l4] [.int (x + y), w0] σ := q_iadd t158_14
theorem t158_15 : decode (mb 158) 15 = .ok (.if_icmp .ge 126, 3) := by decide +kernel
theorem s158_15 (d : Nat) (l0 : Value) (l1 : Value) (l2 : Value) (l3 : Value) (l4 : Value) (x y : Int32) (σ : Hs) : ru d 158 15 [l0, l1, l2, l3, l4] [.int y, .int x] σ = if y ≤ x then ru d 158 141 [l0, l1, l2, l3, l4] [] σ else ru d 158 18 [l0, l1, l2, l3, l4] [] σ := q_ic_ge t158_15 (by decide +kernel)
theorem t158_18 : decode (mb 158) 18 = .ok (.aload_n 0, 1) := by decide +kernel
theorem s158_18 (d : Nat) (a0 : Nat) (l1 : Value) (l2 : Value) (l3 : Value) (l4 : Value) (σ : Hs) : ru d 158 18 [.ref a0, l1, l2, l3, l4] [] σ = ru d 158 19 [.ref a0, l1, l2, l3, l4] [.ref a0] σ := q_aload_n t158_18 rfl
theorem t158_19 : decode (mb 158) 19 = .ok (.getfield 9, 3) := by decide +kernel
theorem s158_19_o87 (d : Nat) (l0 : Value) (l1 : Value) (l2 : Value) (l3 : Value) (l4 : Value) (σ : Hs) : ru d 158 19 [l0, l1, l2, l3, l4] [.ref 87] σ = ru d 158 22 [l0, l1, l2, l3, l4] [.ref 88] σ := q_getf t158_19 mo158 F8_9 rfl rfl
theorem t158_22 : decode (mb 158) 22 = .ok (.iload_n 3, 1) := by decide +kernel
theorem s158_22 (d : Nat) (l0 : Value) (l1 : Value) (l2 : Value) (i3 : Int32) (l4 : Value) (w0 : Value) (σ : Hs) : ru d 158 22 [l0, l1, l2, .int i3, l4] [w0] σ = ru d 158 23 [l0, l1, l2, .int i3, l4] [.int i3, w0] σ := q_iload_n t158_22 rfl
theorem t158_23 : decode (mb 158) 23 = .ok (.iaload, 1) := by decide +kernel
theorem s158_23_o88 (d : Nat) (l0 : Value) (l1 : Value) (l2 : Value) (l3 : Value) (l4 : Value) (i : Int32) (σ : Hs) : ru d 158 23 [l0, l1, l2, l3, l4] [.int i, .ref 88] σ = gd (vp_in i 545) (ru d 158 24 [l0, l1, l2, l3, l4] [.int (σ 88 i.toNatClampNeg)] σ) := q_iald t158_23 rfl (by decide +kernel) rfl
theorem t158_24 : decode (mb 158) 24 = .ok (.istore 4, 2) := by decide +kernel
theorem s158_24 (d : Nat) (l0 : Value) (l1 : Value) (l2 : Value) (i3 : Int32) (l4 : Value) (x : Int32) (σ : Hs) : ru d 158 24 [l0, l1, l2, .int i3, l4] [.int x] σ = ru d 158 26 [l0, l1, l2, .int i3, .int x] [] σ := q_istore t158_24 ⟨Nat.le_of_ble_eq_true rfl, rfl⟩ rfl
theorem t158_26 : decode (mb 158) 26 = .ok (.iload 4, 2) := by decide +kernel
theorem s158_26 (d : Nat) (l0 : Value) (l1 : Value) (l2 : Value) (l3 : Value) (i4 : Int32) (σ : Hs) : ru d 158 26 [l0, l1, l2, l3, .int i4] [] σ = ru d 158 28 [l0, l1, l2, l3, .int i4] [.int i4] σ := q_iload t158_26 rfl
theorem t158_28 : decode (mb 158) 28 = .ok (.sipush 20000, 3) := by decide +kernel
theorem s158_28 (d : Nat) (l0 : Value) (l1 : Value) (l2 : Value) (l3 : Value) (l4 : Value) (w0 : Value) (σ : Hs) : ru d 158 28 [l0, l1, l2, l3, l4] [w0] σ = ru d 158 31 [l0, l1, l2, l3, l4] [.int 20000, w0] σ := q_sipush t158_28 (by decide +kernel)
theorem t158_31 : decode (mb 158) 31 = .ok (.if_icmp .ge 39, 3) := by decide +kernel
theorem s158_31 (d : Nat) (l0 : Value) (l1 : Value) (l2 : Value) (l3 : Value) (l4 : Value) (x y : Int32) (σ : Hs) : ru d 158 31 [l0, l1, l2, l3, l4] [.int y, .int x] σ = if y ≤ x then ru d 158 70 [l0, l1, l2, l3, l4] [] σ else ru d 158 34 [l0, l1, l2, l3, l4] [] σ := q_ic_ge t158_31 (by decide +kernel)
theorem t158_34 : decode (mb 158) 34 = .ok (.aload_n 0, 1) := by decide +kernel
theorem s158_34 (d : Nat) (a0 : Nat) (l1 : Value) (l2 : Value) (l3 : Value) (l4 : Value) (σ : Hs) : ru d 158 34 [.ref a0, l1, l2, l3, l4] [] σ = ru d 158 35 [.ref a0, l1, l2, l3, l4] [.ref a0] σ := q_aload_n t158_34 rfl
theorem t158_35 : decode (mb 158) 35 = .ok (.getfield 49, 3) := by decide +kernel
theorem s158_35_o87 (d : Nat) (l0 : Value) (l1 : Value) (l2 : Value) (l3 : Value) (l4 : Value) (σ : Hs) : ru d 158 35 [l0, l1, l2, l3, l4] [.ref 87] σ = ru d 158 38 [l0, l1, l2, l3, l4] [.ref 98] σ := q_getf t158_35 mo158 F8_49 rfl rfl
theorem t158_38 : decode (mb 158) 38 = .ok (.iload_n 2, 1) := by decide +kernel
theorem s158_38 (d : Nat) (l0 : Value) (l1 : Value) (i2 : Int32) (l3 : Value) (l4 : Value) (w0 : Value) (σ : Hs) : ru d 158 38 [l0, l1, .int i2, l3, l4] [w0] σ = ru d 158 39 [l0, l1, .int i2, l3, l4] [.int i2, w0] σ := q_iload_n t158_38 rfl
theorem t158_39 : decode (mb 158) 39 = .ok (.iload 4, 2) := by decide +kernel
theorem s158_39 (d : Nat) (l0 : Value) (l1 : Value) (l2 : Value) (l3 : Value) (i4 : Int32) (w0 w1 : Value) (σ : Hs) : ru d 158 39 [l0, l1, l2, l3, .int i4] [w0, w1] σ = ru d 158 41 [l0, l1, l2, l3, .int i4] [.int i4, w0, w1] σ := q_iload t158_39 rfl
theorem t158_41 : decode (mb 158) 41 = .ok (.sipush 10000, 3) := by decide +kernel
theorem s158_41 (d : Nat) (l0 : Value) (l1 : Value) (l2 : Value) (l3 : Value) (l4 : Value) (w0 w1 w2 : Value) (σ : Hs) : ru d 158 41 [l0, l1, l2, l3, l4] [w0, w1, w2] σ = ru d 158 44 [l0, l1, l2, l3, l4] [.int 10000, w0, w1, w2] σ := q_sipush t158_41 (by decide +kernel)
theorem t158_44 : decode (mb 158) 44 = .ok (.if_icmp .ge 8, 3) := by decide +kernel
theorem s158_44 (d : Nat) (l0 : Value) (l1 : Value) (l2 : Value) (l3 : Value) (l4 : Value) (x y : Int32) (w0 w1 : Value) (σ : Hs) : ru d 158 44 [l0, l1, l2, l3, l4] [.int y, .int x, w0, w1] σ = if y ≤ x then ru d 158 52 [l0, l1, l2, l3, l4] [w0, w1] σ else ru d 158 47 [l0, l1, l2, l3, l4] [w0, w1] σ := q_ic_ge t158_44 (by decide +kernel)
theorem t158_47 : decode (mb 158) 47 = .ok (.iload 4, 2) := by decide +kernel
theorem s158_47 (d : Nat) (l0 : Value) (l1 : Value) (l2 : Value) (l3 : Value) (i4 : Int32) (w0 w1 : Value) (σ : Hs) : ru d 158 47 [l0, l1, l2, l3, .int i4] [w0, w1] σ = ru d 158 49 [l0, l1, l2, l3, .int i4] [.int i4, w0, w1] σ := q_iload t158_47 rfl
theorem t158_49 : decode (mb 158) 49 = .ok (.goto 14, 3) := by decide +kernel
theorem s158_49 (d : Nat) (l0 : Value) (l1 : Value) (l2 : Value) (l3 : Value) (l4 : Value) (w0 w1 w2 : Value) (σ : Hs) : ru d 158 49 [l0, l1, l2, l3, l4] [w0, w1, w2] σ = ru d 158 63 [l0, l1, l2, l3, l4] [w0, w1, w2] σ := q_goto t158_49 (by decide +kernel)
theorem t158_52 : decode (mb 158) 52 = .ok (.aload_n 0, 1) := by decide +kernel
theorem s158_52 (d : Nat) (a0 : Nat) (l1 : Value) (l2 : Value) (l3 : Value) (l4 : Value) (w0 w1 : Value) (σ : Hs) : ru d 158 52 [.ref a0, l1, l2, l3, l4] [w0, w1] σ = ru d 158 53 [.ref a0, l1, l2, l3, l4] [.ref a0, w0, w1] σ := q_aload_n t158_52 rfl
theorem t158_53 : decode (mb 158) 53 = .ok (.getfield 46, 3) := by decide +kernel
theorem s158_53_o87 (d : Nat) (l0 : Value) (l1 : Value) (l2 : Value) (l3 : Value) (l4 : Value) (w0 w1 : Value) (σ : Hs) : ru d 158 53 [l0, l1, l2, l3, l4] [.ref 87, w0, w1] σ = ru d 158 56 [l0, l1, l2, l3, l4] [.ref 97, w0, w1] σ := q_getf t158_53 mo158 F8_46 rfl rfl
theorem t158_56 : decode (mb 158) 56 = .ok (.iload 4, 2) := by decide +kernel
theorem s158_56 (d : Nat) (l0 : Value) (l1 : Value) (l2 : Value) (l3 : Value) (i4 : Int32) (w0 w1 w2 : Value) (σ : Hs) : ru d 158 56 [l0, l1, l2, l3, .int i4] [w0, w1, w2] σ = ru d 158 58 [l0, l1, l2, l3, .int i4] [.int i4, w0, w1, w2] σ := q_iload t158_56 rfl
theorem t158_58 : decode (mb 158) 58 = .ok (.sipush 10000, 3) := by decide +kernel
theorem s158_58 (d : Nat) (l0 : Value) (l1 : Value) (l2 : Value) (l3 : Value) (l4 : Value) (w0 w1 w2 w3 : Value) (σ : Hs) : ru d 158 58 [l0, l1, l2, l3, l4] [w0, w1, w2, w3] σ = ru d 158 61 [l0, l1, l2, l3, l4] [.int 10000, w0, w1, w2, w3] σ := q_sipush t158_58 (by decide +kernel)
theorem t158_61 : decode (mb 158) 61 = .ok (.isub, 1) := by decide +kernel
theorem s158_61 (d : Nat) (l0 : Value) (l1 : Value) (l2 : Value) (l3 : Value) (l4 : Value) (x y : Int32) (w0 w1 w2 : Value) (σ : Hs) : ru d 158 61 [l0, l1, l2, l3, l4] [.int y, .int x, w0, w1, w2] σ = ru d 158 62 [l0, l1, l2, l3, l4] [.int (x - y), w0, w1, w2] σ := q_isub t158_61
theorem t158_62 : decode (mb 158) 62 = .ok (.iaload, 1) := by decide +kernel
theorem s158_62_o97 (d : Nat) (l0 : Value) (l1 : Value) (l2 : Value) (l3 : Value) (l4 : Value) (i : Int32) (w0 w1 : Value) (σ : Hs) : ru d 158 62 [l0, l1, l2, l3, l4] [.int i, .ref 97, w0, w1] σ = gd (vp_in i 4) (ru d 158 63 [l0, l1, l2, l3, l4] [.int (σ 97 i.toNatClampNeg), w0, w1] σ) := q_iald t158_62 rfl (by decide +kernel) rfl
theorem t158_63 : decode (mb 158) 63 = .ok (.iastore, 1) := by decide +kernel
theorem s158_63_o98 (d : Nat) (l0 : Value) (l1 : Value) (l2 : Value) (l3 : Value) (l4 : Value) (i x : Int32) (σ : Hs) : ru d 158 63 [l0, l1, l2, l3, l4] [.int x, .int i, .ref 98] σ = gd (vp_in i 60) (ru d 158 64 [l0, l1, l2, l3, l4] [] (up2 σ 98 i.toNatClampNeg x)) := q_iast t158_63 (by decide +kernel) rfl rfl
theorem t158_64 : decode (mb 158) 64 = .ok (.iinc 2 1, 3) := by decide +kernel
theorem s158_64 (d : Nat) (l0 : Value) (i1 : Int32) (i2 : Int32) (l3 : Value) (l4 : Value) (σ : Hs) : ru d 158 64 [l0, .int i1, .int i2, l3, l4] [] σ = ru d 158 67 [l0, .int i1, .int (i2 + 1), l3, l4] [] σ := q_iinc t158_64 ⟨Nat.le_of_ble_eq_true rfl, rfl⟩ rfl (by decide +kernel) rfl
theorem t158_67 : decode (mb 158) 67 = .ok (.goto 68, 3) := by decide +kernel
theorem s158_67 (d : Nat) (l0 : Value) (l1 : Value) (l2 : Value) (l3 : Value) (l4 : Value) (σ : Hs) : ru d 158 67 [l0, l1, l2, l3, l4] [] σ = ru d 158 135 [l0, l1, l2, l3, l4] [] σ := q_goto t158_67 (by decide +kernel)
theorem t158_70 : decode (mb 158) 70 = .ok (.iload 4, 2) := by decide +kernel
theorem s158_70 (d : Nat) (l0 : Value) (l1 : Value) (l2 : Value) (l3 : Value) (i4 : Int32) (σ : Hs) : ru d 158 70 [l0, l1, l2, l3, .int i4] [] σ = ru d 158 72 [l0, l1, l2, l3, .int i4] [.int i4] σ := q_iload t158_70 rfl
theorem t158_72 : decode (mb 158) 72 = .ok (.sipush 20010, 3) := by decide +kernel
theorem s158_72 (d : Nat) (l0 : Value) (l1 : Value) (l2 : Value) (l3 : Value) (l4 : Value) (w0 : Value) (σ : Hs) : ru d 158 72 [l0, l1, l2, l3, l4] [w0] σ = ru d 158 75 [l0, l1, l2, l3, l4] [.int 20010, w0] σ := q_sipush t158_72 (by decide +kernel)
theorem t158_75 : decode (mb 158) 75 = .ok (.if_icmp .ne 30, 3) := by decide +kernel
theorem s158_75 (d : Nat) (l0 : Value) (l1 : Value) (l2 : Value) (l3 : Value) (l4 : Value) (x y : Int32) (σ : Hs) : ru d 158 75 [l0, l1, l2, l3, l4] [.int y, .int x] σ = if x = y then ru d 158 78 [l0, l1, l2, l3, l4] [] σ else ru d 158 105 [l0, l1, l2, l3, l4] [] σ := q_ic_ne t158_75 (by decide +kernel)
theorem t158_78 : decode (mb 158) 78 = .ok (.aload_n 0, 1) := by decide +kernel
theorem s158_78 (d : Nat) (a0 : Nat) (l1 : Value) (l2 : Value) (l3 : Value) (l4 : Value) (σ : Hs) : ru d 158 78 [.ref a0, l1, l2, l3, l4] [] σ = ru d 158 79 [.ref a0, l1, l2, l3, l4] [.ref a0] σ := q_aload_n t158_78 rfl
theorem t158_79 : decode (mb 158) 79 = .ok (.getfield 49, 3) := by decide +kernel
theorem s158_79_o87 (d : Nat) (l0 : Value) (l1 : Value) (l2 : Value) (l3 : Value) (l4 : Value) (σ : Hs) : ru d 158 79 [l0, l1, l2, l3, l4] [.ref 87] σ = ru d 158 82 [l0, l1, l2, l3, l4] [.ref 98] σ := q_getf t158_79 mo158 F8_49 rfl rfl
theorem t158_82 : decode (mb 158) 82 = .ok (.iload_n 2, 1) := by decide +kernel
theorem s158_82 (d : Nat) (l0 : Value) (l1 : Value) (i2 : Int32) (l3 : Value) (l4 : Value) (w0 : Value) (σ : Hs) : ru d 158 82 [l0, l1, .int i2, l3, l4] [w0] σ = ru d 158 83 [l0, l1, .int i2, l3, l4] [.int i2, w0] σ := q_iload_n t158_82 rfl
theorem t158_83 : decode (mb 158) 83 = .ok (.iconst 1, 1) := by decide +kernel
theorem s158_83 (d : Nat) (l0 : Value) (l1 : Value) (l2 : Value) (l3 : Value) (l4 : Value) (w0 w1 : Value) (σ : Hs) : ru d 158 83 [l0, l1, l2, l3, l4] [w0, w1] σ = ru d 158 84 [l0, l1, l2, l3, l4] [.int 1, w0, w1] σ := q_iconst t158_83 (by decide +kernel)
theorem t158_84 : decode (mb 158) 84 = .ok (.isub, 1) := by decide +kernel
theorem s158_84 (d : Nat) (l0 : Value) (l1 : Value) (l2 : Value) (l3 : Value) (l4 : Value) (x y : Int32) (w0 : Value) (σ : Hs) : ru d 158 84 [l0, l1, l2, l3, l4] [.int y, .int x, w0] σ = ru d 158 85 [l0, l1, l2, l3, l4] [.int (x - y), w0] σ := q_isub t158_84
theorem t158_85 : decode (mb 158) 85 = .ok (.aload_n 0, 1) := by decide +kernel
theorem s158_85 (d : Nat) (a0 : Nat) (l1 : Value) (l2 : Value) (l3 : Value) (l4 : Value) (w0 w1 : Value) (σ : Hs) : ru d 158 85 [.ref a0, l1, l2, l3, l4] [w0, w1] σ = ru d 158 86 [.ref a0, l1, l2, l3, l4] [.ref a0, w0, w1] σ := q_aload_n t158_85 rfl
theorem t158_86 : decode (mb 158) 86 = .ok (.getfield 49, 3) := by decide +kernel
theorem s158_86_o87 (d : Nat) (l0 : Value) (l1 : Value) (l2 : Value) (l3 : Value) (l4 : Value) (w0 w1 : Value) (σ : Hs) : ru d 158 86 [l0, l1, l2, l3, l4] [.ref 87, w0, w1] σ = ru d 158 89 [l0, l1, l2, l3, l4] [.ref 98, w0, w1] σ := q_getf t158_86 mo158 F8_49 rfl rfl
theorem t158_89 : decode (mb 158) 89 = .ok (.iload_n 2, 1) := by decide +kernel
theorem s158_89 (d : Nat) (l0 : Value) (l1 : Value) (i2 : Int32) (l3 : Value) (l4 : Value) (w0 w1 w2 : Value) (σ : Hs) : ru d 158 89 [l0, l1, .int i2, l3, l4] [w0, w1, w2] σ = ru d 158 90 [l0, l1, .int i2, l3, l4] [.int i2, w0, w1, w2] σ := q_iload_n t158_89 rfl
theorem t158_90 : decode (mb 158) 90 = .ok (.iconst 1, 1) := by decide +kernel
theorem s158_90 (d : Nat) (l0 : Value) (l1 : Value) (l2 : Value) (l3 : Value) (l4 : Value) (w0 w1 w2 w3 : Value) (σ : Hs) : ru d 158 90 [l0, l1, l2, l3, l4] [w0, w1, w2, w3] σ = ru d 158 91 [l0, l1, l2, l3, l4] [.int 1, w0, w1, w2, w3] σ := q_iconst t158_90 (by decide +kernel)
theorem t158_91 : decode (mb 158) 91 = .ok (.isub, 1) := by decide +kernel
theorem s158_91 (d : Nat) (l0 : Value) (l1 : Value) (l2 : Value) (l3 : Value) (l4 : Value) (x y : Int32) (w0 w1 w2 : Value) (σ : Hs) : ru d 158 91 [l0, l1, l2, l3, l4] [.int y, .int x, w0, w1, w2] σ = ru d 158 92 [l0, l1, l2, l3, l4] [.int (x - y), w0, w1, w2] σ := q_isub t158_91
theorem t158_92 : decode (mb 158) 92 = .ok (.iaload, 1) := by decide +kernel
theorem s158_92_o98 (d : Nat) (l0 : Value) (l1 : Value) (l2 : Value) (l3 : Value) (l4 : Value) (i : Int32) (w0 w1 : Value) (σ : Hs) : ru d 158 92 [l0, l1, l2, l3, l4] [.int i, .ref 98, w0, w1] σ = gd (vp_in i 60) (ru d 158 93 [l0, l1, l2, l3, l4] [.int (σ 98 i.toNatClampNeg), w0, w1] σ) := q_iald t158_92 rfl (by decide +kernel) rfl
theorem t158_93 : decode (mb 158) 93 = .ok (.ifCond .ne 7, 3) := by decide +kernel
theorem s158_93 (d : Nat) (l0 : Value) (l1 : Value) (l2 : Value) (l3 : Value) (l4 : Value) (x : Int32) (w0 w1 : Value) (σ : Hs) : ru d 158 93 [l0, l1, l2, l3, l4] [.int x, w0, w1] σ = if x = 0 then ru d 158 96 [l0, l1, l2, l3, l4] [w0, w1] σ else ru d 158 100 [l0, l1, l2, l3, l4] [w0, w1] σ := q_if_ne t158_93 (by decide +kernel)
theorem t158_96 : decode (mb 158) 96 = .ok (.iconst 1, 1) := by decide +kernel
theorem s158_96 (d : Nat) (l0 : Value) (l1 : Value) (l2 : Value) (l3 : Value) (l4 : Value) (w0 w1 : Value) (σ : Hs) : ru d 158 96 [l0, l1, l2, l3, l4] [w0, w1] σ = ru d 158 97 [l0, l1, l2, l3, l4] [.int 1, w0, w1] σ := q_iconst t158_96 (by decide +kernel)
theorem t158_97 : decode (mb 158) 97 = .ok (.goto 4, 3) := by decide +kernel
theorem s158_97 (d : Nat) (l0 : Value) (l1 : Value) (l2 : Value) (l3 : Value) (l4 : Value) (w0 w1 w2 : Value) (σ : Hs) : ru d 158 97 [l0, l1, l2, l3, l4] [w0, w1, w2] σ = ru d 158 101 [l0, l1, l2, l3, l4] [w0, w1, w2] σ := q_goto t158_97 (by decide +kernel)
theorem t158_100 : decode (mb 158) 100 = .ok (.iconst 0, 1) := by decide +kernel
theorem s158_100 (d : Nat) (l0 : Value) (l1 : Value) (l2 : Value) (l3 : Value) (l4 : Value) (w0 w1 : Value) (σ : Hs) : ru d 158 100 [l0, l1, l2, l3, l4] [w0, w1] σ = ru d 158 101 [l0, l1, l2, l3, l4] [.int 0, w0, w1] σ := q_iconst t158_100 (by decide +kernel)
theorem t158_101 : decode (mb 158) 101 = .ok (.iastore, 1) := by decide +kernel
theorem s158_101_o98 (d : Nat) (l0 : Value) (l1 : Value) (l2 : Value) (l3 : Value) (l4 : Value) (i x : Int32) (σ : Hs) : ru d 158 101 [l0, l1, l2, l3, l4] [.int x, .int i, .ref 98] σ = gd (vp_in i 60) (ru d 158 102 [l0, l1, l2, l3, l4] [] (up2 σ 98 i.toNatClampNeg x)) := q_iast t158_101 (by decide +kernel) rfl rfl
theorem t158_102 : decode (mb 158) 102 = .ok (.goto 33, 3) := by decide +kernel
theorem s158_102 (d : Nat) (l0 : Value) (l1 : Value) (l2 : Value) (l3 : Value) (l4 : Value) (σ : Hs) : ru d 158 102 [l0, l1, l2, l3, l4] [] σ = ru d 158 135 [l0, l1, l2, l3, l4] [] σ := q_goto t158_102 (by decide +kernel)
theorem t158_105 : decode (mb 158) 105 = .ok (.iinc 2 (-1), 3) := by decide +kernel
theorem s158_105 (d : Nat) (l0 : Value) (i1 : Int32) (i2 : Int32) (l3 : Value) (l4 : Value) (σ : Hs) : ru d 158 105 [l0, .int i1, .int i2, l3, l4] [] σ = ru d 158 108 [l0, .int i1, .int (i2 + (-1)), l3, l4] [] σ := q_iinc t158_105 ⟨Nat.le_of_ble_eq_true rfl, rfl⟩ rfl (by decide +kernel) rfl
theorem t158_108 : decode (mb 158) 108 = .ok (.aload_n 0, 1) := by decide +kernel
theorem s158_108 (d : Nat) (a0 : Nat) (l1 : Value) (l2 : Value) (l3 : Value) (l4 : Value) (σ : Hs) : ru d 158 108 [.ref a0, l1, l2, l3, l4] [] σ = ru d 158 109 [.ref a0, l1, l2, l3, l4] [.ref a0] σ := q_aload_n t158_108 rfl
theorem t158_109 : decode (mb 158) 109 = .ok (.getfield 49, 3) := by decide +kernel
theorem s158_109_o87 (d : Nat) (l0 : Value) (l1 : Value) (l2 : Value) (l3 : Value) (l4 : Value) (σ : Hs) : ru d 158 109 [l0, l1, l2, l3, l4] [.ref 87] σ = ru d 158 112 [l0, l1, l2, l3, l4] [.ref 98] σ := q_getf t158_109 mo158 F8_49 rfl rfl
theorem t158_112 : decode (mb 158) 112 = .ok (.iload_n 2, 1) := by decide +kernel
theorem s158_112 (d : Nat) (l0 : Value) (l1 : Value) (i2 : Int32) (l3 : Value) (l4 : Value) (w0 : Value) (σ : Hs) : ru d 158 112 [l0, l1, .int i2, l3, l4] [w0] σ = ru d 158 113 [l0, l1, .int i2, l3, l4] [.int i2, w0] σ := q_iload_n t158_112 rfl
theorem t158_113 : decode (mb 158) 113 = .ok (.iconst 1, 1) := by decide +kernel
theorem s158_113 (d : Nat) (l0 : Value) (l1 : Value) (l2 : Value) (l3 : Value) (l4 : Value) (w0 w1 : Value) (σ : Hs) : ru d 158 113 [l0, l1, l2, l3, l4] [w0, w1] σ = ru d 158 114 [l0, l1, l2, l3, l4] [.int 1, w0, w1] σ := q_iconst t158_113 (by decide +kernel)
theorem t158_114 : decode (mb 158) 114 = .ok (.isub, 1) := by decide +kernel
theorem s158_114 (d : Nat) (l0 : Value) (l1 : Value) (l2 : Value) (l3 : Value) (l4 : Value) (x y : Int32) (w0 : Value) (σ : Hs) : ru d 158 114 [l0, l1, l2, l3, l4] [.int y, .int x, w0] σ = ru d 158 115 [l0, l1, l2, l3, l4] [.int (x - y), w0] σ := q_isub t158_114
theorem t158_115 : decode (mb 158) 115 = .ok (.iload 4, 2) := by decide +kernel
theorem s158_115 (d : Nat) (l0 : Value) (l1 : Value) (l2 : Value) (l3 : Value) (i4 : Int32) (w0 w1 : Value) (σ : Hs) : ru d 158 115 [l0, l1, l2, l3, .int i4] [w0, w1] σ = ru d 158 117 [l0, l1, l2, l3, .int i4] [.int i4, w0, w1] σ := q_iload t158_115 rfl
theorem t158_117 : decode (mb 158) 117 = .ok (.aload_n 0, 1) := by decide +kernel
theorem s158_117 (d : Nat) (a0 : Nat) (l1 : Value) (l2 : Value) (l3 : Value) (l4 : Value) (w0 w1 w2 : Value) (σ : Hs) : ru d 158 117 [.ref a0, l1, l2, l3, l4] [w0, w1, w2] σ = ru d 158 118 [.ref a0, l1, l2, l3, l4] [.ref a0, w0, w1, w2] σ := q_aload_n t158_117 rfl
theorem t158_118 : decode (mb 158) 118 = .ok (.getfield 49, 3) := by decide +kernel
theorem s158_118_o87 (d : Nat) (l0 : Value) (l1 : Value) (l2 : Value) (l3 : Value) (l4 : Value) (w0 w1 w2 : Value) (σ : Hs) : ru d 158 118 [l0, l1, l2, l3, l4] [.ref 87, w0, w1, w2] σ = ru d 158 121 [l0, l1, l2, l3, l4] [.ref 98, w0, w1, w2] σ := q_getf t158_118 mo158 F8_49 rfl rfl
theorem t158_121 : decode (mb 158) 121 = .ok (.iload_n 2, 1) := by decide +kernel
theorem s158_121 (d : Nat) (l0 : Value) (l1 : Value) (i2 : Int32) (l3 : Value) (l4 : Value) (w0 w1 w2 w3 : Value) (σ : Hs) : ru d 158 121 [l0, l1, .int i2, l3, l4] [w0, w1, w2, w3] σ = ru d 158 122 [l0, l1, .int i2, l3, l4] [.int i2, w0, w1, w2, w3] σ := q_iload_n t158_121 rfl
theorem t158_122 : decode (mb 158) 122 = .ok (.iconst 1, 1) := by decide +kernel
theorem s158_122 (d : Nat) (l0 : Value) (l1 : Value) (l2 : Value) (l3 : Value) (l4 : Value) (w0 w1 w2 w3 w4 : Value) (σ : Hs) : ru d 158 122 [l0, l1, l2, l3, l4] [w0, w1, w2, w3, w4] σ = ru d 158 123 [l0, l1, l2, l3, l4] [.int 1, w0, w1, w2, w3, w4] σ := q_iconst t158_122 (by decide +kernel)
theorem t158_123 : decode (mb 158) 123 = .ok (.isub, 1) := by decide +kernel
theorem s158_123 (d : Nat) (l0 : Value) (l1 : Value) (l2 : Value) (l3 : Value) (l4 : Value) (x y : Int32) (w0 w1 w2 w3 : Value) (σ : Hs) : ru d 158 123 [l0, l1, l2, l3, l4] [.int y, .int x, w0, w1, w2, w3] σ = ru d 158 124 [l0, l1, l2, l3, l4] [.int (x - y), w0, w1, w2, w3] σ := q_isub t158_123
theorem t158_124 : decode (mb 158) 124 = .ok (.iaload, 1) := by decide +kernel
theorem s158_124_o98 (d : Nat) (l0 : Value) (l1 : Value) (l2 : Value) (l3 : Value) (l4 : Value) (i : Int32) (w0 w1 w2 : Value) (σ : Hs) : ru d 158 124 [l0, l1, l2, l3, l4] [.int i, .ref 98, w0, w1, w2] σ = gd (vp_in i 60) (ru d 158 125 [l0, l1, l2, l3, l4] [.int (σ 98 i.toNatClampNeg), w0, w1, w2] σ) := q_iald t158_124 rfl (by decide +kernel) rfl
theorem t158_125 : decode (mb 158) 125 = .ok (.aload_n 0, 1) := by decide +kernel
theorem s158_125 (d : Nat) (a0 : Nat) (l1 : Value) (l2 : Value) (l3 : Value) (l4 : Value) (w0 w1 w2 w3 : Value) (σ : Hs) : ru d 158 125 [.ref a0, l1, l2, l3, l4] [w0, w1, w2, w3] σ = ru d 158 126 [.ref a0, l1, l2, l3, l4] [.ref a0, w0, w1, w2, w3] σ := q_aload_n t158_125 rfl
theorem t158_126 : decode (mb 158) 126 = .ok (.getfield 49, 3) := by decide +kernel
theorem s158_126_o87 (d : Nat) (l0 : Value) (l1 : Value) (l2 : Value) (l3 : Value) (l4 : Value) (w0 w1 w2 w3 : Value) (σ : Hs) : ru d 158 126 [l0, l1, l2, l3, l4] [.ref 87, w0, w1, w2, w3] σ = ru d 158 129 [l0, l1, l2, l3, l4] [.ref 98, w0, w1, w2, w3] σ := q_getf t158_126 mo158 F8_49 rfl rfl
theorem t158_129 : decode (mb 158) 129 = .ok (.iload_n 2, 1) := by decide +kernel
theorem s158_129 (d : Nat) (l0 : Value) (l1 : Value) (i2 : Int32) (l3 : Value) (l4 : Value) (w0 w1 w2 w3 w4 : Value) (σ : Hs) : ru d 158 129 [l0, l1, .int i2, l3, l4] [w0, w1, w2, w3, w4] σ = ru d 158 130 [l0, l1, .int i2, l3, l4] [.int i2, w0, w1, w2, w3, w4] σ := q_iload_n t158_129 rfl
theorem t158_130 : decode (mb 158) 130 = .ok (.iaload, 1) := by decide +kernel
theorem s158_130_o98 (d : Nat) (l0 : Value) (l1 : Value) (l2 : Value) (l3 : Value) (l4 : Value) (i : Int32) (w0 w1 w2 w3 : Value) (σ : Hs) : ru d 158 130 [l0, l1, l2, l3, l4] [.int i, .ref 98, w0, w1, w2, w3] σ = gd (vp_in i 60) (ru d 158 131 [l0, l1, l2, l3, l4] [.int (σ 98 i.toNatClampNeg), w0, w1, w2, w3] σ) := q_iald t158_130 rfl (by decide +kernel) rfl
theorem t158_131 : decode (mb 158) 131 = .ok (.invokestatic 214, 3) := by decide +kernel
theorem s158_131 (d : Nat) (l0 : Value) (l1 : Value) (l2 : Value) (l3 : Value) (l4 : Value) (v0 v1 v2 : Value) (w0 : Int32) (w1 : Nat) (σ : Hs) : ru d 158 131 [l0, l1, l2, l3, l4] [v2, v1, v0, .int w0, .ref w1] σ = kont (callD d 157 [v0, v1, v2] σ) d 158 134 [l0, l1, l2, l3, l4] [.int w0, .ref w1] := q_invs t158_131 mo158 (by decide +kernel) K8_214 mj157 (Nat.le_of_ble_eq_true rfl) rfl rfl (Nat.le_of_ble_eq_true rfl)
theorem t158_134 : decode (mb 158) 134 = .ok (.iastore, 1) := by decide +kernel
theorem s158_134_o98 (d : Nat) (l0 : Value) (l1 : Value) (l2 : Value) (l3 : Value) (l4 : Value) (i x : Int32) (σ : Hs) : ru d 158 134 [l0, l1, l2, l3, l4] [.int x, .int i, .ref 98] σ = gd (vp_in i 60) (ru d 158 135 [l0, l1, l2, l3, l4] [] (up2 σ 98 i.toNatClampNeg x)) := q_iast t158_134 (by decide +kernel) rfl rfl
theorem t158_135 : decode (mb 158) 135 = .ok (.iinc 3 1, 3) := by decide +kernel
theorem s158_135 (d : Nat) (l0 : Value) (l1 : Value) (i2 : Int32) (i3 : Int32) (l4 : Value) (σ : Hs) : ru d 158 135 [l0, l1, .int i2, .int i3, l4] [] σ = ru d 158 138 [l0, l1, .int i2, .int (i3 + 1), l4] [] σ := q_iinc t158_135 ⟨Nat.le_of_ble_eq_true rfl, rfl⟩ rfl (by decide +kernel) rfl
theorem t158_138 : decode (mb 158) 138 = .ok (.goto (-134), 3) := by decide +kernel
theorem s158_138 (d : Nat) (l0 : Value) (l1 : Value) (l2 : Value) (l3 : Value) (l4 : Value) (σ : Hs) : ru d 158 138 [l0, l1, l2, l3, l4] [] σ = ru d 158 4 [l0, l1, l2, l3, l4] [] σ := q_goto t158_138 (by decide +kernel)
theorem t158_141 : decode (mb 158) 141 = .ok (.aload_n 0, 1) := by decide +kernel
theorem s158_141 (d : Nat) (a0 : Nat) (l1 : Value) (l2 : Value) (l3 : Value) (l4 : Value) (σ : Hs) : ru d 158 141 [.ref a0, l1, l2, l3, l4] [] σ = ru d 158 142 [.ref a0, l1, l2, l3, l4] [.ref a0] σ := q_aload_n t158_141 rfl
theorem t158_142 : decode (mb 158) 142 = .ok (.getfield 49, 3) := by decide +kernel
theorem s158_142_o87 (d : Nat) (l0 : Value) (l1 : Value) (l2 : Value) (l3 : Value) (l4 : Value) (σ : Hs) : ru d 158 142 [l0, l1, l2, l3, l4] [.ref 87] σ = ru d 158 145 [l0, l1, l2, l3, l4] [.ref 98] σ := q_getf t158_142 mo158 F8_49 rfl rfl
theorem t158_145 : decode (mb 158) 145 = .ok (.iconst 0, 1) := by decide +kernel
theorem s158_145 (d : Nat) (l0 : Value) (l1 : Value) (l2 : Value) (l3 : Value) (l4 : Value) (w0 : Value) (σ : Hs) : ru d 158 145 [l0, l1, l2, l3, l4] [w0] σ = ru d 158 146 [l0, l1, l2, l3, l4] [.int 0, w0] σ := q_iconst t158_145 (by decide +kernel)
theorem t158_146 : decode (mb 158) 146 = .ok (.iaload, 1) := by decide +kernel
theorem s158_146_o98 (d : Nat) (l0 : Value) (l1 : Value) (l2 : Value) (l3 : Value) (l4 : Value) (i : Int32) (σ : Hs) : ru d 158 146 [l0, l1, l2, l3, l4] [.int i, .ref 98] σ = gd (vp_in i 60) (ru d 158 147 [l0, l1, l2, l3, l4] [.int (σ 98 i.toNatClampNeg)] σ) := q_iald t158_146 rfl (by decide +kernel) rfl
theorem t158_147 : decode (mb 158) 147 = .ok (.ireturn, 1) := by decide +kernel
theorem s158_147 (d : Nat) (l0 : Value) (l1 : Value) (l2 : Value) (l3 : Value) (l4 : Value) (x : Int32) (σ : Hs) : ru d 158 147 [l0, l1, l2, l3, l4] [.int x] σ = some (some (.int x), σ) := q_ireti t158_147 mr158
theorem c158 (d : Nat) (x0 : Nat) (x1 : Int32) (σ : Hs) : callD (d + 1) 158 [.ref x0, .int x1] σ = ru d 158 0 [.ref x0, .int x1, uu, uu, uu] [] σ := callD_ru ml158 rfl rfl (Nat.le_of_ble_eq_true rfl)
-- 159: Model.given(IIIII)I
theorem t159_0 : decode (mb 159) 0 = .ok (.aload_n 0, 1) := by decide +kernel
theorem s159_0 (d : Nat) (a0 : Nat) (l1 : Value) (l2 : Value) (l3 : Value) (l4 : Value) (l5 : Value) (l6 : Value) (σ : Hs) : ru d 159 0 [.ref a0, l1, l2, l3, l4, l5, l6] [] σ = ru d 159 1 [.ref a0, l1, l2, l3, l4, l5, l6] [.ref a0] σ := q_aload_n t159_0 rfl
theorem t159_1 : decode (mb 159) 1 = .ok (.getfield 46, 3) := by decide +kernel
theorem s159_1_o87 (d : Nat) (l0 : Value) (l1 : Value) (l2 : Value) (l3 : Value) (l4 : Value) (l5 : Value) (l6 : Value) (σ : Hs) : ru d 159 1 [l0, l1, l2, l3, l4, l5, l6] [.ref 87] σ = ru d 159 4 [l0, l1, l2, l3, l4, l5, l6] [.ref 97] σ := q_getf t159_1 mo159 F8_46 rfl rfl
theorem t159_4 : decode (mb 159) 4 = .ok (.iconst 0, 1) := by decide +kernel
theorem s159_4 (d : Nat) (l0 : Value) (l1 : Value) (l2 : Value) (l3 : Value) (l4 : Value) (l5 : Value) (l6 : Value) (w0 : Value) (σ : Hs) : ru d 159 4 [l0, l1, l2, l3, l4, l5, l6] [w0] σ = ru d 159 5 [l0, l1, l2, l3, l4, l5, l6] [.int 0, w0] σ := q_iconst t159_4 (by decide +kernel)
theorem t159_5 : decode (mb 159) 5 = .ok (.iload_n 2, 1) := by decide +kernel
theorem s159_5 (d : Nat) (l0 : Value) (l1 : Value) (i2 : Int32) (l3 : Value) (l4 : Value) (l5 : Value) (l6 : Value) (w0 w1 : Value) (σ : Hs) : ru d 159 5 [l0, l1, .int i2, l3, l4, l5, l6] [w0, w1] σ = ru d 159 6 [l0, l1, .int i2, l3, l4, l5, l6] [.int i2, w0, w1] σ := q_iload_n t159_5 rfl
theorem t159_6 : decode (mb 159) 6 = .ok (.iastore, 1) := by decide +kernel
theorem s159_6_o97 (d : Nat) (l0 : Value) (l1 : Value) (l2 : Value) (l3 : Value) (l4 : Value) (l5 : Value) (l6 : Value) (i x : Int32) (σ : Hs) : ru d 159 6 [l0, l1, l2, l3, l4, l5, l6] [.int x, .int i, .ref 97] σ = gd (vp_in i 4) (ru d 159 7 [l0, l1, l2, l3, l4, l5, l6] [] (up2 σ 97 i.toNatClampNeg x)) := q_iast t159_6 (by decide +kernel) rfl rfl
theorem t159_7 : decode (mb 159) 7 = .ok (.aload_n 0, 1) := by decide +kernel
theorem s159_7 (d : Nat) (a0 : Nat) (l1 : Value) (l2 : Value) (l3 : Value) (l4 : Value) (l5 : Value) (l6 : Value) (σ : Hs) : ru d 159 7 [.ref a0, l1, l2, l3, l4, l5, l6] [] σ = ru d 159 8 [.ref a0, l1, l2, l3, l4, l5, l6] [.ref a0] σ := q_aload_n t159_7 rfl
theorem t159_8 : decode (mb 159) 8 = .ok (.getfield 46, 3) := by decide +kernel
theorem s159_8_o87 (d : Nat) (l0 : Value) (l1 : Value) (l2 : Value) (l3 : Value) (l4 : Value) (l5 : Value) (l6 : Value) (σ : Hs) : ru d 159 8 [l0, l1, l2, l3, l4, l5, l6] [.ref 87] σ = ru d 159 11 [l0, l1, l2, l3, l4, l5, l6] [.ref 97] σ := q_getf t159_8 mo159 F8_46 rfl rfl
theorem t159_11 : decode (mb 159) 11 = .ok (.iconst 1, 1) := by decide +kernel
theorem s159_11 (d : Nat) (l0 : Value) (l1 : Value) (l2 : Value) (l3 : Value) (l4 : Value) (l5 : Value) (l6 : Value) (w0 : Value) (σ : Hs) : ru d 159 11 [l0, l1, l2, l3, l4, l5, l6] [w0] σ = ru d 159 12 [l0, l1, l2, l3, l4, l5, l6] [.int 1, w0] σ := q_iconst t159_11 (by decide +kernel)
theorem t159_12 : decode (mb 159) 12 = .ok (.iload_n 3, 1) := by decide +kernel
theorem s159_12 (d : Nat) (l0 : Value) (l1 : Value) (l2 : Value) (i3 : Int32) (l4 : Value) (l5 : Value) (l6 : Value) (w0 w1 : Value) (σ : Hs) : ru d 159 12 [l0, l1, l2, .int i3, l4, l5, l6] [w0, w1] σ = ru d 159 13 [l0, l1, l2, .int i3, l4, l5, l6] [.int i3, w0, w1] σ := q_iload_n t159_12 rfl
theorem t159_13 : decode (mb 159) 13 = .ok (.iastore, 1) := by decide +kernel
theorem s159_13_o97 (d : Nat) (l0 : Value) (l1 : Value) (l2 : Value) (l3 : Value) (l4 : Value) (l5 : Value) (l6 : Value) (i x : Int32) (σ : Hs) : ru d 159 13 [l0, l1, l2, l3, l4, l5, l6] [.int x, .int i, .ref 97] σ = gd (vp_in i 4) (ru d 159 14 [l0, l1, l2, l3, l4, l5, l6] [] (up2 σ 97 i.toNatClampNeg x)) := q_iast t159_13 (by decide +kernel) rfl rfl
theorem t159_14 : decode (mb 159) 14 = .ok (.aload_n 0, 1) := by decide +kernel
theorem s159_14 (d : Nat) (a0 : Nat) (l1 : Value) (l2 : Value) (l3 : Value) (l4 : Value) (l5 : Value) (l6 : Value) (σ : Hs) : ru d 159 14 [.ref a0, l1, l2, l3, l4, l5, l6] [] σ = ru d 159 15 [.ref a0, l1, l2, l3, l4, l5, l6] [.ref a0] σ := q_aload_n t159_14 rfl
theorem t159_15 : decode (mb 159) 15 = .ok (.getfield 46, 3) := by decide +kernel
theorem s159_15_o87 (d : Nat) (l0 : Value) (l1 : Value) (l2 : Value) (l3 : Value) (l4 : Value) (l5 : Value) (l6 : Value) (σ : Hs) : ru d 159 15 [l0, l1, l2, l3, l4, l5, l6] [.ref 87] σ = ru d 159 18 [l0, l1, l2, l3, l4, l5, l6] [.ref 97] σ := q_getf t159_15 mo159 F8_46 rfl rfl
theorem t159_18 : decode (mb 159) 18 = .ok (.iconst 2, 1) := by decide +kernel
theorem s159_18 (d : Nat) (l0 : Value) (l1 : Value) (l2 : Value) (l3 : Value) (l4 : Value) (l5 : Value) (l6 : Value) (w0 : Value) (σ : Hs) : ru d 159 18 [l0, l1, l2, l3, l4, l5, l6] [w0] σ = ru d 159 19 [l0, l1, l2, l3, l4, l5, l6] [.int 2, w0] σ := q_iconst t159_18 (by decide +kernel)
theorem t159_19 : decode (mb 159) 19 = .ok (.iload 4, 2) := by decide +kernel
theorem s159_19 (d : Nat) (l0 : Value) (l1 : Value) (l2 : Value) (l3 : Value) (i4 : Int32) (l5 : Value) (l6 : Value) (w0 w1 : Value) (σ : Hs) : ru d 159 19 [l0, l1, l2, l3, .int i4, l5, l6] [w0, w1] σ = ru d 159 21 [l0, l1, l2, l3, .int i4, l5, l6] [.int i4, w0, w1] σ := q_iload t159_19 rfl
theorem t159_21 : decode (mb 159) 21 = .ok (.iastore, 1) := by decide +kernel
theorem s159_21_o97 (d : Nat) (l0 : Value) (l1 : Value) (l2 : Value) (l3 : Value) (l4 : Value) (l5 : Value) (l6 : Value) (i x : Int32) (σ : Hs) : ru d 159 21 [l0, l1, l2, l3, l4, l5, l6] [.int x, .int i, .ref 97] σ = gd (vp_in i 4) (ru d 159 22 [l0, l1, l2, l3, l4, l5, l6] [] (up2 σ 97 i.toNatClampNeg x)) := q_iast t159_21 (by decide +kernel) rfl rfl
theorem t159_22 : decode (mb 159) 22 = .ok (.aload_n 0, 1) := by decide +kernel
theorem s159_22 (d : Nat) (a0 : Nat) (l1 : Value) (l2 : Value) (l3 : Value) (l4 : Value) (l5 : Value) (l6 : Value) (σ : Hs) : ru d 159 22 [.ref a0, l1, l2, l3, l4, l5, l6] [] σ = ru d 159 23 [.ref a0, l1, l2, l3, l4, l5, l6] [.ref a0] σ := q_aload_n t159_22 rfl
theorem t159_23 : decode (mb 159) 23 = .ok (.getfield 46, 3) := by decide +kernel
theorem s159_23_o87 (d : Nat) (l0 : Value) (l1 : Value) (l2 : Value) (l3 : Value) (l4 : Value) (l5 : Value) (l6 : Value) (σ : Hs) : ru d 159 23 [l0, l1, l2, l3, l4, l5, l6] [.ref 87] σ = ru d 159 26 [l0, l1, l2, l3, l4, l5, l6] [.ref 97] σ := q_getf t159_23 mo159 F8_46 rfl rfl
theorem t159_26 : decode (mb 159) 26 = .ok (.iconst 3, 1) := by decide +kernel
theorem s159_26 (d : Nat) (l0 : Value) (l1 : Value) (l2 : Value) (l3 : Value) (l4 : Value) (l5 : Value) (l6 : Value) (w0 : Value) (σ : Hs) : ru d 159 26 [l0, l1, l2, l3, l4, l5, l6] [w0] σ = ru d 159 27 [l0, l1, l2, l3, l4, l5, l6] [.int 3, w0] σ := q_iconst t159_26 (by decide +kernel)
theorem t159_27 : decode (mb 159) 27 = .ok (.iload 5, 2) := by decide +kernel
theorem s159_27 (d : Nat) (l0 : Value) (l1 : Value) (l2 : Value) (l3 : Value) (l4 : Value) (i5 : Int32) (l6 : Value) (w0 w1 : Value) (σ : Hs) : ru d 159 27 [l0, l1, l2, l3, l4, .int i5, l6] [w0, w1] σ = ru d 159 29 [l0, l1, l2, l3, l4, .int i5, l6] [.int i5, w0, w1] σ := q_iload t159_27 rfl
theorem t159_29 : decode (mb 159) 29 = .ok (.iastore, 1) := by decide +kernel
theorem s159_29_o97 (d : Nat) (l0 : Value) (l1 : Value) (l2 : Value) (l3 : Value) (l4 : Value) (l5 : Value) (l6 : Value) (i x : Int32) (σ : Hs) : ru d 159 29 [l0, l1, l2, l3, l4, l5, l6] [.int x, .int i, .ref 97] σ = gd (vp_in i 4) (ru d 159 30 [l0, l1, l2, l3, l4, l5, l6] [] (up2 σ 97 i.toNatClampNeg x)) := q_iast t159_29 (by decide +kernel) rfl rfl
theorem t159_30 : decode (mb 159) 30 = .ok (.sipush 359, 3) := by decide +kernel
theorem s159_30 (d : Nat) (l0 : Value) (l1 : Value) (l2 : Value) (l3 : Value) (l4 : Value) (l5 : Value) (l6 : Value) (σ : Hs) : ru d 159 30 [l0, l1, l2, l3, l4, l5, l6] [] σ = ru d 159 33 [l0, l1, l2, l3, l4, l5, l6] [.int 359] σ := q_sipush t159_30 (by decide +kernel)
theorem t159_33 : decode (mb 159) 33 = .ok (.bipush 62, 2) := by decide +kernel
theorem s159_33 (d : Nat) (l0 : Value) (l1 : Value) (l2 : Value) (l3 : Value) (l4 : Value) (l5 : Value) (l6 : Value) (w0 : Value) (σ : Hs) : ru d 159 33 [l0, l1, l2, l3, l4, l5, l6] [w0] σ = ru d 159 35 [l0, l1, l2, l3, l4, l5, l6] [.int 62, w0] σ := q_bipush t159_33 (by decide +kernel)
theorem t159_35 : decode (mb 159) 35 = .ok (.iload_n 1, 1) := by decide +kernel
theorem s159_35 (d : Nat) (l0 : Value) (i1 : Int32) (l2 : Value) (l3 : Value) (l4 : Value) (l5 : Value) (l6 : Value) (w0 w1 : Value) (σ : Hs) : ru d 159 35 [l0, .int i1, l2, l3, l4, l5, l6] [w0, w1] σ = ru d 159 36 [l0, .int i1, l2, l3, l4, l5, l6] [.int i1, w0, w1] σ := q_iload_n t159_35 rfl
theorem t159_36 : decode (mb 159) 36 = .ok (.imul, 1) := by decide +kernel
theorem s159_36 (d : Nat) (l0 : Value) (l1 : Value) (l2 : Value) (l3 : Value) (l4 : Value) (l5 : Value) (l6 : Value) (x y : Int32) (w0 : Value) (σ : Hs) : ru d 159 36 [l0, l1, l2, l3, l4, l5, l6] [.int y, .int x, w0] σ = ru d 159 37 [l0, l1, l2, l3, l4, l5, l6] [.int (x * y), w0] σ := q_imul t159_36
theorem t159_37 : decode (mb 159) 37 = .ok (.iadd, 1) := by decide +kernel
theorem s159_37 (d : Nat) (l0 : Value) (l1 : Value) (l2 : Value) (l3 : Value) (l4 : Value) (l5 : Value) (l6 : Value) (x y : Int32) (σ : Hs) : ru d 159 37 [l0, l1, l2, l3, l4, l5, l6] [.int y, .int x] σ = ru d 159 38 [l0, l1, l2, l3, l4, l5, l6] [.int (x + y)] σ := q_iadd t159_37
theorem t159_38 : decode (mb 159) 38 = .ok (.iconst 1, 1) := by decide +kernel
theorem s159_38 (d : Nat) (l0 : Value) (l1 : Value) (l2 : Value) (l3 : Value) (l4 : Value) (l5 : Value) (l6 : Value) (w0 : Value) (σ : Hs) : ru d 159 38 [l0, l1, l2, l3, l4, l5, l6] [w0] σ = ru d 159 39 [l0, l1, l2, l3, l4, l5, l6] [.int 1, w0] σ := q_iconst t159_38 (by decide +kernel)
theorem t159_39 : decode (mb 159) 39 = .ok (.iadd, 1) := by decide +kernel
theorem s159_39 (d : Nat) (l0 : Value) (l1 : Value) (l2 : Value) (l3 : Value) (l4 : Value) (l5 : Value) (l6 : Value) (x y : Int32) (σ : Hs) : ru d 159 39 [l0, l1, l2, l3, l4, l5, l6] [.int y, .int x] σ = ru d 159 40 [l0, l1, l2, l3, l4, l5, l6] [.int (x + y)] σ := q_iadd t159_39
theorem t159_40 : decode (mb 159) 40 = .ok (.istore 6, 2) := by decide +kernel
theorem s159_40 (d : Nat) (l0 : Value) (l1 : Value) (l2 : Value) (l3 : Value) (l4 : Value) (i5 : Int32) (l6 : Value) (x : Int32) (σ : Hs) : ru d 159 40 [l0, l1, l2, l3, l4, .int i5, l6] [.int x] σ = ru d 159 42 [l0, l1, l2, l3, l4, .int i5, .int x] [] σ := q_istore t159_40 ⟨Nat.le_of_ble_eq_true rfl, rfl⟩ rfl
theorem t159_42 : decode (mb 159) 42 = .ok (.aload_n 0, 1) := by decide +kernel
theorem s159_42 (d : Nat) (a0 : Nat) (l1 : Value) (l2 : Value) (l3 : Value) (l4 : Value) (l5 : Value) (l6 : Value) (σ : Hs) : ru d 159 42 [.ref a0, l1, l2, l3, l4, l5, l6] [] σ = ru d 159 43 [.ref a0, l1, l2, l3, l4, l5, l6] [.ref a0] σ := q_aload_n t159_42 rfl
theorem t159_43 : decode (mb 159) 43 = .ok (.getfield 9, 3) := by decide +kernel
theorem s159_43_o87 (d : Nat) (l0 : Value) (l1 : Value) (l2 : Value) (l3 : Value) (l4 : Value) (l5 : Value) (l6 : Value) (σ : Hs) : ru d 159 43 [l0, l1, l2, l3, l4, l5, l6] [.ref 87] σ = ru d 159 46 [l0, l1, l2, l3, l4, l5, l6] [.ref 88] σ := q_getf t159_43 mo159 F8_9 rfl rfl
theorem t159_46 : decode (mb 159) 46 = .ok (.iload 6, 2) := by decide +kernel
theorem s159_46 (d : Nat) (l0 : Value) (l1 : Value) (l2 : Value) (l3 : Value) (l4 : Value) (l5 : Value) (i6 : Int32) (w0 : Value) (σ : Hs) : ru d 159 46 [l0, l1, l2, l3, l4, l5, .int i6] [w0] σ = ru d 159 48 [l0, l1, l2, l3, l4, l5, .int i6] [.int i6, w0] σ := q_iload t159_46 rfl
theorem t159_48 : decode (mb 159) 48 = .ok (.iconst 1, 1) := by decide +kernel
theorem s159_48 (d : Nat) (l0 : Value) (l1 : Value) (l2 : Value) (l3 : Value) (l4 : Value) (l5 : Value) (l6 : Value) (w0 w1 : Value) (σ : Hs) : ru d 159 48 [l0, l1, l2, l3, l4, l5, l6] [w0, w1] σ = ru d 159 49 [l0, l1, l2, l3, l4, l5, l6] [.int 1, w0, w1] σ := q_iconst t159_48 (by decide +kernel)
theorem t159_49 : decode (mb 159) 49 = .ok (.isub, 1) := by decide +kernel
theorem s159_49 (d : Nat) (l0 : Value) (l1 : Value) (l2 : Value) (l3 : Value) (l4 : Value) (l5 : Value) (l6 : Value) (x y : Int32) (w0 : Value) (σ : Hs) : ru d 159 49 [l0, l1, l2, l3, l4, l5, l6] [.int y, .int x, w0] σ = ru d 159 50 [l0, l1, l2, l3, l4, l5, l6] [.int (x - y), w0] σ := q_isub t159_49
theorem t159_50 : decode (mb 159) 50 = .ok (.iaload, 1) := by decide +kernel
theorem s159_50_o88 (d : Nat) (l0 : Value) (l1 : Value) (l2 : Value) (l3 : Value) (l4 : Value) (l5 : Value) (l6 : Value) (i : Int32) (σ : Hs) : ru d 159 50 [l0, l1, l2, l3, l4, l5, l6] [.int i, .ref 88] σ = gd (vp_in i 545) (ru d 159 51 [l0, l1, l2, l3, l4, l5, l6] [.int (σ 88 i.toNatClampNeg)] σ) := q_iald t159_50 rfl (by decide +kernel) rfl
theorem t159_51 : decode (mb 159) 51 = .ok (.ifCond .le 10, 3) := by decide +kernel
theorem s159_51 (d : Nat) (l0 : Value) (l1 : Value) (l2 : Value) (l3 : Value) (l4 : Value) (l5 : Value) (l6 : Value) (x : Int32) (σ : Hs) : ru d 159 51 [l0, l1, l2, l3, l4, l5, l6] [.int x] σ = if x ≤ 0 then ru d 159 61 [l0, l1, l2, l3, l4, l5, l6] [] σ else ru d 159 54 [l0, l1, l2, l3, l4, l5, l6] [] σ := q_if_le t159_51 (by decide +kernel)
theorem t159_54 : decode (mb 159) 54 = .ok (.aload_n 0, 1) := by decide +kernel
theorem s159_54 (d : Nat) (a0 : Nat) (l1 : Value) (l2 : Value) (l3 : Value) (l4 : Value) (l5 : Value) (l6 : Value) (σ : Hs) : ru d 159 54 [.ref a0, l1, l2, l3, l4, l5, l6] [] σ = ru d 159 55 [.ref a0, l1, l2, l3, l4, l5, l6] [.ref a0] σ := q_aload_n t159_54 rfl
theorem t159_55 : decode (mb 159) 55 = .ok (.iload 6, 2) := by decide +kernel
theorem s159_55 (d : Nat) (l0 : Value) (l1 : Value) (l2 : Value) (l3 : Value) (l4 : Value) (l5 : Value) (i6 : Int32) (w0 : Value) (σ : Hs) : ru d 159 55 [l0, l1, l2, l3, l4, l5, .int i6] [w0] σ = ru d 159 57 [l0, l1, l2, l3, l4, l5, .int i6] [.int i6, w0] σ := q_iload t159_55 rfl
theorem t159_57 : decode (mb 159) 57 = .ok (.invokevirtual 218, 3) := by decide +kernel
theorem s159_57_o87 (d : Nat) (l0 : Value) (l1 : Value) (l2 : Value) (l3 : Value) (l4 : Value) (l5 : Value) (l6 : Value) (v1 : Value) (σ : Hs) : ru d 159 57 [l0, l1, l2, l3, l4, l5, l6] [v1, .ref 87] σ = kont (callD d 158 [.ref 87, v1] σ) d 159 60 [l0, l1, l2, l3, l4, l5, l6] [] := q_invv t159_57 mo159 K8_218 mj158 rfl rfl rfl rfl (Nat.le_of_ble_eq_true rfl)
theorem t159_60 : decode (mb 159) 60 = .ok (.ireturn, 1) := by decide +kernel
theorem s159_60 (d : Nat) (l0 : Value) (l1 : Value) (l2 : Value) (l3 : Value) (l4 : Value) (l5 : Value) (l6 : Value) (x : Int32) (σ : Hs) : ru d 159 60 [l0, l1, l2, l3, l4, l5, l6] [.int x] σ = some (some (.int x), σ) := q_ireti t159_60 mr159
theorem t159_61 : decode (mb 159) 61 = .ok (.iload_n 1, 1) := by decide +kernel
theorem s159_61 (d : Nat) (l0 : Value) (i1 : Int32) (l2 : Value) (l3 : Value) (l4 : Value) (l5 : Value) (l6 : Value) (σ : Hs) : ru d 159 61 [l0, .int i1, l2, l3, l4, l5, l6] [] σ = ru d 159 62 [l0, .int i1, l2, l3, l4, l5, l6] [.int i1] σ := q_iload_n t159_61 rfl
theorem t159_62 : decode (mb 159) 62 = .ok (.lookupswitch 34 #[(0, 26), (1, 32)], 26) := by decide +kernel
theorem f159_62 (x : Int32) : tgt 62 (Op.lookupswitch.offset (#[(0, 26), (1, 32)] : Array (Int × Int)).toList 34 x.toInt) = some (if x = 0 then 88 else (if x = 1 then 94 else 96)) := by
  by_cases h0 : x = 0
  · subst h0; decide +kernel
  by_cases h1 : x = 1
  · subst h1; decide +kernel
  have e0 : ¬ x.toInt = 0 := fun h => h0 (Int32.toInt_inj.mp (h.trans (by decide +kernel)))
  have e1 : ¬ x.toInt = 1 := fun h => h1 (Int32.toInt_inj.mp (h.trans (by decide +kernel)))
  have g0 : ¬ (0 : Int) = x.toInt := fun h => e0 h.symm
  have g1 : ¬ (1 : Int) = x.toInt := fun h => e1 h.symm
  simp only [Op.lookupswitch.offset_cons, Op.lookupswitch.offset_nil, if_neg g0, if_neg h0, if_neg g1, if_neg h1]
  decide +kernel
theorem s159_62 (d : Nat) (l0 : Value) (l1 : Value) (l2 : Value) (l3 : Value) (l4 : Value) (l5 : Value) (l6 : Value) (x : Int32) (σ : Hs) : ru d 159 62 [l0, l1, l2, l3, l4, l5, l6] [.int x] σ = if x = 0 then ru d 159 88 [l0, l1, l2, l3, l4, l5, l6] [] σ else if x = 1 then ru d 159 94 [l0, l1, l2, l3, l4, l5, l6] [] σ else ru d 159 96 [l0, l1, l2, l3, l4, l5, l6] [] σ := by
  refine (q_lsw t159_62 (by decide +kernel) (fun x => (if x = 0 then 88 else (if x = 1 then 94 else 96))) (f159_62 x)).trans ?_
  by_cases h0 : x = 0
  · rw [if_pos h0, if_pos h0]
  rw [if_neg h0, if_neg h0]
  by_cases h1 : x = 1
  · rw [if_pos h1, if_pos h1]
  rw [if_neg h1, if_neg h1]
theorem t159_88 : decode (mb 159) 88 = .ok (.iload_n 2, 1) := by decide +kernel
theorem s159_88 (d : Nat) (l0 : Value) (l1 : Value) (i2 : Int32) (l3 : Value) (l4 : Value) (l5 : Value) (l6 : Value) (σ : Hs) : ru d 159 88 [l0, l1, .int i2, l3, l4, l5, l6] [] σ = ru d 159 89 [l0, l1, .int i2, l3, l4, l5, l6] [.int i2] σ := q_iload_n t159_88 rfl
theorem t159_89 : decode (mb 159) 89 = .ok (.iconst 4, 1) := by decide +kernel
theorem s159_89 (d : Nat) (l0 : Value) (l1 : Value) (l2 : Value) (l3 : Value) (l4 : Value) (l5 : Value) (l6 : Value) (w0 : Value) (σ : Hs) : ru d 159 89 [l0, l1, l2, l3, l4, l5, l6] [w0] σ = ru d 159 90 [l0, l1, l2, l3, l4, l5, l6] [.int 4, w0] σ := q_iconst t159_89 (by decide +kernel)
theorem t159_90 : decode (mb 159) 90 = .ok (.idiv, 1) := by decide +kernel
theorem s159_90 (d : Nat) (l0 : Value) (l1 : Value) (l2 : Value) (l3 : Value) (l4 : Value) (l5 : Value) (l6 : Value) (x y : Int32) (σ : Hs) : ru d 159 90 [l0, l1, l2, l3, l4, l5, l6] [.int y, .int x] σ = gd (¬ y = 0) (ru d 159 91 [l0, l1, l2, l3, l4, l5, l6] [.int (x / y)] σ) := q_idiv t159_90
theorem t159_91 : decode (mb 159) 91 = .ok (.iconst 1, 1) := by decide +kernel
theorem s159_91 (d : Nat) (l0 : Value) (l1 : Value) (l2 : Value) (l3 : Value) (l4 : Value) (l5 : Value) (l6 : Value) (w0 : Value) (σ : Hs) : ru d 159 91 [l0, l1, l2, l3, l4, l5, l6] [w0] σ = ru d 159 92 [l0, l1, l2, l3, l4, l5, l6] [.int 1, w0] σ := q_iconst t159_91 (by decide +kernel)
theorem t159_92 : decode (mb 159) 92 = .ok (.iadd, 1) := by decide +kernel
theorem s159_92 (d : Nat) (l0 : Value) (l1 : Value) (l2 : Value) (l3 : Value) (l4 : Value) (l5 : Value) (l6 : Value) (x y : Int32) (σ : Hs) : ru d 159 92 [l0, l1, l2, l3, l4, l5, l6] [.int y, .int x] σ = ru d 159 93 [l0, l1, l2, l3, l4, l5, l6] [.int (x + y)] σ := q_iadd t159_92
theorem t159_93 : decode (mb 159) 93 = .ok (.ireturn, 1) := by decide +kernel
theorem s159_93 (d : Nat) (l0 : Value) (l1 : Value) (l2 : Value) (l3 : Value) (l4 : Value) (l5 : Value) (l6 : Value) (x : Int32) (σ : Hs) : ru d 159 93 [l0, l1, l2, l3, l4, l5, l6] [.int x] σ = some (some (.int x), σ) := q_ireti t159_93 mr159
theorem t159_94 : decode (mb 159) 94 = .ok (.iconst 1, 1) := by decide +kernel
theorem s159_94 (d : Nat) (l0 : Value) (l1 : Value) (l2 : Value) (l3 : Value) (l4 : Value) (l5 : Value) (l6 : Value) (σ : Hs) : ru d 159 94 [l0, l1, l2, l3, l4, l5, l6] [] σ = ru d 159 95 [l0, l1, l2, l3, l4, l5, l6] [.int 1] σ := q_iconst t159_94 (by decide +kernel)
theorem t159_95 : decode (mb 159) 95 = .ok (.ireturn, 1) := by decide +kernel
theorem s159_95 (d : Nat) (l0 : Value) (l1 : Value) (l2 : Value) (l3 : Value) (l4 : Value) (l5 : Value) (l6 : Value) (x : Int32) (σ : Hs) : ru d 159 95 [l0, l1, l2, l3, l4, l5, l6] [.int x] σ = some (some (.int x), σ) := q_ireti t159_95 mr159
theorem t159_96 : decode (mb 159) 96 = .ok (.iload_n 2, 1) := by decide +kernel
theorem s159_96 (d : Nat) (l0 : Value) (l1 : Value) (i2 : Int32) (l3 : Value) (l4 : Value) (l5 : Value) (l6 : Value) (σ : Hs) : ru d 159 96 [l0, l1, .int i2, l3, l4, l5, l6] [] σ = ru d 159 97 [l0, l1, .int i2, l3, l4, l5, l6] [.int i2] σ := q_iload_n t159_96 rfl
theorem t159_97 : decode (mb 159) 97 = .ok (.bipush 18, 2) := by decide +kernel
theorem s159_97 (d : Nat) (l0 : Value) (l1 : Value) (l2 : Value) (l3 : Value) (l4 : Value) (l5 : Value) (l6 : Value) (w0 : Value) (σ : Hs) : ru d 159 97 [l0, l1, l2, l3, l4, l5, l6] [w0] σ = ru d 159 99 [l0, l1, l2, l3, l4, l5, l6] [.int 18, w0] σ := q_bipush t159_97 (by decide +kernel)
theorem t159_99 : decode (mb 159) 99 = .ok (.if_icmp .ge 9, 3) := by decide +kernel
theorem s159_99 (d : Nat) (l0 : Value) (l1 : Value) (l2 : Value) (l3 : Value) (l4 : Value) (l5 : Value) (l6 : Value) (x y : Int32) (σ : Hs) : ru d 159 99 [l0, l1, l2, l3, l4, l5, l6] [.int y, .int x] σ = if y ≤ x then ru d 159 108 [l0, l1, l2, l3, l4, l5, l6] [] σ else ru d 159 102 [l0, l1, l2, l3, l4, l5, l6] [] σ := q_ic_ge t159_99 (by decide +kernel)
theorem t159_102 : decode (mb 159) 102 = .ok (.iload_n 2, 1) := by decide +kernel
theorem s159_102 (d : Nat) (l0 : Value) (l1 : Value) (i2 : Int32) (l3 : Value) (l4 : Value) (l5 : Value) (l6 : Value) (σ : Hs) : ru d 159 102 [l0, l1, .int i2, l3, l4, l5, l6] [] σ = ru d 159 103 [l0, l1, .int i2, l3, l4, l5, l6] [.int i2] σ := q_iload_n t159_102 rfl
theorem t159_103 : decode (mb 159) 103 = .ok (.bipush 6, 2) := by decide +kernel
theorem s159_103 (d : Nat) (l0 : Value) (l1 : Value) (l2 : Value) (l3 : Value) (l4 : Value) (l5 : Value) (l6 : Value) (w0 : Value) (σ : Hs) : ru d 159 103 [l0, l1, l2, l3, l4, l5, l6] [w0] σ = ru d 159 105 [l0, l1, l2, l3, l4, l5, l6] [.int 6, w0] σ := q_bipush t159_103 (by decide +kernel)
theorem t159_105 : decode (mb 159) 105 = .ok (.if_icmp .ge 8, 3) := by decide +kernel
theorem s159_105 (d : Nat) (l0 : Value) (l1 : Value) (l2 : Value) (l3 : Value) (l4 : Value) (l5 : Value) (l6 : Value) (x y : Int32) (σ : Hs) : ru d 159 105 [l0, l1, l2, l3, l4, l5, l6] [.int y, .int x] σ = if y ≤ x then ru d 159 113 [l0, l1, l2, l3, l4, l5, l6] [] σ else ru d 159 108 [l0, l1, l2, l3, l4, l5, l6] [] σ := q_ic_ge t159_105 (by decide +kernel)
theorem t159_108 : decode (mb 159) 108 = .ok (.bipush 90, 2) := by decide +kernel
theorem s159_108 (d : Nat) (l0 : Value) (l1 : Value) (l2 : Value) (l3 : Value) (l4 : Value) (l5 : Value) (l6 : Value) (σ : Hs) : ru d 159 108 [l0, l1, l2, l3, l4, l5, l6] [] σ = ru d 159 110 [l0, l1, l2, l3, l4, l5, l6] [.int 90] σ := q_bipush t159_108 (by decide +kernel)
theorem t159_110 : decode (mb 159) 110 = .ok (.goto 5, 3) := by decide +kernel
theorem s159_110 (d : Nat) (l0 : Value) (l1 : Value) (l2 : Value) (l3 : Value) (l4 : Value) (l5 : Value) (l6 : Value) (w0 : Value) (σ : Hs) : ru d 159 110 [l0, l1, l2, l3, l4, l5, l6] [w0] σ = ru d 159 115 [l0, l1, l2, l3, l4, l5, l6] [w0] σ := q_goto t159_110 (by decide +kernel)
theorem t159_113 : decode (mb 159) 113 = .ok (.bipush 40, 2) := by decide +kernel
theorem s159_113 (d : Nat) (l0 : Value) (l1 : Value) (l2 : Value) (l3 : Value) (l4 : Value) (l5 : Value) (l6 : Value) (σ : Hs) : ru d 159 113 [l0, l1, l2, l3, l4, l5, l6] [] σ = ru d 159 115 [l0, l1, l2, l3, l4, l5, l6] [.int 40] σ := q_bipush t159_113 (by decide +kernel)
theorem t159_115 : decode (mb 159) 115 = .ok (.ireturn, 1) := by decide +kernel
theorem s159_115 (d : Nat) (l0 : Value) (l1 : Value) (l2 : Value) (l3 : Value) (l4 : Value) (l5 : Value) (l6 : Value) (x : Int32) (σ : Hs) : ru d 159 115 [l0, l1, l2, l3, l4, l5, l6] [.int x] σ = some (some (.int x), σ) := q_ireti t159_115 mr159
theorem c159 (d : Nat) (x0 : Nat) (x1 : Int32) (x2 : Int32) (x3 : Int32) (x4 : Int32) (x5 : Int32) (σ : Hs) : callD (d + 1) 159 [.ref x0, .int x1, .int x2, .int x3, .int x4, .int x5] σ = ru d 159 0 [.ref x0, .int x1, .int x2, .int x3, .int x4, .int x5, uu] [] σ := callD_ru ml159 rfl rfl (Nat.le_of_ble_eq_true rfl)
-- 160: Model.sum_(I)I
theorem t160_0 : decode (mb 160) 0 = .ok (.iconst 0, 1) := by decide +kernel
theorem s160_0 (d : Nat) (l0 : Value) (l1 : Value) (l2 : Value) (l3 : Value) (σ : Hs) : ru d 160 0 [l0, l1, l2, l3] [] σ = ru d 160 1 [l0, l1, l2, l3] [.int 0] σ := q_iconst t160_0 (by decide +kernel)
theorem t160_1 : decode (mb 160) 1 = .ok (.istore_n 2, 1) := by decide +kernel
theorem s160_1 (d : Nat) (l0 : Value) (i1 : Int32) (l2 : Value) (l3 : Value) (x : Int32) (σ : Hs) : ru d 160 1 [l0, .int i1, l2, l3] [.int x] σ = ru d 160 2 [l0, .int i1, .int x, l3] [] σ := q_istore_n t160_1 ⟨Nat.le_of_ble_eq_true rfl, rfl⟩ rfl
theorem t160_2 : decode (mb 160) 2 = .ok (.iconst 0, 1) := by decide +kernel
theorem s160_2 (d : Nat) (l0 : Value) (l1 : Value) (l2 : Value) (l3 : Value) (σ : Hs) : ru d 160 2 [l0, l1, l2, l3] [] σ = ru d 160 3 [l0, l1, l2, l3] [.int 0] σ := q_iconst t160_2 (by decide +kernel)
theorem t160_3 : decode (mb 160) 3 = .ok (.istore_n 3, 1) := by decide +kernel
theorem s160_3 (d : Nat) (l0 : Value) (l1 : Value) (i2 : Int32) (l3 : Value) (x : Int32) (σ : Hs) : ru d 160 3 [l0, l1, .int i2, l3] [.int x] σ = ru d 160 4 [l0, l1, .int i2, .int x] [] σ := q_istore_n t160_3 ⟨Nat.le_of_ble_eq_true rfl, rfl⟩ rfl
theorem t160_4 : decode (mb 160) 4 = .ok (.iload_n 3, 1) := by decide +kernel
theorem s160_4 (d : Nat) (l0 : Value) (l1 : Value) (l2 : Value) (i3 : Int32) (σ : Hs) : ru d 160 4 [l0, l1, l2, .int i3] [] σ = ru d 160 5 [l0, l1, l2, .int i3] [.int i3] σ := q_iload_n t160_4 rfl
theorem t160_5 : decode (mb 160) 5 = .ok (.bipush 30, 2) := by decide +kernel
theorem s160_5 (d : Nat) (l0 : Value) (l1 : Value) (l2 : Value) (l3 : Value) (w0 : Value) (σ : Hs) : ru d 160 5 [l0, l1, l2, l3] [w0] σ = ru d 160 7 [l0, l1, l2, l3] [.int 30, w0] σ := q_bipush t160_5 (by decide +kernel)
theorem t160_7 : decode (mb 160) 7 = .ok (.if_icmp .ge 30, 3) := by decide +kernel
theorem s160_7 (d : Nat) (l0 : Value) (l1 : Value) (l2 : Value) (l3 : Value) (x y : Int32) (σ : Hs) : ru d 160 7 [l0, l1, l2, l3] [.int y, .int x] σ = if y ≤ x then ru d 160 37 [l0, l1, l2, l3] [] σ else ru d 160 10 [l0, l1, l2, l3] [] σ := q_ic_ge t160_7 (by decide +kernel)
theorem t160_10 : decode (mb 160) 10 = .ok (.iload_n 2, 1) := by decide +kernel
theorem s160_10 (d : Nat) (l0 : Value) (l1 : Value) (i2 : Int32) (l3 : Value) (σ : Hs) : ru d 160 10 [l0, l1, .int i2, l3] [] σ = ru d 160 11 [l0, l1, .int i2, l3] [.int i2] σ := q_iload_n t160_10 rfl
theorem t160_11 : decode (mb 160) 11 = .ok (.aload_n 0, 1) := by decide +kernel
theorem s160_11 (d : Nat) (a0 : Nat) (l1 : Value) (l2 : Value) (l3 : Value) (w0 : Value) (σ : Hs) : ru d 160 11 [.ref a0, l1, l2, l3] [w0] σ = ru d 160 12 [.ref a0, l1, l2, l3] [.ref a0, w0] σ := q_aload_n t160_11 rfl
theorem t160_12 : decode (mb 160) 12 = .ok (.iload_n 3, 1) := by decide +kernel
theorem s160_12 (d : Nat) (l0 : Value) (l1 : Value) (l2 : Value) (i3 : Int32) (w0 w1 : Value) (σ : Hs) : ru d 160 12 [l0, l1, l2, .int i3] [w0, w1] σ = ru d 160 13 [l0, l1, l2, .int i3] [.int i3, w0, w1] σ := q_iload_n t160_12 rfl
theorem t160_13 : decode (mb 160) 13 = .ok (.invokevirtual 88, 3) := by decide +kernel
theorem s160_13_o87 (d : Nat) (l0 : Value) (l1 : Value) (l2 : Value) (l3 : Value) (v1 : Value) (w0 : Int32) (σ : Hs) : ru d 160 13 [l0, l1, l2, l3] [v1, .ref 87, .int w0] σ = kont (callD d 122 [.ref 87, v1] σ) d 160 16 [l0, l1, l2, l3] [.int w0] := q_invv t160_13 mo160 K8_88 mj122 rfl rfl rfl rfl (Nat.le_of_ble_eq_true rfl)
theorem t160_16 : decode (mb 160) 16 = .ok (.ifCond .eq 12, 3) := by decide +kernel
theorem s160_16 (d : Nat) (l0 : Value) (l1 : Value) (l2 : Value) (l3 : Value) (x : Int32) (w0 : Value) (σ : Hs) : ru d 160 16 [l0, l1, l2, l3] [.int x, w0] σ = if x = 0 then ru d 160 28 [l0, l1, l2, l3] [w0] σ else ru d 160 19 [l0, l1, l2, l3] [w0] σ := q_if_eq t160_16 (by decide +kernel)
theorem t160_19 : decode (mb 160) 19 = .ok (.aload_n 0, 1) := by decide +kernel
theorem s160_19 (d : Nat) (a0 : Nat) (l1 : Value) (l2 : Value) (l3 : Value) (w0 : Value) (σ : Hs) : ru d 160 19 [.ref a0, l1, l2, l3] [w0] σ = ru d 160 20 [.ref a0, l1, l2, l3] [.ref a0, w0] σ := q_aload_n t160_19 rfl
theorem t160_20 : decode (mb 160) 20 = .ok (.iload_n 3, 1) := by decide +kernel
theorem s160_20 (d : Nat) (l0 : Value) (l1 : Value) (l2 : Value) (i3 : Int32) (w0 w1 : Value) (σ : Hs) : ru d 160 20 [l0, l1, l2, .int i3] [w0, w1] σ = ru d 160 21 [l0, l1, l2, .int i3] [.int i3, w0, w1] σ := q_iload_n t160_20 rfl
theorem t160_21 : decode (mb 160) 21 = .ok (.iload_n 1, 1) := by decide +kernel
theorem s160_21 (d : Nat) (l0 : Value) (i1 : Int32) (l2 : Value) (l3 : Value) (w0 w1 w2 : Value) (σ : Hs) : ru d 160 21 [l0, .int i1, l2, l3] [w0, w1, w2] σ = ru d 160 22 [l0, .int i1, l2, l3] [.int i1, w0, w1, w2] σ := q_iload_n t160_21 rfl
theorem t160_22 : decode (mb 160) 22 = .ok (.invokevirtual 85, 3) := by decide +kernel
theorem s160_22_o87 (d : Nat) (l0 : Value) (l1 : Value) (l2 : Value) (l3 : Value) (v1 v2 : Value) (w0 : Int32) (σ : Hs) : ru d 160 22 [l0, l1, l2, l3] [v2, v1, .ref 87, .int w0] σ = kont (callD d 119 [.ref 87, v1, v2] σ) d 160 25 [l0, l1, l2, l3] [.int w0] := q_invv t160_22 mo160 K8_85 mj119 rfl rfl rfl rfl (Nat.le_of_ble_eq_true rfl)
theorem t160_25 : decode (mb 160) 25 = .ok (.goto 4, 3) := by decide +kernel
theorem s160_25 (d : Nat) (l0 : Value) (l1 : Value) (l2 : Value) (l3 : Value) (w0 w1 : Value) (σ : Hs) : ru d 160 25 [l0, l1, l2, l3] [w0, w1] σ = ru d 160 29 [l0, l1, l2, l3] [w0, w1] σ := q_goto t160_25 (by decide +kernel)
theorem t160_28 : decode (mb 160) 28 = .ok (.iconst 0, 1) := by decide +kernel
theorem s160_28 (d : Nat) (l0 : Value) (l1 : Value) (l2 : Value) (l3 : Value) (w0 : Value) (σ : Hs) : ru d 160 28 [l0, l1, l2, l3] [w0] σ = ru d 160 29 [l0, l1, l2, l3] [.int 0, w0] σ := q_iconst t160_28 (by decide +kernel)
theorem t160_29 : decode (mb 160) 29 = .ok (.iadd, 1) := by decide +kernel
theorem s160_29 (d : Nat) (l0 : Value) (l1 : Value) (l2 : Value) (l3 : Value) (x y : Int32) (σ : Hs) : ru d 160 29 [l0, l1, l2, l3] [.int y, .int x] σ = ru d 160 30 [l0, l1, l2, l3] [.int (x + y)] σ := q_iadd t160_29
theorem t160_30 : decode (mb 160) 30 = .ok (.istore_n 2, 1) := by decide +kernel
theorem s160_30 (d : Nat) (l0 : Value) (i1 : Int32) (l2 : Value) (l3 : Value) (x : Int32) (σ : Hs) : ru d 160 30 [l0, .int i1, l2, l3] [.int x] σ = ru d 160 31 [l0, .int i1, .int x, l3] [] σ := q_istore_n t160_30 ⟨Nat.le_of_ble_eq_true rfl, rfl⟩ rfl
theorem t160_31 : decode (mb 160) 31 = .ok (.iinc 3 1, 3) := by decide +kernel
theorem s160_31 (d : Nat) (l0 : Value) (l1 : Value) (i2 : Int32) (i3 : Int32) (σ : Hs) : ru d 160 31 [l0, l1, .int i2, .int i3] [] σ = ru d 160 34 [l0, l1, .int i2, .int (i3 + 1)] [] σ := q_iinc t160_31 ⟨Nat.le_of_ble_eq_true rfl, rfl⟩ rfl (by decide +kernel) rfl
theorem t160_34 : decode (mb 160) 34 = .ok (.goto (-30), 3) := by decide +kernel
theorem s160_34 (d : Nat) (l0 : Value) (l1 : Value) (l2 : Value) (l3 : Value) (σ : Hs) : ru d 160 34 [l0, l1, l2, l3] [] σ = ru d 160 4 [l0, l1, l2, l3] [] σ := q_goto t160_34 (by decide +kernel)
theorem t160_37 : decode (mb 160) 37 = .ok (.iload_n 2, 1) := by decide +kernel
theorem s160_37 (d : Nat) (l0 : Value) (l1 : Value) (i2 : Int32) (l3 : Value) (σ : Hs) : ru d 160 37 [l0, l1, .int i2, l3] [] σ = ru d 160 38 [l0, l1, .int i2, l3] [.int i2] σ := q_iload_n t160_37 rfl
theorem t160_38 : decode (mb 160) 38 = .ok (.ireturn, 1) := by decide +kernel
theorem s160_38 (d : Nat) (l0 : Value) (l1 : Value) (l2 : Value) (l3 : Value) (x : Int32) (σ : Hs) : ru d 160 38 [l0, l1, l2, l3] [.int x] σ = some (some (.int x), σ) := q_ireti t160_38 mr160
theorem c160 (d : Nat) (x0 : Nat) (x1 : Int32) (σ : Hs) : callD (d + 1) 160 [.ref x0, .int x1] σ = ru d 160 0 [.ref x0, .int x1, uu, uu] [] σ := callD_ru ml160 rfl rfl (Nat.le_of_ble_eq_true rfl)
-- 161: Model.mayBe()Z
theorem t161_0 : decode (mb 161) 0 = .ok (.aload_n 0, 1) := by decide +kernel
theorem s161_0 (d : Nat) (a0 : Nat) (σ : Hs) : ru d 161 0 [.ref a0] [] σ = ru d 161 1 [.ref a0] [.ref a0] σ := q_aload_n t161_0 rfl
theorem t161_1 : decode (mb 161) 1 = .ok (.iconst 1, 1) := by decide +kernel
theorem s161_1 (d : Nat) (l0 : Value) (w0 : Value) (σ : Hs) : ru d 161 1 [l0] [w0] σ = ru d 161 2 [l0] [.int 1, w0] σ := q_iconst t161_1 (by decide +kernel)
theorem t161_2 : decode (mb 161) 2 = .ok (.aload_n 0, 1) := by decide +kernel
theorem s161_2 (d : Nat) (a0 : Nat) (w0 w1 : Value) (σ : Hs) : ru d 161 2 [.ref a0] [w0, w1] σ = ru d 161 3 [.ref a0] [.ref a0, w0, w1] σ := q_aload_n t161_2 rfl
theorem t161_3 : decode (mb 161) 3 = .ok (.getfield 9, 3) := by decide +kernel
theorem s161_3_o87 (d : Nat) (l0 : Value) (w0 w1 : Value) (σ : Hs) : ru d 161 3 [l0] [.ref 87, w0, w1] σ = ru d 161 6 [l0] [.ref 88, w0, w1] σ := q_getf t161_3 mo161 F8_9 rfl rfl
theorem t161_6 : decode (mb 161) 6 = .ok (.iconst 4, 1) := by decide +kernel
theorem s161_6 (d : Nat) (l0 : Value) (w0 w1 w2 : Value) (σ : Hs) : ru d 161 6 [l0] [w0, w1, w2] σ = ru d 161 7 [l0] [.int 4, w0, w1, w2] σ := q_iconst t161_6 (by decide +kernel)
theorem t161_7 : decode (mb 161) 7 = .ok (.iaload, 1) := by decide +kernel
theorem s161_7_o88 (d : Nat) (l0 : Value) (i : Int32) (w0 w1 : Value) (σ : Hs) : ru d 161 7 [l0] [.int i, .ref 88, w0, w1] σ = gd (vp_in i 545) (ru d 161 8 [l0] [.int (σ 88 i.toNatClampNeg), w0, w1] σ) := q_iald t161_7 rfl (by decide +kernel) rfl
theorem t161_8 : decode (mb 161) 8 = .ok (.bipush 60, 2) := by decide +kernel
theorem s161_8 (d : Nat) (l0 : Value) (w0 w1 w2 : Value) (σ : Hs) : ru d 161 8 [l0] [w0, w1, w2] σ = ru d 161 10 [l0] [.int 60, w0, w1, w2] σ := q_bipush t161_8 (by decide +kernel)
theorem t161_10 : decode (mb 161) 10 = .ok (.idiv, 1) := by decide +kernel
theorem s161_10 (d : Nat) (l0 : Value) (x y : Int32) (w0 w1 : Value) (σ : Hs) : ru d 161 10 [l0] [.int y, .int x, w0, w1] σ = gd (¬ y = 0) (ru d 161 11 [l0] [.int (x / y), w0, w1] σ) := q_idiv t161_10
theorem t161_11 : decode (mb 161) 11 = .ok (.aload_n 0, 1) := by decide +kernel
theorem s161_11 (d : Nat) (a0 : Nat) (w0 w1 w2 : Value) (σ : Hs) : ru d 161 11 [.ref a0] [w0, w1, w2] σ = ru d 161 12 [.ref a0] [.ref a0, w0, w1, w2] σ := q_aload_n t161_11 rfl
theorem t161_12 : decode (mb 161) 12 = .ok (.getfield 9, 3) := by decide +kernel
theorem s161_12_o87 (d : Nat) (l0 : Value) (w0 w1 w2 : Value) (σ : Hs) : ru d 161 12 [l0] [.ref 87, w0, w1, w2] σ = ru d 161 15 [l0] [.ref 88, w0, w1, w2] σ := q_getf t161_12 mo161 F8_9 rfl rfl
theorem t161_15 : decode (mb 161) 15 = .ok (.iconst 5, 1) := by decide +kernel
theorem s161_15 (d : Nat) (l0 : Value) (w0 w1 w2 w3 : Value) (σ : Hs) : ru d 161 15 [l0] [w0, w1, w2, w3] σ = ru d 161 16 [l0] [.int 5, w0, w1, w2, w3] σ := q_iconst t161_15 (by decide +kernel)
theorem t161_16 : decode (mb 161) 16 = .ok (.iaload, 1) := by decide +kernel
theorem s161_16_o88 (d : Nat) (l0 : Value) (i : Int32) (w0 w1 w2 : Value) (σ : Hs) : ru d 161 16 [l0] [.int i, .ref 88, w0, w1, w2] σ = gd (vp_in i 545) (ru d 161 17 [l0] [.int (σ 88 i.toNatClampNeg), w0, w1, w2] σ) := q_iald t161_16 rfl (by decide +kernel) rfl
theorem t161_17 : decode (mb 161) 17 = .ok (.aload_n 0, 1) := by decide +kernel
theorem s161_17 (d : Nat) (a0 : Nat) (w0 w1 w2 w3 : Value) (σ : Hs) : ru d 161 17 [.ref a0] [w0, w1, w2, w3] σ = ru d 161 18 [.ref a0] [.ref a0, w0, w1, w2, w3] σ := q_aload_n t161_17 rfl
theorem t161_18 : decode (mb 161) 18 = .ok (.bipush 6, 2) := by decide +kernel
theorem s161_18 (d : Nat) (l0 : Value) (w0 w1 w2 w3 w4 : Value) (σ : Hs) : ru d 161 18 [l0] [w0, w1, w2, w3, w4] σ = ru d 161 20 [l0] [.int 6, w0, w1, w2, w3, w4] σ := q_bipush t161_18 (by decide +kernel)
theorem t161_20 : decode (mb 161) 20 = .ok (.invokevirtual 221, 3) := by decide +kernel
theorem s161_20_o87 (d : Nat) (l0 : Value) (v1 : Value) (w0 : Int32) (w1 : Int32) (w2 : Int32) (w3 : Nat) (σ : Hs) : ru d 161 20 [l0] [v1, .ref 87, .int w0, .int w1, .int w2, .ref w3] σ = kont (callD d 160 [.ref 87, v1] σ) d 161 23 [l0] [.int w0, .int w1, .int w2, .ref w3] := q_invv t161_20 mo161 K8_221 mj160 rfl rfl rfl rfl (Nat.le_of_ble_eq_true rfl)
theorem t161_23 : decode (mb 161) 23 = .ok (.aload_n 0, 1) := by decide +kernel
theorem s161_23 (d : Nat) (a0 : Nat) (w0 w1 w2 w3 w4 : Value) (σ : Hs) : ru d 161 23 [.ref a0] [w0, w1, w2, w3, w4] σ = ru d 161 24 [.ref a0] [.ref a0, w0, w1, w2, w3, w4] σ := q_aload_n t161_23 rfl
theorem t161_24 : decode (mb 161) 24 = .ok (.iconst 0, 1) := by decide +kernel
theorem s161_24 (d : Nat) (l0 : Value) (w0 w1 w2 w3 w4 w5 : Value) (σ : Hs) : ru d 161 24 [l0] [w0, w1, w2, w3, w4, w5] σ = ru d 161 25 [l0] [.int 0, w0, w1, w2, w3, w4, w5] σ := q_iconst t161_24 (by decide +kernel)
theorem t161_25 : decode (mb 161) 25 = .ok (.invokevirtual 221, 3) := by decide +kernel
theorem s161_25_o87 (d : Nat) (l0 : Value) (v1 : Value) (w0 : Int32) (w1 : Int32) (w2 : Int32) (w3 : Int32) (w4 : Nat) (σ : Hs) : ru d 161 25 [l0] [v1, .ref 87, .int w0, .int w1, .int w2, .int w3, .ref w4] σ = kont (callD d 160 [.ref 87, v1] σ) d 161 28 [l0] [.int w0, .int w1, .int w2, .int w3, .ref w4] := q_invv t161_25 mo161 K8_221 mj160 rfl rfl rfl rfl (Nat.le_of_ble_eq_true rfl)
theorem t161_28 : decode (mb 161) 28 = .ok (.invokevirtual 223, 3) := by decide +kernel
theorem s161_28_o87 (d : Nat) (l0 : Value) (v1 v2 v3 v4 v5 : Value) (σ : Hs) : ru d 161 28 [l0] [v5, v4, v3, v2, v1, .ref 87] σ = kont (callD d 159 [.ref 87, v1, v2, v3, v4, v5] σ) d 161 31 [l0] [] := q_invv t161_28 mo161 K8_223 mj159 rfl rfl rfl rfl (Nat.le_of_ble_eq_true rfl)
theorem t161_31 : decode (mb 161) 31 = .ok (.ifCond .eq 7, 3) := by decide +kernel
theorem s161_31 (d : Nat) (l0 : Value) (x : Int32) (σ : Hs) : ru d 161 31 [l0] [.int x] σ = if x = 0 then ru d 161 38 [l0] [] σ else ru d 161 34 [l0] [] σ := q_if_eq t161_31 (by decide +kernel)
theorem t161_34 : decode (mb 161) 34 = .ok (.iconst 1, 1) := by decide +kernel
theorem s161_34 (d : Nat) (l0 : Value) (σ : Hs) : ru d 161 34 [l0] [] σ = ru d 161 35 [l0] [.int 1] σ := q_iconst t161_34 (by decide +kernel)
theorem t161_35 : decode (mb 161) 35 = .ok (.goto 4, 3) := by decide +kernel
theorem s161_35 (d : Nat) (l0 : Value) (w0 : Value) (σ : Hs) : ru d 161 35 [l0] [w0] σ = ru d 161 39 [l0] [w0] σ := q_goto t161_35 (by decide +kernel)
theorem t161_38 : decode (mb 161) 38 = .ok (.iconst 0, 1) := by decide +kernel
theorem s161_38 (d : Nat) (l0 : Value) (σ : Hs) : ru d 161 38 [l0] [] σ = ru d 161 39 [l0] [.int 0] σ := q_iconst t161_38 (by decide +kernel)
theorem t161_39 : decode (mb 161) 39 = .ok (.ireturn, 1) := by decide +kernel
theorem s161_39 (d : Nat) (l0 : Value) (x : Int32) (hx : isB x) (σ : Hs) : ru d 161 39 [l0] [.int x] σ = some (some (.int x), σ) := q_iretz t161_39 mr161 hx
theorem c161 (d : Nat) (x0 : Nat) (σ : Hs) : callD (d + 1) 161 [.ref x0] σ = ru d 161 0 [.ref x0] [] σ := callD_ru ml161 rfl rfl (Nat.le_of_ble_eq_true rfl)
-- 162: Model.may()I
theorem t162_0 : decode (mb 162) 0 = .ok (.aload_n 0, 1) := by decide +kernel
theorem s162_0 (d : Nat) (a0 : Nat) (σ : Hs) : ru d 162 0 [.ref a0] [] σ = ru d 162 1 [.ref a0] [.ref a0] σ := q_aload_n t162_0 rfl
theorem t162_1 : decode (mb 162) 1 = .ok (.invokevirtual 145, 3) := by decide +kernel
theorem s162_1_o87 (d : Nat) (l0 : Value) (σ : Hs) : ru d 162 1 [l0] [.ref 87] σ = kont (callD d 161 [.ref 87] σ) d 162 4 [l0] [] := q_invv t162_1 mo162 K8_145 mj161 rfl rfl rfl rfl (Nat.le_of_ble_eq_true rfl)
theorem t162_4 : decode (mb 162) 4 = .ok (.ifCond .eq 7, 3) := by decide +kernel
theorem s162_4 (d : Nat) (l0 : Value) (x : Int32) (σ : Hs) : ru d 162 4 [l0] [.int x] σ = if x = 0 then ru d 162 11 [l0] [] σ else ru d 162 7 [l0] [] σ := q_if_eq t162_4 (by decide +kernel)
theorem t162_7 : decode (mb 162) 7 = .ok (.iconst 1, 1) := by decide +kernel
theorem s162_7 (d : Nat) (l0 : Value) (σ : Hs) : ru d 162 7 [l0] [] σ = ru d 162 8 [l0] [.int 1] σ := q_iconst t162_7 (by decide +kernel)
theorem t162_8 : decode (mb 162) 8 = .ok (.goto 4, 3) := by decide +kernel
theorem s162_8 (d : Nat) (l0 : Value) (w0 : Value) (σ : Hs) : ru d 162 8 [l0] [w0] σ = ru d 162 12 [l0] [w0] σ := q_goto t162_8 (by decide +kernel)
theorem t162_11 : decode (mb 162) 11 = .ok (.iconst 0, 1) := by decide +kernel
theorem s162_11 (d : Nat) (l0 : Value) (σ : Hs) : ru d 162 11 [l0] [] σ = ru d 162 12 [l0] [.int 0] σ := q_iconst t162_11 (by decide +kernel)
theorem t162_12 : decode (mb 162) 12 = .ok (.ireturn, 1) := by decide +kernel
theorem s162_12 (d : Nat) (l0 : Value) (x : Int32) (σ : Hs) : ru d 162 12 [l0] [.int x] σ = some (some (.int x), σ) := q_ireti t162_12 mr162
theorem c162 (d : Nat) (x0 : Nat) (σ : Hs) : callD (d + 1) 162 [.ref x0] σ = ru d 162 0 [.ref x0] [] σ := callD_ru ml162 rfl rfl (Nat.le_of_ble_eq_true rfl)
-- 163: Model.burnsOf(I)I
theorem t163_0 : decode (mb 163) 0 = .ok (.aload_n 0, 1) := by decide +kernel
theorem s163_0 (d : Nat) (a0 : Nat) (l1 : Value) (l2 : Value) (l3 : Value) (σ : Hs) : ru d 163 0 [.ref a0, l1, l2, l3] [] σ = ru d 163 1 [.ref a0, l1, l2, l3] [.ref a0] σ := q_aload_n t163_0 rfl
theorem t163_1 : decode (mb 163) 1 = .ok (.iload_n 1, 1) := by decide +kernel
theorem s163_1 (d : Nat) (l0 : Value) (i1 : Int32) (l2 : Value) (l3 : Value) (w0 : Value) (σ : Hs) : ru d 163 1 [l0, .int i1, l2, l3] [w0] σ = ru d 163 2 [l0, .int i1, l2, l3] [.int i1, w0] σ := q_iload_n t163_1 rfl
theorem t163_2 : decode (mb 163) 2 = .ok (.iconst 2, 1) := by decide +kernel
theorem s163_2 (d : Nat) (l0 : Value) (l1 : Value) (l2 : Value) (l3 : Value) (w0 w1 : Value) (σ : Hs) : ru d 163 2 [l0, l1, l2, l3] [w0, w1] σ = ru d 163 3 [l0, l1, l2, l3] [.int 2, w0, w1] σ := q_iconst t163_2 (by decide +kernel)
theorem t163_3 : decode (mb 163) 3 = .ok (.invokevirtual 85, 3) := by decide +kernel
theorem s163_3_o87 (d : Nat) (l0 : Value) (l1 : Value) (l2 : Value) (l3 : Value) (v1 v2 : Value) (σ : Hs) : ru d 163 3 [l0, l1, l2, l3] [v2, v1, .ref 87] σ = kont (callD d 119 [.ref 87, v1, v2] σ) d 163 6 [l0, l1, l2, l3] [] := q_invv t163_3 mo163 K8_85 mj119 rfl rfl rfl rfl (Nat.le_of_ble_eq_true rfl)
theorem t163_6 : decode (mb 163) 6 = .ok (.istore_n 2, 1) := by decide +kernel
theorem s163_6 (d : Nat) (l0 : Value) (i1 : Int32) (l2 : Value) (l3 : Value) (x : Int32) (σ : Hs) : ru d 163 6 [l0, .int i1, l2, l3] [.int x] σ = ru d 163 7 [l0, .int i1, .int x, l3] [] σ := q_istore_n t163_6 ⟨Nat.le_of_ble_eq_true rfl, rfl⟩ rfl
theorem t163_7 : decode (mb 163) 7 = .ok (.aload_n 0, 1) := by decide +kernel
theorem s163_7 (d : Nat) (a0 : Nat) (l1 : Value) (l2 : Value) (l3 : Value) (σ : Hs) : ru d 163 7 [.ref a0, l1, l2, l3] [] σ = ru d 163 8 [.ref a0, l1, l2, l3] [.ref a0] σ := q_aload_n t163_7 rfl
theorem t163_8 : decode (mb 163) 8 = .ok (.iconst 0, 1) := by decide +kernel
theorem s163_8 (d : Nat) (l0 : Value) (l1 : Value) (l2 : Value) (l3 : Value) (w0 : Value) (σ : Hs) : ru d 163 8 [l0, l1, l2, l3] [w0] σ = ru d 163 9 [l0, l1, l2, l3] [.int 0, w0] σ := q_iconst t163_8 (by decide +kernel)
theorem t163_9 : decode (mb 163) 9 = .ok (.aload_n 0, 1) := by decide +kernel
theorem s163_9 (d : Nat) (a0 : Nat) (l1 : Value) (l2 : Value) (l3 : Value) (w0 w1 : Value) (σ : Hs) : ru d 163 9 [.ref a0, l1, l2, l3] [w0, w1] σ = ru d 163 10 [.ref a0, l1, l2, l3] [.ref a0, w0, w1] σ := q_aload_n t163_9 rfl
theorem t163_10 : decode (mb 163) 10 = .ok (.iload_n 1, 1) := by decide +kernel
theorem s163_10 (d : Nat) (l0 : Value) (i1 : Int32) (l2 : Value) (l3 : Value) (w0 w1 w2 : Value) (σ : Hs) : ru d 163 10 [l0, .int i1, l2, l3] [w0, w1, w2] σ = ru d 163 11 [l0, .int i1, l2, l3] [.int i1, w0, w1, w2] σ := q_iload_n t163_10 rfl
theorem t163_11 : decode (mb 163) 11 = .ok (.invokevirtual 128, 3) := by decide +kernel
theorem s163_11_o87 (d : Nat) (l0 : Value) (l1 : Value) (l2 : Value) (l3 : Value) (v1 : Value) (w0 : Int32) (w1 : Nat) (σ : Hs) : ru d 163 11 [l0, l1, l2, l3] [v1, .ref 87, .int w0, .ref w1] σ = kont (callD d 132 [.ref 87, v1] σ) d 163 14 [l0, l1, l2, l3] [.int w0, .ref w1] := q_invv t163_11 mo163 K8_128 mj132 rfl rfl rfl rfl (Nat.le_of_ble_eq_true rfl)
theorem t163_14 : decode (mb 163) 14 = .ok (.iload_n 2, 1) := by decide +kernel
theorem s163_14 (d : Nat) (l0 : Value) (l1 : Value) (i2 : Int32) (l3 : Value) (w0 w1 w2 : Value) (σ : Hs) : ru d 163 14 [l0, l1, .int i2, l3] [w0, w1, w2] σ = ru d 163 15 [l0, l1, .int i2, l3] [.int i2, w0, w1, w2] σ := q_iload_n t163_14 rfl
theorem t163_15 : decode (mb 163) 15 = .ok (.aload_n 0, 1) := by decide +kernel
theorem s163_15 (d : Nat) (a0 : Nat) (l1 : Value) (l2 : Value) (l3 : Value) (w0 w1 w2 w3 : Value) (σ : Hs) : ru d 163 15 [.ref a0, l1, l2, l3] [w0, w1, w2, w3] σ = ru d 163 16 [.ref a0, l1, l2, l3] [.ref a0, w0, w1, w2, w3] σ := q_aload_n t163_15 rfl
theorem t163_16 : decode (mb 163) 16 = .ok (.iload_n 1, 1) := by decide +kernel
theorem s163_16 (d : Nat) (l0 : Value) (i1 : Int32) (l2 : Value) (l3 : Value) (w0 w1 w2 w3 w4 : Value) (σ : Hs) : ru d 163 16 [l0, .int i1, l2, l3] [w0, w1, w2, w3, w4] σ = ru d 163 17 [l0, .int i1, l2, l3] [.int i1, w0, w1, w2, w3, w4] σ := q_iload_n t163_16 rfl
theorem t163_17 : decode (mb 163) 17 = .ok (.iconst 3, 1) := by decide +kernel
theorem s163_17 (d : Nat) (l0 : Value) (l1 : Value) (l2 : Value) (l3 : Value) (w0 w1 w2 w3 w4 w5 : Value) (σ : Hs) : ru d 163 17 [l0, l1, l2, l3] [w0, w1, w2, w3, w4, w5] σ = ru d 163 18 [l0, l1, l2, l3] [.int 3, w0, w1, w2, w3, w4, w5] σ := q_iconst t163_17 (by decide +kernel)
theorem t163_18 : decode (mb 163) 18 = .ok (.invokevirtual 85, 3) := by decide +kernel
theorem s163_18_o87 (d : Nat) (l0 : Value) (l1 : Value) (l2 : Value) (l3 : Value) (v1 v2 : Value) (w0 : Int32) (w1 : Int32) (w2 : Int32) (w3 : Nat) (σ : Hs) : ru d 163 18 [l0, l1, l2, l3] [v2, v1, .ref 87, .int w0, .int w1, .int w2, .ref w3] σ = kont (callD d 119 [.ref 87, v1, v2] σ) d 163 21 [l0, l1, l2, l3] [.int w0, .int w1, .int w2, .ref w3] := q_invv t163_18 mo163 K8_85 mj119 rfl rfl rfl rfl (Nat.le_of_ble_eq_true rfl)
theorem t163_21 : decode (mb 163) 21 = .ok (.aload_n 0, 1) := by decide +kernel
theorem s163_21 (d : Nat) (a0 : Nat) (l1 : Value) (l2 : Value) (l3 : Value) (w0 w1 w2 w3 w4 : Value) (σ : Hs) : ru d 163 21 [.ref a0, l1, l2, l3] [w0, w1, w2, w3, w4] σ = ru d 163 22 [.ref a0, l1, l2, l3] [.ref a0, w0, w1, w2, w3, w4] σ := q_aload_n t163_21 rfl
theorem t163_22 : decode (mb 163) 22 = .ok (.iload_n 1, 1) := by decide +kernel
theorem s163_22 (d : Nat) (l0 : Value) (i1 : Int32) (l2 : Value) (l3 : Value) (w0 w1 w2 w3 w4 w5 : Value) (σ : Hs) : ru d 163 22 [l0, .int i1, l2, l3] [w0, w1, w2, w3, w4, w5] σ = ru d 163 23 [l0, .int i1, l2, l3] [.int i1, w0, w1, w2, w3, w4, w5] σ := q_iload_n t163_22 rfl
theorem t163_23 : decode (mb 163) 23 = .ok (.iconst 5, 1) := by decide +kernel
theorem s163_23 (d : Nat) (l0 : Value) (l1 : Value) (l2 : Value) (l3 : Value) (w0 w1 w2 w3 w4 w5 w6 : Value) (σ : Hs) : ru d 163 23 [l0, l1, l2, l3] [w0, w1, w2, w3, w4, w5, w6] σ = ru d 163 24 [l0, l1, l2, l3] [.int 5, w0, w1, w2, w3, w4, w5, w6] σ := q_iconst t163_23 (by decide +kernel)
theorem t163_24 : decode (mb 163) 24 = .ok (.invokevirtual 85, 3) := by decide +kernel
theorem s163_24_o87 (d : Nat) (l0 : Value) (l1 : Value) (l2 : Value) (l3 : Value) (v1 v2 : Value) (w0 : Int32) (w1 : Int32) (w2 : Int32) (w3 : Int32) (w4 : Nat) (σ : Hs) : ru d 163 24 [l0, l1, l2, l3] [v2, v1, .ref 87, .int w0, .int w1, .int w2, .int w3, .ref w4] σ = kont (callD d 119 [.ref 87, v1, v2] σ) d 163 27 [l0, l1, l2, l3] [.int w0, .int w1, .int w2, .int w3, .ref w4] := q_invv t163_24 mo163 K8_85 mj119 rfl rfl rfl rfl (Nat.le_of_ble_eq_true rfl)
theorem t163_27 : decode (mb 163) 27 = .ok (.invokevirtual 223, 3) := by decide +kernel
theorem s163_27_o87 (d : Nat) (l0 : Value) (l1 : Value) (l2 : Value) (l3 : Value) (v1 v2 v3 v4 v5 : Value) (σ : Hs) : ru d 163 27 [l0, l1, l2, l3] [v5, v4, v3, v2, v1, .ref 87] σ = kont (callD d 159 [.ref 87, v1, v2, v3, v4, v5] σ) d 163 30 [l0, l1, l2, l3] [] := q_invv t163_27 mo163 K8_223 mj159 rfl rfl rfl rfl (Nat.le_of_ble_eq_true rfl)
theorem t163_30 : decode (mb 163) 30 = .ok (.iconst 1, 1) := by decide +kernel
theorem s163_30 (d : Nat) (l0 : Value) (l1 : Value) (l2 : Value) (l3 : Value) (w0 : Value) (σ : Hs) : ru d 163 30 [l0, l1, l2, l3] [w0] σ = ru d 163 31 [l0, l1, l2, l3] [.int 1, w0] σ := q_iconst t163_30 (by decide +kernel)
theorem t163_31 : decode (mb 163) 31 = .ok (.iload_n 2, 1) := by decide +kernel
theorem s163_31 (d : Nat) (l0 : Value) (l1 : Value) (i2 : Int32) (l3 : Value) (w0 w1 : Value) (σ : Hs) : ru d 163 31 [l0, l1, .int i2, l3] [w0, w1] σ = ru d 163 32 [l0, l1, .int i2, l3] [.int i2, w0, w1] σ := q_iload_n t163_31 rfl
theorem t163_32 : decode (mb 163) 32 = .ok (.invokestatic 227, 3) := by decide +kernel
theorem s163_32 (d : Nat) (l0 : Value) (l1 : Value) (l2 : Value) (l3 : Value) (v0 v1 v2 : Value) (σ : Hs) : ru d 163 32 [l0, l1, l2, l3] [v2, v1, v0] σ = kont (callD d 115 [v0, v1, v2] σ) d 163 35 [l0, l1, l2, l3] [] := q_invs t163_32 mo163 (by decide +kernel) K8_227 mj115 (Nat.le_of_ble_eq_true rfl) rfl rfl (Nat.le_of_ble_eq_true rfl)
theorem t163_35 : decode (mb 163) 35 = .ok (.istore_n 3, 1) := by decide +kernel
theorem s163_35 (d : Nat) (l0 : Value) (l1 : Value) (i2 : Int32) (l3 : Value) (x : Int32) (σ : Hs) : ru d 163 35 [l0, l1, .int i2, l3] [.int x] σ = ru d 163 36 [l0, l1, .int i2, .int x] [] σ := q_istore_n t163_35 ⟨Nat.le_of_ble_eq_true rfl, rfl⟩ rfl
theorem t163_36 : decode (mb 163) 36 = .ok (.aload_n 0, 1) := by decide +kernel
theorem s163_36 (d : Nat) (a0 : Nat) (l1 : Value) (l2 : Value) (l3 : Value) (σ : Hs) : ru d 163 36 [.ref a0, l1, l2, l3] [] σ = ru d 163 37 [.ref a0, l1, l2, l3] [.ref a0] σ := q_aload_n t163_36 rfl
theorem t163_37 : decode (mb 163) 37 = .ok (.iload_n 1, 1) := by decide +kernel
theorem s163_37 (d : Nat) (l0 : Value) (i1 : Int32) (l2 : Value) (l3 : Value) (w0 : Value) (σ : Hs) : ru d 163 37 [l0, .int i1, l2, l3] [w0] σ = ru d 163 38 [l0, .int i1, l2, l3] [.int i1, w0] σ := q_iload_n t163_37 rfl
theorem t163_38 : decode (mb 163) 38 = .ok (.iconst 1, 1) := by decide +kernel
theorem s163_38 (d : Nat) (l0 : Value) (l1 : Value) (l2 : Value) (l3 : Value) (w0 w1 : Value) (σ : Hs) : ru d 163 38 [l0, l1, l2, l3] [w0, w1] σ = ru d 163 39 [l0, l1, l2, l3] [.int 1, w0, w1] σ := q_iconst t163_38 (by decide +kernel)
theorem t163_39 : decode (mb 163) 39 = .ok (.invokevirtual 85, 3) := by decide +kernel
theorem s163_39_o87 (d : Nat) (l0 : Value) (l1 : Value) (l2 : Value) (l3 : Value) (v1 v2 : Value) (σ : Hs) : ru d 163 39 [l0, l1, l2, l3] [v2, v1, .ref 87] σ = kont (callD d 119 [.ref 87, v1, v2] σ) d 163 42 [l0, l1, l2, l3] [] := q_invv t163_39 mo163 K8_85 mj119 rfl rfl rfl rfl (Nat.le_of_ble_eq_true rfl)
theorem t163_42 : decode (mb 163) 42 = .ok (.tableswitch 63 1 6 #[38, 63, 47, 57, 57, 61], 38) := by decide +kernel
theorem f163_42 (x : Int32) : (tsw 1 6 #[38, 63, 47, 57, 57, 61] 63 x.toInt).bind (tgt 42) = some (if x = 1 then 80 else (if x = 2 then 105 else (if x = 3 then 89 else (if x = 4 then 99 else (if x = 5 then 99 else (if x = 6 then 103 else 105)))))) := by
  by_cases h0 : x = 1
  · subst h0; decide +kernel
  by_cases h1 : x = 2
  · subst h1; decide +kernel
  by_cases h2 : x = 3
  · subst h2; decide +kernel
  by_cases h3 : x = 4
  · subst h3; decide +kernel
  by_cases h4 : x = 5
  · subst h4; decide +kernel
  by_cases h5 : x = 6
  · subst h5; decide +kernel
  have e0 : ¬ x.toInt = 1 := fun h => h0 (Int32.toInt_inj.mp (h.trans (by decide +kernel)))
  have e1 : ¬ x.toInt = 2 := fun h => h1 (Int32.toInt_inj.mp (h.trans (by decide +kernel)))
  have e2 : ¬ x.toInt = 3 := fun h => h2 (Int32.toInt_inj.mp (h.trans (by decide +kernel)))
  have e3 : ¬ x.toInt = 4 := fun h => h3 (Int32.toInt_inj.mp (h.trans (by decide +kernel)))
  have e4 : ¬ x.toInt = 5 := fun h => h4 (Int32.toInt_inj.mp (h.trans (by decide +kernel)))
  have e5 : ¬ x.toInt = 6 := fun h => h5 (Int32.toInt_inj.mp (h.trans (by decide +kernel)))
  have e : x.toInt < 1 ∨ 6 < x.toInt := by omega
  unfold tsw
  rw [if_pos e, if_neg h0, if_neg h1, if_neg h2, if_neg h3, if_neg h4, if_neg h5]
  decide +kernel
theorem s163_42 (d : Nat) (l0 : Value) (l1 : Value) (l2 : Value) (l3 : Value) (x : Int32) (σ : Hs) : ru d 163 42 [l0, l1, l2, l3] [.int x] σ = if x = 1 then ru d 163 80 [l0, l1, l2, l3] [] σ else if x = 2 then ru d 163 105 [l0, l1, l2, l3] [] σ else if x = 3 then ru d 163 89 [l0, l1, l2, l3] [] σ else if x = 4 then ru d 163 99 [l0, l1, l2, l3] [] σ else if x = 5 then ru d 163 99 [l0, l1, l2, l3] [] σ else if x = 6 then ru d 163 103 [l0, l1, l2, l3] [] σ else ru d 163 105 [l0, l1, l2, l3] [] σ := by
  refine (q_tsw t163_42 (fun x => (if x = 1 then 80 else (if x = 2 then 105 else (if x = 3 then 89 else (if x = 4 then 99 else (if x = 5 then 99 else (if x = 6 then 103 else 105))))))) (f163_42 x)).trans ?_
  by_cases h0 : x = 1
  · rw [if_pos h0, if_pos h0]
  rw [if_neg h0, if_neg h0]
  by_cases h1 : x = 2
  · rw [if_pos h1, if_pos h1]
  rw [if_neg h1, if_neg h1]
  by_cases h2 : x = 3
  · rw [if_pos h2, if_pos h2]
  rw [if_neg h2, if_neg h2]
  by_cases h3 : x = 4
  · rw [if_pos h3, if_pos h3]
  rw [if_neg h3, if_neg h3]
  by_cases h4 : x = 5
  · rw [if_pos h4, if_pos h4]
  rw [if_neg h4, if_neg h4]
  by_cases h5 : x = 6
  · rw [if_pos h5, if_pos h5]
  rw [if_neg h5, if_neg h5]
theorem t163_80 : decode (mb 163) 80 = .ok (.iconst 2, 1) := by decide +kernel
theorem s163_80 (d : Nat) (l0 : Value) (l1 : Value) (l2 : Value) (l3 : Value) (σ : Hs) : ru d 163 80 [l0, l1, l2, l3] [] σ = ru d 163 81 [l0, l1, l2, l3] [.int 2] σ := q_iconst t163_80 (by decide +kernel)
theorem t163_81 : decode (mb 163) 81 = .ok (.iload_n 3, 1) := by decide +kernel
theorem s163_81 (d : Nat) (l0 : Value) (l1 : Value) (l2 : Value) (i3 : Int32) (w0 : Value) (σ : Hs) : ru d 163 81 [l0, l1, l2, .int i3] [w0] σ = ru d 163 82 [l0, l1, l2, .int i3] [.int i3, w0] σ := q_iload_n t163_81 rfl
theorem t163_82 : decode (mb 163) 82 = .ok (.imul, 1) := by decide +kernel
theorem s163_82 (d : Nat) (l0 : Value) (l1 : Value) (l2 : Value) (l3 : Value) (x y : Int32) (σ : Hs) : ru d 163 82 [l0, l1, l2, l3] [.int y, .int x] σ = ru d 163 83 [l0, l1, l2, l3] [.int (x * y)] σ := q_imul t163_82
theorem t163_83 : decode (mb 163) 83 = .ok (.iconst 0, 1) := by decide +kernel
theorem s163_83 (d : Nat) (l0 : Value) (l1 : Value) (l2 : Value) (l3 : Value) (w0 : Value) (σ : Hs) : ru d 163 83 [l0, l1, l2, l3] [w0] σ = ru d 163 84 [l0, l1, l2, l3] [.int 0, w0] σ := q_iconst t163_83 (by decide +kernel)
theorem t163_84 : decode (mb 163) 84 = .ok (.iload_n 2, 1) := by decide +kernel
theorem s163_84 (d : Nat) (l0 : Value) (l1 : Value) (i2 : Int32) (l3 : Value) (w0 w1 : Value) (σ : Hs) : ru d 163 84 [l0, l1, .int i2, l3] [w0, w1] σ = ru d 163 85 [l0, l1, .int i2, l3] [.int i2, w0, w1] σ := q_iload_n t163_84 rfl
theorem t163_85 : decode (mb 163) 85 = .ok (.invokestatic 227, 3) := by decide +kernel
theorem s163_85 (d : Nat) (l0 : Value) (l1 : Value) (l2 : Value) (l3 : Value) (v0 v1 v2 : Value) (σ : Hs) : ru d 163 85 [l0, l1, l2, l3] [v2, v1, v0] σ = kont (callD d 115 [v0, v1, v2] σ) d 163 88 [l0, l1, l2, l3] [] := q_invs t163_85 mo163 (by decide +kernel) K8_227 mj115 (Nat.le_of_ble_eq_true rfl) rfl rfl (Nat.le_of_ble_eq_true rfl)
theorem t163_88 : decode (mb 163) 88 = .ok (.ireturn, 1) := by decide +kernel
theorem s163_88 (d : Nat) (l0 : Value) (l1 : Value) (l2 : Value) (l3 : Value) (x : Int32) (σ : Hs) : ru d 163 88 [l0, l1, l2, l3] [.int x] σ = some (some (.int x), σ) := q_ireti t163_88 mr163
theorem t163_89 : decode (mb 163) 89 = .ok (.bipush 6, 2) := by decide +kernel
theorem s163_89 (d : Nat) (l0 : Value) (l1 : Value) (l2 : Value) (l3 : Value) (σ : Hs) : ru d 163 89 [l0, l1, l2, l3] [] σ = ru d 163 91 [l0, l1, l2, l3] [.int 6] σ := q_bipush t163_89 (by decide +kernel)
theorem t163_91 : decode (mb 163) 91 = .ok (.iload_n 3, 1) := by decide +kernel
theorem s163_91 (d : Nat) (l0 : Value) (l1 : Value) (l2 : Value) (i3 : Int32) (w0 : Value) (σ : Hs) : ru d 163 91 [l0, l1, l2, .int i3] [w0] σ = ru d 163 92 [l0, l1, l2, .int i3] [.int i3, w0] σ := q_iload_n t163_91 rfl
theorem t163_92 : decode (mb 163) 92 = .ok (.imul, 1) := by decide +kernel
theorem s163_92 (d : Nat) (l0 : Value) (l1 : Value) (l2 : Value) (l3 : Value) (x y : Int32) (σ : Hs) : ru d 163 92 [l0, l1, l2, l3] [.int y, .int x] σ = ru d 163 93 [l0, l1, l2, l3] [.int (x * y)] σ := q_imul t163_92
theorem t163_93 : decode (mb 163) 93 = .ok (.iconst 0, 1) := by decide +kernel
theorem s163_93 (d : Nat) (l0 : Value) (l1 : Value) (l2 : Value) (l3 : Value) (w0 : Value) (σ : Hs) : ru d 163 93 [l0, l1, l2, l3] [w0] σ = ru d 163 94 [l0, l1, l2, l3] [.int 0, w0] σ := q_iconst t163_93 (by decide +kernel)
theorem t163_94 : decode (mb 163) 94 = .ok (.iload_n 2, 1) := by decide +kernel
theorem s163_94 (d : Nat) (l0 : Value) (l1 : Value) (i2 : Int32) (l3 : Value) (w0 w1 : Value) (σ : Hs) : ru d 163 94 [l0, l1, .int i2, l3] [w0, w1] σ = ru d 163 95 [l0, l1, .int i2, l3] [.int i2, w0, w1] σ := q_iload_n t163_94 rfl
theorem t163_95 : decode (mb 163) 95 = .ok (.invokestatic 227, 3) := by decide +kernel
theorem s163_95 (d : Nat) (l0 : Value) (l1 : Value) (l2 : Value) (l3 : Value) (v0 v1 v2 : Value) (σ : Hs) : ru d 163 95 [l0, l1, l2, l3] [v2, v1, v0] σ = kont (callD d 115 [v0, v1, v2] σ) d 163 98 [l0, l1, l2, l3] [] := q_invs t163_95 mo163 (by decide +kernel) K8_227 mj115 (Nat.le_of_ble_eq_true rfl) rfl rfl (Nat.le_of_ble_eq_true rfl)
theorem t163_98 : decode (mb 163) 98 = .ok (.ireturn, 1) := by decide +kernel
theorem s163_98 (d : Nat) (l0 : Value) (l1 : Value) (l2 : Value) (l3 : Value) (x : Int32) (σ : Hs) : ru d 163 98 [l0, l1, l2, l3] [.int x] σ = some (some (.int x), σ) := q_ireti t163_98 mr163
theorem t163_99 : decode (mb 163) 99 = .ok (.iload_n 3, 1) := by decide +kernel
theorem s163_99 (d : Nat) (l0 : Value) (l1 : Value) (l2 : Value) (i3 : Int32) (σ : Hs) : ru d 163 99 [l0, l1, l2, .int i3] [] σ = ru d 163 100 [l0, l1, l2, .int i3] [.int i3] σ := q_iload_n t163_99 rfl
theorem t163_100 : decode (mb 163) 100 = .ok (.iconst 2, 1) := by decide +kernel
theorem s163_100 (d : Nat) (l0 : Value) (l1 : Value) (l2 : Value) (l3 : Value) (w0 : Value) (σ : Hs) : ru d 163 100 [l0, l1, l2, l3] [w0] σ = ru d 163 101 [l0, l1, l2, l3] [.int 2, w0] σ := q_iconst t163_100 (by decide +kernel)
theorem t163_101 : decode (mb 163) 101 = .ok (.idiv, 1) := by decide +kernel
theorem s163_101 (d : Nat) (l0 : Value) (l1 : Value) (l2 : Value) (l3 : Value) (x y : Int32) (σ : Hs) : ru d 163 101 [l0, l1, l2, l3] [.int y, .int x] σ = gd (¬ y = 0) (ru d 163 102 [l0, l1, l2, l3] [.int (x / y)] σ) := q_idiv t163_101
theorem t163_102 : decode (mb 163) 102 = .ok (.ireturn, 1) := by decide +kernel
theorem s163_102 (d : Nat) (l0 : Value) (l1 : Value) (l2 : Value) (l3 : Value) (x : Int32) (σ : Hs) : ru d 163 102 [l0, l1, l2, l3] [.int x] σ = some (some (.int x), σ) := q_ireti t163_102 mr163
theorem t163_103 : decode (mb 163) 103 = .ok (.iconst 0, 1) := by decide +kernel
theorem s163_103 (d : Nat) (l0 : Value) (l1 : Value) (l2 : Value) (l3 : Value) (σ : Hs) : ru d 163 103 [l0, l1, l2, l3] [] σ = ru d 163 104 [l0, l1, l2, l3] [.int 0] σ := q_iconst t163_103 (by decide +kernel)
theorem t163_104 : decode (mb 163) 104 = .ok (.ireturn, 1) := by decide +kernel
theorem s163_104 (d : Nat) (l0 : Value) (l1 : Value) (l2 : Value) (l3 : Value) (x : Int32) (σ : Hs) : ru d 163 104 [l0, l1, l2, l3] [.int x] σ = some (some (.int x), σ) := q_ireti t163_104 mr163
theorem t163_105 : decode (mb 163) 105 = .ok (.iload_n 3, 1) := by decide +kernel
theorem s163_105 (d : Nat) (l0 : Value) (l1 : Value) (l2 : Value) (i3 : Int32) (σ : Hs) : ru d 163 105 [l0, l1, l2, .int i3] [] σ = ru d 163 106 [l0, l1, l2, .int i3] [.int i3] σ := q_iload_n t163_105 rfl
theorem t163_106 : decode (mb 163) 106 = .ok (.ireturn, 1) := by decide +kernel
theorem s163_106 (d : Nat) (l0 : Value) (l1 : Value) (l2 : Value) (l3 : Value) (x : Int32) (σ : Hs) : ru d 163 106 [l0, l1, l2, l3] [.int x] σ = some (some (.int x), σ) := q_ireti t163_106 mr163
theorem c163 (d : Nat) (x0 : Nat) (x1 : Int32) (σ : Hs) : callD (d + 1) 163 [.ref x0, .int x1] σ = ru d 163 0 [.ref x0, .int x1, uu, uu] [] σ := callD_ru ml163 rfl rfl (Nat.le_of_ble_eq_true rfl)
