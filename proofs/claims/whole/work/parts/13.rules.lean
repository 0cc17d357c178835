-- 50: State.copyFrom(LSmokyHeap$State;)V
theorem t50_0 : decode (mb 50) 0 = .ok (.aload_n 0, 1) := by decide +kernel
theorem s50_0 (d : Nat) (a0 : Nat) (l1 : Value) (σ : Hs) : ru d 50 0 [.ref a0, l1] [] σ = ru d 50 1 [.ref a0, l1] [.ref a0] σ := q_aload_n t50_0 rfl
theorem t50_1 : decode (mb 50) 1 = .ok (.getfield 12, 3) := by decide +kernel
theorem s50_1_o1 (d : Nat) (l0 : Value) (l1 : Value) (σ : Hs) : ru d 50 1 [l0, l1] [.ref 1] σ = ru d 50 4 [l0, l1] [.ref 2] σ := q_getf t50_1 mo50 F5_12 rfl rfl
theorem s50_1_o30 (d : Nat) (l0 : Value) (l1 : Value) (σ : Hs) : ru d 50 1 [l0, l1] [.ref 30] σ = ru d 50 4 [l0, l1] [.ref 31] σ := q_getf t50_1 mo50 F5_12 rfl rfl
theorem t50_4 : decode (mb 50) 4 = .ok (.aload_n 1, 1) := by decide +kernel
theorem s50_4 (d : Nat) (l0 : Value) (a1 : Nat) (w0 : Value) (σ : Hs) : ru d 50 4 [l0, .ref a1] [w0] σ = ru d 50 5 [l0, .ref a1] [.ref a1, w0] σ := q_aload_n t50_4 rfl
theorem t50_5 : decode (mb 50) 5 = .ok (.getfield 12, 3) := by decide +kernel
theorem s50_5_o1 (d : Nat) (l0 : Value) (l1 : Value) (w0 : Value) (σ : Hs) : ru d 50 5 [l0, l1] [.ref 1, w0] σ = ru d 50 8 [l0, l1] [.ref 2, w0] σ := q_getf t50_5 mo50 F5_12 rfl rfl
theorem s50_5_o30 (d : Nat) (l0 : Value) (l1 : Value) (w0 : Value) (σ : Hs) : ru d 50 5 [l0, l1] [.ref 30, w0] σ = ru d 50 8 [l0, l1] [.ref 31, w0] σ := q_getf t50_5 mo50 F5_12 rfl rfl
theorem t50_8 : decode (mb 50) 8 = .ok (.invokevirtual 47, 3) := by decide +kernel
theorem s50_8_o2 (d : Nat) (l0 : Value) (l1 : Value) (v1 : Value) (σ : Hs) : ru d 50 8 [l0, l1] [v1, .ref 2] σ = kont (callD d 0 [.ref 2, v1] σ) d 50 11 [l0, l1] [] := q_invv t50_8 mo50 K5_47 mj0 rfl rfl rfl rfl (Nat.le_of_ble_eq_true rfl)
theorem s50_8_o31 (d : Nat) (l0 : Value) (l1 : Value) (v1 : Value) (σ : Hs) : ru d 50 8 [l0, l1] [v1, .ref 31] σ = kont (callD d 0 [.ref 31, v1] σ) d 50 11 [l0, l1] [] := q_invv t50_8 mo50 K5_47 mj0 rfl rfl rfl rfl (Nat.le_of_ble_eq_true rfl)
theorem t50_11 : decode (mb 50) 11 = .ok (.aload_n 0, 1) := by decide +kernel
theorem s50_11 (d : Nat) (a0 : Nat) (l1 : Value) (σ : Hs) : ru d 50 11 [.ref a0, l1] [] σ = ru d 50 12 [.ref a0, l1] [.ref a0] σ := q_aload_n t50_11 rfl
theorem t50_12 : decode (mb 50) 12 = .ok (.getfield 21, 3) := by decide +kernel
theorem s50_12_o1 (d : Nat) (l0 : Value) (l1 : Value) (σ : Hs) : ru d 50 12 [l0, l1] [.ref 1] σ = ru d 50 15 [l0, l1] [.ref 13] σ := q_getf t50_12 mo50 F5_21 rfl rfl
theorem s50_12_o30 (d : Nat) (l0 : Value) (l1 : Value) (σ : Hs) : ru d 50 12 [l0, l1] [.ref 30] σ = ru d 50 15 [l0, l1] [.ref 42] σ := q_getf t50_12 mo50 F5_21 rfl rfl
theorem t50_15 : decode (mb 50) 15 = .ok (.aload_n 1, 1) := by decide +kernel
theorem s50_15 (d : Nat) (l0 : Value) (a1 : Nat) (w0 : Value) (σ : Hs) : ru d 50 15 [l0, .ref a1] [w0] σ = ru d 50 16 [l0, .ref a1] [.ref a1, w0] σ := q_aload_n t50_15 rfl
theorem t50_16 : decode (mb 50) 16 = .ok (.getfield 21, 3) := by decide +kernel
theorem s50_16_o1 (d : Nat) (l0 : Value) (l1 : Value) (w0 : Value) (σ : Hs) : ru d 50 16 [l0, l1] [.ref 1, w0] σ = ru d 50 19 [l0, l1] [.ref 13, w0] σ := q_getf t50_16 mo50 F5_21 rfl rfl
theorem s50_16_o30 (d : Nat) (l0 : Value) (l1 : Value) (w0 : Value) (σ : Hs) : ru d 50 16 [l0, l1] [.ref 30, w0] σ = ru d 50 19 [l0, l1] [.ref 42, w0] σ := q_getf t50_16 mo50 F5_21 rfl rfl
theorem t50_19 : decode (mb 50) 19 = .ok (.invokevirtual 51, 3) := by decide +kernel
theorem s50_19_o13 (d : Nat) (l0 : Value) (l1 : Value) (v1 : Value) (σ : Hs) : ru d 50 19 [l0, l1] [v1, .ref 13] σ = kont (callD d 31 [.ref 13, v1] σ) d 50 22 [l0, l1] [] := q_invv t50_19 mo50 K5_51 mj31 rfl rfl rfl rfl (Nat.le_of_ble_eq_true rfl)
theorem s50_19_o42 (d : Nat) (l0 : Value) (l1 : Value) (v1 : Value) (σ : Hs) : ru d 50 19 [l0, l1] [v1, .ref 42] σ = kont (callD d 31 [.ref 42, v1] σ) d 50 22 [l0, l1] [] := q_invv t50_19 mo50 K5_51 mj31 rfl rfl rfl rfl (Nat.le_of_ble_eq_true rfl)
theorem t50_22 : decode (mb 50) 22 = .ok (.aload_n 0, 1) := by decide +kernel
theorem s50_22 (d : Nat) (a0 : Nat) (l1 : Value) (σ : Hs) : ru d 50 22 [.ref a0, l1] [] σ = ru d 50 23 [.ref a0, l1] [.ref a0] σ := q_aload_n t50_22 rfl
theorem t50_23 : decode (mb 50) 23 = .ok (.getfield 30, 3) := by decide +kernel
theorem s50_23_o1 (d : Nat) (l0 : Value) (l1 : Value) (σ : Hs) : ru d 50 23 [l0, l1] [.ref 1] σ = ru d 50 26 [l0, l1] [.ref 22] σ := q_getf t50_23 mo50 F5_30 rfl rfl
theorem s50_23_o30 (d : Nat) (l0 : Value) (l1 : Value) (σ : Hs) : ru d 50 23 [l0, l1] [.ref 30] σ = ru d 50 26 [l0, l1] [.ref 51] σ := q_getf t50_23 mo50 F5_30 rfl rfl
theorem t50_26 : decode (mb 50) 26 = .ok (.aload_n 1, 1) := by decide +kernel
theorem s50_26 (d : Nat) (l0 : Value) (a1 : Nat) (w0 : Value) (σ : Hs) : ru d 50 26 [l0, .ref a1] [w0] σ = ru d 50 27 [l0, .ref a1] [.ref a1, w0] σ := q_aload_n t50_26 rfl
theorem t50_27 : decode (mb 50) 27 = .ok (.getfield 30, 3) := by decide +kernel
theorem s50_27_o1 (d : Nat) (l0 : Value) (l1 : Value) (w0 : Value) (σ : Hs) : ru d 50 27 [l0, l1] [.ref 1, w0] σ = ru d 50 30 [l0, l1] [.ref 22, w0] σ := q_getf t50_27 mo50 F5_30 rfl rfl
theorem s50_27_o30 (d : Nat) (l0 : Value) (l1 : Value) (w0 : Value) (σ : Hs) : ru d 50 27 [l0, l1] [.ref 30, w0] σ = ru d 50 30 [l0, l1] [.ref 51, w0] σ := q_getf t50_27 mo50 F5_30 rfl rfl
theorem t50_30 : decode (mb 50) 30 = .ok (.invokevirtual 54, 3) := by decide +kernel
theorem s50_30_o22 (d : Nat) (l0 : Value) (l1 : Value) (v1 : Value) (σ : Hs) : ru d 50 30 [l0, l1] [v1, .ref 22] σ = kont (callD d 45 [.ref 22, v1] σ) d 50 33 [l0, l1] [] := q_invv t50_30 mo50 K5_54 mj45 rfl rfl rfl rfl (Nat.le_of_ble_eq_true rfl)
theorem s50_30_o51 (d : Nat) (l0 : Value) (l1 : Value) (v1 : Value) (σ : Hs) : ru d 50 30 [l0, l1] [v1, .ref 51] σ = kont (callD d 45 [.ref 51, v1] σ) d 50 33 [l0, l1] [] := q_invv t50_30 mo50 K5_54 mj45 rfl rfl rfl rfl (Nat.le_of_ble_eq_true rfl)
theorem t50_33 : decode (mb 50) 33 = .ok (.aload_n 0, 1) := by decide +kernel
theorem s50_33 (d : Nat) (a0 : Nat) (l1 : Value) (σ : Hs) : ru d 50 33 [.ref a0, l1] [] σ = ru d 50 34 [.ref a0, l1] [.ref a0] σ := q_aload_n t50_33 rfl
theorem t50_34 : decode (mb 50) 34 = .ok (.getfield 34, 3) := by decide +kernel
theorem s50_34_o1 (d : Nat) (l0 : Value) (l1 : Value) (σ : Hs) : ru d 50 34 [l0, l1] [.ref 1] σ = ru d 50 37 [l0, l1] [.ref 24] σ := q_getf t50_34 mo50 F5_34 rfl rfl
theorem s50_34_o30 (d : Nat) (l0 : Value) (l1 : Value) (σ : Hs) : ru d 50 34 [l0, l1] [.ref 30] σ = ru d 50 37 [l0, l1] [.ref 53] σ := q_getf t50_34 mo50 F5_34 rfl rfl
theorem t50_37 : decode (mb 50) 37 = .ok (.aload_n 1, 1) := by decide +kernel
theorem s50_37 (d : Nat) (l0 : Value) (a1 : Nat) (w0 : Value) (σ : Hs) : ru d 50 37 [l0, .ref a1] [w0] σ = ru d 50 38 [l0, .ref a1] [.ref a1, w0] σ := q_aload_n t50_37 rfl
theorem t50_38 : decode (mb 50) 38 = .ok (.getfield 34, 3) := by decide +kernel
theorem s50_38_o1 (d : Nat) (l0 : Value) (l1 : Value) (w0 : Value) (σ : Hs) : ru d 50 38 [l0, l1] [.ref 1, w0] σ = ru d 50 41 [l0, l1] [.ref 24, w0] σ := q_getf t50_38 mo50 F5_34 rfl rfl
theorem s50_38_o30 (d : Nat) (l0 : Value) (l1 : Value) (w0 : Value) (σ : Hs) : ru d 50 38 [l0, l1] [.ref 30, w0] σ = ru d 50 41 [l0, l1] [.ref 53, w0] σ := q_getf t50_38 mo50 F5_34 rfl rfl
theorem t50_41 : decode (mb 50) 41 = .ok (.invokevirtual 54, 3) := by decide +kernel
theorem s50_41_o24 (d : Nat) (l0 : Value) (l1 : Value) (v1 : Value) (σ : Hs) : ru d 50 41 [l0, l1] [v1, .ref 24] σ = kont (callD d 45 [.ref 24, v1] σ) d 50 44 [l0, l1] [] := q_invv t50_41 mo50 K5_54 mj45 rfl rfl rfl rfl (Nat.le_of_ble_eq_true rfl)
theorem s50_41_o53 (d : Nat) (l0 : Value) (l1 : Value) (v1 : Value) (σ : Hs) : ru d 50 41 [l0, l1] [v1, .ref 53] σ = kont (callD d 45 [.ref 53, v1] σ) d 50 44 [l0, l1] [] := q_invv t50_41 mo50 K5_54 mj45 rfl rfl rfl rfl (Nat.le_of_ble_eq_true rfl)
theorem t50_44 : decode (mb 50) 44 = .ok (.aload_n 0, 1) := by decide +kernel
theorem s50_44 (d : Nat) (a0 : Nat) (l1 : Value) (σ : Hs) : ru d 50 44 [.ref a0, l1] [] σ = ru d 50 45 [.ref a0, l1] [.ref a0] σ := q_aload_n t50_44 rfl
theorem t50_45 : decode (mb 50) 45 = .ok (.getfield 37, 3) := by decide +kernel
theorem s50_45_o1 (d : Nat) (l0 : Value) (l1 : Value) (σ : Hs) : ru d 50 45 [l0, l1] [.ref 1] σ = ru d 50 48 [l0, l1] [.ref 26] σ := q_getf t50_45 mo50 F5_37 rfl rfl
theorem s50_45_o30 (d : Nat) (l0 : Value) (l1 : Value) (σ : Hs) : ru d 50 45 [l0, l1] [.ref 30] σ = ru d 50 48 [l0, l1] [.ref 55] σ := q_getf t50_45 mo50 F5_37 rfl rfl
theorem t50_48 : decode (mb 50) 48 = .ok (.aload_n 1, 1) := by decide +kernel
theorem s50_48 (d : Nat) (l0 : Value) (a1 : Nat) (w0 : Value) (σ : Hs) : ru d 50 48 [l0, .ref a1] [w0] σ = ru d 50 49 [l0, .ref a1] [.ref a1, w0] σ := q_aload_n t50_48 rfl
theorem t50_49 : decode (mb 50) 49 = .ok (.getfield 37, 3) := by decide +kernel
theorem s50_49_o1 (d : Nat) (l0 : Value) (l1 : Value) (w0 : Value) (σ : Hs) : ru d 50 49 [l0, l1] [.ref 1, w0] σ = ru d 50 52 [l0, l1] [.ref 26, w0] σ := q_getf t50_49 mo50 F5_37 rfl rfl
theorem s50_49_o30 (d : Nat) (l0 : Value) (l1 : Value) (w0 : Value) (σ : Hs) : ru d 50 49 [l0, l1] [.ref 30, w0] σ = ru d 50 52 [l0, l1] [.ref 55, w0] σ := q_getf t50_49 mo50 F5_37 rfl rfl
theorem t50_52 : decode (mb 50) 52 = .ok (.invokevirtual 54, 3) := by decide +kernel
theorem s50_52_o26 (d : Nat) (l0 : Value) (l1 : Value) (v1 : Value) (σ : Hs) : ru d 50 52 [l0, l1] [v1, .ref 26] σ = kont (callD d 45 [.ref 26, v1] σ) d 50 55 [l0, l1] [] := q_invv t50_52 mo50 K5_54 mj45 rfl rfl rfl rfl (Nat.le_of_ble_eq_true rfl)
theorem s50_52_o55 (d : Nat) (l0 : Value) (l1 : Value) (v1 : Value) (σ : Hs) : ru d 50 52 [l0, l1] [v1, .ref 55] σ = kont (callD d 45 [.ref 55, v1] σ) d 50 55 [l0, l1] [] := q_invv t50_52 mo50 K5_54 mj45 rfl rfl rfl rfl (Nat.le_of_ble_eq_true rfl)
theorem t50_55 : decode (mb 50) 55 = .ok (.aload_n 0, 1) := by decide +kernel
theorem s50_55 (d : Nat) (a0 : Nat) (l1 : Value) (σ : Hs) : ru d 50 55 [.ref a0, l1] [] σ = ru d 50 56 [.ref a0, l1] [.ref a0] σ := q_aload_n t50_55 rfl
theorem t50_56 : decode (mb 50) 56 = .ok (.getfield 40, 3) := by decide +kernel
theorem s50_56_o1 (d : Nat) (l0 : Value) (l1 : Value) (σ : Hs) : ru d 50 56 [l0, l1] [.ref 1] σ = ru d 50 59 [l0, l1] [.ref 28] σ := q_getf t50_56 mo50 F5_40 rfl rfl
theorem s50_56_o30 (d : Nat) (l0 : Value) (l1 : Value) (σ : Hs) : ru d 50 56 [l0, l1] [.ref 30] σ = ru d 50 59 [l0, l1] [.ref 57] σ := q_getf t50_56 mo50 F5_40 rfl rfl
theorem t50_59 : decode (mb 50) 59 = .ok (.aload_n 1, 1) := by decide +kernel
theorem s50_59 (d : Nat) (l0 : Value) (a1 : Nat) (w0 : Value) (σ : Hs) : ru d 50 59 [l0, .ref a1] [w0] σ = ru d 50 60 [l0, .ref a1] [.ref a1, w0] σ := q_aload_n t50_59 rfl
theorem t50_60 : decode (mb 50) 60 = .ok (.getfield 40, 3) := by decide +kernel
theorem s50_60_o1 (d : Nat) (l0 : Value) (l1 : Value) (w0 : Value) (σ : Hs) : ru d 50 60 [l0, l1] [.ref 1, w0] σ = ru d 50 63 [l0, l1] [.ref 28, w0] σ := q_getf t50_60 mo50 F5_40 rfl rfl
theorem s50_60_o30 (d : Nat) (l0 : Value) (l1 : Value) (w0 : Value) (σ : Hs) : ru d 50 60 [l0, l1] [.ref 30, w0] σ = ru d 50 63 [l0, l1] [.ref 57, w0] σ := q_getf t50_60 mo50 F5_40 rfl rfl
theorem t50_63 : decode (mb 50) 63 = .ok (.invokevirtual 54, 3) := by decide +kernel
theorem s50_63_o28 (d : Nat) (l0 : Value) (l1 : Value) (v1 : Value) (σ : Hs) : ru d 50 63 [l0, l1] [v1, .ref 28] σ = kont (callD d 45 [.ref 28, v1] σ) d 50 66 [l0, l1] [] := q_invv t50_63 mo50 K5_54 mj45 rfl rfl rfl rfl (Nat.le_of_ble_eq_true rfl)
theorem s50_63_o57 (d : Nat) (l0 : Value) (l1 : Value) (v1 : Value) (σ : Hs) : ru d 50 63 [l0, l1] [v1, .ref 57] σ = kont (callD d 45 [.ref 57, v1] σ) d 50 66 [l0, l1] [] := q_invv t50_63 mo50 K5_54 mj45 rfl rfl rfl rfl (Nat.le_of_ble_eq_true rfl)
theorem t50_66 : decode (mb 50) 66 = .ok (.aload_n 0, 1) := by decide +kernel
theorem s50_66 (d : Nat) (a0 : Nat) (l1 : Value) (σ : Hs) : ru d 50 66 [.ref a0, l1] [] σ = ru d 50 67 [.ref a0, l1] [.ref a0] σ := q_aload_n t50_66 rfl
theorem t50_67 : decode (mb 50) 67 = .ok (.aload_n 1, 1) := by decide +kernel
theorem s50_67 (d : Nat) (l0 : Value) (a1 : Nat) (w0 : Value) (σ : Hs) : ru d 50 67 [l0, .ref a1] [w0] σ = ru d 50 68 [l0, .ref a1] [.ref a1, w0] σ := q_aload_n t50_67 rfl
theorem t50_68 : decode (mb 50) 68 = .ok (.getfield 43, 3) := by decide +kernel
theorem s50_68_o1 (d : Nat) (l0 : Value) (l1 : Value) (w0 : Value) (σ : Hs) : ru d 50 68 [l0, l1] [.ref 1, w0] σ = ru d 50 71 [l0, l1] [.int (σ 1 6), w0] σ := q_getf t50_68 mo50 F5_43 rfl rfl
theorem s50_68_o30 (d : Nat) (l0 : Value) (l1 : Value) (w0 : Value) (σ : Hs) : ru d 50 68 [l0, l1] [.ref 30, w0] σ = ru d 50 71 [l0, l1] [.int (σ 30 6), w0] σ := q_getf t50_68 mo50 F5_43 rfl rfl
theorem t50_71 : decode (mb 50) 71 = .ok (.putfield 43, 3) := by decide +kernel
theorem s50_71_o1 (d : Nat) (l0 : Value) (l1 : Value) (x : Int32) (σ : Hs) : ru d 50 71 [l0, l1] [.int x, .ref 1] σ = ru d 50 74 [l0, l1] [] (up2 σ 1 6 x) := q_puti t50_71 mo50 F5_43 (by decide +kernel) rfl rfl
theorem s50_71_o30 (d : Nat) (l0 : Value) (l1 : Value) (x : Int32) (σ : Hs) : ru d 50 71 [l0, l1] [.int x, .ref 30] σ = ru d 50 74 [l0, l1] [] (up2 σ 30 6 x) := q_puti t50_71 mo50 F5_43 (by decide +kernel) rfl rfl
theorem t50_74 : decode (mb 50) 74 = .ok (.return_, 1) := by decide +kernel
theorem s50_74 (d : Nat) (l0 : Value) (l1 : Value) (σ : Hs) : ru d 50 74 [l0, l1] [] σ = some (none, σ) := q_vret t50_74 mr50
theorem c50 (d : Nat) (x0 : Nat) (x1 : Nat) (σ : Hs) : callD (d + 1) 50 [.ref x0, .ref x1] σ = ru d 50 0 [.ref x0, .ref x1] [] σ := callD_ru ml50 rfl rfl (Nat.le_of_ble_eq_true rfl)
-- 51: State.draw()I
theorem t51_0 : decode (mb 51) 0 = .ok (.aload_n 0, 1) := by decide +kernel
theorem s51_0 (d : Nat) (a0 : Nat) (σ : Hs) : ru d 51 0 [.ref a0] [] σ = ru d 51 1 [.ref a0] [.ref a0] σ := q_aload_n t51_0 rfl
theorem t51_1 : decode (mb 51) 1 = .ok (.aload_n 0, 1) := by decide +kernel
theorem s51_1 (d : Nat) (a0 : Nat) (w0 : Value) (σ : Hs) : ru d 51 1 [.ref a0] [w0] σ = ru d 51 2 [.ref a0] [.ref a0, w0] σ := q_aload_n t51_1 rfl
theorem t51_2 : decode (mb 51) 2 = .ok (.getfield 43, 3) := by decide +kernel
theorem s51_2_o1 (d : Nat) (l0 : Value) (w0 : Value) (σ : Hs) : ru d 51 2 [l0] [.ref 1, w0] σ = ru d 51 5 [l0] [.int (σ 1 6), w0] σ := q_getf t51_2 mo51 F5_43 rfl rfl
theorem t51_5 : decode (mb 51) 5 = .ok (.ldc 57, 2) := by decide +kernel
theorem s51_5 (d : Nat) (l0 : Value) (w0 w1 : Value) (σ : Hs) : ru d 51 5 [l0] [w0, w1] σ = ru d 51 7 [l0] [.int 1103515245, w0, w1] σ := q_ldc t51_5 mo51 C5_57
theorem t51_7 : decode (mb 51) 7 = .ok (.imul, 1) := by decide +kernel
theorem s51_7 (d : Nat) (l0 : Value) (x y : Int32) (w0 : Value) (σ : Hs) : ru d 51 7 [l0] [.int y, .int x, w0] σ = ru d 51 8 [l0] [.int (x * y), w0] σ := q_imul t51_7
theorem t51_8 : decode (mb 51) 8 = .ok (.sipush 12345, 3) := by decide +kernel
theorem s51_8 (d : Nat) (l0 : Value) (w0 w1 : Value) (σ : Hs) : ru d 51 8 [l0] [w0, w1] σ = ru d 51 11 [l0] [.int 12345, w0, w1] σ := q_sipush t51_8 (by decide +kernel)
theorem t51_11 : decode (mb 51) 11 = .ok (.iadd, 1) := by decide +kernel
theorem s51_11 (d : Nat) (l0 : Value) (x y : Int32) (w0 : Value) (σ : Hs) : ru d 51 11 [l0] [.int y, .int x, w0] σ = ru d 51 12 [l0] [.int (x + y), w0] σ := q_iadd t51_11
theorem t51_12 : decode (mb 51) 12 = .ok (.putfield 43, 3) := by decide +kernel
theorem s51_12_o1 (d : Nat) (l0 : Value) (x : Int32) (σ : Hs) : ru d 51 12 [l0] [.int x, .ref 1] σ = ru d 51 15 [l0] [] (up2 σ 1 6 x) := q_puti t51_12 mo51 F5_43 (by decide +kernel) rfl rfl
theorem t51_15 : decode (mb 51) 15 = .ok (.aload_n 0, 1) := by decide +kernel
theorem s51_15 (d : Nat) (a0 : Nat) (σ : Hs) : ru d 51 15 [.ref a0] [] σ = ru d 51 16 [.ref a0] [.ref a0] σ := q_aload_n t51_15 rfl
theorem t51_16 : decode (mb 51) 16 = .ok (.getfield 43, 3) := by decide +kernel
theorem s51_16_o1 (d : Nat) (l0 : Value) (σ : Hs) : ru d 51 16 [l0] [.ref 1] σ = ru d 51 19 [l0] [.int (σ 1 6)] σ := q_getf t51_16 mo51 F5_43 rfl rfl
theorem t51_19 : decode (mb 51) 19 = .ok (.bipush 8, 2) := by decide +kernel
theorem s51_19 (d : Nat) (l0 : Value) (w0 : Value) (σ : Hs) : ru d 51 19 [l0] [w0] σ = ru d 51 21 [l0] [.int 8, w0] σ := q_bipush t51_19 (by decide +kernel)
theorem t51_21 : decode (mb 51) 21 = .ok (.iushr, 1) := by decide +kernel
theorem s51_21 (d : Nat) (l0 : Value) (x y : Int32) (σ : Hs) : ru d 51 21 [l0] [.int y, .int x] σ = ru d 51 22 [l0] [.int ((x.toUInt32 >>> (y.toUInt32 &&& Int32.toUInt32 31)).toInt32)] σ := q_iushr t51_21
theorem t51_22 : decode (mb 51) 22 = .ok (.ireturn, 1) := by decide +kernel
theorem s51_22 (d : Nat) (l0 : Value) (x : Int32) (σ : Hs) : ru d 51 22 [l0] [.int x] σ = some (some (.int x), σ) := q_ireti t51_22 mr51
theorem c51 (d : Nat) (x0 : Nat) (σ : Hs) : callD (d + 1) 51 [.ref x0] σ = ru d 51 0 [.ref x0] [] σ := callD_ru ml51 rfl rfl (Nat.le_of_ble_eq_true rfl)
-- 52: State.suspectsWithout(I)I
theorem t52_0 : decode (mb 52) 0 = .ok (.sipush 511, 3) := by decide +kernel
theorem s52_0 (d : Nat) (l0 : Value) (l1 : Value) (l2 : Value) (l3 : Value) (σ : Hs) : ru d 52 0 [l0, l1, l2, l3] [] σ = ru d 52 3 [l0, l1, l2, l3] [.int 511] σ := q_sipush t52_0 (by decide +kernel)
theorem t52_3 : decode (mb 52) 3 = .ok (.istore_n 2, 1) := by decide +kernel
theorem s52_3 (d : Nat) (l0 : Value) (i1 : Int32) (l2 : Value) (l3 : Value) (x : Int32) (σ : Hs) : ru d 52 3 [l0, .int i1, l2, l3] [.int x] σ = ru d 52 4 [l0, .int i1, .int x, l3] [] σ := q_istore_n t52_3 ⟨Nat.le_of_ble_eq_true rfl, rfl⟩ rfl
theorem t52_4 : decode (mb 52) 4 = .ok (.iconst 0, 1) := by decide +kernel
theorem s52_4 (d : Nat) (l0 : Value) (l1 : Value) (l2 : Value) (l3 : Value) (σ : Hs) : ru d 52 4 [l0, l1, l2, l3] [] σ = ru d 52 5 [l0, l1, l2, l3] [.int 0] σ := q_iconst t52_4 (by decide +kernel)
theorem t52_5 : decode (mb 52) 5 = .ok (.istore_n 3, 1) := by decide +kernel
theorem s52_5 (d : Nat) (l0 : Value) (l1 : Value) (i2 : Int32) (l3 : Value) (x : Int32) (σ : Hs) : ru d 52 5 [l0, l1, .int i2, l3] [.int x] σ = ru d 52 6 [l0, l1, .int i2, .int x] [] σ := q_istore_n t52_5 ⟨Nat.le_of_ble_eq_true rfl, rfl⟩ rfl
theorem t52_6 : decode (mb 52) 6 = .ok (.iload_n 3, 1) := by decide +kernel
theorem s52_6 (d : Nat) (l0 : Value) (l1 : Value) (l2 : Value) (i3 : Int32) (σ : Hs) : ru d 52 6 [l0, l1, l2, .int i3] [] σ = ru d 52 7 [l0, l1, l2, .int i3] [.int i3] σ := q_iload_n t52_6 rfl
theorem t52_7 : decode (mb 52) 7 = .ok (.aload_n 0, 1) := by decide +kernel
theorem s52_7 (d : Nat) (a0 : Nat) (l1 : Value) (l2 : Value) (l3 : Value) (w0 : Value) (σ : Hs) : ru d 52 7 [.ref a0, l1, l2, l3] [w0] σ = ru d 52 8 [.ref a0, l1, l2, l3] [.ref a0, w0] σ := q_aload_n t52_7 rfl
theorem t52_8 : decode (mb 52) 8 = .ok (.getfield 34, 3) := by decide +kernel
theorem s52_8_o1 (d : Nat) (l0 : Value) (l1 : Value) (l2 : Value) (l3 : Value) (w0 : Value) (σ : Hs) : ru d 52 8 [l0, l1, l2, l3] [.ref 1, w0] σ = ru d 52 11 [l0, l1, l2, l3] [.ref 24, w0] σ := q_getf t52_8 mo52 F5_34 rfl rfl
theorem t52_11 : decode (mb 52) 11 = .ok (.getfield 58, 3) := by decide +kernel
theorem s52_11_o24 (d : Nat) (l0 : Value) (l1 : Value) (l2 : Value) (l3 : Value) (w0 : Value) (σ : Hs) : ru d 52 11 [l0, l1, l2, l3] [.ref 24, w0] σ = ru d 52 14 [l0, l1, l2, l3] [.int (σ 24 1), w0] σ := q_getf t52_11 mo52 F5_58 rfl rfl
theorem t52_14 : decode (mb 52) 14 = .ok (.if_icmp .ge 38, 3) := by decide +kernel
theorem s52_14 (d : Nat) (l0 : Value) (l1 : Value) (l2 : Value) (l3 : Value) (x y : Int32) (σ : Hs) : ru d 52 14 [l0, l1, l2, l3] [.int y, .int x] σ = if y ≤ x then ru d 52 52 [l0, l1, l2, l3] [] σ else ru d 52 17 [l0, l1, l2, l3] [] σ := q_ic_ge t52_14 (by decide +kernel)
theorem t52_17 : decode (mb 52) 17 = .ok (.iload_n 3, 1) := by decide +kernel
theorem s52_17 (d : Nat) (l0 : Value) (l1 : Value) (l2 : Value) (i3 : Int32) (σ : Hs) : ru d 52 17 [l0, l1, l2, .int i3] [] σ = ru d 52 18 [l0, l1, l2, .int i3] [.int i3] σ := q_iload_n t52_17 rfl
theorem t52_18 : decode (mb 52) 18 = .ok (.iload_n 1, 1) := by decide +kernel
theorem s52_18 (d : Nat) (l0 : Value) (i1 : Int32) (l2 : Value) (l3 : Value) (w0 : Value) (σ : Hs) : ru d 52 18 [l0, .int i1, l2, l3] [w0] σ = ru d 52 19 [l0, .int i1, l2, l3] [.int i1, w0] σ := q_iload_n t52_18 rfl
theorem t52_19 : decode (mb 52) 19 = .ok (.if_icmp .eq 27, 3) := by decide +kernel
theorem s52_19 (d : Nat) (l0 : Value) (l1 : Value) (l2 : Value) (l3 : Value) (x y : Int32) (σ : Hs) : ru d 52 19 [l0, l1, l2, l3] [.int y, .int x] σ = if x = y then ru d 52 46 [l0, l1, l2, l3] [] σ else ru d 52 22 [l0, l1, l2, l3] [] σ := q_ic_eq t52_19 (by decide +kernel)
theorem t52_22 : decode (mb 52) 22 = .ok (.iload_n 2, 1) := by decide +kernel
theorem s52_22 (d : Nat) (l0 : Value) (l1 : Value) (i2 : Int32) (l3 : Value) (σ : Hs) : ru d 52 22 [l0, l1, .int i2, l3] [] σ = ru d 52 23 [l0, l1, .int i2, l3] [.int i2] σ := q_iload_n t52_22 rfl
theorem t52_23 : decode (mb 52) 23 = .ok (.aload_n 0, 1) := by decide +kernel
theorem s52_23 (d : Nat) (a0 : Nat) (l1 : Value) (l2 : Value) (l3 : Value) (w0 : Value) (σ : Hs) : ru d 52 23 [.ref a0, l1, l2, l3] [w0] σ = ru d 52 24 [.ref a0, l1, l2, l3] [.ref a0, w0] σ := q_aload_n t52_23 rfl
theorem t52_24 : decode (mb 52) 24 = .ok (.getfield 34, 3) := by decide +kernel
theorem s52_24_o1 (d : Nat) (l0 : Value) (l1 : Value) (l2 : Value) (l3 : Value) (w0 : Value) (σ : Hs) : ru d 52 24 [l0, l1, l2, l3] [.ref 1, w0] σ = ru d 52 27 [l0, l1, l2, l3] [.ref 24, w0] σ := q_getf t52_24 mo52 F5_34 rfl rfl
theorem t52_27 : decode (mb 52) 27 = .ok (.getfield 61, 3) := by decide +kernel
theorem s52_27_o24 (d : Nat) (l0 : Value) (l1 : Value) (l2 : Value) (l3 : Value) (w0 : Value) (σ : Hs) : ru d 52 27 [l0, l1, l2, l3] [.ref 24, w0] σ = ru d 52 30 [l0, l1, l2, l3] [.ref 25, w0] σ := q_getf t52_27 mo52 F5_61 rfl rfl
theorem t52_30 : decode (mb 52) 30 = .ok (.iload_n 3, 1) := by decide +kernel
theorem s52_30 (d : Nat) (l0 : Value) (l1 : Value) (l2 : Value) (i3 : Int32) (w0 w1 : Value) (σ : Hs) : ru d 52 30 [l0, l1, l2, .int i3] [w0, w1] σ = ru d 52 31 [l0, l1, l2, .int i3] [.int i3, w0, w1] σ := q_iload_n t52_30 rfl
theorem t52_31 : decode (mb 52) 31 = .ok (.iaload, 1) := by decide +kernel
theorem s52_31_o25 (d : Nat) (l0 : Value) (l1 : Value) (l2 : Value) (l3 : Value) (i : Int32) (w0 : Value) (σ : Hs) : ru d 52 31 [l0, l1, l2, l3] [.int i, .ref 25, w0] σ = gd (vp_in i 12) (ru d 52 32 [l0, l1, l2, l3] [.int (σ 25 i.toNatClampNeg), w0] σ) := q_iald t52_31 rfl (by decide +kernel) rfl
theorem t52_32 : decode (mb 52) 32 = .ok (.aload_n 0, 1) := by decide +kernel
theorem s52_32 (d : Nat) (a0 : Nat) (l1 : Value) (l2 : Value) (l3 : Value) (w0 w1 : Value) (σ : Hs) : ru d 52 32 [.ref a0, l1, l2, l3] [w0, w1] σ = ru d 52 33 [.ref a0, l1, l2, l3] [.ref a0, w0, w1] σ := q_aload_n t52_32 rfl
theorem t52_33 : decode (mb 52) 33 = .ok (.getfield 37, 3) := by decide +kernel
theorem s52_33_o1 (d : Nat) (l0 : Value) (l1 : Value) (l2 : Value) (l3 : Value) (w0 w1 : Value) (σ : Hs) : ru d 52 33 [l0, l1, l2, l3] [.ref 1, w0, w1] σ = ru d 52 36 [l0, l1, l2, l3] [.ref 26, w0, w1] σ := q_getf t52_33 mo52 F5_37 rfl rfl
theorem t52_36 : decode (mb 52) 36 = .ok (.getfield 61, 3) := by decide +kernel
theorem s52_36_o26 (d : Nat) (l0 : Value) (l1 : Value) (l2 : Value) (l3 : Value) (w0 w1 : Value) (σ : Hs) : ru d 52 36 [l0, l1, l2, l3] [.ref 26, w0, w1] σ = ru d 52 39 [l0, l1, l2, l3] [.ref 27, w0, w1] σ := q_getf t52_36 mo52 F5_61 rfl rfl
theorem t52_39 : decode (mb 52) 39 = .ok (.iload_n 3, 1) := by decide +kernel
theorem s52_39 (d : Nat) (l0 : Value) (l1 : Value) (l2 : Value) (i3 : Int32) (w0 w1 w2 : Value) (σ : Hs) : ru d 52 39 [l0, l1, l2, .int i3] [w0, w1, w2] σ = ru d 52 40 [l0, l1, l2, .int i3] [.int i3, w0, w1, w2] σ := q_iload_n t52_39 rfl
theorem t52_40 : decode (mb 52) 40 = .ok (.iaload, 1) := by decide +kernel
theorem s52_40_o27 (d : Nat) (l0 : Value) (l1 : Value) (l2 : Value) (l3 : Value) (i : Int32) (w0 w1 : Value) (σ : Hs) : ru d 52 40 [l0, l1, l2, l3] [.int i, .ref 27, w0, w1] σ = gd (vp_in i 12) (ru d 52 41 [l0, l1, l2, l3] [.int (σ 27 i.toNatClampNeg), w0, w1] σ) := q_iald t52_40 rfl (by decide +kernel) rfl
theorem t52_41 : decode (mb 52) 41 = .ok (.invokestatic 65, 3) := by decide +kernel
theorem s52_41 (d : Nat) (l0 : Value) (l1 : Value) (l2 : Value) (l3 : Value) (v0 v1 : Value) (w0 : Int32) (σ : Hs) : ru d 52 41 [l0, l1, l2, l3] [v1, v0, .int w0] σ = kont (callD d 53 [v0, v1] σ) d 52 44 [l0, l1, l2, l3] [.int w0] := q_invs t52_41 mo52 (by decide +kernel) K5_65 mj53 (Nat.le_of_ble_eq_true rfl) rfl rfl (Nat.le_of_ble_eq_true rfl)
theorem t52_44 : decode (mb 52) 44 = .ok (.iand, 1) := by decide +kernel
theorem s52_44 (d : Nat) (l0 : Value) (l1 : Value) (l2 : Value) (l3 : Value) (x y : Int32) (σ : Hs) : ru d 52 44 [l0, l1, l2, l3] [.int y, .int x] σ = ru d 52 45 [l0, l1, l2, l3] [.int (x &&& y)] σ := q_iand t52_44
theorem t52_45 : decode (mb 52) 45 = .ok (.istore_n 2, 1) := by decide +kernel
theorem s52_45 (d : Nat) (l0 : Value) (i1 : Int32) (l2 : Value) (l3 : Value) (x : Int32) (σ : Hs) : ru d 52 45 [l0, .int i1, l2, l3] [.int x] σ = ru d 52 46 [l0, .int i1, .int x, l3] [] σ := q_istore_n t52_45 ⟨Nat.le_of_ble_eq_true rfl, rfl⟩ rfl
theorem t52_46 : decode (mb 52) 46 = .ok (.iinc 3 1, 3) := by decide +kernel
theorem s52_46 (d : Nat) (l0 : Value) (l1 : Value) (i2 : Int32) (i3 : Int32) (σ : Hs) : ru d 52 46 [l0, l1, .int i2, .int i3] [] σ = ru d 52 49 [l0, l1, .int i2, .int (i3 + 1)] [] σ := q_iinc t52_46 ⟨Nat.le_of_ble_eq_true rfl, rfl⟩ rfl (by decide +kernel) rfl
theorem t52_49 : decode (mb 52) 49 = .ok (.goto (-43), 3) := by decide +kernel
theorem s52_49 (d : Nat) (l0 : Value) (l1 : Value) (l2 : Value) (l3 : Value) (σ : Hs) : ru d 52 49 [l0, l1, l2, l3] [] σ = ru d 52 6 [l0, l1, l2, l3] [] σ := q_goto t52_49 (by decide +kernel)
theorem t52_52 : decode (mb 52) 52 = .ok (.iload_n 2, 1) := by decide +kernel
theorem s52_52 (d : Nat) (l0 : Value) (l1 : Value) (i2 : Int32) (l3 : Value) (σ : Hs) : ru d 52 52 [l0, l1, .int i2, l3] [] σ = ru d 52 53 [l0, l1, .int i2, l3] [.int i2] σ := q_iload_n t52_52 rfl
theorem t52_53 : decode (mb 52) 53 = .ok (.ireturn, 1) := by decide +kernel
theorem s52_53 (d : Nat) (l0 : Value) (l1 : Value) (l2 : Value) (l3 : Value) (x : Int32) (σ : Hs) : ru d 52 53 [l0, l1, l2, l3] [.int x] σ = some (some (.int x), σ) := q_ireti t52_53 mr52
theorem c52 (d : Nat) (x0 : Nat) (x1 : Int32) (σ : Hs) : callD (d + 1) 52 [.ref x0, .int x1] σ = ru d 52 0 [.ref x0, .int x1, uu, uu] [] σ := callD_ru ml52 rfl rfl (Nat.le_of_ble_eq_true rfl)
-- 53: State.gardensUpwind(II)I
theorem t53_0 : decode (mb 53) 0 = .ok (.iload_n 1, 1) := by decide +kernel
theorem s53_0 (d : Nat) (l0 : Value) (i1 : Int32) (l2 : Value) (l3 : Value) (l4 : Value) (l5 : Value) (σ : Hs) : ru d 53 0 [l0, .int i1, l2, l3, l4, l5] [] σ = ru d 53 1 [l0, .int i1, l2, l3, l4, l5] [.int i1] σ := q_iload_n t53_0 rfl
theorem t53_1 : decode (mb 53) 1 = .ok (.iconst 2, 1) := by decide +kernel
theorem s53_1 (d : Nat) (l0 : Value) (l1 : Value) (l2 : Value) (l3 : Value) (l4 : Value) (l5 : Value) (w0 : Value) (σ : Hs) : ru d 53 1 [l0, l1, l2, l3, l4, l5] [w0] σ = ru d 53 2 [l0, l1, l2, l3, l4, l5] [.int 2, w0] σ := q_iconst t53_1 (by decide +kernel)
theorem t53_2 : decode (mb 53) 2 = .ok (.iadd, 1) := by decide +kernel
theorem s53_2 (d : Nat) (l0 : Value) (l1 : Value) (l2 : Value) (l3 : Value) (l4 : Value) (l5 : Value) (x y : Int32) (σ : Hs) : ru d 53 2 [l0, l1, l2, l3, l4, l5] [.int y, .int x] σ = ru d 53 3 [l0, l1, l2, l3, l4, l5] [.int (x + y)] σ := q_iadd t53_2
theorem t53_3 : decode (mb 53) 3 = .ok (.iconst 4, 1) := by decide +kernel
theorem s53_3 (d : Nat) (l0 : Value) (l1 : Value) (l2 : Value) (l3 : Value) (l4 : Value) (l5 : Value) (w0 : Value) (σ : Hs) : ru d 53 3 [l0, l1, l2, l3, l4, l5] [w0] σ = ru d 53 4 [l0, l1, l2, l3, l4, l5] [.int 4, w0] σ := q_iconst t53_3 (by decide +kernel)
theorem t53_4 : decode (mb 53) 4 = .ok (.irem, 1) := by decide +kernel
theorem s53_4 (d : Nat) (l0 : Value) (l1 : Value) (l2 : Value) (l3 : Value) (l4 : Value) (l5 : Value) (x y : Int32) (σ : Hs) : ru d 53 4 [l0, l1, l2, l3, l4, l5] [.int y, .int x] σ = gd (¬ y = 0) (ru d 53 5 [l0, l1, l2, l3, l4, l5] [.int (x - x / y * y)] σ) := q_irem t53_4
theorem t53_5 : decode (mb 53) 5 = .ok (.istore_n 2, 1) := by decide +kernel
theorem s53_5 (d : Nat) (l0 : Value) (i1 : Int32) (l2 : Value) (l3 : Value) (l4 : Value) (l5 : Value) (x : Int32) (σ : Hs) : ru d 53 5 [l0, .int i1, l2, l3, l4, l5] [.int x] σ = ru d 53 6 [l0, .int i1, .int x, l3, l4, l5] [] σ := q_istore_n t53_5 ⟨Nat.le_of_ble_eq_true rfl, rfl⟩ rfl
theorem t53_6 : decode (mb 53) 6 = .ok (.iconst 0, 1) := by decide +kernel
theorem s53_6 (d : Nat) (l0 : Value) (l1 : Value) (l2 : Value) (l3 : Value) (l4 : Value) (l5 : Value) (σ : Hs) : ru d 53 6 [l0, l1, l2, l3, l4, l5] [] σ = ru d 53 7 [l0, l1, l2, l3, l4, l5] [.int 0] σ := q_iconst t53_6 (by decide +kernel)
theorem t53_7 : decode (mb 53) 7 = .ok (.istore_n 3, 1) := by decide +kernel
theorem s53_7 (d : Nat) (l0 : Value) (l1 : Value) (i2 : Int32) (l3 : Value) (l4 : Value) (l5 : Value) (x : Int32) (σ : Hs) : ru d 53 7 [l0, l1, .int i2, l3, l4, l5] [.int x] σ = ru d 53 8 [l0, l1, .int i2, .int x, l4, l5] [] σ := q_istore_n t53_7 ⟨Nat.le_of_ble_eq_true rfl, rfl⟩ rfl
theorem t53_8 : decode (mb 53) 8 = .ok (.iload_n 0, 1) := by decide +kernel
theorem s53_8 (d : Nat) (i0 : Int32) (l1 : Value) (l2 : Value) (l3 : Value) (l4 : Value) (l5 : Value) (σ : Hs) : ru d 53 8 [.int i0, l1, l2, l3, l4, l5] [] σ = ru d 53 9 [.int i0, l1, l2, l3, l4, l5] [.int i0] σ := q_iload_n t53_8 rfl
theorem t53_9 : decode (mb 53) 9 = .ok (.istore 4, 2) := by decide +kernel
theorem s53_9 (d : Nat) (l0 : Value) (l1 : Value) (l2 : Value) (i3 : Int32) (l4 : Value) (l5 : Value) (x : Int32) (σ : Hs) : ru d 53 9 [l0, l1, l2, .int i3, l4, l5] [.int x] σ = ru d 53 11 [l0, l1, l2, .int i3, .int x, l5] [] σ := q_istore t53_9 ⟨Nat.le_of_ble_eq_true rfl, rfl⟩ rfl
theorem t53_11 : decode (mb 53) 11 = .ok (.iconst 0, 1) := by decide +kernel
theorem s53_11 (d : Nat) (l0 : Value) (l1 : Value) (l2 : Value) (l3 : Value) (l4 : Value) (l5 : Value) (σ : Hs) : ru d 53 11 [l0, l1, l2, l3, l4, l5] [] σ = ru d 53 12 [l0, l1, l2, l3, l4, l5] [.int 0] σ := q_iconst t53_11 (by decide +kernel)
theorem t53_12 : decode (mb 53) 12 = .ok (.istore 5, 2) := by decide +kernel
theorem s53_12 (d : Nat) (l0 : Value) (l1 : Value) (l2 : Value) (l3 : Value) (i4 : Int32) (l5 : Value) (x : Int32) (σ : Hs) : ru d 53 12 [l0, l1, l2, l3, .int i4, l5] [.int x] σ = ru d 53 14 [l0, l1, l2, l3, .int i4, .int x] [] σ := q_istore t53_12 ⟨Nat.le_of_ble_eq_true rfl, rfl⟩ rfl
theorem t53_14 : decode (mb 53) 14 = .ok (.iload 5, 2) := by decide +kernel
theorem s53_14 (d : Nat) (l0 : Value) (l1 : Value) (l2 : Value) (l3 : Value) (l4 : Value) (i5 : Int32) (σ : Hs) : ru d 53 14 [l0, l1, l2, l3, l4, .int i5] [] σ = ru d 53 16 [l0, l1, l2, l3, l4, .int i5] [.int i5] σ := q_iload t53_14 rfl
theorem t53_16 : decode (mb 53) 16 = .ok (.iconst 3, 1) := by decide +kernel
theorem s53_16 (d : Nat) (l0 : Value) (l1 : Value) (l2 : Value) (l3 : Value) (l4 : Value) (l5 : Value) (w0 : Value) (σ : Hs) : ru d 53 16 [l0, l1, l2, l3, l4, l5] [w0] σ = ru d 53 17 [l0, l1, l2, l3, l4, l5] [.int 3, w0] σ := q_iconst t53_16 (by decide +kernel)
theorem t53_17 : decode (mb 53) 17 = .ok (.if_icmp .ge 32, 3) := by decide +kernel
theorem s53_17 (d : Nat) (l0 : Value) (l1 : Value) (l2 : Value) (l3 : Value) (l4 : Value) (l5 : Value) (x y : Int32) (σ : Hs) : ru d 53 17 [l0, l1, l2, l3, l4, l5] [.int y, .int x] σ = if y ≤ x then ru d 53 49 [l0, l1, l2, l3, l4, l5] [] σ else ru d 53 20 [l0, l1, l2, l3, l4, l5] [] σ := q_ic_ge t53_17 (by decide +kernel)
theorem t53_20 : decode (mb 53) 20 = .ok (.iload 4, 2) := by decide +kernel
theorem s53_20 (d : Nat) (l0 : Value) (l1 : Value) (l2 : Value) (l3 : Value) (i4 : Int32) (l5 : Value) (σ : Hs) : ru d 53 20 [l0, l1, l2, l3, .int i4, l5] [] σ = ru d 53 22 [l0, l1, l2, l3, .int i4, l5] [.int i4] σ := q_iload t53_20 rfl
theorem t53_22 : decode (mb 53) 22 = .ok (.invokestatic 69, 3) := by decide +kernel
theorem s53_22 (d : Nat) (l0 : Value) (l1 : Value) (l2 : Value) (l3 : Value) (l4 : Value) (l5 : Value) (v0 : Value) (σ : Hs) : ru d 53 22 [l0, l1, l2, l3, l4, l5] [v0] σ = kont (callD d 106 [v0] σ) d 53 25 [l0, l1, l2, l3, l4, l5] [] := q_invs t53_22 mo53 (by decide +kernel) K5_69 mj106 (Nat.le_of_ble_eq_true rfl) rfl rfl (Nat.le_of_ble_eq_true rfl)
theorem t53_25 : decode (mb 53) 25 = .ok (.ifCond .eq 24, 3) := by decide +kernel
theorem s53_25 (d : Nat) (l0 : Value) (l1 : Value) (l2 : Value) (l3 : Value) (l4 : Value) (l5 : Value) (x : Int32) (σ : Hs) : ru d 53 25 [l0, l1, l2, l3, l4, l5] [.int x] σ = if x = 0 then ru d 53 49 [l0, l1, l2, l3, l4, l5] [] σ else ru d 53 28 [l0, l1, l2, l3, l4, l5] [] σ := q_if_eq t53_25 (by decide +kernel)
theorem t53_28 : decode (mb 53) 28 = .ok (.iload_n 3, 1) := by decide +kernel
theorem s53_28 (d : Nat) (l0 : Value) (l1 : Value) (l2 : Value) (i3 : Int32) (l4 : Value) (l5 : Value) (σ : Hs) : ru d 53 28 [l0, l1, l2, .int i3, l4, l5] [] σ = ru d 53 29 [l0, l1, l2, .int i3, l4, l5] [.int i3] σ := q_iload_n t53_28 rfl
theorem t53_29 : decode (mb 53) 29 = .ok (.iconst 1, 1) := by decide +kernel
theorem s53_29 (d : Nat) (l0 : Value) (l1 : Value) (l2 : Value) (l3 : Value) (l4 : Value) (l5 : Value) (w0 : Value) (σ : Hs) : ru d 53 29 [l0, l1, l2, l3, l4, l5] [w0] σ = ru d 53 30 [l0, l1, l2, l3, l4, l5] [.int 1, w0] σ := q_iconst t53_29 (by decide +kernel)
theorem t53_30 : decode (mb 53) 30 = .ok (.iload 4, 2) := by decide +kernel
theorem s53_30 (d : Nat) (l0 : Value) (l1 : Value) (l2 : Value) (l3 : Value) (i4 : Int32) (l5 : Value) (w0 w1 : Value) (σ : Hs) : ru d 53 30 [l0, l1, l2, l3, .int i4, l5] [w0, w1] σ = ru d 53 32 [l0, l1, l2, l3, .int i4, l5] [.int i4, w0, w1] σ := q_iload t53_30 rfl
theorem t53_32 : decode (mb 53) 32 = .ok (.ishl, 1) := by decide +kernel
theorem s53_32 (d : Nat) (l0 : Value) (l1 : Value) (l2 : Value) (l3 : Value) (l4 : Value) (l5 : Value) (x y : Int32) (w0 : Value) (σ : Hs) : ru d 53 32 [l0, l1, l2, l3, l4, l5] [.int y, .int x, w0] σ = ru d 53 33 [l0, l1, l2, l3, l4, l5] [.int (x <<< (y &&& 31)), w0] σ := q_ishl t53_32
theorem t53_33 : decode (mb 53) 33 = .ok (.ior, 1) := by decide +kernel
theorem s53_33 (d : Nat) (l0 : Value) (l1 : Value) (l2 : Value) (l3 : Value) (l4 : Value) (l5 : Value) (x y : Int32) (σ : Hs) : ru d 53 33 [l0, l1, l2, l3, l4, l5] [.int y, .int x] σ = ru d 53 34 [l0, l1, l2, l3, l4, l5] [.int (x ||| y)] σ := q_ior t53_33
theorem t53_34 : decode (mb 53) 34 = .ok (.istore_n 3, 1) := by decide +kernel
theorem s53_34 (d : Nat) (l0 : Value) (l1 : Value) (i2 : Int32) (l3 : Value) (l4 : Value) (l5 : Value) (x : Int32) (σ : Hs) : ru d 53 34 [l0, l1, .int i2, l3, l4, l5] [.int x] σ = ru d 53 35 [l0, l1, .int i2, .int x, l4, l5] [] σ := q_istore_n t53_34 ⟨Nat.le_of_ble_eq_true rfl, rfl⟩ rfl
theorem t53_35 : decode (mb 53) 35 = .ok (.iload 4, 2) := by decide +kernel
theorem s53_35 (d : Nat) (l0 : Value) (l1 : Value) (l2 : Value) (l3 : Value) (i4 : Int32) (l5 : Value) (σ : Hs) : ru d 53 35 [l0, l1, l2, l3, .int i4, l5] [] σ = ru d 53 37 [l0, l1, l2, l3, .int i4, l5] [.int i4] σ := q_iload t53_35 rfl
theorem t53_37 : decode (mb 53) 37 = .ok (.iload_n 2, 1) := by decide +kernel
theorem s53_37 (d : Nat) (l0 : Value) (l1 : Value) (i2 : Int32) (l3 : Value) (l4 : Value) (l5 : Value) (w0 : Value) (σ : Hs) : ru d 53 37 [l0, l1, .int i2, l3, l4, l5] [w0] σ = ru d 53 38 [l0, l1, .int i2, l3, l4, l5] [.int i2, w0] σ := q_iload_n t53_37 rfl
theorem t53_38 : decode (mb 53) 38 = .ok (.invokestatic 73, 3) := by decide +kernel
theorem s53_38 (d : Nat) (l0 : Value) (l1 : Value) (l2 : Value) (l3 : Value) (l4 : Value) (l5 : Value) (v0 v1 : Value) (σ : Hs) : ru d 53 38 [l0, l1, l2, l3, l4, l5] [v1, v0] σ = kont (callD d 110 [v0, v1] σ) d 53 41 [l0, l1, l2, l3, l4, l5] [] := q_invs t53_38 mo53 (by decide +kernel) K5_73 mj110 (Nat.le_of_ble_eq_true rfl) rfl rfl (Nat.le_of_ble_eq_true rfl)
theorem t53_41 : decode (mb 53) 41 = .ok (.istore 4, 2) := by decide +kernel
theorem s53_41 (d : Nat) (l0 : Value) (l1 : Value) (l2 : Value) (i3 : Int32) (l4 : Value) (l5 : Value) (x : Int32) (σ : Hs) : ru d 53 41 [l0, l1, l2, .int i3, l4, l5] [.int x] σ = ru d 53 43 [l0, l1, l2, .int i3, .int x, l5] [] σ := q_istore t53_41 ⟨Nat.le_of_ble_eq_true rfl, rfl⟩ rfl
theorem t53_43 : decode (mb 53) 43 = .ok (.iinc 5 1, 3) := by decide +kernel
theorem s53_43 (d : Nat) (l0 : Value) (l1 : Value) (l2 : Value) (l3 : Value) (i4 : Int32) (i5 : Int32) (σ : Hs) : ru d 53 43 [l0, l1, l2, l3, .int i4, .int i5] [] σ = ru d 53 46 [l0, l1, l2, l3, .int i4, .int (i5 + 1)] [] σ := q_iinc t53_43 ⟨Nat.le_of_ble_eq_true rfl, rfl⟩ rfl (by decide +kernel) rfl
theorem t53_46 : decode (mb 53) 46 = .ok (.goto (-32), 3) := by decide +kernel
theorem s53_46 (d : Nat) (l0 : Value) (l1 : Value) (l2 : Value) (l3 : Value) (l4 : Value) (l5 : Value) (σ : Hs) : ru d 53 46 [l0, l1, l2, l3, l4, l5] [] σ = ru d 53 14 [l0, l1, l2, l3, l4, l5] [] σ := q_goto t53_46 (by decide +kernel)
theorem t53_49 : decode (mb 53) 49 = .ok (.iload_n 3, 1) := by decide +kernel
theorem s53_49 (d : Nat) (l0 : Value) (l1 : Value) (l2 : Value) (i3 : Int32) (l4 : Value) (l5 : Value) (σ : Hs) : ru d 53 49 [l0, l1, l2, .int i3, l4, l5] [] σ = ru d 53 50 [l0, l1, l2, .int i3, l4, l5] [.int i3] σ := q_iload_n t53_49 rfl
theorem t53_50 : decode (mb 53) 50 = .ok (.ireturn, 1) := by decide +kernel
theorem s53_50 (d : Nat) (l0 : Value) (l1 : Value) (l2 : Value) (l3 : Value) (l4 : Value) (l5 : Value) (x : Int32) (σ : Hs) : ru d 53 50 [l0, l1, l2, l3, l4, l5] [.int x] σ = some (some (.int x), σ) := q_ireti t53_50 mr53
theorem c53 (d : Nat) (x0 : Int32) (x1 : Int32) (σ : Hs) : callD (d + 1) 53 [.int x0, .int x1] σ = ru d 53 0 [.int x0, .int x1, uu, uu, uu, uu] [] σ := callD_ru ml53 rfl rfl (Nat.le_of_ble_eq_true rfl)
-- 54: Voices.answerOf(IIIII)I
theorem t54_0 : decode (mb 54) 0 = .ok (.aload_n 0, 1) := by decide +kernel
theorem s54_0 (d : Nat) (a0 : Nat) (l1 : Value) (l2 : Value) (l3 : Value) (l4 : Value) (l5 : Value) (σ : Hs) : ru d 54 0 [.ref a0, l1, l2, l3, l4, l5] [] σ = ru d 54 1 [.ref a0, l1, l2, l3, l4, l5] [.ref a0] σ := q_aload_n t54_0 rfl
theorem t54_1 : decode (mb 54) 1 = .ok (.iload_n 1, 1) := by decide +kernel
theorem s54_1 (d : Nat) (l0 : Value) (i1 : Int32) (l2 : Value) (l3 : Value) (l4 : Value) (l5 : Value) (w0 : Value) (σ : Hs) : ru d 54 1 [l0, .int i1, l2, l3, l4, l5] [w0] σ = ru d 54 2 [l0, .int i1, l2, l3, l4, l5] [.int i1, w0] σ := q_iload_n t54_1 rfl
theorem t54_2 : decode (mb 54) 2 = .ok (.putfield 24, 3) := by decide +kernel
theorem s54_2_o73 (d : Nat) (l0 : Value) (l1 : Value) (l2 : Value) (l3 : Value) (l4 : Value) (l5 : Value) (x : Int32) (σ : Hs) : ru d 54 2 [l0, l1, l2, l3, l4, l5] [.int x, .ref 73] σ = ru d 54 5 [l0, l1, l2, l3, l4, l5] [] (up2 σ 73 2 x) := q_puti t54_2 mo54 F6_24 (by decide +kernel) rfl rfl
theorem t54_5 : decode (mb 54) 5 = .ok (.aload_n 0, 1) := by decide +kernel
theorem s54_5 (d : Nat) (a0 : Nat) (l1 : Value) (l2 : Value) (l3 : Value) (l4 : Value) (l5 : Value) (σ : Hs) : ru d 54 5 [.ref a0, l1, l2, l3, l4, l5] [] σ = ru d 54 6 [.ref a0, l1, l2, l3, l4, l5] [.ref a0] σ := q_aload_n t54_5 rfl
theorem t54_6 : decode (mb 54) 6 = .ok (.iload_n 2, 1) := by decide +kernel
theorem s54_6 (d : Nat) (l0 : Value) (l1 : Value) (i2 : Int32) (l3 : Value) (l4 : Value) (l5 : Value) (w0 : Value) (σ : Hs) : ru d 54 6 [l0, l1, .int i2, l3, l4, l5] [w0] σ = ru d 54 7 [l0, l1, .int i2, l3, l4, l5] [.int i2, w0] σ := q_iload_n t54_6 rfl
theorem t54_7 : decode (mb 54) 7 = .ok (.putfield 28, 3) := by decide +kernel
theorem s54_7_o73 (d : Nat) (l0 : Value) (l1 : Value) (l2 : Value) (l3 : Value) (l4 : Value) (l5 : Value) (x : Int32) (σ : Hs) : ru d 54 7 [l0, l1, l2, l3, l4, l5] [.int x, .ref 73] σ = ru d 54 10 [l0, l1, l2, l3, l4, l5] [] (up2 σ 73 3 x) := q_puti t54_7 mo54 F6_28 (by decide +kernel) rfl rfl
theorem t54_10 : decode (mb 54) 10 = .ok (.aload_n 0, 1) := by decide +kernel
theorem s54_10 (d : Nat) (a0 : Nat) (l1 : Value) (l2 : Value) (l3 : Value) (l4 : Value) (l5 : Value) (σ : Hs) : ru d 54 10 [.ref a0, l1, l2, l3, l4, l5] [] σ = ru d 54 11 [.ref a0, l1, l2, l3, l4, l5] [.ref a0] σ := q_aload_n t54_10 rfl
theorem t54_11 : decode (mb 54) 11 = .ok (.iload_n 3, 1) := by decide +kernel
theorem s54_11 (d : Nat) (l0 : Value) (l1 : Value) (l2 : Value) (i3 : Int32) (l4 : Value) (l5 : Value) (w0 : Value) (σ : Hs) : ru d 54 11 [l0, l1, l2, .int i3, l4, l5] [w0] σ = ru d 54 12 [l0, l1, l2, .int i3, l4, l5] [.int i3, w0] σ := q_iload_n t54_11 rfl
theorem t54_12 : decode (mb 54) 12 = .ok (.putfield 31, 3) := by decide +kernel
theorem s54_12_o73 (d : Nat) (l0 : Value) (l1 : Value) (l2 : Value) (l3 : Value) (l4 : Value) (l5 : Value) (x : Int32) (σ : Hs) : ru d 54 12 [l0, l1, l2, l3, l4, l5] [.int x, .ref 73] σ = ru d 54 15 [l0, l1, l2, l3, l4, l5] [] (up2 σ 73 4 x) := q_puti t54_12 mo54 F6_31 (by decide +kernel) rfl rfl
theorem t54_15 : decode (mb 54) 15 = .ok (.aload_n 0, 1) := by decide +kernel
theorem s54_15 (d : Nat) (a0 : Nat) (l1 : Value) (l2 : Value) (l3 : Value) (l4 : Value) (l5 : Value) (σ : Hs) : ru d 54 15 [.ref a0, l1, l2, l3, l4, l5] [] σ = ru d 54 16 [.ref a0, l1, l2, l3, l4, l5] [.ref a0] σ := q_aload_n t54_15 rfl
theorem t54_16 : decode (mb 54) 16 = .ok (.iconst 0, 1) := by decide +kernel
theorem s54_16 (d : Nat) (l0 : Value) (l1 : Value) (l2 : Value) (l3 : Value) (l4 : Value) (l5 : Value) (w0 : Value) (σ : Hs) : ru d 54 16 [l0, l1, l2, l3, l4, l5] [w0] σ = ru d 54 17 [l0, l1, l2, l3, l4, l5] [.int 0, w0] σ := q_iconst t54_16 (by decide +kernel)
theorem t54_17 : decode (mb 54) 17 = .ok (.putfield 20, 3) := by decide +kernel
theorem s54_17_o73 (d : Nat) (l0 : Value) (l1 : Value) (l2 : Value) (l3 : Value) (l4 : Value) (l5 : Value) (x : Int32) (hx : isB x) (σ : Hs) : ru d 54 17 [l0, l1, l2, l3, l4, l5] [.int x, .ref 73] σ = ru d 54 20 [l0, l1, l2, l3, l4, l5] [] (up2 σ 73 1 x) := q_putz t54_17 mo54 F6_20 (by decide +kernel) rfl rfl hx
theorem t54_20 : decode (mb 54) 20 = .ok (.aload_n 0, 1) := by decide +kernel
theorem s54_20 (d : Nat) (a0 : Nat) (l1 : Value) (l2 : Value) (l3 : Value) (l4 : Value) (l5 : Value) (σ : Hs) : ru d 54 20 [.ref a0, l1, l2, l3, l4, l5] [] σ = ru d 54 21 [.ref a0, l1, l2, l3, l4, l5] [.ref a0] σ := q_aload_n t54_20 rfl
theorem t54_21 : decode (mb 54) 21 = .ok (.getfield 14, 3) := by decide +kernel
theorem s54_21_o73 (d : Nat) (l0 : Value) (l1 : Value) (l2 : Value) (l3 : Value) (l4 : Value) (l5 : Value) (σ : Hs) : ru d 54 21 [l0, l1, l2, l3, l4, l5] [.ref 73] σ = ru d 54 24 [l0, l1, l2, l3, l4, l5] [.ref 74] σ := q_getf t54_21 mo54 F6_14 rfl rfl
theorem t54_24 : decode (mb 54) 24 = .ok (.iconst 0, 1) := by decide +kernel
theorem s54_24 (d : Nat) (l0 : Value) (l1 : Value) (l2 : Value) (l3 : Value) (l4 : Value) (l5 : Value) (w0 : Value) (σ : Hs) : ru d 54 24 [l0, l1, l2, l3, l4, l5] [w0] σ = ru d 54 25 [l0, l1, l2, l3, l4, l5] [.int 0, w0] σ := q_iconst t54_24 (by decide +kernel)
theorem t54_25 : decode (mb 54) 25 = .ok (.putfield 34, 3) := by decide +kernel
theorem s54_25_o74 (d : Nat) (l0 : Value) (l1 : Value) (l2 : Value) (l3 : Value) (l4 : Value) (l5 : Value) (x : Int32) (σ : Hs) : ru d 54 25 [l0, l1, l2, l3, l4, l5] [.int x, .ref 74] σ = ru d 54 28 [l0, l1, l2, l3, l4, l5] [] (up2 σ 74 1 x) := q_puti t54_25 mo54 F6_34 (by decide +kernel) rfl rfl
theorem t54_28 : decode (mb 54) 28 = .ok (.aload_n 0, 1) := by decide +kernel
theorem s54_28 (d : Nat) (a0 : Nat) (l1 : Value) (l2 : Value) (l3 : Value) (l4 : Value) (l5 : Value) (σ : Hs) : ru d 54 28 [.ref a0, l1, l2, l3, l4, l5] [] σ = ru d 54 29 [.ref a0, l1, l2, l3, l4, l5] [.ref a0] σ := q_aload_n t54_28 rfl
theorem t54_29 : decode (mb 54) 29 = .ok (.aload_n 0, 1) := by decide +kernel
theorem s54_29 (d : Nat) (a0 : Nat) (l1 : Value) (l2 : Value) (l3 : Value) (l4 : Value) (l5 : Value) (w0 : Value) (σ : Hs) : ru d 54 29 [.ref a0, l1, l2, l3, l4, l5] [w0] σ = ru d 54 30 [.ref a0, l1, l2, l3, l4, l5] [.ref a0, w0] σ := q_aload_n t54_29 rfl
theorem t54_30 : decode (mb 54) 30 = .ok (.getfield 24, 3) := by decide +kernel
theorem s54_30_o73 (d : Nat) (l0 : Value) (l1 : Value) (l2 : Value) (l3 : Value) (l4 : Value) (l5 : Value) (w0 : Value) (σ : Hs) : ru d 54 30 [l0, l1, l2, l3, l4, l5] [.ref 73, w0] σ = ru d 54 33 [l0, l1, l2, l3, l4, l5] [.int (σ 73 2), w0] σ := q_getf t54_30 mo54 F6_24 rfl rfl
theorem t54_33 : decode (mb 54) 33 = .ok (.iload 4, 2) := by decide +kernel
theorem s54_33 (d : Nat) (l0 : Value) (l1 : Value) (l2 : Value) (l3 : Value) (i4 : Int32) (l5 : Value) (w0 w1 : Value) (σ : Hs) : ru d 54 33 [l0, l1, l2, l3, .int i4, l5] [w0, w1] σ = ru d 54 35 [l0, l1, l2, l3, .int i4, l5] [.int i4, w0, w1] σ := q_iload t54_33 rfl
theorem t54_35 : decode (mb 54) 35 = .ok (.iload 5, 2) := by decide +kernel
theorem s54_35 (d : Nat) (l0 : Value) (l1 : Value) (l2 : Value) (l3 : Value) (l4 : Value) (i5 : Int32) (w0 w1 w2 : Value) (σ : Hs) : ru d 54 35 [l0, l1, l2, l3, l4, .int i5] [w0, w1, w2] σ = ru d 54 37 [l0, l1, l2, l3, l4, .int i5] [.int i5, w0, w1, w2] σ := q_iload t54_35 rfl
theorem t54_37 : decode (mb 54) 37 = .ok (.iconst 0, 1) := by decide +kernel
theorem s54_37 (d : Nat) (l0 : Value) (l1 : Value) (l2 : Value) (l3 : Value) (l4 : Value) (l5 : Value) (w0 w1 w2 w3 : Value) (σ : Hs) : ru d 54 37 [l0, l1, l2, l3, l4, l5] [w0, w1, w2, w3] σ = ru d 54 38 [l0, l1, l2, l3, l4, l5] [.int 0, w0, w1, w2, w3] σ := q_iconst t54_37 (by decide +kernel)
theorem t54_38 : decode (mb 54) 38 = .ok (.invokevirtual 37, 3) := by decide +kernel
theorem s54_38_o73 (d : Nat) (l0 : Value) (l1 : Value) (l2 : Value) (l3 : Value) (l4 : Value) (l5 : Value) (v1 v2 v3 v4 : Value) (σ : Hs) : ru d 54 38 [l0, l1, l2, l3, l4, l5] [v4, v3, v2, v1, .ref 73] σ = kont (callD d 55 [.ref 73, v1, v2, v3, v4] σ) d 54 41 [l0, l1, l2, l3, l4, l5] [] := q_invv t54_38 mo54 K6_37 mj55 rfl rfl rfl rfl (Nat.le_of_ble_eq_true rfl)
theorem t54_41 : decode (mb 54) 41 = .ok (.ireturn, 1) := by decide +kernel
theorem s54_41 (d : Nat) (l0 : Value) (l1 : Value) (l2 : Value) (l3 : Value) (l4 : Value) (l5 : Value) (x : Int32) (σ : Hs) : ru d 54 41 [l0, l1, l2, l3, l4, l5] [.int x] σ = some (some (.int x), σ) := q_ireti t54_41 mr54
theorem c54 (d : Nat) (x0 : Nat) (x1 : Int32) (x2 : Int32) (x3 : Int32) (x4 : Int32) (x5 : Int32) (σ : Hs) : callD (d + 1) 54 [.ref x0, .int x1, .int x2, .int x3, .int x4, .int x5] σ = ru d 54 0 [.ref x0, .int x1, .int x2, .int x3, .int x4, .int x5] [] σ := callD_ru ml54 rfl rfl (Nat.le_of_ble_eq_true rfl)
-- 55: Voices.speak(IIII)I
theorem t55_0 : decode (mb 55) 0 = .ok (.iload_n 1, 1) := by decide +kernel
theorem s55_0 (d : Nat) (l0 : Value) (i1 : Int32) (l2 : Value) (l3 : Value) (l4 : Value) (l5 : Value) (l6 : Value) (l7 : Value) (l8 : Value) (σ : Hs) : ru d 55 0 [l0, .int i1, l2, l3, l4, l5, l6, l7, l8] [] σ = ru d 55 1 [l0, .int i1, l2, l3, l4, l5, l6, l7, l8] [.int i1] σ := q_iload_n t55_0 rfl
theorem t55_1 : decode (mb 55) 1 = .ok (.iload_n 2, 1) := by decide +kernel
theorem s55_1 (d : Nat) (l0 : Value) (l1 : Value) (i2 : Int32) (l3 : Value) (l4 : Value) (l5 : Value) (l6 : Value) (l7 : Value) (l8 : Value) (w0 : Value) (σ : Hs) : ru d 55 1 [l0, l1, .int i2, l3, l4, l5, l6, l7, l8] [w0] σ = ru d 55 2 [l0, l1, .int i2, l3, l4, l5, l6, l7, l8] [.int i2, w0] σ := q_iload_n t55_1 rfl
theorem t55_2 : decode (mb 55) 2 = .ok (.invokestatic 41, 3) := by decide +kernel
theorem s55_2 (d : Nat) (l0 : Value) (l1 : Value) (l2 : Value) (l3 : Value) (l4 : Value) (l5 : Value) (l6 : Value) (l7 : Value) (l8 : Value) (v0 v1 : Value) (σ : Hs) : ru d 55 2 [l0, l1, l2, l3, l4, l5, l6, l7, l8] [v1, v0] σ = kont (callD d 57 [v0, v1] σ) d 55 5 [l0, l1, l2, l3, l4, l5, l6, l7, l8] [] := q_invs t55_2 mo55 (by decide +kernel) K6_41 mj57 (Nat.le_of_ble_eq_true rfl) rfl rfl (Nat.le_of_ble_eq_true rfl)
theorem t55_5 : decode (mb 55) 5 = .ok (.istore 5, 2) := by decide +kernel
theorem s55_5 (d : Nat) (l0 : Value) (l1 : Value) (l2 : Value) (l3 : Value) (i4 : Int32) (l5 : Value) (l6 : Value) (l7 : Value) (l8 : Value) (x : Int32) (σ : Hs) : ru d 55 5 [l0, l1, l2, l3, .int i4, l5, l6, l7, l8] [.int x] σ = ru d 55 7 [l0, l1, l2, l3, .int i4, .int x, l6, l7, l8] [] σ := q_istore t55_5 ⟨Nat.le_of_ble_eq_true rfl, rfl⟩ rfl
theorem t55_7 : decode (mb 55) 7 = .ok (.aload_n 0, 1) := by decide +kernel
theorem s55_7 (d : Nat) (a0 : Nat) (l1 : Value) (l2 : Value) (l3 : Value) (l4 : Value) (l5 : Value) (l6 : Value) (l7 : Value) (l8 : Value) (σ : Hs) : ru d 55 7 [.ref a0, l1, l2, l3, l4, l5, l6, l7, l8] [] σ = ru d 55 8 [.ref a0, l1, l2, l3, l4, l5, l6, l7, l8] [.ref a0] σ := q_aload_n t55_7 rfl
theorem t55_8 : decode (mb 55) 8 = .ok (.getfield 20, 3) := by decide +kernel
theorem s55_8_o73 (d : Nat) (l0 : Value) (l1 : Value) (l2 : Value) (l3 : Value) (l4 : Value) (l5 : Value) (l6 : Value) (l7 : Value) (l8 : Value) (σ : Hs) : ru d 55 8 [l0, l1, l2, l3, l4, l5, l6, l7, l8] [.ref 73] σ = ru d 55 11 [l0, l1, l2, l3, l4, l5, l6, l7, l8] [.int (σ 73 1)] σ := q_getf t55_8 mo55 F6_20 rfl rfl
theorem t55_11 : decode (mb 55) 11 = .ok (.ifCond .ne 16, 3) := by decide +kernel
theorem s55_11 (d : Nat) (l0 : Value) (l1 : Value) (l2 : Value) (l3 : Value) (l4 : Value) (l5 : Value) (l6 : Value) (l7 : Value) (l8 : Value) (x : Int32) (σ : Hs) : ru d 55 11 [l0, l1, l2, l3, l4, l5, l6, l7, l8] [.int x] σ = if x = 0 then ru d 55 14 [l0, l1, l2, l3, l4, l5, l6, l7, l8] [] σ else ru d 55 27 [l0, l1, l2, l3, l4, l5, l6, l7, l8] [] σ := q_if_ne t55_11 (by decide +kernel)
theorem t55_14 : decode (mb 55) 14 = .ok (.iload 4, 2) := by decide +kernel
theorem s55_14 (d : Nat) (l0 : Value) (l1 : Value) (l2 : Value) (l3 : Value) (i4 : Int32) (l5 : Value) (l6 : Value) (l7 : Value) (l8 : Value) (σ : Hs) : ru d 55 14 [l0, l1, l2, l3, .int i4, l5, l6, l7, l8] [] σ = ru d 55 16 [l0, l1, l2, l3, .int i4, l5, l6, l7, l8] [.int i4] σ := q_iload t55_14 rfl
theorem t55_16 : decode (mb 55) 16 = .ok (.bipush 40, 2) := by decide +kernel
theorem s55_16 (d : Nat) (l0 : Value) (l1 : Value) (l2 : Value) (l3 : Value) (l4 : Value) (l5 : Value) (l6 : Value) (l7 : Value) (l8 : Value) (w0 : Value) (σ : Hs) : ru d 55 16 [l0, l1, l2, l3, l4, l5, l6, l7, l8] [w0] σ = ru d 55 18 [l0, l1, l2, l3, l4, l5, l6, l7, l8] [.int 40, w0] σ := q_bipush t55_16 (by decide +kernel)
theorem t55_18 : decode (mb 55) 18 = .ok (.if_icmp .gt 9, 3) := by decide +kernel
theorem s55_18 (d : Nat) (l0 : Value) (l1 : Value) (l2 : Value) (l3 : Value) (l4 : Value) (l5 : Value) (l6 : Value) (l7 : Value) (l8 : Value) (x y : Int32) (σ : Hs) : ru d 55 18 [l0, l1, l2, l3, l4, l5, l6, l7, l8] [.int y, .int x] σ = if y < x then ru d 55 27 [l0, l1, l2, l3, l4, l5, l6, l7, l8] [] σ else ru d 55 21 [l0, l1, l2, l3, l4, l5, l6, l7, l8] [] σ := q_ic_gt t55_18 (by decide +kernel)
theorem t55_21 : decode (mb 55) 21 = .ok (.iload 5, 2) := by decide +kernel
theorem s55_21 (d : Nat) (l0 : Value) (l1 : Value) (l2 : Value) (l3 : Value) (l4 : Value) (i5 : Int32) (l6 : Value) (l7 : Value) (l8 : Value) (σ : Hs) : ru d 55 21 [l0, l1, l2, l3, l4, .int i5, l6, l7, l8] [] σ = ru d 55 23 [l0, l1, l2, l3, l4, .int i5, l6, l7, l8] [.int i5] σ := q_iload t55_21 rfl
theorem t55_23 : decode (mb 55) 23 = .ok (.iconst (-1), 1) := by decide +kernel
theorem s55_23 (d : Nat) (l0 : Value) (l1 : Value) (l2 : Value) (l3 : Value) (l4 : Value) (l5 : Value) (l6 : Value) (l7 : Value) (l8 : Value) (w0 : Value) (σ : Hs) : ru d 55 23 [l0, l1, l2, l3, l4, l5, l6, l7, l8] [w0] σ = ru d 55 24 [l0, l1, l2, l3, l4, l5, l6, l7, l8] [.int (-1), w0] σ := q_iconst t55_23 (by decide +kernel)
theorem t55_24 : decode (mb 55) 24 = .ok (.if_icmp .ne 5, 3) := by decide +kernel
theorem s55_24 (d : Nat) (l0 : Value) (l1 : Value) (l2 : Value) (l3 : Value) (l4 : Value) (l5 : Value) (l6 : Value) (l7 : Value) (l8 : Value) (x y : Int32) (σ : Hs) : ru d 55 24 [l0, l1, l2, l3, l4, l5, l6, l7, l8] [.int y, .int x] σ = if x = y then ru d 55 27 [l0, l1, l2, l3, l4, l5, l6, l7, l8] [] σ else ru d 55 29 [l0, l1, l2, l3, l4, l5, l6, l7, l8] [] σ := q_ic_ne t55_24 (by decide +kernel)
theorem t55_27 : decode (mb 55) 27 = .ok (.iconst 0, 1) := by decide +kernel
theorem s55_27 (d : Nat) (l0 : Value) (l1 : Value) (l2 : Value) (l3 : Value) (l4 : Value) (l5 : Value) (l6 : Value) (l7 : Value) (l8 : Value) (σ : Hs) : ru d 55 27 [l0, l1, l2, l3, l4, l5, l6, l7, l8] [] σ = ru d 55 28 [l0, l1, l2, l3, l4, l5, l6, l7, l8] [.int 0] σ := q_iconst t55_27 (by decide +kernel)
theorem t55_28 : decode (mb 55) 28 = .ok (.ireturn, 1) := by decide +kernel
theorem s55_28 (d : Nat) (l0 : Value) (l1 : Value) (l2 : Value) (l3 : Value) (l4 : Value) (l5 : Value) (l6 : Value) (l7 : Value) (l8 : Value) (x : Int32) (σ : Hs) : ru d 55 28 [l0, l1, l2, l3, l4, l5, l6, l7, l8] [.int x] σ = some (some (.int x), σ) := q_ireti t55_28 mr55
theorem t55_29 : decode (mb 55) 29 = .ok (.getstatic 45, 3) := by decide +kernel
theorem s55_29 (d : Nat) (l0 : Value) (l1 : Value) (l2 : Value) (l3 : Value) (l4 : Value) (l5 : Value) (l6 : Value) (l7 : Value) (l8 : Value) (σ : Hs) : ru d 55 29 [l0, l1, l2, l3, l4, l5, l6, l7, l8] [] σ = ru d 55 32 [l0, l1, l2, l3, l4, l5, l6, l7, l8] [.ref 104] σ := q_gets t55_29 mo55 S6_45 rfl
theorem t55_32 : decode (mb 55) 32 = .ok (.iload 5, 2) := by decide +kernel
theorem s55_32 (d : Nat) (l0 : Value) (l1 : Value) (l2 : Value) (l3 : Value) (l4 : Value) (i5 : Int32) (l6 : Value) (l7 : Value) (l8 : Value) (w0 : Value) (σ : Hs) : ru d 55 32 [l0, l1, l2, l3, l4, .int i5, l6, l7, l8] [w0] σ = ru d 55 34 [l0, l1, l2, l3, l4, .int i5, l6, l7, l8] [.int i5, w0] σ := q_iload t55_32 rfl
theorem t55_34 : decode (mb 55) 34 = .ok (.iaload, 1) := by decide +kernel
theorem s55_34_o104 (d : Nat) (l0 : Value) (l1 : Value) (l2 : Value) (l3 : Value) (l4 : Value) (l5 : Value) (l6 : Value) (l7 : Value) (l8 : Value) (i : Int32) (σ : Hs) : ru d 55 34 [l0, l1, l2, l3, l4, l5, l6, l7, l8] [.int i, .ref 104] σ = gd (vp_in i 7) (ru d 55 35 [l0, l1, l2, l3, l4, l5, l6, l7, l8] [.int (([(-1), 0, 0, 1, 2, 0, 5] : List Int32).getD i.toNatClampNeg 0)] σ) := q_ials t55_34 rfl (by decide +kernel) rfl rfl
theorem t55_35 : decode (mb 55) 35 = .ok (.istore 6, 2) := by decide +kernel
theorem s55_35 (d : Nat) (l0 : Value) (l1 : Value) (l2 : Value) (l3 : Value) (l4 : Value) (i5 : Int32) (l6 : Value) (l7 : Value) (l8 : Value) (x : Int32) (σ : Hs) : ru d 55 35 [l0, l1, l2, l3, l4, .int i5, l6, l7, l8] [.int x] σ = ru d 55 37 [l0, l1, l2, l3, l4, .int i5, .int x, l7, l8] [] σ := q_istore t55_35 ⟨Nat.le_of_ble_eq_true rfl, rfl⟩ rfl
theorem t55_37 : decode (mb 55) 37 = .ok (.iload 4, 2) := by decide +kernel
theorem s55_37 (d : Nat) (l0 : Value) (l1 : Value) (l2 : Value) (l3 : Value) (i4 : Int32) (l5 : Value) (l6 : Value) (l7 : Value) (l8 : Value) (σ : Hs) : ru d 55 37 [l0, l1, l2, l3, .int i4, l5, l6, l7, l8] [] σ = ru d 55 39 [l0, l1, l2, l3, .int i4, l5, l6, l7, l8] [.int i4] σ := q_iload t55_37 rfl
theorem t55_39 : decode (mb 55) 39 = .ok (.iconst 1, 1) := by decide +kernel
theorem s55_39 (d : Nat) (l0 : Value) (l1 : Value) (l2 : Value) (l3 : Value) (l4 : Value) (l5 : Value) (l6 : Value) (l7 : Value) (l8 : Value) (w0 : Value) (σ : Hs) : ru d 55 39 [l0, l1, l2, l3, l4, l5, l6, l7, l8] [w0] σ = ru d 55 40 [l0, l1, l2, l3, l4, l5, l6, l7, l8] [.int 1, w0] σ := q_iconst t55_39 (by decide +kernel)
theorem t55_40 : decode (mb 55) 40 = .ok (.iadd, 1) := by decide +kernel
theorem s55_40 (d : Nat) (l0 : Value) (l1 : Value) (l2 : Value) (l3 : Value) (l4 : Value) (l5 : Value) (l6 : Value) (l7 : Value) (l8 : Value) (x y : Int32) (σ : Hs) : ru d 55 40 [l0, l1, l2, l3, l4, l5, l6, l7, l8] [.int y, .int x] σ = ru d 55 41 [l0, l1, l2, l3, l4, l5, l6, l7, l8] [.int (x + y)] σ := q_iadd t55_40
theorem t55_41 : decode (mb 55) 41 = .ok (.istore 7, 2) := by decide +kernel
theorem s55_41 (d : Nat) (l0 : Value) (l1 : Value) (l2 : Value) (l3 : Value) (l4 : Value) (l5 : Value) (i6 : Int32) (l7 : Value) (l8 : Value) (x : Int32) (σ : Hs) : ru d 55 41 [l0, l1, l2, l3, l4, l5, .int i6, l7, l8] [.int x] σ = ru d 55 43 [l0, l1, l2, l3, l4, l5, .int i6, .int x, l8] [] σ := q_istore t55_41 ⟨Nat.le_of_ble_eq_true rfl, rfl⟩ rfl
theorem t55_43 : decode (mb 55) 43 = .ok (.getstatic 49, 3) := by decide +kernel
theorem s55_43 (d : Nat) (l0 : Value) (l1 : Value) (l2 : Value) (l3 : Value) (l4 : Value) (l5 : Value) (l6 : Value) (l7 : Value) (l8 : Value) (σ : Hs) : ru d 55 43 [l0, l1, l2, l3, l4, l5, l6, l7, l8] [] σ = ru d 55 46 [l0, l1, l2, l3, l4, l5, l6, l7, l8] [.ref 108] σ := q_gets t55_43 mo55 S6_49 rfl
theorem t55_46 : decode (mb 55) 46 = .ok (.iconst 4, 1) := by decide +kernel
theorem s55_46 (d : Nat) (l0 : Value) (l1 : Value) (l2 : Value) (l3 : Value) (l4 : Value) (l5 : Value) (l6 : Value) (l7 : Value) (l8 : Value) (w0 : Value) (σ : Hs) : ru d 55 46 [l0, l1, l2, l3, l4, l5, l6, l7, l8] [w0] σ = ru d 55 47 [l0, l1, l2, l3, l4, l5, l6, l7, l8] [.int 4, w0] σ := q_iconst t55_46 (by decide +kernel)
theorem t55_47 : decode (mb 55) 47 = .ok (.iload 5, 2) := by decide +kernel
theorem s55_47 (d : Nat) (l0 : Value) (l1 : Value) (l2 : Value) (l3 : Value) (l4 : Value) (i5 : Int32) (l6 : Value) (l7 : Value) (l8 : Value) (w0 w1 : Value) (σ : Hs) : ru d 55 47 [l0, l1, l2, l3, l4, .int i5, l6, l7, l8] [w0, w1] σ = ru d 55 49 [l0, l1, l2, l3, l4, .int i5, l6, l7, l8] [.int i5, w0, w1] σ := q_iload t55_47 rfl
theorem t55_49 : decode (mb 55) 49 = .ok (.imul, 1) := by decide +kernel
theorem s55_49 (d : Nat) (l0 : Value) (l1 : Value) (l2 : Value) (l3 : Value) (l4 : Value) (l5 : Value) (l6 : Value) (l7 : Value) (l8 : Value) (x y : Int32) (w0 : Value) (σ : Hs) : ru d 55 49 [l0, l1, l2, l3, l4, l5, l6, l7, l8] [.int y, .int x, w0] σ = ru d 55 50 [l0, l1, l2, l3, l4, l5, l6, l7, l8] [.int (x * y), w0] σ := q_imul t55_49
theorem t55_50 : decode (mb 55) 50 = .ok (.iload_n 2, 1) := by decide +kernel
theorem s55_50 (d : Nat) (l0 : Value) (l1 : Value) (i2 : Int32) (l3 : Value) (l4 : Value) (l5 : Value) (l6 : Value) (l7 : Value) (l8 : Value) (w0 w1 : Value) (σ : Hs) : ru d 55 50 [l0, l1, .int i2, l3, l4, l5, l6, l7, l8] [w0, w1] σ = ru d 55 51 [l0, l1, .int i2, l3, l4, l5, l6, l7, l8] [.int i2, w0, w1] σ := q_iload_n t55_50 rfl
theorem t55_51 : decode (mb 55) 51 = .ok (.iadd, 1) := by decide +kernel
theorem s55_51 (d : Nat) (l0 : Value) (l1 : Value) (l2 : Value) (l3 : Value) (l4 : Value) (l5 : Value) (l6 : Value) (l7 : Value) (l8 : Value) (x y : Int32) (w0 : Value) (σ : Hs) : ru d 55 51 [l0, l1, l2, l3, l4, l5, l6, l7, l8] [.int y, .int x, w0] σ = ru d 55 52 [l0, l1, l2, l3, l4, l5, l6, l7, l8] [.int (x + y), w0] σ := q_iadd t55_51
theorem t55_52 : decode (mb 55) 52 = .ok (.iaload, 1) := by decide +kernel
theorem s55_52_o108 (d : Nat) (l0 : Value) (l1 : Value) (l2 : Value) (l3 : Value) (l4 : Value) (l5 : Value) (l6 : Value) (l7 : Value) (l8 : Value) (i : Int32) (σ : Hs) : ru d 55 52 [l0, l1, l2, l3, l4, l5, l6, l7, l8] [.int i, .ref 108] σ = gd (vp_in i 28) (ru d 55 53 [l0, l1, l2, l3, l4, l5, l6, l7, l8] [.int (([10, 11, 12, 13, 20, 0, 0, 21, 0, 0, 30, 0, 40, 41, 0, 0, 0, 0, 50, 51, 0, 60, 0, 0, 70, 0, 71, 0] : List Int32).getD i.toNatClampNeg 0)] σ) := q_ials t55_52 rfl (by decide +kernel) rfl rfl
theorem t55_53 : decode (mb 55) 53 = .ok (.istore 8, 2) := by decide +kernel
theorem s55_53 (d : Nat) (l0 : Value) (l1 : Value) (l2 : Value) (l3 : Value) (l4 : Value) (l5 : Value) (l6 : Value) (i7 : Int32) (l8 : Value) (x : Int32) (σ : Hs) : ru d 55 53 [l0, l1, l2, l3, l4, l5, l6, .int i7, l8] [.int x] σ = ru d 55 55 [l0, l1, l2, l3, l4, l5, l6, .int i7, .int x] [] σ := q_istore t55_53 ⟨Nat.le_of_ble_eq_true rfl, rfl⟩ rfl
theorem t55_55 : decode (mb 55) 55 = .ok (.aload_n 0, 1) := by decide +kernel
theorem s55_55 (d : Nat) (a0 : Nat) (l1 : Value) (l2 : Value) (l3 : Value) (l4 : Value) (l5 : Value) (l6 : Value) (l7 : Value) (l8 : Value) (σ : Hs) : ru d 55 55 [.ref a0, l1, l2, l3, l4, l5, l6, l7, l8] [] σ = ru d 55 56 [.ref a0, l1, l2, l3, l4, l5, l6, l7, l8] [.ref a0] σ := q_aload_n t55_55 rfl
theorem t55_56 : decode (mb 55) 56 = .ok (.getfield 14, 3) := by decide +kernel
theorem s55_56_o73 (d : Nat) (l0 : Value) (l1 : Value) (l2 : Value) (l3 : Value) (l4 : Value) (l5 : Value) (l6 : Value) (l7 : Value) (l8 : Value) (σ : Hs) : ru d 55 56 [l0, l1, l2, l3, l4, l5, l6, l7, l8] [.ref 73] σ = ru d 55 59 [l0, l1, l2, l3, l4, l5, l6, l7, l8] [.ref 74] σ := q_getf t55_56 mo55 F6_14 rfl rfl
theorem t55_59 : decode (mb 55) 59 = .ok (.iload 8, 2) := by decide +kernel
theorem s55_59 (d : Nat) (l0 : Value) (l1 : Value) (l2 : Value) (l3 : Value) (l4 : Value) (l5 : Value) (l6 : Value) (l7 : Value) (i8 : Int32) (w0 : Value) (σ : Hs) : ru d 55 59 [l0, l1, l2, l3, l4, l5, l6, l7, .int i8] [w0] σ = ru d 55 61 [l0, l1, l2, l3, l4, l5, l6, l7, .int i8] [.int i8, w0] σ := q_iload t55_59 rfl
theorem t55_61 : decode (mb 55) 61 = .ok (.invokevirtual 52, 3) := by decide +kernel
theorem s55_61_o74 (d : Nat) (l0 : Value) (l1 : Value) (l2 : Value) (l3 : Value) (l4 : Value) (l5 : Value) (l6 : Value) (l7 : Value) (l8 : Value) (v1 : Value) (σ : Hs) : ru d 55 61 [l0, l1, l2, l3, l4, l5, l6, l7, l8] [v1, .ref 74] σ = kont (callD d 44 [.ref 74, v1] σ) d 55 64 [l0, l1, l2, l3, l4, l5, l6, l7, l8] [] := q_invv t55_61 mo55 K6_52 mj44 rfl rfl rfl rfl (Nat.le_of_ble_eq_true rfl)
theorem t55_64 : decode (mb 55) 64 = .ok (.pop, 1) := by decide +kernel
theorem s55_64 (d : Nat) (l0 : Value) (l1 : Value) (l2 : Value) (l3 : Value) (l4 : Value) (l5 : Value) (l6 : Value) (l7 : Value) (l8 : Value) (x : Int32) (σ : Hs) : ru d 55 64 [l0, l1, l2, l3, l4, l5, l6, l7, l8] [.int x] σ = ru d 55 65 [l0, l1, l2, l3, l4, l5, l6, l7, l8] [] σ := q_pop t55_64 rfl
theorem t55_65 : decode (mb 55) 65 = .ok (.iload 8, 2) := by decide +kernel
theorem s55_65 (d : Nat) (l0 : Value) (l1 : Value) (l2 : Value) (l3 : Value) (l4 : Value) (l5 : Value) (l6 : Value) (l7 : Value) (i8 : Int32) (σ : Hs) : ru d 55 65 [l0, l1, l2, l3, l4, l5, l6, l7, .int i8] [] σ = ru d 55 67 [l0, l1, l2, l3, l4, l5, l6, l7, .int i8] [.int i8] σ := q_iload t55_65 rfl
theorem t55_67 : decode (mb 55) 67 = .ok (.lookupswitch 294 #[(10, 113), (11, 120), (12, 135), (13, 153), (20, 159), (21, 173), (30, 197), (40, 213), (41, 226), (50, 239), (51, 252), (60, 276), (70, 292)], 113) := by decide +kernel
theorem f55_67 (x : Int32) : tgt 67 (Op.lookupswitch.offset (#[(10, 113), (11, 120), (12, 135), (13, 153), (20, 159), (21, 173), (30, 197), (40, 213), (41, 226), (50, 239), (51, 252), (60, 276), (70, 292)] : Array (Int × Int)).toList 294 x.toInt) = some (if x = 10 then 180 else (if x = 11 then 187 else (if x = 12 then 202 else (if x = 13 then 220 else (if x = 20 then 226 else (if x = 21 then 240 else (if x = 30 then 264 else (if x = 40 then 280 else (if x = 41 then 293 else (if x = 50 then 306 else (if x = 51 then 319 else (if x = 60 then 343 else (if x = 70 then 359 else 361))))))))))))) := by
  by_cases h0 : x = 10
  · subst h0; decide +kernel
  by_cases h1 : x = 11
  · subst h1; decide +kernel
  by_cases h2 : x = 12
  · subst h2; decide +kernel
  by_cases h3 : x = 13
  · subst h3; decide +kernel
  by_cases h4 : x = 20
  · subst h4; decide +kernel
  by_cases h5 : x = 21
  · subst h5; decide +kernel
  by_cases h6 : x = 30
  · subst h6; decide +kernel
  by_cases h7 : x = 40
  · subst h7; decide +kernel
  by_cases h8 : x = 41
  · subst h8; decide +kernel
  by_cases h9 : x = 50
  · subst h9; decide +kernel
  by_cases h10 : x = 51
  · subst h10; decide +kernel
  by_cases h11 : x = 60
  · subst h11; decide +kernel
  by_cases h12 : x = 70
  · subst h12; decide +kernel
  have e0 : ¬ x.toInt = 10 := fun h => h0 (Int32.toInt_inj.mp (h.trans (by decide +kernel)))
  have e1 : ¬ x.toInt = 11 := fun h => h1 (Int32.toInt_inj.mp (h.trans (by decide +kernel)))
  have e2 : ¬ x.toInt = 12 := fun h => h2 (Int32.toInt_inj.mp (h.trans (by decide +kernel)))
  have e3 : ¬ x.toInt = 13 := fun h => h3 (Int32.toInt_inj.mp (h.trans (by decide +kernel)))
  have e4 : ¬ x.toInt = 20 := fun h => h4 (Int32.toInt_inj.mp (h.trans (by decide +kernel)))
  have e5 : ¬ x.toInt = 21 := fun h => h5 (Int32.toInt_inj.mp (h.trans (by decide +kernel)))
  have e6 : ¬ x.toInt = 30 := fun h => h6 (Int32.toInt_inj.mp (h.trans (by decide +kernel)))
  have e7 : ¬ x.toInt = 40 := fun h => h7 (Int32.toInt_inj.mp (h.trans (by decide +kernel)))
  have e8 : ¬ x.toInt = 41 := fun h => h8 (Int32.toInt_inj.mp (h.trans (by decide +kernel)))
  have e9 : ¬ x.toInt = 50 := fun h => h9 (Int32.toInt_inj.mp (h.trans (by decide +kernel)))
  have e10 : ¬ x.toInt = 51 := fun h => h10 (Int32.toInt_inj.mp (h.trans (by decide +kernel)))
  have e11 : ¬ x.toInt = 60 := fun h => h11 (Int32.toInt_inj.mp (h.trans (by decide +kernel)))
  have e12 : ¬ x.toInt = 70 := fun h => h12 (Int32.toInt_inj.mp (h.trans (by decide +kernel)))
  have g0 : ¬ (10 : Int) = x.toInt := fun h => e0 h.symm
  have g1 : ¬ (11 : Int) = x.toInt := fun h => e1 h.symm
  have g2 : ¬ (12 : Int) = x.toInt := fun h => e2 h.symm
  have g3 : ¬ (13 : Int) = x.toInt := fun h => e3 h.symm
  have g4 : ¬ (20 : Int) = x.toInt := fun h => e4 h.symm
  have g5 : ¬ (21 : Int) = x.toInt := fun h => e5 h.symm
  have g6 : ¬ (30 : Int) = x.toInt := fun h => e6 h.symm
  have g7 : ¬ (40 : Int) = x.toInt := fun h => e7 h.symm
  have g8 : ¬ (41 : Int) = x.toInt := fun h => e8 h.symm
  have g9 : ¬ (50 : Int) = x.toInt := fun h => e9 h.symm
  have g10 : ¬ (51 : Int) = x.toInt := fun h => e10 h.symm
  have g11 : ¬ (60 : Int) = x.toInt := fun h => e11 h.symm
  have g12 : ¬ (70 : Int) = x.toInt := fun h => e12 h.symm
  simp only [Op.lookupswitch.offset_cons, Op.lookupswitch.offset_nil, if_neg g0, if_neg h0, if_neg g1, if_neg h1, if_neg g2, if_neg h2, if_neg g3, if_neg h3, if_neg g4, if_neg h4, if_neg g5, if_neg h5, if_neg g6, if_neg h6, if_neg g7, if_neg h7, if_neg g8, if_neg h8, if_neg g9, if_neg h9, if_neg g10, if_neg h10, if_neg g11, if_neg h11, if_neg g12, if_neg h12]
  decide +kernel
theorem s55_67 (d : Nat) (l0 : Value) (l1 : Value) (l2 : Value) (l3 : Value) (l4 : Value) (l5 : Value) (l6 : Value) (l7 : Value) (l8 : Value) (x : Int32) (σ : Hs) : ru d 55 67 [l0, l1, l2, l3, l4, l5, l6, l7, l8] [.int x] σ = if x = 10 then ru d 55 180 [l0, l1, l2, l3, l4, l5, l6, l7, l8] [] σ else if x = 11 then ru d 55 187 [l0, l1, l2, l3, l4, l5, l6, l7, l8] [] σ else if x = 12 then ru d 55 202 [l0, l1, l2, l3, l4, l5, l6, l7, l8] [] σ else if x = 13 then ru d 55 220 [l0, l1, l2, l3, l4, l5, l6, l7, l8] [] σ else if x = 20 then ru d 55 226 [l0, l1, l2, l3, l4, l5, l6, l7, l8] [] σ else if x = 21 then ru d 55 240 [l0, l1, l2, l3, l4, l5, l6, l7, l8] [] σ else if x = 30 then ru d 55 264 [l0, l1, l2, l3, l4, l5, l6, l7, l8] [] σ else if x = 40 then ru d 55 280 [l0, l1, l2, l3, l4, l5, l6, l7, l8] [] σ else if x = 41 then ru d 55 293 [l0, l1, l2, l3, l4, l5, l6, l7, l8] [] σ else if x = 50 then ru d 55 306 [l0, l1, l2, l3, l4, l5, l6, l7, l8] [] σ else if x = 51 then ru d 55 319 [l0, l1, l2, l3, l4, l5, l6, l7, l8] [] σ else if x = 60 then ru d 55 343 [l0, l1, l2, l3, l4, l5, l6, l7, l8] [] σ else if x = 70 then ru d 55 359 [l0, l1, l2, l3, l4, l5, l6, l7, l8] [] σ else ru d 55 361 [l0, l1, l2, l3, l4, l5, l6, l7, l8] [] σ := by
  refine (q_lsw t55_67 (by decide +kernel) (fun x => (if x = 10 then 180 else (if x = 11 then 187 else (if x = 12 then 202 else (if x = 13 then 220 else (if x = 20 then 226 else (if x = 21 then 240 else (if x = 30 then 264 else (if x = 40 then 280 else (if x = 41 then 293 else (if x = 50 then 306 else (if x = 51 then 319 else (if x = 60 then 343 else (if x = 70 then 359 else 361)))))))))))))) (f55_67 x)).trans ?_
  by_cases h0 : x = 10
  · rw [if_pos h0, if_pos h0]
  rw [if_neg h0, if_neg h0]
  by_cases h1 : x = 11
  · rw [if_pos h1, if_pos h1]
  rw [if_neg h1, if_neg h1]
  by_cases h2 : x = 12
  · rw [if_pos h2, if_pos h2]
  rw [if_neg h2, if_neg h2]
  by_cases h3 : x = 13
  · rw [if_pos h3, if_pos h3]
  rw [if_neg h3, if_neg h3]
  by_cases h4 : x = 20
  · rw [if_pos h4, if_pos h4]
  rw [if_neg h4, if_neg h4]
  by_cases h5 : x = 21
  · rw [if_pos h5, if_pos h5]
  rw [if_neg h5, if_neg h5]
  by_cases h6 : x = 30
  · rw [if_pos h6, if_pos h6]
  rw [if_neg h6, if_neg h6]
  by_cases h7 : x = 40
  · rw [if_pos h7, if_pos h7]
  rw [if_neg h7, if_neg h7]
  by_cases h8 : x = 41
  · rw [if_pos h8, if_pos h8]
  rw [if_neg h8, if_neg h8]
  by_cases h9 : x = 50
  · rw [if_pos h9, if_pos h9]
  rw [if_neg h9, if_neg h9]
  by_cases h10 : x = 51
  · rw [if_pos h10, if_pos h10]
  rw [if_neg h10, if_neg h10]
  by_cases h11 : x = 60
  · rw [if_pos h11, if_pos h11]
  rw [if_neg h11, if_neg h11]
  by_cases h12 : x = 70
  · rw [if_pos h12, if_pos h12]
  rw [if_neg h12, if_neg h12]
theorem t55_180 : decode (mb 55) 180 = .ok (.iload_n 3, 1) := by decide +kernel
theorem s55_180 (d : Nat) (l0 : Value) (l1 : Value) (l2 : Value) (i3 : Int32) (l4 : Value) (l5 : Value) (l6 : Value) (l7 : Value) (l8 : Value) (σ : Hs) : ru d 55 180 [l0, l1, l2, .int i3, l4, l5, l6, l7, l8] [] σ = ru d 55 181 [l0, l1, l2, .int i3, l4, l5, l6, l7, l8] [.int i3] σ := q_iload_n t55_180 rfl
theorem t55_181 : decode (mb 55) 181 = .ok (.aload_n 0, 1) := by decide +kernel
theorem s55_181 (d : Nat) (a0 : Nat) (l1 : Value) (l2 : Value) (l3 : Value) (l4 : Value) (l5 : Value) (l6 : Value) (l7 : Value) (l8 : Value) (w0 : Value) (σ : Hs) : ru d 55 181 [.ref a0, l1, l2, l3, l4, l5, l6, l7, l8] [w0] σ = ru d 55 182 [.ref a0, l1, l2, l3, l4, l5, l6, l7, l8] [.ref a0, w0] σ := q_aload_n t55_181 rfl
theorem t55_182 : decode (mb 55) 182 = .ok (.getfield 31, 3) := by decide +kernel
theorem s55_182_o73 (d : Nat) (l0 : Value) (l1 : Value) (l2 : Value) (l3 : Value) (l4 : Value) (l5 : Value) (l6 : Value) (l7 : Value) (l8 : Value) (w0 : Value) (σ : Hs) : ru d 55 182 [l0, l1, l2, l3, l4, l5, l6, l7, l8] [.ref 73, w0] σ = ru d 55 185 [l0, l1, l2, l3, l4, l5, l6, l7, l8] [.int (σ 73 4), w0] σ := q_getf t55_182 mo55 F6_31 rfl rfl
theorem t55_185 : decode (mb 55) 185 = .ok (.iadd, 1) := by decide +kernel
theorem s55_185 (d : Nat) (l0 : Value) (l1 : Value) (l2 : Value) (l3 : Value) (l4 : Value) (l5 : Value) (l6 : Value) (l7 : Value) (l8 : Value) (x y : Int32) (σ : Hs) : ru d 55 185 [l0, l1, l2, l3, l4, l5, l6, l7, l8] [.int y, .int x] σ = ru d 55 186 [l0, l1, l2, l3, l4, l5, l6, l7, l8] [.int (x + y)] σ := q_iadd t55_185
theorem t55_186 : decode (mb 55) 186 = .ok (.ireturn, 1) := by decide +kernel
theorem s55_186 (d : Nat) (l0 : Value) (l1 : Value) (l2 : Value) (l3 : Value) (l4 : Value) (l5 : Value) (l6 : Value) (l7 : Value) (l8 : Value) (x : Int32) (σ : Hs) : ru d 55 186 [l0, l1, l2, l3, l4, l5, l6, l7, l8] [.int x] σ = some (some (.int x), σ) := q_ireti t55_186 mr55
theorem t55_187 : decode (mb 55) 187 = .ok (.aload_n 0, 1) := by decide +kernel
theorem s55_187 (d : Nat) (a0 : Nat) (l1 : Value) (l2 : Value) (l3 : Value) (l4 : Value) (l5 : Value) (l6 : Value) (l7 : Value) (l8 : Value) (σ : Hs) : ru d 55 187 [.ref a0, l1, l2, l3, l4, l5, l6, l7, l8] [] σ = ru d 55 188 [.ref a0, l1, l2, l3, l4, l5, l6, l7, l8] [.ref a0] σ := q_aload_n t55_187 rfl
theorem t55_188 : decode (mb 55) 188 = .ok (.aload_n 0, 1) := by decide +kernel
theorem s55_188 (d : Nat) (a0 : Nat) (l1 : Value) (l2 : Value) (l3 : Value) (l4 : Value) (l5 : Value) (l6 : Value) (l7 : Value) (l8 : Value) (w0 : Value) (σ : Hs) : ru d 55 188 [.ref a0, l1, l2, l3, l4, l5, l6, l7, l8] [w0] σ = ru d 55 189 [.ref a0, l1, l2, l3, l4, l5, l6, l7, l8] [.ref a0, w0] σ := q_aload_n t55_188 rfl
theorem t55_189 : decode (mb 55) 189 = .ok (.getfield 24, 3) := by decide +kernel
theorem s55_189_o73 (d : Nat) (l0 : Value) (l1 : Value) (l2 : Value) (l3 : Value) (l4 : Value) (l5 : Value) (l6 : Value) (l7 : Value) (l8 : Value) (w0 : Value) (σ : Hs) : ru d 55 189 [l0, l1, l2, l3, l4, l5, l6, l7, l8] [.ref 73, w0] σ = ru d 55 192 [l0, l1, l2, l3, l4, l5, l6, l7, l8] [.int (σ 73 2), w0] σ := q_getf t55_189 mo55 F6_24 rfl rfl
theorem t55_192 : decode (mb 55) 192 = .ok (.iconst 0, 1) := by decide +kernel
theorem s55_192 (d : Nat) (l0 : Value) (l1 : Value) (l2 : Value) (l3 : Value) (l4 : Value) (l5 : Value) (l6 : Value) (l7 : Value) (l8 : Value) (w0 w1 : Value) (σ : Hs) : ru d 55 192 [l0, l1, l2, l3, l4, l5, l6, l7, l8] [w0, w1] σ = ru d 55 193 [l0, l1, l2, l3, l4, l5, l6, l7, l8] [.int 0, w0, w1] σ := q_iconst t55_192 (by decide +kernel)
theorem t55_193 : decode (mb 55) 193 = .ok (.iload_n 3, 1) := by decide +kernel
theorem s55_193 (d : Nat) (l0 : Value) (l1 : Value) (l2 : Value) (i3 : Int32) (l4 : Value) (l5 : Value) (l6 : Value) (l7 : Value) (l8 : Value) (w0 w1 w2 : Value) (σ : Hs) : ru d 55 193 [l0, l1, l2, .int i3, l4, l5, l6, l7, l8] [w0, w1, w2] σ = ru d 55 194 [l0, l1, l2, .int i3, l4, l5, l6, l7, l8] [.int i3, w0, w1, w2] σ := q_iload_n t55_193 rfl
theorem t55_194 : decode (mb 55) 194 = .ok (.iload 7, 2) := by decide +kernel
theorem s55_194 (d : Nat) (l0 : Value) (l1 : Value) (l2 : Value) (l3 : Value) (l4 : Value) (l5 : Value) (l6 : Value) (i7 : Int32) (l8 : Value) (w0 w1 w2 w3 : Value) (σ : Hs) : ru d 55 194 [l0, l1, l2, l3, l4, l5, l6, .int i7, l8] [w0, w1, w2, w3] σ = ru d 55 196 [l0, l1, l2, l3, l4, l5, l6, .int i7, l8] [.int i7, w0, w1, w2, w3] σ := q_iload t55_194 rfl
theorem t55_196 : decode (mb 55) 196 = .ok (.invokevirtual 37, 3) := by decide +kernel
theorem s55_196_o73 (d : Nat) (l0 : Value) (l1 : Value) (l2 : Value) (l3 : Value) (l4 : Value) (l5 : Value) (l6 : Value) (l7 : Value) (l8 : Value) (v1 v2 v3 v4 : Value) (σ : Hs) : ru d 55 196 [l0, l1, l2, l3, l4, l5, l6, l7, l8] [v4, v3, v2, v1, .ref 73] σ = kont (callD d 55 [.ref 73, v1, v2, v3, v4] σ) d 55 199 [l0, l1, l2, l3, l4, l5, l6, l7, l8] [] := q_invv t55_196 mo55 K6_37 mj55 rfl rfl rfl rfl (Nat.le_of_ble_eq_true rfl)
theorem t55_199 : decode (mb 55) 199 = .ok (.iconst 2, 1) := by decide +kernel
theorem s55_199 (d : Nat) (l0 : Value) (l1 : Value) (l2 : Value) (l3 : Value) (l4 : Value) (l5 : Value) (l6 : Value) (l7 : Value) (l8 : Value) (w0 : Value) (σ : Hs) : ru d 55 199 [l0, l1, l2, l3, l4, l5, l6, l7, l8] [w0] σ = ru d 55 200 [l0, l1, l2, l3, l4, l5, l6, l7, l8] [.int 2, w0] σ := q_iconst t55_199 (by decide +kernel)
theorem t55_200 : decode (mb 55) 200 = .ok (.imul, 1) := by decide +kernel
theorem s55_200 (d : Nat) (l0 : Value) (l1 : Value) (l2 : Value) (l3 : Value) (l4 : Value) (l5 : Value) (l6 : Value) (l7 : Value) (l8 : Value) (x y : Int32) (σ : Hs) : ru d 55 200 [l0, l1, l2, l3, l4, l5, l6, l7, l8] [.int y, .int x] σ = ru d 55 201 [l0, l1, l2, l3, l4, l5, l6, l7, l8] [.int (x * y)] σ := q_imul t55_200
theorem t55_201 : decode (mb 55) 201 = .ok (.ireturn, 1) := by decide +kernel
theorem s55_201 (d : Nat) (l0 : Value) (l1 : Value) (l2 : Value) (l3 : Value) (l4 : Value) (l5 : Value) (l6 : Value) (l7 : Value) (l8 : Value) (x : Int32) (σ : Hs) : ru d 55 201 [l0, l1, l2, l3, l4, l5, l6, l7, l8] [.int x] σ = some (some (.int x), σ) := q_ireti t55_201 mr55
theorem t55_202 : decode (mb 55) 202 = .ok (.aload_n 0, 1) := by decide +kernel
theorem s55_202 (d : Nat) (a0 : Nat) (l1 : Value) (l2 : Value) (l3 : Value) (l4 : Value) (l5 : Value) (l6 : Value) (l7 : Value) (l8 : Value) (σ : Hs) : ru d 55 202 [.ref a0, l1, l2, l3, l4, l5, l6, l7, l8] [] σ = ru d 55 203 [.ref a0, l1, l2, l3, l4, l5, l6, l7, l8] [.ref a0] σ := q_aload_n t55_202 rfl
theorem t55_203 : decode (mb 55) 203 = .ok (.aload_n 0, 1) := by decide +kernel
theorem s55_203 (d : Nat) (a0 : Nat) (l1 : Value) (l2 : Value) (l3 : Value) (l4 : Value) (l5 : Value) (l6 : Value) (l7 : Value) (l8 : Value) (w0 : Value) (σ : Hs) : ru d 55 203 [.ref a0, l1, l2, l3, l4, l5, l6, l7, l8] [w0] σ = ru d 55 204 [.ref a0, l1, l2, l3, l4, l5, l6, l7, l8] [.ref a0, w0] σ := q_aload_n t55_203 rfl
theorem t55_204 : decode (mb 55) 204 = .ok (.getfield 24, 3) := by decide +kernel
theorem s55_204_o73 (d : Nat) (l0 : Value) (l1 : Value) (l2 : Value) (l3 : Value) (l4 : Value) (l5 : Value) (l6 : Value) (l7 : Value) (l8 : Value) (w0 : Value) (σ : Hs) : ru d 55 204 [l0, l1, l2, l3, l4, l5, l6, l7, l8] [.ref 73, w0] σ = ru d 55 207 [l0, l1, l2, l3, l4, l5, l6, l7, l8] [.int (σ 73 2), w0] σ := q_getf t55_204 mo55 F6_24 rfl rfl
theorem t55_207 : decode (mb 55) 207 = .ok (.iconst 1, 1) := by decide +kernel
theorem s55_207 (d : Nat) (l0 : Value) (l1 : Value) (l2 : Value) (l3 : Value) (l4 : Value) (l5 : Value) (l6 : Value) (l7 : Value) (l8 : Value) (w0 w1 : Value) (σ : Hs) : ru d 55 207 [l0, l1, l2, l3, l4, l5, l6, l7, l8] [w0, w1] σ = ru d 55 208 [l0, l1, l2, l3, l4, l5, l6, l7, l8] [.int 1, w0, w1] σ := q_iconst t55_207 (by decide +kernel)
theorem t55_208 : decode (mb 55) 208 = .ok (.iload_n 3, 1) := by decide +kernel
theorem s55_208 (d : Nat) (l0 : Value) (l1 : Value) (l2 : Value) (i3 : Int32) (l4 : Value) (l5 : Value) (l6 : Value) (l7 : Value) (l8 : Value) (w0 w1 w2 : Value) (σ : Hs) : ru d 55 208 [l0, l1, l2, .int i3, l4, l5, l6, l7, l8] [w0, w1, w2] σ = ru d 55 209 [l0, l1, l2, .int i3, l4, l5, l6, l7, l8] [.int i3, w0, w1, w2] σ := q_iload_n t55_208 rfl
theorem t55_209 : decode (mb 55) 209 = .ok (.iload 7, 2) := by decide +kernel
theorem s55_209 (d : Nat) (l0 : Value) (l1 : Value) (l2 : Value) (l3 : Value) (l4 : Value) (l5 : Value) (l6 : Value) (i7 : Int32) (l8 : Value) (w0 w1 w2 w3 : Value) (σ : Hs) : ru d 55 209 [l0, l1, l2, l3, l4, l5, l6, .int i7, l8] [w0, w1, w2, w3] σ = ru d 55 211 [l0, l1, l2, l3, l4, l5, l6, .int i7, l8] [.int i7, w0, w1, w2, w3] σ := q_iload t55_209 rfl
theorem t55_211 : decode (mb 55) 211 = .ok (.invokevirtual 37, 3) := by decide +kernel
theorem s55_211_o73 (d : Nat) (l0 : Value) (l1 : Value) (l2 : Value) (l3 : Value) (l4 : Value) (l5 : Value) (l6 : Value) (l7 : Value) (l8 : Value) (v1 v2 v3 v4 : Value) (σ : Hs) : ru d 55 211 [l0, l1, l2, l3, l4, l5, l6, l7, l8] [v4, v3, v2, v1, .ref 73] σ = kont (callD d 55 [.ref 73, v1, v2, v3, v4] σ) d 55 214 [l0, l1, l2, l3, l4, l5, l6, l7, l8] [] := q_invv t55_211 mo55 K6_37 mj55 rfl rfl rfl rfl (Nat.le_of_ble_eq_true rfl)
theorem t55_214 : decode (mb 55) 214 = .ok (.aload_n 0, 1) := by decide +kernel
theorem s55_214 (d : Nat) (a0 : Nat) (l1 : Value) (l2 : Value) (l3 : Value) (l4 : Value) (l5 : Value) (l6 : Value) (l7 : Value) (l8 : Value) (w0 : Value) (σ : Hs) : ru d 55 214 [.ref a0, l1, l2, l3, l4, l5, l6, l7, l8] [w0] σ = ru d 55 215 [.ref a0, l1, l2, l3, l4, l5, l6, l7, l8] [.ref a0, w0] σ := q_aload_n t55_214 rfl
theorem t55_215 : decode (mb 55) 215 = .ok (.getfield 28, 3) := by decide +kernel
theorem s55_215_o73 (d : Nat) (l0 : Value) (l1 : Value) (l2 : Value) (l3 : Value) (l4 : Value) (l5 : Value) (l6 : Value) (l7 : Value) (l8 : Value) (w0 : Value) (σ : Hs) : ru d 55 215 [l0, l1, l2, l3, l4, l5, l6, l7, l8] [.ref 73, w0] σ = ru d 55 218 [l0, l1, l2, l3, l4, l5, l6, l7, l8] [.int (σ 73 3), w0] σ := q_getf t55_215 mo55 F6_28 rfl rfl
theorem t55_218 : decode (mb 55) 218 = .ok (.isub, 1) := by decide +kernel
theorem s55_218 (d : Nat) (l0 : Value) (l1 : Value) (l2 : Value) (l3 : Value) (l4 : Value) (l5 : Value) (l6 : Value) (l7 : Value) (l8 : Value) (x y : Int32) (σ : Hs) : ru d 55 218 [l0, l1, l2, l3, l4, l5, l6, l7, l8] [.int y, .int x] σ = ru d 55 219 [l0, l1, l2, l3, l4, l5, l6, l7, l8] [.int (x - y)] σ := q_isub t55_218
theorem t55_219 : decode (mb 55) 219 = .ok (.ireturn, 1) := by decide +kernel
theorem s55_219 (d : Nat) (l0 : Value) (l1 : Value) (l2 : Value) (l3 : Value) (l4 : Value) (l5 : Value) (l6 : Value) (l7 : Value) (l8 : Value) (x : Int32) (σ : Hs) : ru d 55 219 [l0, l1, l2, l3, l4, l5, l6, l7, l8] [.int x] σ = some (some (.int x), σ) := q_ireti t55_219 mr55
theorem t55_220 : decode (mb 55) 220 = .ok (.aload_n 0, 1) := by decide +kernel
theorem s55_220 (d : Nat) (a0 : Nat) (l1 : Value) (l2 : Value) (l3 : Value) (l4 : Value) (l5 : Value) (l6 : Value) (l7 : Value) (l8 : Value) (σ : Hs) : ru d 55 220 [.ref a0, l1, l2, l3, l4, l5, l6, l7, l8] [] σ = ru d 55 221 [.ref a0, l1, l2, l3, l4, l5, l6, l7, l8] [.ref a0] σ := q_aload_n t55_220 rfl
theorem t55_221 : decode (mb 55) 221 = .ok (.iload_n 3, 1) := by decide +kernel
theorem s55_221 (d : Nat) (l0 : Value) (l1 : Value) (l2 : Value) (i3 : Int32) (l4 : Value) (l5 : Value) (l6 : Value) (l7 : Value) (l8 : Value) (w0 : Value) (σ : Hs) : ru d 55 221 [l0, l1, l2, .int i3, l4, l5, l6, l7, l8] [w0] σ = ru d 55 222 [l0, l1, l2, .int i3, l4, l5, l6, l7, l8] [.int i3, w0] σ := q_iload_n t55_221 rfl
theorem t55_222 : decode (mb 55) 222 = .ok (.invokevirtual 56, 3) := by decide +kernel
theorem s55_222_o73 (d : Nat) (l0 : Value) (l1 : Value) (l2 : Value) (l3 : Value) (l4 : Value) (l5 : Value) (l6 : Value) (l7 : Value) (l8 : Value) (v1 : Value) (σ : Hs) : ru d 55 222 [l0, l1, l2, l3, l4, l5, l6, l7, l8] [v1, .ref 73] σ = kont (callD d 56 [.ref 73, v1] σ) d 55 225 [l0, l1, l2, l3, l4, l5, l6, l7, l8] [] := q_invv t55_222 mo55 K6_56 mj56 rfl rfl rfl rfl (Nat.le_of_ble_eq_true rfl)
theorem t55_225 : decode (mb 55) 225 = .ok (.ireturn, 1) := by decide +kernel
theorem s55_225 (d : Nat) (l0 : Value) (l1 : Value) (l2 : Value) (l3 : Value) (l4 : Value) (l5 : Value) (l6 : Value) (l7 : Value) (l8 : Value) (x : Int32) (σ : Hs) : ru d 55 225 [l0, l1, l2, l3, l4, l5, l6, l7, l8] [.int x] σ = some (some (.int x), σ) := q_ireti t55_225 mr55
theorem t55_226 : decode (mb 55) 226 = .ok (.aload_n 0, 1) := by decide +kernel
theorem s55_226 (d : Nat) (a0 : Nat) (l1 : Value) (l2 : Value) (l3 : Value) (l4 : Value) (l5 : Value) (l6 : Value) (l7 : Value) (l8 : Value) (σ : Hs) : ru d 55 226 [.ref a0, l1, l2, l3, l4, l5, l6, l7, l8] [] σ = ru d 55 227 [.ref a0, l1, l2, l3, l4, l5, l6, l7, l8] [.ref a0] σ := q_aload_n t55_226 rfl
theorem t55_227 : decode (mb 55) 227 = .ok (.iload 6, 2) := by decide +kernel
theorem s55_227 (d : Nat) (l0 : Value) (l1 : Value) (l2 : Value) (l3 : Value) (l4 : Value) (l5 : Value) (i6 : Int32) (l7 : Value) (l8 : Value) (w0 : Value) (σ : Hs) : ru d 55 227 [l0, l1, l2, l3, l4, l5, .int i6, l7, l8] [w0] σ = ru d 55 229 [l0, l1, l2, l3, l4, l5, .int i6, l7, l8] [.int i6, w0] σ := q_iload t55_227 rfl
theorem t55_229 : decode (mb 55) 229 = .ok (.iconst 0, 1) := by decide +kernel
theorem s55_229 (d : Nat) (l0 : Value) (l1 : Value) (l2 : Value) (l3 : Value) (l4 : Value) (l5 : Value) (l6 : Value) (l7 : Value) (l8 : Value) (w0 w1 : Value) (σ : Hs) : ru d 55 229 [l0, l1, l2, l3, l4, l5, l6, l7, l8] [w0, w1] σ = ru d 55 230 [l0, l1, l2, l3, l4, l5, l6, l7, l8] [.int 0, w0, w1] σ := q_iconst t55_229 (by decide +kernel)
theorem t55_230 : decode (mb 55) 230 = .ok (.iload_n 3, 1) := by decide +kernel
theorem s55_230 (d : Nat) (l0 : Value) (l1 : Value) (l2 : Value) (i3 : Int32) (l4 : Value) (l5 : Value) (l6 : Value) (l7 : Value) (l8 : Value) (w0 w1 w2 : Value) (σ : Hs) : ru d 55 230 [l0, l1, l2, .int i3, l4, l5, l6, l7, l8] [w0, w1, w2] σ = ru d 55 231 [l0, l1, l2, .int i3, l4, l5, l6, l7, l8] [.int i3, w0, w1, w2] σ := q_iload_n t55_230 rfl
theorem t55_231 : decode (mb 55) 231 = .ok (.iload 7, 2) := by decide +kernel
theorem s55_231 (d : Nat) (l0 : Value) (l1 : Value) (l2 : Value) (l3 : Value) (l4 : Value) (l5 : Value) (l6 : Value) (i7 : Int32) (l8 : Value) (w0 w1 w2 w3 : Value) (σ : Hs) : ru d 55 231 [l0, l1, l2, l3, l4, l5, l6, .int i7, l8] [w0, w1, w2, w3] σ = ru d 55 233 [l0, l1, l2, l3, l4, l5, l6, .int i7, l8] [.int i7, w0, w1, w2, w3] σ := q_iload t55_231 rfl
theorem t55_233 : decode (mb 55) 233 = .ok (.invokevirtual 37, 3) := by decide +kernel
theorem s55_233_o73 (d : Nat) (l0 : Value) (l1 : Value) (l2 : Value) (l3 : Value) (l4 : Value) (l5 : Value) (l6 : Value) (l7 : Value) (l8 : Value) (v1 v2 v3 v4 : Value) (σ : Hs) : ru d 55 233 [l0, l1, l2, l3, l4, l5, l6, l7, l8] [v4, v3, v2, v1, .ref 73] σ = kont (callD d 55 [.ref 73, v1, v2, v3, v4] σ) d 55 236 [l0, l1, l2, l3, l4, l5, l6, l7, l8] [] := q_invv t55_233 mo55 K6_37 mj55 rfl rfl rfl rfl (Nat.le_of_ble_eq_true rfl)
theorem t55_236 : decode (mb 55) 236 = .ok (.bipush 7, 2) := by decide +kernel
theorem s55_236 (d : Nat) (l0 : Value) (l1 : Value) (l2 : Value) (l3 : Value) (l4 : Value) (l5 : Value) (l6 : Value) (l7 : Value) (l8 : Value) (w0 : Value) (σ : Hs) : ru d 55 236 [l0, l1, l2, l3, l4, l5, l6, l7, l8] [w0] σ = ru d 55 238 [l0, l1, l2, l3, l4, l5, l6, l7, l8] [.int 7, w0] σ := q_bipush t55_236 (by decide +kernel)
theorem t55_238 : decode (mb 55) 238 = .ok (.isub, 1) := by decide +kernel
theorem s55_238 (d : Nat) (l0 : Value) (l1 : Value) (l2 : Value) (l3 : Value) (l4 : Value) (l5 : Value) (l6 : Value) (l7 : Value) (l8 : Value) (x y : Int32) (σ : Hs) : ru d 55 238 [l0, l1, l2, l3, l4, l5, l6, l7, l8] [.int y, .int x] σ = ru d 55 239 [l0, l1, l2, l3, l4, l5, l6, l7, l8] [.int (x - y)] σ := q_isub t55_238
theorem t55_239 : decode (mb 55) 239 = .ok (.ireturn, 1) := by decide +kernel
theorem s55_239 (d : Nat) (l0 : Value) (l1 : Value) (l2 : Value) (l3 : Value) (l4 : Value) (l5 : Value) (l6 : Value) (l7 : Value) (l8 : Value) (x : Int32) (σ : Hs) : ru d 55 239 [l0, l1, l2, l3, l4, l5, l6, l7, l8] [.int x] σ = some (some (.int x), σ) := q_ireti t55_239 mr55
theorem t55_240 : decode (mb 55) 240 = .ok (.aload_n 0, 1) := by decide +kernel
theorem s55_240 (d : Nat) (a0 : Nat) (l1 : Value) (l2 : Value) (l3 : Value) (l4 : Value) (l5 : Value) (l6 : Value) (l7 : Value) (l8 : Value) (σ : Hs) : ru d 55 240 [.ref a0, l1, l2, l3, l4, l5, l6, l7, l8] [] σ = ru d 55 241 [.ref a0, l1, l2, l3, l4, l5, l6, l7, l8] [.ref a0] σ := q_aload_n t55_240 rfl
theorem t55_241 : decode (mb 55) 241 = .ok (.iload 6, 2) := by decide +kernel
theorem s55_241 (d : Nat) (l0 : Value) (l1 : Value) (l2 : Value) (l3 : Value) (l4 : Value) (l5 : Value) (i6 : Int32) (l7 : Value) (l8 : Value) (w0 : Value) (σ : Hs) : ru d 55 241 [l0, l1, l2, l3, l4, l5, .int i6, l7, l8] [w0] σ = ru d 55 243 [l0, l1, l2, l3, l4, l5, .int i6, l7, l8] [.int i6, w0] σ := q_iload t55_241 rfl
theorem t55_243 : decode (mb 55) 243 = .ok (.iconst 3, 1) := by decide +kernel
theorem s55_243 (d : Nat) (l0 : Value) (l1 : Value) (l2 : Value) (l3 : Value) (l4 : Value) (l5 : Value) (l6 : Value) (l7 : Value) (l8 : Value) (w0 w1 : Value) (σ : Hs) : ru d 55 243 [l0, l1, l2, l3, l4, l5, l6, l7, l8] [w0, w1] σ = ru d 55 244 [l0, l1, l2, l3, l4, l5, l6, l7, l8] [.int 3, w0, w1] σ := q_iconst t55_243 (by decide +kernel)
theorem t55_244 : decode (mb 55) 244 = .ok (.iload_n 3, 1) := by decide +kernel
theorem s55_244 (d : Nat) (l0 : Value) (l1 : Value) (l2 : Value) (i3 : Int32) (l4 : Value) (l5 : Value) (l6 : Value) (l7 : Value) (l8 : Value) (w0 w1 w2 : Value) (σ : Hs) : ru d 55 244 [l0, l1, l2, .int i3, l4, l5, l6, l7, l8] [w0, w1, w2] σ = ru d 55 245 [l0, l1, l2, .int i3, l4, l5, l6, l7, l8] [.int i3, w0, w1, w2] σ := q_iload_n t55_244 rfl
theorem t55_245 : decode (mb 55) 245 = .ok (.iload 7, 2) := by decide +kernel
theorem s55_245 (d : Nat) (l0 : Value) (l1 : Value) (l2 : Value) (l3 : Value) (l4 : Value) (l5 : Value) (l6 : Value) (i7 : Int32) (l8 : Value) (w0 w1 w2 w3 : Value) (σ : Hs) : ru d 55 245 [l0, l1, l2, l3, l4, l5, l6, .int i7, l8] [w0, w1, w2, w3] σ = ru d 55 247 [l0, l1, l2, l3, l4, l5, l6, .int i7, l8] [.int i7, w0, w1, w2, w3] σ := q_iload t55_245 rfl
theorem t55_247 : decode (mb 55) 247 = .ok (.invokevirtual 37, 3) := by decide +kernel
theorem s55_247_o73 (d : Nat) (l0 : Value) (l1 : Value) (l2 : Value) (l3 : Value) (l4 : Value) (l5 : Value) (l6 : Value) (l7 : Value) (l8 : Value) (v1 v2 v3 v4 : Value) (σ : Hs) : ru d 55 247 [l0, l1, l2, l3, l4, l5, l6, l7, l8] [v4, v3, v2, v1, .ref 73] σ = kont (callD d 55 [.ref 73, v1, v2, v3, v4] σ) d 55 250 [l0, l1, l2, l3, l4, l5, l6, l7, l8] [] := q_invv t55_247 mo55 K6_37 mj55 rfl rfl rfl rfl (Nat.le_of_ble_eq_true rfl)
theorem t55_250 : decode (mb 55) 250 = .ok (.aload_n 0, 1) := by decide +kernel
theorem s55_250 (d : Nat) (a0 : Nat) (l1 : Value) (l2 : Value) (l3 : Value) (l4 : Value) (l5 : Value) (l6 : Value) (l7 : Value) (l8 : Value) (w0 : Value) (σ : Hs) : ru d 55 250 [.ref a0, l1, l2, l3, l4, l5, l6, l7, l8] [w0] σ = ru d 55 251 [.ref a0, l1, l2, l3, l4, l5, l6, l7, l8] [.ref a0, w0] σ := q_aload_n t55_250 rfl
theorem t55_251 : decode (mb 55) 251 = .ok (.aload_n 0, 1) := by decide +kernel
theorem s55_251 (d : Nat) (a0 : Nat) (l1 : Value) (l2 : Value) (l3 : Value) (l4 : Value) (l5 : Value) (l6 : Value) (l7 : Value) (l8 : Value) (w0 w1 : Value) (σ : Hs) : ru d 55 251 [.ref a0, l1, l2, l3, l4, l5, l6, l7, l8] [w0, w1] σ = ru d 55 252 [.ref a0, l1, l2, l3, l4, l5, l6, l7, l8] [.ref a0, w0, w1] σ := q_aload_n t55_251 rfl
theorem t55_252 : decode (mb 55) 252 = .ok (.getfield 24, 3) := by decide +kernel
theorem s55_252_o73 (d : Nat) (l0 : Value) (l1 : Value) (l2 : Value) (l3 : Value) (l4 : Value) (l5 : Value) (l6 : Value) (l7 : Value) (l8 : Value) (w0 w1 : Value) (σ : Hs) : ru d 55 252 [l0, l1, l2, l3, l4, l5, l6, l7, l8] [.ref 73, w0, w1] σ = ru d 55 255 [l0, l1, l2, l3, l4, l5, l6, l7, l8] [.int (σ 73 2), w0, w1] σ := q_getf t55_252 mo55 F6_24 rfl rfl
theorem t55_255 : decode (mb 55) 255 = .ok (.iconst 1, 1) := by decide +kernel
theorem s55_255 (d : Nat) (l0 : Value) (l1 : Value) (l2 : Value) (l3 : Value) (l4 : Value) (l5 : Value) (l6 : Value) (l7 : Value) (l8 : Value) (w0 w1 w2 : Value) (σ : Hs) : ru d 55 255 [l0, l1, l2, l3, l4, l5, l6, l7, l8] [w0, w1, w2] σ = ru d 55 256 [l0, l1, l2, l3, l4, l5, l6, l7, l8] [.int 1, w0, w1, w2] σ := q_iconst t55_255 (by decide +kernel)
theorem t55_256 : decode (mb 55) 256 = .ok (.iconst 1, 1) := by decide +kernel
theorem s55_256 (d : Nat) (l0 : Value) (l1 : Value) (l2 : Value) (l3 : Value) (l4 : Value) (l5 : Value) (l6 : Value) (l7 : Value) (l8 : Value) (w0 w1 w2 w3 : Value) (σ : Hs) : ru d 55 256 [l0, l1, l2, l3, l4, l5, l6, l7, l8] [w0, w1, w2, w3] σ = ru d 55 257 [l0, l1, l2, l3, l4, l5, l6, l7, l8] [.int 1, w0, w1, w2, w3] σ := q_iconst t55_256 (by decide +kernel)
theorem t55_257 : decode (mb 55) 257 = .ok (.iload 7, 2) := by decide +kernel
theorem s55_257 (d : Nat) (l0 : Value) (l1 : Value) (l2 : Value) (l3 : Value) (l4 : Value) (l5 : Value) (l6 : Value) (i7 : Int32) (l8 : Value) (w0 w1 w2 w3 w4 : Value) (σ : Hs) : ru d 55 257 [l0, l1, l2, l3, l4, l5, l6, .int i7, l8] [w0, w1, w2, w3, w4] σ = ru d 55 259 [l0, l1, l2, l3, l4, l5, l6, .int i7, l8] [.int i7, w0, w1, w2, w3, w4] σ := q_iload t55_257 rfl
theorem t55_259 : decode (mb 55) 259 = .ok (.invokevirtual 37, 3) := by decide +kernel
theorem s55_259_o73 (d : Nat) (l0 : Value) (l1 : Value) (l2 : Value) (l3 : Value) (l4 : Value) (l5 : Value) (l6 : Value) (l7 : Value) (l8 : Value) (v1 v2 v3 v4 : Value) (w0 : Int32) (σ : Hs) : ru d 55 259 [l0, l1, l2, l3, l4, l5, l6, l7, l8] [v4, v3, v2, v1, .ref 73, .int w0] σ = kont (callD d 55 [.ref 73, v1, v2, v3, v4] σ) d 55 262 [l0, l1, l2, l3, l4, l5, l6, l7, l8] [.int w0] := q_invv t55_259 mo55 K6_37 mj55 rfl rfl rfl rfl (Nat.le_of_ble_eq_true rfl)
theorem t55_262 : decode (mb 55) 262 = .ok (.iadd, 1) := by decide +kernel
theorem s55_262 (d : Nat) (l0 : Value) (l1 : Value) (l2 : Value) (l3 : Value) (l4 : Value) (l5 : Value) (l6 : Value) (l7 : Value) (l8 : Value) (x y : Int32) (σ : Hs) : ru d 55 262 [l0, l1, l2, l3, l4, l5, l6, l7, l8] [.int y, .int x] σ = ru d 55 263 [l0, l1, l2, l3, l4, l5, l6, l7, l8] [.int (x + y)] σ := q_iadd t55_262
theorem t55_263 : decode (mb 55) 263 = .ok (.ireturn, 1) := by decide +kernel
theorem s55_263 (d : Nat) (l0 : Value) (l1 : Value) (l2 : Value) (l3 : Value) (l4 : Value) (l5 : Value) (l6 : Value) (l7 : Value) (l8 : Value) (x : Int32) (σ : Hs) : ru d 55 263 [l0, l1, l2, l3, l4, l5, l6, l7, l8] [.int x] σ = some (some (.int x), σ) := q_ireti t55_263 mr55
theorem t55_264 : decode (mb 55) 264 = .ok (.aload_n 0, 1) := by decide +kernel
theorem s55_264 (d : Nat) (a0 : Nat) (l1 : Value) (l2 : Value) (l3 : Value) (l4 : Value) (l5 : Value) (l6 : Value) (l7 : Value) (l8 : Value) (σ : Hs) : ru d 55 264 [.ref a0, l1, l2, l3, l4, l5, l6, l7, l8] [] σ = ru d 55 265 [.ref a0, l1, l2, l3, l4, l5, l6, l7, l8] [.ref a0] σ := q_aload_n t55_264 rfl
theorem t55_265 : decode (mb 55) 265 = .ok (.iload 6, 2) := by decide +kernel
theorem s55_265 (d : Nat) (l0 : Value) (l1 : Value) (l2 : Value) (l3 : Value) (l4 : Value) (l5 : Value) (i6 : Int32) (l7 : Value) (l8 : Value) (w0 : Value) (σ : Hs) : ru d 55 265 [l0, l1, l2, l3, l4, l5, .int i6, l7, l8] [w0] σ = ru d 55 267 [l0, l1, l2, l3, l4, l5, .int i6, l7, l8] [.int i6, w0] σ := q_iload t55_265 rfl
theorem t55_267 : decode (mb 55) 267 = .ok (.iconst 2, 1) := by decide +kernel
theorem s55_267 (d : Nat) (l0 : Value) (l1 : Value) (l2 : Value) (l3 : Value) (l4 : Value) (l5 : Value) (l6 : Value) (l7 : Value) (l8 : Value) (w0 w1 : Value) (σ : Hs) : ru d 55 267 [l0, l1, l2, l3, l4, l5, l6, l7, l8] [w0, w1] σ = ru d 55 268 [l0, l1, l2, l3, l4, l5, l6, l7, l8] [.int 2, w0, w1] σ := q_iconst t55_267 (by decide +kernel)
theorem t55_268 : decode (mb 55) 268 = .ok (.iload_n 3, 1) := by decide +kernel
theorem s55_268 (d : Nat) (l0 : Value) (l1 : Value) (l2 : Value) (i3 : Int32) (l4 : Value) (l5 : Value) (l6 : Value) (l7 : Value) (l8 : Value) (w0 w1 w2 : Value) (σ : Hs) : ru d 55 268 [l0, l1, l2, .int i3, l4, l5, l6, l7, l8] [w0, w1, w2] σ = ru d 55 269 [l0, l1, l2, .int i3, l4, l5, l6, l7, l8] [.int i3, w0, w1, w2] σ := q_iload_n t55_268 rfl
theorem t55_269 : decode (mb 55) 269 = .ok (.iload 7, 2) := by decide +kernel
theorem s55_269 (d : Nat) (l0 : Value) (l1 : Value) (l2 : Value) (l3 : Value) (l4 : Value) (l5 : Value) (l6 : Value) (i7 : Int32) (l8 : Value) (w0 w1 w2 w3 : Value) (σ : Hs) : ru d 55 269 [l0, l1, l2, l3, l4, l5, l6, .int i7, l8] [w0, w1, w2, w3] σ = ru d 55 271 [l0, l1, l2, l3, l4, l5, l6, .int i7, l8] [.int i7, w0, w1, w2, w3] σ := q_iload t55_269 rfl
theorem t55_271 : decode (mb 55) 271 = .ok (.invokevirtual 37, 3) := by decide +kernel
theorem s55_271_o73 (d : Nat) (l0 : Value) (l1 : Value) (l2 : Value) (l3 : Value) (l4 : Value) (l5 : Value) (l6 : Value) (l7 : Value) (l8 : Value) (v1 v2 v3 v4 : Value) (σ : Hs) : ru d 55 271 [l0, l1, l2, l3, l4, l5, l6, l7, l8] [v4, v3, v2, v1, .ref 73] σ = kont (callD d 55 [.ref 73, v1, v2, v3, v4] σ) d 55 274 [l0, l1, l2, l3, l4, l5, l6, l7, l8] [] := q_invv t55_271 mo55 K6_37 mj55 rfl rfl rfl rfl (Nat.le_of_ble_eq_true rfl)
theorem t55_274 : decode (mb 55) 274 = .ok (.aload_n 0, 1) := by decide +kernel
theorem s55_274 (d : Nat) (a0 : Nat) (l1 : Value) (l2 : Value) (l3 : Value) (l4 : Value) (l5 : Value) (l6 : Value) (l7 : Value) (l8 : Value) (w0 : Value) (σ : Hs) : ru d 55 274 [.ref a0, l1, l2, l3, l4, l5, l6, l7, l8] [w0] σ = ru d 55 275 [.ref a0, l1, l2, l3, l4, l5, l6, l7, l8] [.ref a0, w0] σ := q_aload_n t55_274 rfl
theorem t55_275 : decode (mb 55) 275 = .ok (.getfield 31, 3) := by decide +kernel
theorem s55_275_o73 (d : Nat) (l0 : Value) (l1 : Value) (l2 : Value) (l3 : Value) (l4 : Value) (l5 : Value) (l6 : Value) (l7 : Value) (l8 : Value) (w0 : Value) (σ : Hs) : ru d 55 275 [l0, l1, l2, l3, l4, l5, l6, l7, l8] [.ref 73, w0] σ = ru d 55 278 [l0, l1, l2, l3, l4, l5, l6, l7, l8] [.int (σ 73 4), w0] σ := q_getf t55_275 mo55 F6_31 rfl rfl
theorem t55_278 : decode (mb 55) 278 = .ok (.ixor, 1) := by decide +kernel
theorem s55_278 (d : Nat) (l0 : Value) (l1 : Value) (l2 : Value) (l3 : Value) (l4 : Value) (l5 : Value) (l6 : Value) (l7 : Value) (l8 : Value) (x y : Int32) (σ : Hs) : ru d 55 278 [l0, l1, l2, l3, l4, l5, l6, l7, l8] [.int y, .int x] σ = ru d 55 279 [l0, l1, l2, l3, l4, l5, l6, l7, l8] [.int (x ^^^ y)] σ := q_ixor t55_278
theorem t55_279 : decode (mb 55) 279 = .ok (.ireturn, 1) := by decide +kernel
theorem s55_279 (d : Nat) (l0 : Value) (l1 : Value) (l2 : Value) (l3 : Value) (l4 : Value) (l5 : Value) (l6 : Value) (l7 : Value) (l8 : Value) (x : Int32) (σ : Hs) : ru d 55 279 [l0, l1, l2, l3, l4, l5, l6, l7, l8] [.int x] σ = some (some (.int x), σ) := q_ireti t55_279 mr55
theorem t55_280 : decode (mb 55) 280 = .ok (.aload_n 0, 1) := by decide +kernel
theorem s55_280 (d : Nat) (a0 : Nat) (l1 : Value) (l2 : Value) (l3 : Value) (l4 : Value) (l5 : Value) (l6 : Value) (l7 : Value) (l8 : Value) (σ : Hs) : ru d 55 280 [.ref a0, l1, l2, l3, l4, l5, l6, l7, l8] [] σ = ru d 55 281 [.ref a0, l1, l2, l3, l4, l5, l6, l7, l8] [.ref a0] σ := q_aload_n t55_280 rfl
theorem t55_281 : decode (mb 55) 281 = .ok (.iload 6, 2) := by decide +kernel
theorem s55_281 (d : Nat) (l0 : Value) (l1 : Value) (l2 : Value) (l3 : Value) (l4 : Value) (l5 : Value) (i6 : Int32) (l7 : Value) (l8 : Value) (w0 : Value) (σ : Hs) : ru d 55 281 [l0, l1, l2, l3, l4, l5, .int i6, l7, l8] [w0] σ = ru d 55 283 [l0, l1, l2, l3, l4, l5, .int i6, l7, l8] [.int i6, w0] σ := q_iload t55_281 rfl
theorem t55_283 : decode (mb 55) 283 = .ok (.iconst 0, 1) := by decide +kernel
theorem s55_283 (d : Nat) (l0 : Value) (l1 : Value) (l2 : Value) (l3 : Value) (l4 : Value) (l5 : Value) (l6 : Value) (l7 : Value) (l8 : Value) (w0 w1 : Value) (σ : Hs) : ru d 55 283 [l0, l1, l2, l3, l4, l5, l6, l7, l8] [w0, w1] σ = ru d 55 284 [l0, l1, l2, l3, l4, l5, l6, l7, l8] [.int 0, w0, w1] σ := q_iconst t55_283 (by decide +kernel)
theorem t55_284 : decode (mb 55) 284 = .ok (.iload_n 3, 1) := by decide +kernel
theorem s55_284 (d : Nat) (l0 : Value) (l1 : Value) (l2 : Value) (i3 : Int32) (l4 : Value) (l5 : Value) (l6 : Value) (l7 : Value) (l8 : Value) (w0 w1 w2 : Value) (σ : Hs) : ru d 55 284 [l0, l1, l2, .int i3, l4, l5, l6, l7, l8] [w0, w1, w2] σ = ru d 55 285 [l0, l1, l2, .int i3, l4, l5, l6, l7, l8] [.int i3, w0, w1, w2] σ := q_iload_n t55_284 rfl
theorem t55_285 : decode (mb 55) 285 = .ok (.iconst 2, 1) := by decide +kernel
theorem s55_285 (d : Nat) (l0 : Value) (l1 : Value) (l2 : Value) (l3 : Value) (l4 : Value) (l5 : Value) (l6 : Value) (l7 : Value) (l8 : Value) (w0 w1 w2 w3 : Value) (σ : Hs) : ru d 55 285 [l0, l1, l2, l3, l4, l5, l6, l7, l8] [w0, w1, w2, w3] σ = ru d 55 286 [l0, l1, l2, l3, l4, l5, l6, l7, l8] [.int 2, w0, w1, w2, w3] σ := q_iconst t55_285 (by decide +kernel)
theorem t55_286 : decode (mb 55) 286 = .ok (.idiv, 1) := by decide +kernel
theorem s55_286 (d : Nat) (l0 : Value) (l1 : Value) (l2 : Value) (l3 : Value) (l4 : Value) (l5 : Value) (l6 : Value) (l7 : Value) (l8 : Value) (x y : Int32) (w0 w1 w2 : Value) (σ : Hs) : ru d 55 286 [l0, l1, l2, l3, l4, l5, l6, l7, l8] [.int y, .int x, w0, w1, w2] σ = gd (¬ y = 0) (ru d 55 287 [l0, l1, l2, l3, l4, l5, l6, l7, l8] [.int (x / y), w0, w1, w2] σ) := q_idiv t55_286
theorem t55_287 : decode (mb 55) 287 = .ok (.iload 7, 2) := by decide +kernel
theorem s55_287 (d : Nat) (l0 : Value) (l1 : Value) (l2 : Value) (l3 : Value) (l4 : Value) (l5 : Value) (l6 : Value) (i7 : Int32) (l8 : Value) (w0 w1 w2 w3 : Value) (σ : Hs) : ru d 55 287 [l0, l1, l2, l3, l4, l5, l6, .int i7, l8] [w0, w1, w2, w3] σ = ru d 55 289 [l0, l1, l2, l3, l4, l5, l6, .int i7, l8] [.int i7, w0, w1, w2, w3] σ := q_iload t55_287 rfl
theorem t55_289 : decode (mb 55) 289 = .ok (.invokevirtual 37, 3) := by decide +kernel
theorem s55_289_o73 (d : Nat) (l0 : Value) (l1 : Value) (l2 : Value) (l3 : Value) (l4 : Value) (l5 : Value) (l6 : Value) (l7 : Value) (l8 : Value) (v1 v2 v3 v4 : Value) (σ : Hs) : ru d 55 289 [l0, l1, l2, l3, l4, l5, l6, l7, l8] [v4, v3, v2, v1, .ref 73] σ = kont (callD d 55 [.ref 73, v1, v2, v3, v4] σ) d 55 292 [l0, l1, l2, l3, l4, l5, l6, l7, l8] [] := q_invv t55_289 mo55 K6_37 mj55 rfl rfl rfl rfl (Nat.le_of_ble_eq_true rfl)
theorem t55_292 : decode (mb 55) 292 = .ok (.ireturn, 1) := by decide +kernel
theorem s55_292 (d : Nat) (l0 : Value) (l1 : Value) (l2 : Value) (l3 : Value) (l4 : Value) (l5 : Value) (l6 : Value) (l7 : Value) (l8 : Value) (x : Int32) (σ : Hs) : ru d 55 292 [l0, l1, l2, l3, l4, l5, l6, l7, l8] [.int x] σ = some (some (.int x), σ) := q_ireti t55_292 mr55
theorem t55_293 : decode (mb 55) 293 = .ok (.iconst 0, 1) := by decide +kernel
theorem s55_293 (d : Nat) (l0 : Value) (l1 : Value) (l2 : Value) (l3 : Value) (l4 : Value) (l5 : Value) (l6 : Value) (l7 : Value) (l8 : Value) (σ : Hs) : ru d 55 293 [l0, l1, l2, l3, l4, l5, l6, l7, l8] [] σ = ru d 55 294 [l0, l1, l2, l3, l4, l5, l6, l7, l8] [.int 0] σ := q_iconst t55_293 (by decide +kernel)
theorem t55_294 : decode (mb 55) 294 = .ok (.aload_n 0, 1) := by decide +kernel
theorem s55_294 (d : Nat) (a0 : Nat) (l1 : Value) (l2 : Value) (l3 : Value) (l4 : Value) (l5 : Value) (l6 : Value) (l7 : Value) (l8 : Value) (w0 : Value) (σ : Hs) : ru d 55 294 [.ref a0, l1, l2, l3, l4, l5, l6, l7, l8] [w0] σ = ru d 55 295 [.ref a0, l1, l2, l3, l4, l5, l6, l7, l8] [.ref a0, w0] σ := q_aload_n t55_294 rfl
theorem t55_295 : decode (mb 55) 295 = .ok (.iload 6, 2) := by decide +kernel
theorem s55_295 (d : Nat) (l0 : Value) (l1 : Value) (l2 : Value) (l3 : Value) (l4 : Value) (l5 : Value) (i6 : Int32) (l7 : Value) (l8 : Value) (w0 w1 : Value) (σ : Hs) : ru d 55 295 [l0, l1, l2, l3, l4, l5, .int i6, l7, l8] [w0, w1] σ = ru d 55 297 [l0, l1, l2, l3, l4, l5, .int i6, l7, l8] [.int i6, w0, w1] σ := q_iload t55_295 rfl
theorem t55_297 : decode (mb 55) 297 = .ok (.iconst 1, 1) := by decide +kernel
theorem s55_297 (d : Nat) (l0 : Value) (l1 : Value) (l2 : Value) (l3 : Value) (l4 : Value) (l5 : Value) (l6 : Value) (l7 : Value) (l8 : Value) (w0 w1 w2 : Value) (σ : Hs) : ru d 55 297 [l0, l1, l2, l3, l4, l5, l6, l7, l8] [w0, w1, w2] σ = ru d 55 298 [l0, l1, l2, l3, l4, l5, l6, l7, l8] [.int 1, w0, w1, w2] σ := q_iconst t55_297 (by decide +kernel)
theorem t55_298 : decode (mb 55) 298 = .ok (.iload_n 3, 1) := by decide +kernel
theorem s55_298 (d : Nat) (l0 : Value) (l1 : Value) (l2 : Value) (i3 : Int32) (l4 : Value) (l5 : Value) (l6 : Value) (l7 : Value) (l8 : Value) (w0 w1 w2 w3 : Value) (σ : Hs) : ru d 55 298 [l0, l1, l2, .int i3, l4, l5, l6, l7, l8] [w0, w1, w2, w3] σ = ru d 55 299 [l0, l1, l2, .int i3, l4, l5, l6, l7, l8] [.int i3, w0, w1, w2, w3] σ := q_iload_n t55_298 rfl
theorem t55_299 : decode (mb 55) 299 = .ok (.iload 7, 2) := by decide +kernel
theorem s55_299 (d : Nat) (l0 : Value) (l1 : Value) (l2 : Value) (l3 : Value) (l4 : Value) (l5 : Value) (l6 : Value) (i7 : Int32) (l8 : Value) (w0 w1 w2 w3 w4 : Value) (σ : Hs) : ru d 55 299 [l0, l1, l2, l3, l4, l5, l6, .int i7, l8] [w0, w1, w2, w3, w4] σ = ru d 55 301 [l0, l1, l2, l3, l4, l5, l6, .int i7, l8] [.int i7, w0, w1, w2, w3, w4] σ := q_iload t55_299 rfl
theorem t55_301 : decode (mb 55) 301 = .ok (.invokevirtual 37, 3) := by decide +kernel
theorem s55_301_o73 (d : Nat) (l0 : Value) (l1 : Value) (l2 : Value) (l3 : Value) (l4 : Value) (l5 : Value) (l6 : Value) (l7 : Value) (l8 : Value) (v1 v2 v3 v4 : Value) (w0 : Int32) (σ : Hs) : ru d 55 301 [l0, l1, l2, l3, l4, l5, l6, l7, l8] [v4, v3, v2, v1, .ref 73, .int w0] σ = kont (callD d 55 [.ref 73, v1, v2, v3, v4] σ) d 55 304 [l0, l1, l2, l3, l4, l5, l6, l7, l8] [.int w0] := q_invv t55_301 mo55 K6_37 mj55 rfl rfl rfl rfl (Nat.le_of_ble_eq_true rfl)
theorem t55_304 : decode (mb 55) 304 = .ok (.isub, 1) := by decide +kernel
theorem s55_304 (d : Nat) (l0 : Value) (l1 : Value) (l2 : Value) (l3 : Value) (l4 : Value) (l5 : Value) (l6 : Value) (l7 : Value) (l8 : Value) (x y : Int32) (σ : Hs) : ru d 55 304 [l0, l1, l2, l3, l4, l5, l6, l7, l8] [.int y, .int x] σ = ru d 55 305 [l0, l1, l2, l3, l4, l5, l6, l7, l8] [.int (x - y)] σ := q_isub t55_304
theorem t55_305 : decode (mb 55) 305 = .ok (.ireturn, 1) := by decide +kernel
theorem s55_305 (d : Nat) (l0 : Value) (l1 : Value) (l2 : Value) (l3 : Value) (l4 : Value) (l5 : Value) (l6 : Value) (l7 : Value) (l8 : Value) (x : Int32) (σ : Hs) : ru d 55 305 [l0, l1, l2, l3, l4, l5, l6, l7, l8] [.int x] σ = some (some (.int x), σ) := q_ireti t55_305 mr55
theorem t55_306 : decode (mb 55) 306 = .ok (.aload_n 0, 1) := by decide +kernel
theorem s55_306 (d : Nat) (a0 : Nat) (l1 : Value) (l2 : Value) (l3 : Value) (l4 : Value) (l5 : Value) (l6 : Value) (l7 : Value) (l8 : Value) (σ : Hs) : ru d 55 306 [.ref a0, l1, l2, l3, l4, l5, l6, l7, l8] [] σ = ru d 55 307 [.ref a0, l1, l2, l3, l4, l5, l6, l7, l8] [.ref a0] σ := q_aload_n t55_306 rfl
theorem t55_307 : decode (mb 55) 307 = .ok (.iload 6, 2) := by decide +kernel
theorem s55_307 (d : Nat) (l0 : Value) (l1 : Value) (l2 : Value) (l3 : Value) (l4 : Value) (l5 : Value) (i6 : Int32) (l7 : Value) (l8 : Value) (w0 : Value) (σ : Hs) : ru d 55 307 [l0, l1, l2, l3, l4, l5, .int i6, l7, l8] [w0] σ = ru d 55 309 [l0, l1, l2, l3, l4, l5, .int i6, l7, l8] [.int i6, w0] σ := q_iload t55_307 rfl
theorem t55_309 : decode (mb 55) 309 = .ok (.iconst 2, 1) := by decide +kernel
theorem s55_309 (d : Nat) (l0 : Value) (l1 : Value) (l2 : Value) (l3 : Value) (l4 : Value) (l5 : Value) (l6 : Value) (l7 : Value) (l8 : Value) (w0 w1 : Value) (σ : Hs) : ru d 55 309 [l0, l1, l2, l3, l4, l5, l6, l7, l8] [w0, w1] σ = ru d 55 310 [l0, l1, l2, l3, l4, l5, l6, l7, l8] [.int 2, w0, w1] σ := q_iconst t55_309 (by decide +kernel)
theorem t55_310 : decode (mb 55) 310 = .ok (.iload_n 3, 1) := by decide +kernel
theorem s55_310 (d : Nat) (l0 : Value) (l1 : Value) (l2 : Value) (i3 : Int32) (l4 : Value) (l5 : Value) (l6 : Value) (l7 : Value) (l8 : Value) (w0 w1 w2 : Value) (σ : Hs) : ru d 55 310 [l0, l1, l2, .int i3, l4, l5, l6, l7, l8] [w0, w1, w2] σ = ru d 55 311 [l0, l1, l2, .int i3, l4, l5, l6, l7, l8] [.int i3, w0, w1, w2] σ := q_iload_n t55_310 rfl
theorem t55_311 : decode (mb 55) 311 = .ok (.iconst 1, 1) := by decide +kernel
theorem s55_311 (d : Nat) (l0 : Value) (l1 : Value) (l2 : Value) (l3 : Value) (l4 : Value) (l5 : Value) (l6 : Value) (l7 : Value) (l8 : Value) (w0 w1 w2 w3 : Value) (σ : Hs) : ru d 55 311 [l0, l1, l2, l3, l4, l5, l6, l7, l8] [w0, w1, w2, w3] σ = ru d 55 312 [l0, l1, l2, l3, l4, l5, l6, l7, l8] [.int 1, w0, w1, w2, w3] σ := q_iconst t55_311 (by decide +kernel)
theorem t55_312 : decode (mb 55) 312 = .ok (.iadd, 1) := by decide +kernel
theorem s55_312 (d : Nat) (l0 : Value) (l1 : Value) (l2 : Value) (l3 : Value) (l4 : Value) (l5 : Value) (l6 : Value) (l7 : Value) (l8 : Value) (x y : Int32) (w0 w1 w2 : Value) (σ : Hs) : ru d 55 312 [l0, l1, l2, l3, l4, l5, l6, l7, l8] [.int y, .int x, w0, w1, w2] σ = ru d 55 313 [l0, l1, l2, l3, l4, l5, l6, l7, l8] [.int (x + y), w0, w1, w2] σ := q_iadd t55_312
theorem t55_313 : decode (mb 55) 313 = .ok (.iload 7, 2) := by decide +kernel
theorem s55_313 (d : Nat) (l0 : Value) (l1 : Value) (l2 : Value) (l3 : Value) (l4 : Value) (l5 : Value) (l6 : Value) (i7 : Int32) (l8 : Value) (w0 w1 w2 w3 : Value) (σ : Hs) : ru d 55 313 [l0, l1, l2, l3, l4, l5, l6, .int i7, l8] [w0, w1, w2, w3] σ = ru d 55 315 [l0, l1, l2, l3, l4, l5, l6, .int i7, l8] [.int i7, w0, w1, w2, w3] σ := q_iload t55_313 rfl
theorem t55_315 : decode (mb 55) 315 = .ok (.invokevirtual 37, 3) := by decide +kernel
theorem s55_315_o73 (d : Nat) (l0 : Value) (l1 : Value) (l2 : Value) (l3 : Value) (l4 : Value) (l5 : Value) (l6 : Value) (l7 : Value) (l8 : Value) (v1 v2 v3 v4 : Value) (σ : Hs) : ru d 55 315 [l0, l1, l2, l3, l4, l5, l6, l7, l8] [v4, v3, v2, v1, .ref 73] σ = kont (callD d 55 [.ref 73, v1, v2, v3, v4] σ) d 55 318 [l0, l1, l2, l3, l4, l5, l6, l7, l8] [] := q_invv t55_315 mo55 K6_37 mj55 rfl rfl rfl rfl (Nat.le_of_ble_eq_true rfl)
theorem t55_318 : decode (mb 55) 318 = .ok (.ireturn, 1) := by decide +kernel
theorem s55_318 (d : Nat) (l0 : Value) (l1 : Value) (l2 : Value) (l3 : Value) (l4 : Value) (l5 : Value) (l6 : Value) (l7 : Value) (l8 : Value) (x : Int32) (σ : Hs) : ru d 55 318 [l0, l1, l2, l3, l4, l5, l6, l7, l8] [.int x] σ = some (some (.int x), σ) := q_ireti t55_318 mr55
theorem t55_319 : decode (mb 55) 319 = .ok (.aload_n 0, 1) := by decide +kernel
theorem s55_319 (d : Nat) (a0 : Nat) (l1 : Value) (l2 : Value) (l3 : Value) (l4 : Value) (l5 : Value) (l6 : Value) (l7 : Value) (l8 : Value) (σ : Hs) : ru d 55 319 [.ref a0, l1, l2, l3, l4, l5, l6, l7, l8] [] σ = ru d 55 320 [.ref a0, l1, l2, l3, l4, l5, l6, l7, l8] [.ref a0] σ := q_aload_n t55_319 rfl
theorem t55_320 : decode (mb 55) 320 = .ok (.iload 6, 2) := by decide +kernel
theorem s55_320 (d : Nat) (l0 : Value) (l1 : Value) (l2 : Value) (l3 : Value) (l4 : Value) (l5 : Value) (i6 : Int32) (l7 : Value) (l8 : Value) (w0 : Value) (σ : Hs) : ru d 55 320 [l0, l1, l2, l3, l4, l5, .int i6, l7, l8] [w0] σ = ru d 55 322 [l0, l1, l2, l3, l4, l5, .int i6, l7, l8] [.int i6, w0] σ := q_iload t55_320 rfl
theorem t55_322 : decode (mb 55) 322 = .ok (.iconst 3, 1) := by decide +kernel
theorem s55_322 (d : Nat) (l0 : Value) (l1 : Value) (l2 : Value) (l3 : Value) (l4 : Value) (l5 : Value) (l6 : Value) (l7 : Value) (l8 : Value) (w0 w1 : Value) (σ : Hs) : ru d 55 322 [l0, l1, l2, l3, l4, l5, l6, l7, l8] [w0, w1] σ = ru d 55 323 [l0, l1, l2, l3, l4, l5, l6, l7, l8] [.int 3, w0, w1] σ := q_iconst t55_322 (by decide +kernel)
theorem t55_323 : decode (mb 55) 323 = .ok (.iload_n 3, 1) := by decide +kernel
theorem s55_323 (d : Nat) (l0 : Value) (l1 : Value) (l2 : Value) (i3 : Int32) (l4 : Value) (l5 : Value) (l6 : Value) (l7 : Value) (l8 : Value) (w0 w1 w2 : Value) (σ : Hs) : ru d 55 323 [l0, l1, l2, .int i3, l4, l5, l6, l7, l8] [w0, w1, w2] σ = ru d 55 324 [l0, l1, l2, .int i3, l4, l5, l6, l7, l8] [.int i3, w0, w1, w2] σ := q_iload_n t55_323 rfl
theorem t55_324 : decode (mb 55) 324 = .ok (.iload 7, 2) := by decide +kernel
theorem s55_324 (d : Nat) (l0 : Value) (l1 : Value) (l2 : Value) (l3 : Value) (l4 : Value) (l5 : Value) (l6 : Value) (i7 : Int32) (l8 : Value) (w0 w1 w2 w3 : Value) (σ : Hs) : ru d 55 324 [l0, l1, l2, l3, l4, l5, l6, .int i7, l8] [w0, w1, w2, w3] σ = ru d 55 326 [l0, l1, l2, l3, l4, l5, l6, .int i7, l8] [.int i7, w0, w1, w2, w3] σ := q_iload t55_324 rfl
theorem t55_326 : decode (mb 55) 326 = .ok (.invokevirtual 37, 3) := by decide +kernel
theorem s55_326_o73 (d : Nat) (l0 : Value) (l1 : Value) (l2 : Value) (l3 : Value) (l4 : Value) (l5 : Value) (l6 : Value) (l7 : Value) (l8 : Value) (v1 v2 v3 v4 : Value) (σ : Hs) : ru d 55 326 [l0, l1, l2, l3, l4, l5, l6, l7, l8] [v4, v3, v2, v1, .ref 73] σ = kont (callD d 55 [.ref 73, v1, v2, v3, v4] σ) d 55 329 [l0, l1, l2, l3, l4, l5, l6, l7, l8] [] := q_invv t55_326 mo55 K6_37 mj55 rfl rfl rfl rfl (Nat.le_of_ble_eq_true rfl)
theorem t55_329 : decode (mb 55) 329 = .ok (.aload_n 0, 1) := by decide +kernel
theorem s55_329 (d : Nat) (a0 : Nat) (l1 : Value) (l2 : Value) (l3 : Value) (l4 : Value) (l5 : Value) (l6 : Value) (l7 : Value) (l8 : Value) (w0 : Value) (σ : Hs) : ru d 55 329 [.ref a0, l1, l2, l3, l4, l5, l6, l7, l8] [w0] σ = ru d 55 330 [.ref a0, l1, l2, l3, l4, l5, l6, l7, l8] [.ref a0, w0] σ := q_aload_n t55_329 rfl
theorem t55_330 : decode (mb 55) 330 = .ok (.aload_n 0, 1) := by decide +kernel
theorem s55_330 (d : Nat) (a0 : Nat) (l1 : Value) (l2 : Value) (l3 : Value) (l4 : Value) (l5 : Value) (l6 : Value) (l7 : Value) (l8 : Value) (w0 w1 : Value) (σ : Hs) : ru d 55 330 [.ref a0, l1, l2, l3, l4, l5, l6, l7, l8] [w0, w1] σ = ru d 55 331 [.ref a0, l1, l2, l3, l4, l5, l6, l7, l8] [.ref a0, w0, w1] σ := q_aload_n t55_330 rfl
theorem t55_331 : decode (mb 55) 331 = .ok (.getfield 24, 3) := by decide +kernel
theorem s55_331_o73 (d : Nat) (l0 : Value) (l1 : Value) (l2 : Value) (l3 : Value) (l4 : Value) (l5 : Value) (l6 : Value) (l7 : Value) (l8 : Value) (w0 w1 : Value) (σ : Hs) : ru d 55 331 [l0, l1, l2, l3, l4, l5, l6, l7, l8] [.ref 73, w0, w1] σ = ru d 55 334 [l0, l1, l2, l3, l4, l5, l6, l7, l8] [.int (σ 73 2), w0, w1] σ := q_getf t55_331 mo55 F6_24 rfl rfl
theorem t55_334 : decode (mb 55) 334 = .ok (.iconst 2, 1) := by decide +kernel
theorem s55_334 (d : Nat) (l0 : Value) (l1 : Value) (l2 : Value) (l3 : Value) (l4 : Value) (l5 : Value) (l6 : Value) (l7 : Value) (l8 : Value) (w0 w1 w2 : Value) (σ : Hs) : ru d 55 334 [l0, l1, l2, l3, l4, l5, l6, l7, l8] [w0, w1, w2] σ = ru d 55 335 [l0, l1, l2, l3, l4, l5, l6, l7, l8] [.int 2, w0, w1, w2] σ := q_iconst t55_334 (by decide +kernel)
theorem t55_335 : decode (mb 55) 335 = .ok (.iconst 0, 1) := by decide +kernel
theorem s55_335 (d : Nat) (l0 : Value) (l1 : Value) (l2 : Value) (l3 : Value) (l4 : Value) (l5 : Value) (l6 : Value) (l7 : Value) (l8 : Value) (w0 w1 w2 w3 : Value) (σ : Hs) : ru d 55 335 [l0, l1, l2, l3, l4, l5, l6, l7, l8] [w0, w1, w2, w3] σ = ru d 55 336 [l0, l1, l2, l3, l4, l5, l6, l7, l8] [.int 0, w0, w1, w2, w3] σ := q_iconst t55_335 (by decide +kernel)
theorem t55_336 : decode (mb 55) 336 = .ok (.iload 7, 2) := by decide +kernel
theorem s55_336 (d : Nat) (l0 : Value) (l1 : Value) (l2 : Value) (l3 : Value) (l4 : Value) (l5 : Value) (l6 : Value) (i7 : Int32) (l8 : Value) (w0 w1 w2 w3 w4 : Value) (σ : Hs) : ru d 55 336 [l0, l1, l2, l3, l4, l5, l6, .int i7, l8] [w0, w1, w2, w3, w4] σ = ru d 55 338 [l0, l1, l2, l3, l4, l5, l6, .int i7, l8] [.int i7, w0, w1, w2, w3, w4] σ := q_iload t55_336 rfl
theorem t55_338 : decode (mb 55) 338 = .ok (.invokevirtual 37, 3) := by decide +kernel
theorem s55_338_o73 (d : Nat) (l0 : Value) (l1 : Value) (l2 : Value) (l3 : Value) (l4 : Value) (l5 : Value) (l6 : Value) (l7 : Value) (l8 : Value) (v1 v2 v3 v4 : Value) (w0 : Int32) (σ : Hs) : ru d 55 338 [l0, l1, l2, l3, l4, l5, l6, l7, l8] [v4, v3, v2, v1, .ref 73, .int w0] σ = kont (callD d 55 [.ref 73, v1, v2, v3, v4] σ) d 55 341 [l0, l1, l2, l3, l4, l5, l6, l7, l8] [.int w0] := q_invv t55_338 mo55 K6_37 mj55 rfl rfl rfl rfl (Nat.le_of_ble_eq_true rfl)
theorem t55_341 : decode (mb 55) 341 = .ok (.isub, 1) := by decide +kernel
theorem s55_341 (d : Nat) (l0 : Value) (l1 : Value) (l2 : Value) (l3 : Value) (l4 : Value) (l5 : Value) (l6 : Value) (l7 : Value) (l8 : Value) (x y : Int32) (σ : Hs) : ru d 55 341 [l0, l1, l2, l3, l4, l5, l6, l7, l8] [.int y, .int x] σ = ru d 55 342 [l0, l1, l2, l3, l4, l5, l6, l7, l8] [.int (x - y)] σ := q_isub t55_341
theorem t55_342 : decode (mb 55) 342 = .ok (.ireturn, 1) := by decide +kernel
theorem s55_342 (d : Nat) (l0 : Value) (l1 : Value) (l2 : Value) (l3 : Value) (l4 : Value) (l5 : Value) (l6 : Value) (l7 : Value) (l8 : Value) (x : Int32) (σ : Hs) : ru d 55 342 [l0, l1, l2, l3, l4, l5, l6, l7, l8] [.int x] σ = some (some (.int x), σ) := q_ireti t55_342 mr55
theorem t55_343 : decode (mb 55) 343 = .ok (.aload_n 0, 1) := by decide +kernel
theorem s55_343 (d : Nat) (a0 : Nat) (l1 : Value) (l2 : Value) (l3 : Value) (l4 : Value) (l5 : Value) (l6 : Value) (l7 : Value) (l8 : Value) (σ : Hs) : ru d 55 343 [.ref a0, l1, l2, l3, l4, l5, l6, l7, l8] [] σ = ru d 55 344 [.ref a0, l1, l2, l3, l4, l5, l6, l7, l8] [.ref a0] σ := q_aload_n t55_343 rfl
theorem t55_344 : decode (mb 55) 344 = .ok (.iload 6, 2) := by decide +kernel
theorem s55_344 (d : Nat) (l0 : Value) (l1 : Value) (l2 : Value) (l3 : Value) (l4 : Value) (l5 : Value) (i6 : Int32) (l7 : Value) (l8 : Value) (w0 : Value) (σ : Hs) : ru d 55 344 [l0, l1, l2, l3, l4, l5, .int i6, l7, l8] [w0] σ = ru d 55 346 [l0, l1, l2, l3, l4, l5, .int i6, l7, l8] [.int i6, w0] σ := q_iload t55_344 rfl
theorem t55_346 : decode (mb 55) 346 = .ok (.iconst 1, 1) := by decide +kernel
theorem s55_346 (d : Nat) (l0 : Value) (l1 : Value) (l2 : Value) (l3 : Value) (l4 : Value) (l5 : Value) (l6 : Value) (l7 : Value) (l8 : Value) (w0 w1 : Value) (σ : Hs) : ru d 55 346 [l0, l1, l2, l3, l4, l5, l6, l7, l8] [w0, w1] σ = ru d 55 347 [l0, l1, l2, l3, l4, l5, l6, l7, l8] [.int 1, w0, w1] σ := q_iconst t55_346 (by decide +kernel)
theorem t55_347 : decode (mb 55) 347 = .ok (.iload_n 3, 1) := by decide +kernel
theorem s55_347 (d : Nat) (l0 : Value) (l1 : Value) (l2 : Value) (i3 : Int32) (l4 : Value) (l5 : Value) (l6 : Value) (l7 : Value) (l8 : Value) (w0 w1 w2 : Value) (σ : Hs) : ru d 55 347 [l0, l1, l2, .int i3, l4, l5, l6, l7, l8] [w0, w1, w2] σ = ru d 55 348 [l0, l1, l2, .int i3, l4, l5, l6, l7, l8] [.int i3, w0, w1, w2] σ := q_iload_n t55_347 rfl
theorem t55_348 : decode (mb 55) 348 = .ok (.iload 7, 2) := by decide +kernel
theorem s55_348 (d : Nat) (l0 : Value) (l1 : Value) (l2 : Value) (l3 : Value) (l4 : Value) (l5 : Value) (l6 : Value) (i7 : Int32) (l8 : Value) (w0 w1 w2 w3 : Value) (σ : Hs) : ru d 55 348 [l0, l1, l2, l3, l4, l5, l6, .int i7, l8] [w0, w1, w2, w3] σ = ru d 55 350 [l0, l1, l2, l3, l4, l5, l6, .int i7, l8] [.int i7, w0, w1, w2, w3] σ := q_iload t55_348 rfl
theorem t55_350 : decode (mb 55) 350 = .ok (.invokevirtual 37, 3) := by decide +kernel
theorem s55_350_o73 (d : Nat) (l0 : Value) (l1 : Value) (l2 : Value) (l3 : Value) (l4 : Value) (l5 : Value) (l6 : Value) (l7 : Value) (l8 : Value) (v1 v2 v3 v4 : Value) (σ : Hs) : ru d 55 350 [l0, l1, l2, l3, l4, l5, l6, l7, l8] [v4, v3, v2, v1, .ref 73] σ = kont (callD d 55 [.ref 73, v1, v2, v3, v4] σ) d 55 353 [l0, l1, l2, l3, l4, l5, l6, l7, l8] [] := q_invv t55_350 mo55 K6_37 mj55 rfl rfl rfl rfl (Nat.le_of_ble_eq_true rfl)
theorem t55_353 : decode (mb 55) 353 = .ok (.aload_n 0, 1) := by decide +kernel
theorem s55_353 (d : Nat) (a0 : Nat) (l1 : Value) (l2 : Value) (l3 : Value) (l4 : Value) (l5 : Value) (l6 : Value) (l7 : Value) (l8 : Value) (w0 : Value) (σ : Hs) : ru d 55 353 [.ref a0, l1, l2, l3, l4, l5, l6, l7, l8] [w0] σ = ru d 55 354 [.ref a0, l1, l2, l3, l4, l5, l6, l7, l8] [.ref a0, w0] σ := q_aload_n t55_353 rfl
theorem t55_354 : decode (mb 55) 354 = .ok (.getfield 28, 3) := by decide +kernel
theorem s55_354_o73 (d : Nat) (l0 : Value) (l1 : Value) (l2 : Value) (l3 : Value) (l4 : Value) (l5 : Value) (l6 : Value) (l7 : Value) (l8 : Value) (w0 : Value) (σ : Hs) : ru d 55 354 [l0, l1, l2, l3, l4, l5, l6, l7, l8] [.ref 73, w0] σ = ru d 55 357 [l0, l1, l2, l3, l4, l5, l6, l7, l8] [.int (σ 73 3), w0] σ := q_getf t55_354 mo55 F6_28 rfl rfl
theorem t55_357 : decode (mb 55) 357 = .ok (.iadd, 1) := by decide +kernel
theorem s55_357 (d : Nat) (l0 : Value) (l1 : Value) (l2 : Value) (l3 : Value) (l4 : Value) (l5 : Value) (l6 : Value) (l7 : Value) (l8 : Value) (x y : Int32) (σ : Hs) : ru d 55 357 [l0, l1, l2, l3, l4, l5, l6, l7, l8] [.int y, .int x] σ = ru d 55 358 [l0, l1, l2, l3, l4, l5, l6, l7, l8] [.int (x + y)] σ := q_iadd t55_357
theorem t55_358 : decode (mb 55) 358 = .ok (.ireturn, 1) := by decide +kernel
theorem s55_358 (d : Nat) (l0 : Value) (l1 : Value) (l2 : Value) (l3 : Value) (l4 : Value) (l5 : Value) (l6 : Value) (l7 : Value) (l8 : Value) (x : Int32) (σ : Hs) : ru d 55 358 [l0, l1, l2, l3, l4, l5, l6, l7, l8] [.int x] σ = some (some (.int x), σ) := q_ireti t55_358 mr55
theorem t55_359 : decode (mb 55) 359 = .ok (.iconst 3, 1) := by decide +kernel
theorem s55_359 (d : Nat) (l0 : Value) (l1 : Value) (l2 : Value) (l3 : Value) (l4 : Value) (l5 : Value) (l6 : Value) (l7 : Value) (l8 : Value) (σ : Hs) : ru d 55 359 [l0, l1, l2, l3, l4, l5, l6, l7, l8] [] σ = ru d 55 360 [l0, l1, l2, l3, l4, l5, l6, l7, l8] [.int 3] σ := q_iconst t55_359 (by decide +kernel)
theorem t55_360 : decode (mb 55) 360 = .ok (.ireturn, 1) := by decide +kernel
theorem s55_360 (d : Nat) (l0 : Value) (l1 : Value) (l2 : Value) (l3 : Value) (l4 : Value) (l5 : Value) (l6 : Value) (l7 : Value) (l8 : Value) (x : Int32) (σ : Hs) : ru d 55 360 [l0, l1, l2, l3, l4, l5, l6, l7, l8] [.int x] σ = some (some (.int x), σ) := q_ireti t55_360 mr55
theorem t55_361 : decode (mb 55) 361 = .ok (.aload_n 0, 1) := by decide +kernel
theorem s55_361 (d : Nat) (a0 : Nat) (l1 : Value) (l2 : Value) (l3 : Value) (l4 : Value) (l5 : Value) (l6 : Value) (l7 : Value) (l8 : Value) (σ : Hs) : ru d 55 361 [.ref a0, l1, l2, l3, l4, l5, l6, l7, l8] [] σ = ru d 55 362 [.ref a0, l1, l2, l3, l4, l5, l6, l7, l8] [.ref a0] σ := q_aload_n t55_361 rfl
theorem t55_362 : decode (mb 55) 362 = .ok (.iload 6, 2) := by decide +kernel
theorem s55_362 (d : Nat) (l0 : Value) (l1 : Value) (l2 : Value) (l3 : Value) (l4 : Value) (l5 : Value) (i6 : Int32) (l7 : Value) (l8 : Value) (w0 : Value) (σ : Hs) : ru d 55 362 [l0, l1, l2, l3, l4, l5, .int i6, l7, l8] [w0] σ = ru d 55 364 [l0, l1, l2, l3, l4, l5, .int i6, l7, l8] [.int i6, w0] σ := q_iload t55_362 rfl
theorem t55_364 : decode (mb 55) 364 = .ok (.iconst 2, 1) := by decide +kernel
theorem s55_364 (d : Nat) (l0 : Value) (l1 : Value) (l2 : Value) (l3 : Value) (l4 : Value) (l5 : Value) (l6 : Value) (l7 : Value) (l8 : Value) (w0 w1 : Value) (σ : Hs) : ru d 55 364 [l0, l1, l2, l3, l4, l5, l6, l7, l8] [w0, w1] σ = ru d 55 365 [l0, l1, l2, l3, l4, l5, l6, l7, l8] [.int 2, w0, w1] σ := q_iconst t55_364 (by decide +kernel)
theorem t55_365 : decode (mb 55) 365 = .ok (.iload_n 3, 1) := by decide +kernel
theorem s55_365 (d : Nat) (l0 : Value) (l1 : Value) (l2 : Value) (i3 : Int32) (l4 : Value) (l5 : Value) (l6 : Value) (l7 : Value) (l8 : Value) (w0 w1 w2 : Value) (σ : Hs) : ru d 55 365 [l0, l1, l2, .int i3, l4, l5, l6, l7, l8] [w0, w1, w2] σ = ru d 55 366 [l0, l1, l2, .int i3, l4, l5, l6, l7, l8] [.int i3, w0, w1, w2] σ := q_iload_n t55_365 rfl
theorem t55_366 : decode (mb 55) 366 = .ok (.iload 7, 2) := by decide +kernel
theorem s55_366 (d : Nat) (l0 : Value) (l1 : Value) (l2 : Value) (l3 : Value) (l4 : Value) (l5 : Value) (l6 : Value) (i7 : Int32) (l8 : Value) (w0 w1 w2 w3 : Value) (σ : Hs) : ru d 55 366 [l0, l1, l2, l3, l4, l5, l6, .int i7, l8] [w0, w1, w2, w3] σ = ru d 55 368 [l0, l1, l2, l3, l4, l5, l6, .int i7, l8] [.int i7, w0, w1, w2, w3] σ := q_iload t55_366 rfl
theorem t55_368 : decode (mb 55) 368 = .ok (.invokevirtual 37, 3) := by decide +kernel
theorem s55_368_o73 (d : Nat) (l0 : Value) (l1 : Value) (l2 : Value) (l3 : Value) (l4 : Value) (l5 : Value) (l6 : Value) (l7 : Value) (l8 : Value) (v1 v2 v3 v4 : Value) (σ : Hs) : ru d 55 368 [l0, l1, l2, l3, l4, l5, l6, l7, l8] [v4, v3, v2, v1, .ref 73] σ = kont (callD d 55 [.ref 73, v1, v2, v3, v4] σ) d 55 371 [l0, l1, l2, l3, l4, l5, l6, l7, l8] [] := q_invv t55_368 mo55 K6_37 mj55 rfl rfl rfl rfl (Nat.le_of_ble_eq_true rfl)
theorem t55_371 : decode (mb 55) 371 = .ok (.iconst 5, 1) := by decide +kernel
theorem s55_371 (d : Nat) (l0 : Value) (l1 : Value) (l2 : Value) (l3 : Value) (l4 : Value) (l5 : Value) (l6 : Value) (l7 : Value) (l8 : Value) (w0 : Value) (σ : Hs) : ru d 55 371 [l0, l1, l2, l3, l4, l5, l6, l7, l8] [w0] σ = ru d 55 372 [l0, l1, l2, l3, l4, l5, l6, l7, l8] [.int 5, w0] σ := q_iconst t55_371 (by decide +kernel)
theorem t55_372 : decode (mb 55) 372 = .ok (.imul, 1) := by decide +kernel
theorem s55_372 (d : Nat) (l0 : Value) (l1 : Value) (l2 : Value) (l3 : Value) (l4 : Value) (l5 : Value) (l6 : Value) (l7 : Value) (l8 : Value) (x y : Int32) (σ : Hs) : ru d 55 372 [l0, l1, l2, l3, l4, l5, l6, l7, l8] [.int y, .int x] σ = ru d 55 373 [l0, l1, l2, l3, l4, l5, l6, l7, l8] [.int (x * y)] σ := q_imul t55_372
theorem t55_373 : decode (mb 55) 373 = .ok (.ireturn, 1) := by decide +kernel
theorem s55_373 (d : Nat) (l0 : Value) (l1 : Value) (l2 : Value) (l3 : Value) (l4 : Value) (l5 : Value) (l6 : Value) (l7 : Value) (l8 : Value) (x : Int32) (σ : Hs) : ru d 55 373 [l0, l1, l2, l3, l4, l5, l6, l7, l8] [.int x] σ = some (some (.int x), σ) := q_ireti t55_373 mr55
theorem c55 (d : Nat) (x0 : Nat) (x1 : Int32) (x2 : Int32) (x3 : Int32) (x4 : Int32) (σ : Hs) : callD (d + 1) 55 [.ref x0, .int x1, .int x2, .int x3, .int x4] σ = ru d 55 0 [.ref x0, .int x1, .int x2, .int x3, .int x4, uu, uu, uu, uu] [] σ := callD_ru ml55 rfl rfl (Nat.le_of_ble_eq_true rfl)
-- 56: Voices.shared(I)I
theorem t56_0 : decode (mb 56) 0 = .ok (.aload_n 0, 1) := by decide +kernel
theorem s56_0 (d : Nat) (a0 : Nat) (l1 : Value) (l2 : Value) (σ : Hs) : ru d 56 0 [.ref a0, l1, l2] [] σ = ru d 56 1 [.ref a0, l1, l2] [.ref a0] σ := q_aload_n t56_0 rfl
theorem t56_1 : decode (mb 56) 1 = .ok (.getfield 31, 3) := by decide +kernel
theorem s56_1_o73 (d : Nat) (l0 : Value) (l1 : Value) (l2 : Value) (σ : Hs) : ru d 56 1 [l0, l1, l2] [.ref 73] σ = ru d 56 4 [l0, l1, l2] [.int (σ 73 4)] σ := q_getf t56_1 mo56 F6_31 rfl rfl
theorem t56_4 : decode (mb 56) 4 = .ok (.aload_n 0, 1) := by decide +kernel
theorem s56_4 (d : Nat) (a0 : Nat) (l1 : Value) (l2 : Value) (w0 : Value) (σ : Hs) : ru d 56 4 [.ref a0, l1, l2] [w0] σ = ru d 56 5 [.ref a0, l1, l2] [.ref a0, w0] σ := q_aload_n t56_4 rfl
theorem t56_5 : decode (mb 56) 5 = .ok (.getfield 28, 3) := by decide +kernel
theorem s56_5_o73 (d : Nat) (l0 : Value) (l1 : Value) (l2 : Value) (w0 : Value) (σ : Hs) : ru d 56 5 [l0, l1, l2] [.ref 73, w0] σ = ru d 56 8 [l0, l1, l2] [.int (σ 73 3), w0] σ := q_getf t56_5 mo56 F6_28 rfl rfl
theorem t56_8 : decode (mb 56) 8 = .ok (.isub, 1) := by decide +kernel
theorem s56_8 (d : Nat) (l0 : Value) (l1 : Value) (l2 : Value) (x y : Int32) (σ : Hs) : ru d 56 8 [l0, l1, l2] [.int y, .int x] σ = ru d 56 9 [l0, l1, l2] [.int (x - y)] σ := q_isub t56_8
theorem t56_9 : decode (mb 56) 9 = .ok (.istore_n 2, 1) := by decide +kernel
theorem s56_9 (d : Nat) (l0 : Value) (i1 : Int32) (l2 : Value) (x : Int32) (σ : Hs) : ru d 56 9 [l0, .int i1, l2] [.int x] σ = ru d 56 10 [l0, .int i1, .int x] [] σ := q_istore_n t56_9 ⟨Nat.le_of_ble_eq_true rfl, rfl⟩ rfl
theorem t56_10 : decode (mb 56) 10 = .ok (.iload_n 2, 1) := by decide +kernel
theorem s56_10 (d : Nat) (l0 : Value) (l1 : Value) (i2 : Int32) (σ : Hs) : ru d 56 10 [l0, l1, .int i2] [] σ = ru d 56 11 [l0, l1, .int i2] [.int i2] σ := q_iload_n t56_10 rfl
theorem t56_11 : decode (mb 56) 11 = .ok (.ifCond .ne 10, 3) := by decide +kernel
theorem s56_11 (d : Nat) (l0 : Value) (l1 : Value) (l2 : Value) (x : Int32) (σ : Hs) : ru d 56 11 [l0, l1, l2] [.int x] σ = if x = 0 then ru d 56 14 [l0, l1, l2] [] σ else ru d 56 21 [l0, l1, l2] [] σ := q_if_ne t56_11 (by decide +kernel)
theorem t56_14 : decode (mb 56) 14 = .ok (.aload_n 0, 1) := by decide +kernel
theorem s56_14 (d : Nat) (a0 : Nat) (l1 : Value) (l2 : Value) (σ : Hs) : ru d 56 14 [.ref a0, l1, l2] [] σ = ru d 56 15 [.ref a0, l1, l2] [.ref a0] σ := q_aload_n t56_14 rfl
theorem t56_15 : decode (mb 56) 15 = .ok (.iconst 1, 1) := by decide +kernel
theorem s56_15 (d : Nat) (l0 : Value) (l1 : Value) (l2 : Value) (w0 : Value) (σ : Hs) : ru d 56 15 [l0, l1, l2] [w0] σ = ru d 56 16 [l0, l1, l2] [.int 1, w0] σ := q_iconst t56_15 (by decide +kernel)
theorem t56_16 : decode (mb 56) 16 = .ok (.putfield 20, 3) := by decide +kernel
theorem s56_16_o73 (d : Nat) (l0 : Value) (l1 : Value) (l2 : Value) (x : Int32) (hx : isB x) (σ : Hs) : ru d 56 16 [l0, l1, l2] [.int x, .ref 73] σ = ru d 56 19 [l0, l1, l2] [] (up2 σ 73 1 x) := q_putz t56_16 mo56 F6_20 (by decide +kernel) rfl rfl hx
theorem t56_19 : decode (mb 56) 19 = .ok (.iconst 0, 1) := by decide +kernel
theorem s56_19 (d : Nat) (l0 : Value) (l1 : Value) (l2 : Value) (σ : Hs) : ru d 56 19 [l0, l1, l2] [] σ = ru d 56 20 [l0, l1, l2] [.int 0] σ := q_iconst t56_19 (by decide +kernel)
theorem t56_20 : decode (mb 56) 20 = .ok (.ireturn, 1) := by decide +kernel
theorem s56_20 (d : Nat) (l0 : Value) (l1 : Value) (l2 : Value) (x : Int32) (σ : Hs) : ru d 56 20 [l0, l1, l2] [.int x] σ = some (some (.int x), σ) := q_ireti t56_20 mr56
theorem t56_21 : decode (mb 56) 21 = .ok (.iload_n 1, 1) := by decide +kernel
theorem s56_21 (d : Nat) (l0 : Value) (i1 : Int32) (l2 : Value) (σ : Hs) : ru d 56 21 [l0, .int i1, l2] [] σ = ru d 56 22 [l0, .int i1, l2] [.int i1] σ := q_iload_n t56_21 rfl
theorem t56_22 : decode (mb 56) 22 = .ok (.iload_n 2, 1) := by decide +kernel
theorem s56_22 (d : Nat) (l0 : Value) (l1 : Value) (i2 : Int32) (w0 : Value) (σ : Hs) : ru d 56 22 [l0, l1, .int i2] [w0] σ = ru d 56 23 [l0, l1, .int i2] [.int i2, w0] σ := q_iload_n t56_22 rfl
theorem t56_23 : decode (mb 56) 23 = .ok (.idiv, 1) := by decide +kernel
theorem s56_23 (d : Nat) (l0 : Value) (l1 : Value) (l2 : Value) (x y : Int32) (σ : Hs) : ru d 56 23 [l0, l1, l2] [.int y, .int x] σ = gd (¬ y = 0) (ru d 56 24 [l0, l1, l2] [.int (x / y)] σ) := q_idiv t56_23
theorem t56_24 : decode (mb 56) 24 = .ok (.ireturn, 1) := by decide +kernel
theorem s56_24 (d : Nat) (l0 : Value) (l1 : Value) (l2 : Value) (x : Int32) (σ : Hs) : ru d 56 24 [l0, l1, l2] [.int x] σ = some (some (.int x), σ) := q_ireti t56_24 mr56
theorem c56 (d : Nat) (x0 : Nat) (x1 : Int32) (σ : Hs) : callD (d + 1) 56 [.ref x0, .int x1] σ = ru d 56 0 [.ref x0, .int x1, uu] [] σ := callD_ru ml56 rfl rfl (Nat.le_of_ble_eq_true rfl)
-- 57: Voices.ownerOf(II)I
theorem t57_0 : decode (mb 57) 0 = .ok (.iload_n 0, 1) := by decide +kernel
theorem s57_0 (d : Nat) (i0 : Int32) (l1 : Value) (l2 : Value) (l3 : Value) (σ : Hs) : ru d 57 0 [.int i0, l1, l2, l3] [] σ = ru d 57 1 [.int i0, l1, l2, l3] [.int i0] σ := q_iload_n t57_0 rfl
theorem t57_1 : decode (mb 57) 1 = .ok (.istore_n 2, 1) := by decide +kernel
theorem s57_1 (d : Nat) (l0 : Value) (i1 : Int32) (l2 : Value) (l3 : Value) (x : Int32) (σ : Hs) : ru d 57 1 [l0, .int i1, l2, l3] [.int x] σ = ru d 57 2 [l0, .int i1, .int x, l3] [] σ := q_istore_n t57_1 ⟨Nat.le_of_ble_eq_true rfl, rfl⟩ rfl
theorem t57_2 : decode (mb 57) 2 = .ok (.iconst 0, 1) := by decide +kernel
theorem s57_2 (d : Nat) (l0 : Value) (l1 : Value) (l2 : Value) (l3 : Value) (σ : Hs) : ru d 57 2 [l0, l1, l2, l3] [] σ = ru d 57 3 [l0, l1, l2, l3] [.int 0] σ := q_iconst t57_2 (by decide +kernel)
theorem t57_3 : decode (mb 57) 3 = .ok (.istore_n 3, 1) := by decide +kernel
theorem s57_3 (d : Nat) (l0 : Value) (l1 : Value) (i2 : Int32) (l3 : Value) (x : Int32) (σ : Hs) : ru d 57 3 [l0, l1, .int i2, l3] [.int x] σ = ru d 57 4 [l0, l1, .int i2, .int x] [] σ := q_istore_n t57_3 ⟨Nat.le_of_ble_eq_true rfl, rfl⟩ rfl
theorem t57_4 : decode (mb 57) 4 = .ok (.iload_n 3, 1) := by decide +kernel
theorem s57_4 (d : Nat) (l0 : Value) (l1 : Value) (l2 : Value) (i3 : Int32) (σ : Hs) : ru d 57 4 [l0, l1, l2, .int i3] [] σ = ru d 57 5 [l0, l1, l2, .int i3] [.int i3] σ := q_iload_n t57_4 rfl
theorem t57_5 : decode (mb 57) 5 = .ok (.bipush 7, 2) := by decide +kernel
theorem s57_5 (d : Nat) (l0 : Value) (l1 : Value) (l2 : Value) (l3 : Value) (w0 : Value) (σ : Hs) : ru d 57 5 [l0, l1, l2, l3] [w0] σ = ru d 57 7 [l0, l1, l2, l3] [.int 7, w0] σ := q_bipush t57_5 (by decide +kernel)
theorem t57_7 : decode (mb 57) 7 = .ok (.if_icmp .ge 36, 3) := by decide +kernel
theorem s57_7 (d : Nat) (l0 : Value) (l1 : Value) (l2 : Value) (l3 : Value) (x y : Int32) (σ : Hs) : ru d 57 7 [l0, l1, l2, l3] [.int y, .int x] σ = if y ≤ x then ru d 57 43 [l0, l1, l2, l3] [] σ else ru d 57 10 [l0, l1, l2, l3] [] σ := q_ic_ge t57_7 (by decide +kernel)
theorem t57_10 : decode (mb 57) 10 = .ok (.iload_n 2, 1) := by decide +kernel
theorem s57_10 (d : Nat) (l0 : Value) (l1 : Value) (i2 : Int32) (l3 : Value) (σ : Hs) : ru d 57 10 [l0, l1, .int i2, l3] [] σ = ru d 57 11 [l0, l1, .int i2, l3] [.int i2] σ := q_iload_n t57_10 rfl
theorem t57_11 : decode (mb 57) 11 = .ok (.invokestatic 60, 3) := by decide +kernel
theorem s57_11 (d : Nat) (l0 : Value) (l1 : Value) (l2 : Value) (l3 : Value) (v0 : Value) (σ : Hs) : ru d 57 11 [l0, l1, l2, l3] [v0] σ = kont (callD d 104 [v0] σ) d 57 14 [l0, l1, l2, l3] [] := q_invs t57_11 mo57 (by decide +kernel) K6_60 mj104 (Nat.le_of_ble_eq_true rfl) rfl rfl (Nat.le_of_ble_eq_true rfl)
theorem t57_14 : decode (mb 57) 14 = .ok (.ifCond .eq 29, 3) := by decide +kernel
theorem s57_14 (d : Nat) (l0 : Value) (l1 : Value) (l2 : Value) (l3 : Value) (x : Int32) (σ : Hs) : ru d 57 14 [l0, l1, l2, l3] [.int x] σ = if x = 0 then ru d 57 43 [l0, l1, l2, l3] [] σ else ru d 57 17 [l0, l1, l2, l3] [] σ := q_if_eq t57_14 (by decide +kernel)
theorem t57_17 : decode (mb 57) 17 = .ok (.getstatic 49, 3) := by decide +kernel
theorem s57_17 (d : Nat) (l0 : Value) (l1 : Value) (l2 : Value) (l3 : Value) (σ : Hs) : ru d 57 17 [l0, l1, l2, l3] [] σ = ru d 57 20 [l0, l1, l2, l3] [.ref 108] σ := q_gets t57_17 mo57 S6_49 rfl
theorem t57_20 : decode (mb 57) 20 = .ok (.iconst 4, 1) := by decide +kernel
theorem s57_20 (d : Nat) (l0 : Value) (l1 : Value) (l2 : Value) (l3 : Value) (w0 : Value) (σ : Hs) : ru d 57 20 [l0, l1, l2, l3] [w0] σ = ru d 57 21 [l0, l1, l2, l3] [.int 4, w0] σ := q_iconst t57_20 (by decide +kernel)
theorem t57_21 : decode (mb 57) 21 = .ok (.iload_n 2, 1) := by decide +kernel
theorem s57_21 (d : Nat) (l0 : Value) (l1 : Value) (i2 : Int32) (l3 : Value) (w0 w1 : Value) (σ : Hs) : ru d 57 21 [l0, l1, .int i2, l3] [w0, w1] σ = ru d 57 22 [l0, l1, .int i2, l3] [.int i2, w0, w1] σ := q_iload_n t57_21 rfl
theorem t57_22 : decode (mb 57) 22 = .ok (.imul, 1) := by decide +kernel
theorem s57_22 (d : Nat) (l0 : Value) (l1 : Value) (l2 : Value) (l3 : Value) (x y : Int32) (w0 : Value) (σ : Hs) : ru d 57 22 [l0, l1, l2, l3] [.int y, .int x, w0] σ = ru d 57 23 [l0, l1, l2, l3] [.int (x * y), w0] σ := q_imul t57_22
theorem t57_23 : decode (mb 57) 23 = .ok (.iload_n 1, 1) := by decide +kernel
theorem s57_23 (d : Nat) (l0 : Value) (i1 : Int32) (l2 : Value) (l3 : Value) (w0 w1 : Value) (σ : Hs) : ru d 57 23 [l0, .int i1, l2, l3] [w0, w1] σ = ru d 57 24 [l0, .int i1, l2, l3] [.int i1, w0, w1] σ := q_iload_n t57_23 rfl
theorem t57_24 : decode (mb 57) 24 = .ok (.iadd, 1) := by decide +kernel
theorem s57_24 (d : Nat) (l0 : Value) (l1 : Value) (l2 : Value) (l3 : Value) (x y : Int32) (w0 : Value) (σ : Hs) : ru d 57 24 [l0, l1, l2, l3] [.int y, .int x, w0] σ = ru d 57 25 [l0, l1, l2, l3] [.int (x + y), w0] σ := q_iadd t57_24
theorem t57_25 : decode (mb 57) 25 = .ok (.iaload, 1) := by decide +kernel
theorem s57_25_o108 (d : Nat) (l0 : Value) (l1 : Value) (l2 : Value) (l3 : Value) (i : Int32) (σ : Hs) : ru d 57 25 [l0, l1, l2, l3] [.int i, .ref 108] σ = gd (vp_in i 28) (ru d 57 26 [l0, l1, l2, l3] [.int (([10, 11, 12, 13, 20, 0, 0, 21, 0, 0, 30, 0, 40, 41, 0, 0, 0, 0, 50, 51, 0, 60, 0, 0, 70, 0, 71, 0] : List Int32).getD i.toNatClampNeg 0)] σ) := q_ials t57_25 rfl (by decide +kernel) rfl rfl
theorem t57_26 : decode (mb 57) 26 = .ok (.ifCond .eq 5, 3) := by decide +kernel
theorem s57_26 (d : Nat) (l0 : Value) (l1 : Value) (l2 : Value) (l3 : Value) (x : Int32) (σ : Hs) : ru d 57 26 [l0, l1, l2, l3] [.int x] σ = if x = 0 then ru d 57 31 [l0, l1, l2, l3] [] σ else ru d 57 29 [l0, l1, l2, l3] [] σ := q_if_eq t57_26 (by decide +kernel)
theorem t57_29 : decode (mb 57) 29 = .ok (.iload_n 2, 1) := by decide +kernel
theorem s57_29 (d : Nat) (l0 : Value) (l1 : Value) (i2 : Int32) (l3 : Value) (σ : Hs) : ru d 57 29 [l0, l1, .int i2, l3] [] σ = ru d 57 30 [l0, l1, .int i2, l3] [.int i2] σ := q_iload_n t57_29 rfl
theorem t57_30 : decode (mb 57) 30 = .ok (.ireturn, 1) := by decide +kernel
theorem s57_30 (d : Nat) (l0 : Value) (l1 : Value) (l2 : Value) (l3 : Value) (x : Int32) (σ : Hs) : ru d 57 30 [l0, l1, l2, l3] [.int x] σ = some (some (.int x), σ) := q_ireti t57_30 mr57
theorem t57_31 : decode (mb 57) 31 = .ok (.getstatic 45, 3) := by decide +kernel
theorem s57_31 (d : Nat) (l0 : Value) (l1 : Value) (l2 : Value) (l3 : Value) (σ : Hs) : ru d 57 31 [l0, l1, l2, l3] [] σ = ru d 57 34 [l0, l1, l2, l3] [.ref 104] σ := q_gets t57_31 mo57 S6_45 rfl
theorem t57_34 : decode (mb 57) 34 = .ok (.iload_n 2, 1) := by decide +kernel
theorem s57_34 (d : Nat) (l0 : Value) (l1 : Value) (i2 : Int32) (l3 : Value) (w0 : Value) (σ : Hs) : ru d 57 34 [l0, l1, .int i2, l3] [w0] σ = ru d 57 35 [l0, l1, .int i2, l3] [.int i2, w0] σ := q_iload_n t57_34 rfl
theorem t57_35 : decode (mb 57) 35 = .ok (.iaload, 1) := by decide +kernel
theorem s57_35_o104 (d : Nat) (l0 : Value) (l1 : Value) (l2 : Value) (l3 : Value) (i : Int32) (σ : Hs) : ru d 57 35 [l0, l1, l2, l3] [.int i, .ref 104] σ = gd (vp_in i 7) (ru d 57 36 [l0, l1, l2, l3] [.int (([(-1), 0, 0, 1, 2, 0, 5] : List Int32).getD i.toNatClampNeg 0)] σ) := q_ials t57_35 rfl (by decide +kernel) rfl rfl
theorem t57_36 : decode (mb 57) 36 = .ok (.istore_n 2, 1) := by decide +kernel
theorem s57_36 (d : Nat) (l0 : Value) (i1 : Int32) (l2 : Value) (l3 : Value) (x : Int32) (σ : Hs) : ru d 57 36 [l0, .int i1, l2, l3] [.int x] σ = ru d 57 37 [l0, .int i1, .int x, l3] [] σ := q_istore_n t57_36 ⟨Nat.le_of_ble_eq_true rfl, rfl⟩ rfl
theorem t57_37 : decode (mb 57) 37 = .ok (.iinc 3 1, 3) := by decide +kernel
theorem s57_37 (d : Nat) (l0 : Value) (l1 : Value) (i2 : Int32) (i3 : Int32) (σ : Hs) : ru d 57 37 [l0, l1, .int i2, .int i3] [] σ = ru d 57 40 [l0, l1, .int i2, .int (i3 + 1)] [] σ := q_iinc t57_37 ⟨Nat.le_of_ble_eq_true rfl, rfl⟩ rfl (by decide +kernel) rfl
theorem t57_40 : decode (mb 57) 40 = .ok (.goto (-36), 3) := by decide +kernel
theorem s57_40 (d : Nat) (l0 : Value) (l1 : Value) (l2 : Value) (l3 : Value) (σ : Hs) : ru d 57 40 [l0, l1, l2, l3] [] σ = ru d 57 4 [l0, l1, l2, l3] [] σ := q_goto t57_40 (by decide +kernel)
theorem t57_43 : decode (mb 57) 43 = .ok (.iconst (-1), 1) := by decide +kernel
theorem s57_43 (d : Nat) (l0 : Value) (l1 : Value) (l2 : Value) (l3 : Value) (σ : Hs) : ru d 57 43 [l0, l1, l2, l3] [] σ = ru d 57 44 [l0, l1, l2, l3] [.int (-1)] σ := q_iconst t57_43 (by decide +kernel)
theorem t57_44 : decode (mb 57) 44 = .ok (.ireturn, 1) := by decide +kernel
theorem s57_44 (d : Nat) (l0 : Value) (l1 : Value) (l2 : Value) (l3 : Value) (x : Int32) (σ : Hs) : ru d 57 44 [l0, l1, l2, l3] [.int x] σ = some (some (.int x), σ) := q_ireti t57_44 mr57
theorem c57 (d : Nat) (x0 : Int32) (x1 : Int32) (σ : Hs) : callD (d + 1) 57 [.int x0, .int x1] σ = ru d 57 0 [.int x0, .int x1, uu, uu] [] σ := callD_ru ml57 rfl rfl (Nat.le_of_ble_eq_true rfl)
-- 58: SmokyHeap.lay(IIII)I
theorem t58_0 : decode (mb 58) 0 = .ok (.aload_n 0, 1) := by decide +kernel
theorem s58_0 (d : Nat) (a0 : Nat) (l1 : Value) (l2 : Value) (l3 : Value) (l4 : Value) (l5 : Value) (σ : Hs) : ru d 58 0 [.ref a0, l1, l2, l3, l4, l5] [] σ = ru d 58 1 [.ref a0, l1, l2, l3, l4, l5] [.ref a0] σ := q_aload_n t58_0 rfl
theorem t58_1 : decode (mb 58) 1 = .ok (.getfield 10, 3) := by decide +kernel
theorem s58_1_o0 (d : Nat) (l0 : Value) (l1 : Value) (l2 : Value) (l3 : Value) (l4 : Value) (l5 : Value) (σ : Hs) : ru d 58 1 [l0, l1, l2, l3, l4, l5] [.ref 0] σ = ru d 58 4 [l0, l1, l2, l3, l4, l5] [.ref 1] σ := q_getf t58_1 mo58 F7_10 rfl rfl
theorem t58_4 : decode (mb 58) 4 = .ok (.getfield 58, 3) := by decide +kernel
theorem s58_4_o1 (d : Nat) (l0 : Value) (l1 : Value) (l2 : Value) (l3 : Value) (l4 : Value) (l5 : Value) (σ : Hs) : ru d 58 4 [l0, l1, l2, l3, l4, l5] [.ref 1] σ = ru d 58 7 [l0, l1, l2, l3, l4, l5] [.ref 2] σ := q_getf t58_4 mo58 F7_58 rfl rfl
theorem t58_7 : decode (mb 58) 7 = .ok (.iload_n 1, 1) := by decide +kernel
theorem s58_7 (d : Nat) (l0 : Value) (i1 : Int32) (l2 : Value) (l3 : Value) (l4 : Value) (l5 : Value) (w0 : Value) (σ : Hs) : ru d 58 7 [l0, .int i1, l2, l3, l4, l5] [w0] σ = ru d 58 8 [l0, .int i1, l2, l3, l4, l5] [.int i1, w0] σ := q_iload_n t58_7 rfl
theorem t58_8 : decode (mb 58) 8 = .ok (.iload_n 2, 1) := by decide +kernel
theorem s58_8 (d : Nat) (l0 : Value) (l1 : Value) (i2 : Int32) (l3 : Value) (l4 : Value) (l5 : Value) (w0 w1 : Value) (σ : Hs) : ru d 58 8 [l0, l1, .int i2, l3, l4, l5] [w0, w1] σ = ru d 58 9 [l0, l1, .int i2, l3, l4, l5] [.int i2, w0, w1] σ := q_iload_n t58_8 rfl
theorem t58_9 : decode (mb 58) 9 = .ok (.iload_n 3, 1) := by decide +kernel
theorem s58_9 (d : Nat) (l0 : Value) (l1 : Value) (l2 : Value) (i3 : Int32) (l4 : Value) (l5 : Value) (w0 w1 w2 : Value) (σ : Hs) : ru d 58 9 [l0, l1, l2, .int i3, l4, l5] [w0, w1, w2] σ = ru d 58 10 [l0, l1, l2, .int i3, l4, l5] [.int i3, w0, w1, w2] σ := q_iload_n t58_9 rfl
theorem t58_10 : decode (mb 58) 10 = .ok (.iload 4, 2) := by decide +kernel
theorem s58_10 (d : Nat) (l0 : Value) (l1 : Value) (l2 : Value) (l3 : Value) (i4 : Int32) (l5 : Value) (w0 w1 w2 w3 : Value) (σ : Hs) : ru d 58 10 [l0, l1, l2, l3, .int i4, l5] [w0, w1, w2, w3] σ = ru d 58 12 [l0, l1, l2, l3, .int i4, l5] [.int i4, w0, w1, w2, w3] σ := q_iload t58_10 rfl
theorem t58_12 : decode (mb 58) 12 = .ok (.invokevirtual 61, 3) := by decide +kernel
theorem s58_12_o2 (d : Nat) (l0 : Value) (l1 : Value) (l2 : Value) (l3 : Value) (l4 : Value) (l5 : Value) (v1 v2 v3 v4 : Value) (σ : Hs) : ru d 58 12 [l0, l1, l2, l3, l4, l5] [v4, v3, v2, v1, .ref 2] σ = kont (callD d 2 [.ref 2, v1, v2, v3, v4] σ) d 58 15 [l0, l1, l2, l3, l4, l5] [] := q_invv t58_12 mo58 K7_61 mj2 rfl rfl rfl rfl (Nat.le_of_ble_eq_true rfl)
theorem t58_15 : decode (mb 58) 15 = .ok (.istore 5, 2) := by decide +kernel
theorem s58_15 (d : Nat) (l0 : Value) (l1 : Value) (l2 : Value) (l3 : Value) (i4 : Int32) (l5 : Value) (x : Int32) (σ : Hs) : ru d 58 15 [l0, l1, l2, l3, .int i4, l5] [.int x] σ = ru d 58 17 [l0, l1, l2, l3, .int i4, .int x] [] σ := q_istore t58_15 ⟨Nat.le_of_ble_eq_true rfl, rfl⟩ rfl
theorem t58_17 : decode (mb 58) 17 = .ok (.iload 5, 2) := by decide +kernel
theorem s58_17 (d : Nat) (l0 : Value) (l1 : Value) (l2 : Value) (l3 : Value) (l4 : Value) (i5 : Int32) (σ : Hs) : ru d 58 17 [l0, l1, l2, l3, l4, .int i5] [] σ = ru d 58 19 [l0, l1, l2, l3, l4, .int i5] [.int i5] σ := q_iload t58_17 rfl
theorem t58_19 : decode (mb 58) 19 = .ok (.ifCond .ge 13, 3) := by decide +kernel
theorem s58_19 (d : Nat) (l0 : Value) (l1 : Value) (l2 : Value) (l3 : Value) (l4 : Value) (l5 : Value) (x : Int32) (σ : Hs) : ru d 58 19 [l0, l1, l2, l3, l4, l5] [.int x] σ = if 0 ≤ x then ru d 58 32 [l0, l1, l2, l3, l4, l5] [] σ else ru d 58 22 [l0, l1, l2, l3, l4, l5] [] σ := q_if_ge t58_19 (by decide +kernel)
theorem t58_22 : decode (mb 58) 22 = .ok (.aload_n 0, 1) := by decide +kernel
theorem s58_22 (d : Nat) (a0 : Nat) (l1 : Value) (l2 : Value) (l3 : Value) (l4 : Value) (l5 : Value) (σ : Hs) : ru d 58 22 [.ref a0, l1, l2, l3, l4, l5] [] σ = ru d 58 23 [.ref a0, l1, l2, l3, l4, l5] [.ref a0] σ := q_aload_n t58_22 rfl
theorem t58_23 : decode (mb 58) 23 = .ok (.iload 5, 2) := by decide +kernel
theorem s58_23 (d : Nat) (l0 : Value) (l1 : Value) (l2 : Value) (l3 : Value) (l4 : Value) (i5 : Int32) (w0 : Value) (σ : Hs) : ru d 58 23 [l0, l1, l2, l3, l4, .int i5] [w0] σ = ru d 58 25 [l0, l1, l2, l3, l4, .int i5] [.int i5, w0] σ := q_iload t58_23 rfl
theorem t58_25 : decode (mb 58) 25 = .ok (.ineg, 1) := by decide +kernel
theorem s58_25 (d : Nat) (l0 : Value) (l1 : Value) (l2 : Value) (l3 : Value) (l4 : Value) (l5 : Value) (x : Int32) (w0 : Value) (σ : Hs) : ru d 58 25 [l0, l1, l2, l3, l4, l5] [.int x, w0] σ = ru d 58 26 [l0, l1, l2, l3, l4, l5] [.int (-x), w0] σ := q_ineg t58_25
theorem t58_26 : decode (mb 58) 26 = .ok (.invokevirtual 65, 3) := by decide +kernel
theorem s58_26_o0 (d : Nat) (l0 : Value) (l1 : Value) (l2 : Value) (l3 : Value) (l4 : Value) (l5 : Value) (v1 : Value) (σ : Hs) : ru d 58 26 [l0, l1, l2, l3, l4, l5] [v1, .ref 0] σ = kont (callD d 99 [.ref 0, v1] σ) d 58 29 [l0, l1, l2, l3, l4, l5] [] := q_invv t58_26 mo58 K7_65 mj99 rfl rfl rfl rfl (Nat.le_of_ble_eq_true rfl)
theorem t58_29 : decode (mb 58) 29 = .ok (.goto 5, 3) := by decide +kernel
theorem s58_29 (d : Nat) (l0 : Value) (l1 : Value) (l2 : Value) (l3 : Value) (l4 : Value) (l5 : Value) (w0 : Value) (σ : Hs) : ru d 58 29 [l0, l1, l2, l3, l4, l5] [w0] σ = ru d 58 34 [l0, l1, l2, l3, l4, l5] [w0] σ := q_goto t58_29 (by decide +kernel)
theorem t58_32 : decode (mb 58) 32 = .ok (.iload 5, 2) := by decide +kernel
theorem s58_32 (d : Nat) (l0 : Value) (l1 : Value) (l2 : Value) (l3 : Value) (l4 : Value) (i5 : Int32) (σ : Hs) : ru d 58 32 [l0, l1, l2, l3, l4, .int i5] [] σ = ru d 58 34 [l0, l1, l2, l3, l4, .int i5] [.int i5] σ := q_iload t58_32 rfl
theorem t58_34 : decode (mb 58) 34 = .ok (.ireturn, 1) := by decide +kernel
theorem s58_34 (d : Nat) (l0 : Value) (l1 : Value) (l2 : Value) (l3 : Value) (l4 : Value) (l5 : Value) (x : Int32) (σ : Hs) : ru d 58 34 [l0, l1, l2, l3, l4, l5] [.int x] σ = some (some (.int x), σ) := q_ireti t58_34 mr58
theorem c58 (d : Nat) (x0 : Nat) (x1 : Int32) (x2 : Int32) (x3 : Int32) (x4 : Int32) (σ : Hs) : callD (d + 1) 58 [.ref x0, .int x1, .int x2, .int x3, .int x4] σ = ru d 58 0 [.ref x0, .int x1, .int x2, .int x3, .int x4, uu] [] σ := callD_ru ml58 rfl rfl (Nat.le_of_ble_eq_true rfl)
-- 59: SmokyHeap.take(I)I
theorem t59_0 : decode (mb 59) 0 = .ok (.iload_n 1, 1) := by decide +kernel
theorem s59_0 (d : Nat) (l0 : Value) (i1 : Int32) (l2 : Value) (σ : Hs) : ru d 59 0 [l0, .int i1, l2] [] σ = ru d 59 1 [l0, .int i1, l2] [.int i1] σ := q_iload_n t59_0 rfl
theorem t59_1 : decode (mb 59) 1 = .ok (.invokestatic 69, 3) := by decide +kernel
theorem s59_1 (d : Nat) (l0 : Value) (l1 : Value) (l2 : Value) (v0 : Value) (σ : Hs) : ru d 59 1 [l0, l1, l2] [v0] σ = kont (callD d 103 [v0] σ) d 59 4 [l0, l1, l2] [] := q_invs t59_1 mo59 (by decide +kernel) K7_69 mj103 (Nat.le_of_ble_eq_true rfl) rfl rfl (Nat.le_of_ble_eq_true rfl)
theorem t59_4 : decode (mb 59) 4 = .ok (.ifCond .ne 9, 3) := by decide +kernel
theorem s59_4 (d : Nat) (l0 : Value) (l1 : Value) (l2 : Value) (x : Int32) (σ : Hs) : ru d 59 4 [l0, l1, l2] [.int x] σ = if x = 0 then ru d 59 7 [l0, l1, l2] [] σ else ru d 59 13 [l0, l1, l2] [] σ := q_if_ne t59_4 (by decide +kernel)
theorem t59_7 : decode (mb 59) 7 = .ok (.aload_n 0, 1) := by decide +kernel
theorem s59_7 (d : Nat) (a0 : Nat) (l1 : Value) (l2 : Value) (σ : Hs) : ru d 59 7 [.ref a0, l1, l2] [] σ = ru d 59 8 [.ref a0, l1, l2] [.ref a0] σ := q_aload_n t59_7 rfl
theorem t59_8 : decode (mb 59) 8 = .ok (.iconst 1, 1) := by decide +kernel
theorem s59_8 (d : Nat) (l0 : Value) (l1 : Value) (l2 : Value) (w0 : Value) (σ : Hs) : ru d 59 8 [l0, l1, l2] [w0] σ = ru d 59 9 [l0, l1, l2] [.int 1, w0] σ := q_iconst t59_8 (by decide +kernel)
theorem t59_9 : decode (mb 59) 9 = .ok (.invokevirtual 65, 3) := by decide +kernel
theorem s59_9_o0 (d : Nat) (l0 : Value) (l1 : Value) (l2 : Value) (v1 : Value) (σ : Hs) : ru d 59 9 [l0, l1, l2] [v1, .ref 0] σ = kont (callD d 99 [.ref 0, v1] σ) d 59 12 [l0, l1, l2] [] := q_invv t59_9 mo59 K7_65 mj99 rfl rfl rfl rfl (Nat.le_of_ble_eq_true rfl)
theorem t59_12 : decode (mb 59) 12 = .ok (.ireturn, 1) := by decide +kernel
theorem s59_12 (d : Nat) (l0 : Value) (l1 : Value) (l2 : Value) (x : Int32) (σ : Hs) : ru d 59 12 [l0, l1, l2] [.int x] σ = some (some (.int x), σ) := q_ireti t59_12 mr59
theorem t59_13 : decode (mb 59) 13 = .ok (.aload_n 0, 1) := by decide +kernel
theorem s59_13 (d : Nat) (a0 : Nat) (l1 : Value) (l2 : Value) (σ : Hs) : ru d 59 13 [.ref a0, l1, l2] [] σ = ru d 59 14 [.ref a0, l1, l2] [.ref a0] σ := q_aload_n t59_13 rfl
theorem t59_14 : decode (mb 59) 14 = .ok (.getfield 10, 3) := by decide +kernel
theorem s59_14_o0 (d : Nat) (l0 : Value) (l1 : Value) (l2 : Value) (σ : Hs) : ru d 59 14 [l0, l1, l2] [.ref 0] σ = ru d 59 17 [l0, l1, l2] [.ref 1] σ := q_getf t59_14 mo59 F7_10 rfl rfl
theorem t59_17 : decode (mb 59) 17 = .ok (.getfield 58, 3) := by decide +kernel
theorem s59_17_o1 (d : Nat) (l0 : Value) (l1 : Value) (l2 : Value) (σ : Hs) : ru d 59 17 [l0, l1, l2] [.ref 1] σ = ru d 59 20 [l0, l1, l2] [.ref 2] σ := q_getf t59_17 mo59 F7_58 rfl rfl
theorem t59_20 : decode (mb 59) 20 = .ok (.iload_n 1, 1) := by decide +kernel
theorem s59_20 (d : Nat) (l0 : Value) (i1 : Int32) (l2 : Value) (w0 : Value) (σ : Hs) : ru d 59 20 [l0, .int i1, l2] [w0] σ = ru d 59 21 [l0, .int i1, l2] [.int i1, w0] σ := q_iload_n t59_20 rfl
theorem t59_21 : decode (mb 59) 21 = .ok (.invokevirtual 73, 3) := by decide +kernel
theorem s59_21_o2 (d : Nat) (l0 : Value) (l1 : Value) (l2 : Value) (v1 : Value) (σ : Hs) : ru d 59 21 [l0, l1, l2] [v1, .ref 2] σ = kont (callD d 1 [.ref 2, v1] σ) d 59 24 [l0, l1, l2] [] := q_invv t59_21 mo59 K7_73 mj1 rfl rfl rfl rfl (Nat.le_of_ble_eq_true rfl)
theorem t59_24 : decode (mb 59) 24 = .ok (.ifCond .ne 9, 3) := by decide +kernel
theorem s59_24 (d : Nat) (l0 : Value) (l1 : Value) (l2 : Value) (x : Int32) (σ : Hs) : ru d 59 24 [l0, l1, l2] [.int x] σ = if x = 0 then ru d 59 27 [l0, l1, l2] [] σ else ru d 59 33 [l0, l1, l2] [] σ := q_if_ne t59_24 (by decide +kernel)
theorem t59_27 : decode (mb 59) 27 = .ok (.aload_n 0, 1) := by decide +kernel
theorem s59_27 (d : Nat) (a0 : Nat) (l1 : Value) (l2 : Value) (σ : Hs) : ru d 59 27 [.ref a0, l1, l2] [] σ = ru d 59 28 [.ref a0, l1, l2] [.ref a0] σ := q_aload_n t59_27 rfl
theorem t59_28 : decode (mb 59) 28 = .ok (.iconst 2, 1) := by decide +kernel
theorem s59_28 (d : Nat) (l0 : Value) (l1 : Value) (l2 : Value) (w0 : Value) (σ : Hs) : ru d 59 28 [l0, l1, l2] [w0] σ = ru d 59 29 [l0, l1, l2] [.int 2, w0] σ := q_iconst t59_28 (by decide +kernel)
theorem t59_29 : decode (mb 59) 29 = .ok (.invokevirtual 65, 3) := by decide +kernel
theorem s59_29_o0 (d : Nat) (l0 : Value) (l1 : Value) (l2 : Value) (v1 : Value) (σ : Hs) : ru d 59 29 [l0, l1, l2] [v1, .ref 0] σ = kont (callD d 99 [.ref 0, v1] σ) d 59 32 [l0, l1, l2] [] := q_invv t59_29 mo59 K7_65 mj99 rfl rfl rfl rfl (Nat.le_of_ble_eq_true rfl)
theorem t59_32 : decode (mb 59) 32 = .ok (.ireturn, 1) := by decide +kernel
theorem s59_32 (d : Nat) (l0 : Value) (l1 : Value) (l2 : Value) (x : Int32) (σ : Hs) : ru d 59 32 [l0, l1, l2] [.int x] σ = some (some (.int x), σ) := q_ireti t59_32 mr59
theorem t59_33 : decode (mb 59) 33 = .ok (.aload_n 0, 1) := by decide +kernel
theorem s59_33 (d : Nat) (a0 : Nat) (l1 : Value) (l2 : Value) (σ : Hs) : ru d 59 33 [.ref a0, l1, l2] [] σ = ru d 59 34 [.ref a0, l1, l2] [.ref a0] σ := q_aload_n t59_33 rfl
theorem t59_34 : decode (mb 59) 34 = .ok (.getfield 10, 3) := by decide +kernel
theorem s59_34_o0 (d : Nat) (l0 : Value) (l1 : Value) (l2 : Value) (σ : Hs) : ru d 59 34 [l0, l1, l2] [.ref 0] σ = ru d 59 37 [l0, l1, l2] [.ref 1] σ := q_getf t59_34 mo59 F7_10 rfl rfl
theorem t59_37 : decode (mb 59) 37 = .ok (.getfield 58, 3) := by decide +kernel
theorem s59_37_o1 (d : Nat) (l0 : Value) (l1 : Value) (l2 : Value) (σ : Hs) : ru d 59 37 [l0, l1, l2] [.ref 1] σ = ru d 59 40 [l0, l1, l2] [.ref 2] σ := q_getf t59_37 mo59 F7_58 rfl rfl
theorem t59_40 : decode (mb 59) 40 = .ok (.getfield 76, 3) := by decide +kernel
theorem s59_40_o2 (d : Nat) (l0 : Value) (l1 : Value) (l2 : Value) (σ : Hs) : ru d 59 40 [l0, l1, l2] [.ref 2] σ = ru d 59 43 [l0, l1, l2] [.ref 4] σ := q_getf t59_40 mo59 F7_76 rfl rfl
theorem t59_43 : decode (mb 59) 43 = .ok (.iload_n 1, 1) := by decide +kernel
theorem s59_43 (d : Nat) (l0 : Value) (i1 : Int32) (l2 : Value) (w0 : Value) (σ : Hs) : ru d 59 43 [l0, .int i1, l2] [w0] σ = ru d 59 44 [l0, .int i1, l2] [.int i1, w0] σ := q_iload_n t59_43 rfl
theorem t59_44 : decode (mb 59) 44 = .ok (.iaload, 1) := by decide +kernel
theorem s59_44_o4 (d : Nat) (l0 : Value) (l1 : Value) (l2 : Value) (i : Int32) (σ : Hs) : ru d 59 44 [l0, l1, l2] [.int i, .ref 4] σ = gd (vp_in i 30) (ru d 59 45 [l0, l1, l2] [.int (σ 4 i.toNatClampNeg)] σ) := q_iald t59_44 rfl (by decide +kernel) rfl
theorem t59_45 : decode (mb 59) 45 = .ok (.istore_n 2, 1) := by decide +kernel
theorem s59_45 (d : Nat) (l0 : Value) (i1 : Int32) (l2 : Value) (x : Int32) (σ : Hs) : ru d 59 45 [l0, .int i1, l2] [.int x] σ = ru d 59 46 [l0, .int i1, .int x] [] σ := q_istore_n t59_45 ⟨Nat.le_of_ble_eq_true rfl, rfl⟩ rfl
theorem t59_46 : decode (mb 59) 46 = .ok (.aload_n 0, 1) := by decide +kernel
theorem s59_46 (d : Nat) (a0 : Nat) (l1 : Value) (l2 : Value) (σ : Hs) : ru d 59 46 [.ref a0, l1, l2] [] σ = ru d 59 47 [.ref a0, l1, l2] [.ref a0] σ := q_aload_n t59_46 rfl
theorem t59_47 : decode (mb 59) 47 = .ok (.getfield 10, 3) := by decide +kernel
theorem s59_47_o0 (d : Nat) (l0 : Value) (l1 : Value) (l2 : Value) (σ : Hs) : ru d 59 47 [l0, l1, l2] [.ref 0] σ = ru d 59 50 [l0, l1, l2] [.ref 1] σ := q_getf t59_47 mo59 F7_10 rfl rfl
theorem t59_50 : decode (mb 59) 50 = .ok (.getfield 58, 3) := by decide +kernel
theorem s59_50_o1 (d : Nat) (l0 : Value) (l1 : Value) (l2 : Value) (σ : Hs) : ru d 59 50 [l0, l1, l2] [.ref 1] σ = ru d 59 53 [l0, l1, l2] [.ref 2] σ := q_getf t59_50 mo59 F7_58 rfl rfl
theorem t59_53 : decode (mb 59) 53 = .ok (.iload_n 1, 1) := by decide +kernel
theorem s59_53 (d : Nat) (l0 : Value) (i1 : Int32) (l2 : Value) (w0 : Value) (σ : Hs) : ru d 59 53 [l0, .int i1, l2] [w0] σ = ru d 59 54 [l0, .int i1, l2] [.int i1, w0] σ := q_iload_n t59_53 rfl
theorem t59_54 : decode (mb 59) 54 = .ok (.invokevirtual 79, 3) := by decide +kernel
theorem s59_54_o2 (d : Nat) (l0 : Value) (l1 : Value) (l2 : Value) (v1 : Value) (σ : Hs) : ru d 59 54 [l0, l1, l2] [v1, .ref 2] σ = kont (callD d 3 [.ref 2, v1] σ) d 59 57 [l0, l1, l2] [] := q_invv t59_54 mo59 K7_79 mj3 rfl rfl rfl rfl (Nat.le_of_ble_eq_true rfl)
theorem t59_57 : decode (mb 59) 57 = .ok (.iload_n 2, 1) := by decide +kernel
theorem s59_57 (d : Nat) (l0 : Value) (l1 : Value) (i2 : Int32) (σ : Hs) : ru d 59 57 [l0, l1, .int i2] [] σ = ru d 59 58 [l0, l1, .int i2] [.int i2] σ := q_iload_n t59_57 rfl
theorem t59_58 : decode (mb 59) 58 = .ok (.ireturn, 1) := by decide +kernel
theorem s59_58 (d : Nat) (l0 : Value) (l1 : Value) (l2 : Value) (x : Int32) (σ : Hs) : ru d 59 58 [l0, l1, l2] [.int x] σ = some (some (.int x), σ) := q_ireti t59_58 mr59
theorem c59 (d : Nat) (x0 : Nat) (x1 : Int32) (σ : Hs) : callD (d + 1) 59 [.ref x0, .int x1] σ = ru d 59 0 [.ref x0, .int x1, uu] [] σ := callD_ru ml59 rfl rfl (Nat.le_of_ble_eq_true rfl)
-- 60: SmokyHeap.armful(II)I
theorem t60_0 : decode (mb 60) 0 = .ok (.iload_n 1, 1) := by decide +kernel
theorem s60_0 (d : Nat) (l0 : Value) (i1 : Int32) (l2 : Value) (σ : Hs) : ru d 60 0 [l0, .int i1, l2] [] σ = ru d 60 1 [l0, .int i1, l2] [.int i1] σ := q_iload_n t60_0 rfl
theorem t60_1 : decode (mb 60) 1 = .ok (.invokestatic 69, 3) := by decide +kernel
theorem s60_1 (d : Nat) (l0 : Value) (l1 : Value) (l2 : Value) (v0 : Value) (σ : Hs) : ru d 60 1 [l0, l1, l2] [v0] σ = kont (callD d 103 [v0] σ) d 60 4 [l0, l1, l2] [] := q_invs t60_1 mo60 (by decide +kernel) K7_69 mj103 (Nat.le_of_ble_eq_true rfl) rfl rfl (Nat.le_of_ble_eq_true rfl)
theorem t60_4 : decode (mb 60) 4 = .ok (.ifCond .eq 13, 3) := by decide +kernel
theorem s60_4 (d : Nat) (l0 : Value) (l1 : Value) (l2 : Value) (x : Int32) (σ : Hs) : ru d 60 4 [l0, l1, l2] [.int x] σ = if x = 0 then ru d 60 17 [l0, l1, l2] [] σ else ru d 60 7 [l0, l1, l2] [] σ := q_if_eq t60_4 (by decide +kernel)
theorem t60_7 : decode (mb 60) 7 = .ok (.iload_n 2, 1) := by decide +kernel
theorem s60_7 (d : Nat) (l0 : Value) (l1 : Value) (i2 : Int32) (σ : Hs) : ru d 60 7 [l0, l1, .int i2] [] σ = ru d 60 8 [l0, l1, .int i2] [.int i2] σ := q_iload_n t60_7 rfl
theorem t60_8 : decode (mb 60) 8 = .ok (.iconst 0, 1) := by decide +kernel
theorem s60_8 (d : Nat) (l0 : Value) (l1 : Value) (l2 : Value) (w0 : Value) (σ : Hs) : ru d 60 8 [l0, l1, l2] [w0] σ = ru d 60 9 [l0, l1, l2] [.int 0, w0] σ := q_iconst t60_8 (by decide +kernel)
theorem t60_9 : decode (mb 60) 9 = .ok (.bipush 8, 2) := by decide +kernel
theorem s60_9 (d : Nat) (l0 : Value) (l1 : Value) (l2 : Value) (w0 w1 : Value) (σ : Hs) : ru d 60 9 [l0, l1, l2] [w0, w1] σ = ru d 60 11 [l0, l1, l2] [.int 8, w0, w1] σ := q_bipush t60_9 (by decide +kernel)
theorem t60_11 : decode (mb 60) 11 = .ok (.invokestatic 83, 3) := by decide +kernel
theorem s60_11 (d : Nat) (l0 : Value) (l1 : Value) (l2 : Value) (v0 v1 v2 : Value) (σ : Hs) : ru d 60 11 [l0, l1, l2] [v2, v1, v0] σ = kont (callD d 102 [v0, v1, v2] σ) d 60 14 [l0, l1, l2] [] := q_invs t60_11 mo60 (by decide +kernel) K7_83 mj102 (Nat.le_of_ble_eq_true rfl) rfl rfl (Nat.le_of_ble_eq_true rfl)
theorem t60_14 : decode (mb 60) 14 = .ok (.ifCond .ne 9, 3) := by decide +kernel
theorem s60_14 (d : Nat) (l0 : Value) (l1 : Value) (l2 : Value) (x : Int32) (σ : Hs) : ru d 60 14 [l0, l1, l2] [.int x] σ = if x = 0 then ru d 60 17 [l0, l1, l2] [] σ else ru d 60 23 [l0, l1, l2] [] σ := q_if_ne t60_14 (by decide +kernel)
theorem t60_17 : decode (mb 60) 17 = .ok (.aload_n 0, 1) := by decide +kernel
theorem s60_17 (d : Nat) (a0 : Nat) (l1 : Value) (l2 : Value) (σ : Hs) : ru d 60 17 [.ref a0, l1, l2] [] σ = ru d 60 18 [.ref a0, l1, l2] [.ref a0] σ := q_aload_n t60_17 rfl
theorem t60_18 : decode (mb 60) 18 = .ok (.iconst 1, 1) := by decide +kernel
theorem s60_18 (d : Nat) (l0 : Value) (l1 : Value) (l2 : Value) (w0 : Value) (σ : Hs) : ru d 60 18 [l0, l1, l2] [w0] σ = ru d 60 19 [l0, l1, l2] [.int 1, w0] σ := q_iconst t60_18 (by decide +kernel)
theorem t60_19 : decode (mb 60) 19 = .ok (.invokevirtual 65, 3) := by decide +kernel
theorem s60_19_o0 (d : Nat) (l0 : Value) (l1 : Value) (l2 : Value) (v1 : Value) (σ : Hs) : ru d 60 19 [l0, l1, l2] [v1, .ref 0] σ = kont (callD d 99 [.ref 0, v1] σ) d 60 22 [l0, l1, l2] [] := q_invv t60_19 mo60 K7_65 mj99 rfl rfl rfl rfl (Nat.le_of_ble_eq_true rfl)
theorem t60_22 : decode (mb 60) 22 = .ok (.ireturn, 1) := by decide +kernel
theorem s60_22 (d : Nat) (l0 : Value) (l1 : Value) (l2 : Value) (x : Int32) (σ : Hs) : ru d 60 22 [l0, l1, l2] [.int x] σ = some (some (.int x), σ) := q_ireti t60_22 mr60
theorem t60_23 : decode (mb 60) 23 = .ok (.aload_n 0, 1) := by decide +kernel
theorem s60_23 (d : Nat) (a0 : Nat) (l1 : Value) (l2 : Value) (σ : Hs) : ru d 60 23 [.ref a0, l1, l2] [] σ = ru d 60 24 [.ref a0, l1, l2] [.ref a0] σ := q_aload_n t60_23 rfl
theorem t60_24 : decode (mb 60) 24 = .ok (.getfield 10, 3) := by decide +kernel
theorem s60_24_o0 (d : Nat) (l0 : Value) (l1 : Value) (l2 : Value) (σ : Hs) : ru d 60 24 [l0, l1, l2] [.ref 0] σ = ru d 60 27 [l0, l1, l2] [.ref 1] σ := q_getf t60_24 mo60 F7_10 rfl rfl
theorem t60_27 : decode (mb 60) 27 = .ok (.getfield 58, 3) := by decide +kernel
theorem s60_27_o1 (d : Nat) (l0 : Value) (l1 : Value) (l2 : Value) (σ : Hs) : ru d 60 27 [l0, l1, l2] [.ref 1] σ = ru d 60 30 [l0, l1, l2] [.ref 2] σ := q_getf t60_27 mo60 F7_58 rfl rfl
theorem t60_30 : decode (mb 60) 30 = .ok (.iload_n 1, 1) := by decide +kernel
theorem s60_30 (d : Nat) (l0 : Value) (i1 : Int32) (l2 : Value) (w0 : Value) (σ : Hs) : ru d 60 30 [l0, .int i1, l2] [w0] σ = ru d 60 31 [l0, .int i1, l2] [.int i1, w0] σ := q_iload_n t60_30 rfl
theorem t60_31 : decode (mb 60) 31 = .ok (.invokevirtual 73, 3) := by decide +kernel
theorem s60_31_o2 (d : Nat) (l0 : Value) (l1 : Value) (l2 : Value) (v1 : Value) (σ : Hs) : ru d 60 31 [l0, l1, l2] [v1, .ref 2] σ = kont (callD d 1 [.ref 2, v1] σ) d 60 34 [l0, l1, l2] [] := q_invv t60_31 mo60 K7_73 mj1 rfl rfl rfl rfl (Nat.le_of_ble_eq_true rfl)
theorem t60_34 : decode (mb 60) 34 = .ok (.ifCond .ne 9, 3) := by decide +kernel
theorem s60_34 (d : Nat) (l0 : Value) (l1 : Value) (l2 : Value) (x : Int32) (σ : Hs) : ru d 60 34 [l0, l1, l2] [.int x] σ = if x = 0 then ru d 60 37 [l0, l1, l2] [] σ else ru d 60 43 [l0, l1, l2] [] σ := q_if_ne t60_34 (by decide +kernel)
theorem t60_37 : decode (mb 60) 37 = .ok (.aload_n 0, 1) := by decide +kernel
theorem s60_37 (d : Nat) (a0 : Nat) (l1 : Value) (l2 : Value) (σ : Hs) : ru d 60 37 [.ref a0, l1, l2] [] σ = ru d 60 38 [.ref a0, l1, l2] [.ref a0] σ := q_aload_n t60_37 rfl
theorem t60_38 : decode (mb 60) 38 = .ok (.iconst 2, 1) := by decide +kernel
theorem s60_38 (d : Nat) (l0 : Value) (l1 : Value) (l2 : Value) (w0 : Value) (σ : Hs) : ru d 60 38 [l0, l1, l2] [w0] σ = ru d 60 39 [l0, l1, l2] [.int 2, w0] σ := q_iconst t60_38 (by decide +kernel)
theorem t60_39 : decode (mb 60) 39 = .ok (.invokevirtual 65, 3) := by decide +kernel
theorem s60_39_o0 (d : Nat) (l0 : Value) (l1 : Value) (l2 : Value) (v1 : Value) (σ : Hs) : ru d 60 39 [l0, l1, l2] [v1, .ref 0] σ = kont (callD d 99 [.ref 0, v1] σ) d 60 42 [l0, l1, l2] [] := q_invv t60_39 mo60 K7_65 mj99 rfl rfl rfl rfl (Nat.le_of_ble_eq_true rfl)
theorem t60_42 : decode (mb 60) 42 = .ok (.ireturn, 1) := by decide +kernel
theorem s60_42 (d : Nat) (l0 : Value) (l1 : Value) (l2 : Value) (x : Int32) (σ : Hs) : ru d 60 42 [l0, l1, l2] [.int x] σ = some (some (.int x), σ) := q_ireti t60_42 mr60
theorem t60_43 : decode (mb 60) 43 = .ok (.aload_n 0, 1) := by decide +kernel
theorem s60_43 (d : Nat) (a0 : Nat) (l1 : Value) (l2 : Value) (σ : Hs) : ru d 60 43 [.ref a0, l1, l2] [] σ = ru d 60 44 [.ref a0, l1, l2] [.ref a0] σ := q_aload_n t60_43 rfl
theorem t60_44 : decode (mb 60) 44 = .ok (.getfield 10, 3) := by decide +kernel
theorem s60_44_o0 (d : Nat) (l0 : Value) (l1 : Value) (l2 : Value) (σ : Hs) : ru d 60 44 [l0, l1, l2] [.ref 0] σ = ru d 60 47 [l0, l1, l2] [.ref 1] σ := q_getf t60_44 mo60 F7_10 rfl rfl
theorem t60_47 : decode (mb 60) 47 = .ok (.getfield 58, 3) := by decide +kernel
theorem s60_47_o1 (d : Nat) (l0 : Value) (l1 : Value) (l2 : Value) (σ : Hs) : ru d 60 47 [l0, l1, l2] [.ref 1] σ = ru d 60 50 [l0, l1, l2] [.ref 2] σ := q_getf t60_47 mo60 F7_58 rfl rfl
theorem t60_50 : decode (mb 60) 50 = .ok (.iload_n 1, 1) := by decide +kernel
theorem s60_50 (d : Nat) (l0 : Value) (i1 : Int32) (l2 : Value) (w0 : Value) (σ : Hs) : ru d 60 50 [l0, .int i1, l2] [w0] σ = ru d 60 51 [l0, .int i1, l2] [.int i1, w0] σ := q_iload_n t60_50 rfl
theorem t60_51 : decode (mb 60) 51 = .ok (.iload_n 2, 1) := by decide +kernel
theorem s60_51 (d : Nat) (l0 : Value) (l1 : Value) (i2 : Int32) (w0 w1 : Value) (σ : Hs) : ru d 60 51 [l0, l1, .int i2] [w0, w1] σ = ru d 60 52 [l0, l1, .int i2] [.int i2, w0, w1] σ := q_iload_n t60_51 rfl
theorem t60_52 : decode (mb 60) 52 = .ok (.invokevirtual 87, 3) := by decide +kernel
theorem s60_52_o2 (d : Nat) (l0 : Value) (l1 : Value) (l2 : Value) (v1 v2 : Value) (σ : Hs) : ru d 60 52 [l0, l1, l2] [v2, v1, .ref 2] σ = kont (callD d 25 [.ref 2, v1, v2] σ) d 60 55 [l0, l1, l2] [] := q_invv t60_52 mo60 K7_87 mj25 rfl rfl rfl rfl (Nat.le_of_ble_eq_true rfl)
theorem t60_55 : decode (mb 60) 55 = .ok (.ireturn, 1) := by decide +kernel
theorem s60_55 (d : Nat) (l0 : Value) (l1 : Value) (l2 : Value) (x : Int32) (σ : Hs) : ru d 60 55 [l0, l1, l2] [.int x] σ = some (some (.int x), σ) := q_ireti t60_55 mr60
theorem c60 (d : Nat) (x0 : Nat) (x1 : Int32) (x2 : Int32) (σ : Hs) : callD (d + 1) 60 [.ref x0, .int x1, .int x2] σ = ru d 60 0 [.ref x0, .int x1, .int x2] [] σ := callD_ru ml60 rfl rfl (Nat.le_of_ble_eq_true rfl)
-- 61: SmokyHeap.as(II)I
theorem t61_0 : decode (mb 61) 0 = .ok (.iload_n 1, 1) := by decide +kernel
theorem s61_0 (d : Nat) (l0 : Value) (i1 : Int32) (l2 : Value) (σ : Hs) : ru d 61 0 [l0, .int i1, l2] [] σ = ru d 61 1 [l0, .int i1, l2] [.int i1] σ := q_iload_n t61_0 rfl
theorem t61_1 : decode (mb 61) 1 = .ok (.invokestatic 69, 3) := by decide +kernel
theorem s61_1 (d : Nat) (l0 : Value) (l1 : Value) (l2 : Value) (v0 : Value) (σ : Hs) : ru d 61 1 [l0, l1, l2] [v0] σ = kont (callD d 103 [v0] σ) d 61 4 [l0, l1, l2] [] := q_invs t61_1 mo61 (by decide +kernel) K7_69 mj103 (Nat.le_of_ble_eq_true rfl) rfl rfl (Nat.le_of_ble_eq_true rfl)
theorem t61_4 : decode (mb 61) 4 = .ok (.ifCond .eq 10, 3) := by decide +kernel
theorem s61_4 (d : Nat) (l0 : Value) (l1 : Value) (l2 : Value) (x : Int32) (σ : Hs) : ru d 61 4 [l0, l1, l2] [.int x] σ = if x = 0 then ru d 61 14 [l0, l1, l2] [] σ else ru d 61 7 [l0, l1, l2] [] σ := q_if_eq t61_4 (by decide +kernel)
theorem t61_7 : decode (mb 61) 7 = .ok (.iload_n 2, 1) := by decide +kernel
theorem s61_7 (d : Nat) (l0 : Value) (l1 : Value) (i2 : Int32) (σ : Hs) : ru d 61 7 [l0, l1, .int i2] [] σ = ru d 61 8 [l0, l1, .int i2] [.int i2] σ := q_iload_n t61_7 rfl
theorem t61_8 : decode (mb 61) 8 = .ok (.invokestatic 91, 3) := by decide +kernel
theorem s61_8 (d : Nat) (l0 : Value) (l1 : Value) (l2 : Value) (v0 : Value) (σ : Hs) : ru d 61 8 [l0, l1, l2] [v0] σ = kont (callD d 104 [v0] σ) d 61 11 [l0, l1, l2] [] := q_invs t61_8 mo61 (by decide +kernel) K7_91 mj104 (Nat.le_of_ble_eq_true rfl) rfl rfl (Nat.le_of_ble_eq_true rfl)
theorem t61_11 : decode (mb 61) 11 = .ok (.ifCond .ne 9, 3) := by decide +kernel
theorem s61_11 (d : Nat) (l0 : Value) (l1 : Value) (l2 : Value) (x : Int32) (σ : Hs) : ru d 61 11 [l0, l1, l2] [.int x] σ = if x = 0 then ru d 61 14 [l0, l1, l2] [] σ else ru d 61 20 [l0, l1, l2] [] σ := q_if_ne t61_11 (by decide +kernel)
theorem t61_14 : decode (mb 61) 14 = .ok (.aload_n 0, 1) := by decide +kernel
theorem s61_14 (d : Nat) (a0 : Nat) (l1 : Value) (l2 : Value) (σ : Hs) : ru d 61 14 [.ref a0, l1, l2] [] σ = ru d 61 15 [.ref a0, l1, l2] [.ref a0] σ := q_aload_n t61_14 rfl
theorem t61_15 : decode (mb 61) 15 = .ok (.iconst 1, 1) := by decide +kernel
theorem s61_15 (d : Nat) (l0 : Value) (l1 : Value) (l2 : Value) (w0 : Value) (σ : Hs) : ru d 61 15 [l0, l1, l2] [w0] σ = ru d 61 16 [l0, l1, l2] [.int 1, w0] σ := q_iconst t61_15 (by decide +kernel)
theorem t61_16 : decode (mb 61) 16 = .ok (.invokevirtual 65, 3) := by decide +kernel
theorem s61_16_o0 (d : Nat) (l0 : Value) (l1 : Value) (l2 : Value) (v1 : Value) (σ : Hs) : ru d 61 16 [l0, l1, l2] [v1, .ref 0] σ = kont (callD d 99 [.ref 0, v1] σ) d 61 19 [l0, l1, l2] [] := q_invv t61_16 mo61 K7_65 mj99 rfl rfl rfl rfl (Nat.le_of_ble_eq_true rfl)
theorem t61_19 : decode (mb 61) 19 = .ok (.ireturn, 1) := by decide +kernel
theorem s61_19 (d : Nat) (l0 : Value) (l1 : Value) (l2 : Value) (x : Int32) (σ : Hs) : ru d 61 19 [l0, l1, l2] [.int x] σ = some (some (.int x), σ) := q_ireti t61_19 mr61
theorem t61_20 : decode (mb 61) 20 = .ok (.aload_n 0, 1) := by decide +kernel
theorem s61_20 (d : Nat) (a0 : Nat) (l1 : Value) (l2 : Value) (σ : Hs) : ru d 61 20 [.ref a0, l1, l2] [] σ = ru d 61 21 [.ref a0, l1, l2] [.ref a0] σ := q_aload_n t61_20 rfl
theorem t61_21 : decode (mb 61) 21 = .ok (.getfield 10, 3) := by decide +kernel
theorem s61_21_o0 (d : Nat) (l0 : Value) (l1 : Value) (l2 : Value) (σ : Hs) : ru d 61 21 [l0, l1, l2] [.ref 0] σ = ru d 61 24 [l0, l1, l2] [.ref 1] σ := q_getf t61_21 mo61 F7_10 rfl rfl
theorem t61_24 : decode (mb 61) 24 = .ok (.getfield 58, 3) := by decide +kernel
theorem s61_24_o1 (d : Nat) (l0 : Value) (l1 : Value) (l2 : Value) (σ : Hs) : ru d 61 24 [l0, l1, l2] [.ref 1] σ = ru d 61 27 [l0, l1, l2] [.ref 2] σ := q_getf t61_24 mo61 F7_58 rfl rfl
theorem t61_27 : decode (mb 61) 27 = .ok (.iload_n 1, 1) := by decide +kernel
theorem s61_27 (d : Nat) (l0 : Value) (i1 : Int32) (l2 : Value) (w0 : Value) (σ : Hs) : ru d 61 27 [l0, .int i1, l2] [w0] σ = ru d 61 28 [l0, .int i1, l2] [.int i1, w0] σ := q_iload_n t61_27 rfl
theorem t61_28 : decode (mb 61) 28 = .ok (.invokevirtual 73, 3) := by decide +kernel
theorem s61_28_o2 (d : Nat) (l0 : Value) (l1 : Value) (l2 : Value) (v1 : Value) (σ : Hs) : ru d 61 28 [l0, l1, l2] [v1, .ref 2] σ = kont (callD d 1 [.ref 2, v1] σ) d 61 31 [l0, l1, l2] [] := q_invv t61_28 mo61 K7_73 mj1 rfl rfl rfl rfl (Nat.le_of_ble_eq_true rfl)
theorem t61_31 : decode (mb 61) 31 = .ok (.ifCond .ne 9, 3) := by decide +kernel
theorem s61_31 (d : Nat) (l0 : Value) (l1 : Value) (l2 : Value) (x : Int32) (σ : Hs) : ru d 61 31 [l0, l1, l2] [.int x] σ = if x = 0 then ru d 61 34 [l0, l1, l2] [] σ else ru d 61 40 [l0, l1, l2] [] σ := q_if_ne t61_31 (by decide +kernel)
theorem t61_34 : decode (mb 61) 34 = .ok (.aload_n 0, 1) := by decide +kernel
theorem s61_34 (d : Nat) (a0 : Nat) (l1 : Value) (l2 : Value) (σ : Hs) : ru d 61 34 [.ref a0, l1, l2] [] σ = ru d 61 35 [.ref a0, l1, l2] [.ref a0] σ := q_aload_n t61_34 rfl
theorem t61_35 : decode (mb 61) 35 = .ok (.iconst 2, 1) := by decide +kernel
theorem s61_35 (d : Nat) (l0 : Value) (l1 : Value) (l2 : Value) (w0 : Value) (σ : Hs) : ru d 61 35 [l0, l1, l2] [w0] σ = ru d 61 36 [l0, l1, l2] [.int 2, w0] σ := q_iconst t61_35 (by decide +kernel)
theorem t61_36 : decode (mb 61) 36 = .ok (.invokevirtual 65, 3) := by decide +kernel
theorem s61_36_o0 (d : Nat) (l0 : Value) (l1 : Value) (l2 : Value) (v1 : Value) (σ : Hs) : ru d 61 36 [l0, l1, l2] [v1, .ref 0] σ = kont (callD d 99 [.ref 0, v1] σ) d 61 39 [l0, l1, l2] [] := q_invv t61_36 mo61 K7_65 mj99 rfl rfl rfl rfl (Nat.le_of_ble_eq_true rfl)
theorem t61_39 : decode (mb 61) 39 = .ok (.ireturn, 1) := by decide +kernel
theorem s61_39 (d : Nat) (l0 : Value) (l1 : Value) (l2 : Value) (x : Int32) (σ : Hs) : ru d 61 39 [l0, l1, l2] [.int x] σ = some (some (.int x), σ) := q_ireti t61_39 mr61
theorem t61_40 : decode (mb 61) 40 = .ok (.aload_n 0, 1) := by decide +kernel
theorem s61_40 (d : Nat) (a0 : Nat) (l1 : Value) (l2 : Value) (σ : Hs) : ru d 61 40 [.ref a0, l1, l2] [] σ = ru d 61 41 [.ref a0, l1, l2] [.ref a0] σ := q_aload_n t61_40 rfl
theorem t61_41 : decode (mb 61) 41 = .ok (.getfield 10, 3) := by decide +kernel
theorem s61_41_o0 (d : Nat) (l0 : Value) (l1 : Value) (l2 : Value) (σ : Hs) : ru d 61 41 [l0, l1, l2] [.ref 0] σ = ru d 61 44 [l0, l1, l2] [.ref 1] σ := q_getf t61_41 mo61 F7_10 rfl rfl
theorem t61_44 : decode (mb 61) 44 = .ok (.getfield 58, 3) := by decide +kernel
theorem s61_44_o1 (d : Nat) (l0 : Value) (l1 : Value) (l2 : Value) (σ : Hs) : ru d 61 44 [l0, l1, l2] [.ref 1] σ = ru d 61 47 [l0, l1, l2] [.ref 2] σ := q_getf t61_44 mo61 F7_58 rfl rfl
theorem t61_47 : decode (mb 61) 47 = .ok (.getfield 94, 3) := by decide +kernel
theorem s61_47_o2 (d : Nat) (l0 : Value) (l1 : Value) (l2 : Value) (σ : Hs) : ru d 61 47 [l0, l1, l2] [.ref 2] σ = ru d 61 50 [l0, l1, l2] [.ref 3] σ := q_getf t61_47 mo61 F7_94 rfl rfl
theorem t61_50 : decode (mb 61) 50 = .ok (.iload_n 1, 1) := by decide +kernel
theorem s61_50 (d : Nat) (l0 : Value) (i1 : Int32) (l2 : Value) (w0 : Value) (σ : Hs) : ru d 61 50 [l0, .int i1, l2] [w0] σ = ru d 61 51 [l0, .int i1, l2] [.int i1, w0] σ := q_iload_n t61_50 rfl
theorem t61_51 : decode (mb 61) 51 = .ok (.iaload, 1) := by decide +kernel
theorem s61_51_o3 (d : Nat) (l0 : Value) (l1 : Value) (l2 : Value) (i : Int32) (σ : Hs) : ru d 61 51 [l0, l1, l2] [.int i, .ref 3] σ = gd (vp_in i 30) (ru d 61 52 [l0, l1, l2] [.int (σ 3 i.toNatClampNeg)] σ) := q_iald t61_51 rfl (by decide +kernel) rfl
theorem t61_52 : decode (mb 61) 52 = .ok (.iload_n 2, 1) := by decide +kernel
theorem s61_52 (d : Nat) (l0 : Value) (l1 : Value) (i2 : Int32) (w0 : Value) (σ : Hs) : ru d 61 52 [l0, l1, .int i2] [w0] σ = ru d 61 53 [l0, l1, .int i2] [.int i2, w0] σ := q_iload_n t61_52 rfl
theorem t61_53 : decode (mb 61) 53 = .ok (.invokestatic 97, 3) := by decide +kernel
theorem s61_53 (d : Nat) (l0 : Value) (l1 : Value) (l2 : Value) (v0 v1 : Value) (σ : Hs) : ru d 61 53 [l0, l1, l2] [v1, v0] σ = kont (callD d 109 [v0, v1] σ) d 61 56 [l0, l1, l2] [] := q_invs t61_53 mo61 (by decide +kernel) K7_97 mj109 (Nat.le_of_ble_eq_true rfl) rfl rfl (Nat.le_of_ble_eq_true rfl)
theorem t61_56 : decode (mb 61) 56 = .ok (.ifCond .ne 9, 3) := by decide +kernel
theorem s61_56 (d : Nat) (l0 : Value) (l1 : Value) (l2 : Value) (x : Int32) (σ : Hs) : ru d 61 56 [l0, l1, l2] [.int x] σ = if x = 0 then ru d 61 59 [l0, l1, l2] [] σ else ru d 61 65 [l0, l1, l2] [] σ := q_if_ne t61_56 (by decide +kernel)
theorem t61_59 : decode (mb 61) 59 = .ok (.aload_n 0, 1) := by decide +kernel
theorem s61_59 (d : Nat) (a0 : Nat) (l1 : Value) (l2 : Value) (σ : Hs) : ru d 61 59 [.ref a0, l1, l2] [] σ = ru d 61 60 [.ref a0, l1, l2] [.ref a0] σ := q_aload_n t61_59 rfl
theorem t61_60 : decode (mb 61) 60 = .ok (.iconst 5, 1) := by decide +kernel
theorem s61_60 (d : Nat) (l0 : Value) (l1 : Value) (l2 : Value) (w0 : Value) (σ : Hs) : ru d 61 60 [l0, l1, l2] [w0] σ = ru d 61 61 [l0, l1, l2] [.int 5, w0] σ := q_iconst t61_60 (by decide +kernel)
theorem t61_61 : decode (mb 61) 61 = .ok (.invokevirtual 65, 3) := by decide +kernel
theorem s61_61_o0 (d : Nat) (l0 : Value) (l1 : Value) (l2 : Value) (v1 : Value) (σ : Hs) : ru d 61 61 [l0, l1, l2] [v1, .ref 0] σ = kont (callD d 99 [.ref 0, v1] σ) d 61 64 [l0, l1, l2] [] := q_invv t61_61 mo61 K7_65 mj99 rfl rfl rfl rfl (Nat.le_of_ble_eq_true rfl)
theorem t61_64 : decode (mb 61) 64 = .ok (.ireturn, 1) := by decide +kernel
theorem s61_64 (d : Nat) (l0 : Value) (l1 : Value) (l2 : Value) (x : Int32) (σ : Hs) : ru d 61 64 [l0, l1, l2] [.int x] σ = some (some (.int x), σ) := q_ireti t61_64 mr61
theorem t61_65 : decode (mb 61) 65 = .ok (.aload_n 0, 1) := by decide +kernel
theorem s61_65 (d : Nat) (a0 : Nat) (l1 : Value) (l2 : Value) (σ : Hs) : ru d 61 65 [.ref a0, l1, l2] [] σ = ru d 61 66 [.ref a0, l1, l2] [.ref a0] σ := q_aload_n t61_65 rfl
theorem t61_66 : decode (mb 61) 66 = .ok (.getfield 10, 3) := by decide +kernel
theorem s61_66_o0 (d : Nat) (l0 : Value) (l1 : Value) (l2 : Value) (σ : Hs) : ru d 61 66 [l0, l1, l2] [.ref 0] σ = ru d 61 69 [l0, l1, l2] [.ref 1] σ := q_getf t61_66 mo61 F7_10 rfl rfl
theorem t61_69 : decode (mb 61) 69 = .ok (.getfield 58, 3) := by decide +kernel
theorem s61_69_o1 (d : Nat) (l0 : Value) (l1 : Value) (l2 : Value) (σ : Hs) : ru d 61 69 [l0, l1, l2] [.ref 1] σ = ru d 61 72 [l0, l1, l2] [.ref 2] σ := q_getf t61_69 mo61 F7_58 rfl rfl
theorem t61_72 : decode (mb 61) 72 = .ok (.getfield 76, 3) := by decide +kernel
theorem s61_72_o2 (d : Nat) (l0 : Value) (l1 : Value) (l2 : Value) (σ : Hs) : ru d 61 72 [l0, l1, l2] [.ref 2] σ = ru d 61 75 [l0, l1, l2] [.ref 4] σ := q_getf t61_72 mo61 F7_76 rfl rfl
theorem t61_75 : decode (mb 61) 75 = .ok (.iload_n 1, 1) := by decide +kernel
theorem s61_75 (d : Nat) (l0 : Value) (i1 : Int32) (l2 : Value) (w0 : Value) (σ : Hs) : ru d 61 75 [l0, .int i1, l2] [w0] σ = ru d 61 76 [l0, .int i1, l2] [.int i1, w0] σ := q_iload_n t61_75 rfl
theorem t61_76 : decode (mb 61) 76 = .ok (.iaload, 1) := by decide +kernel
theorem s61_76_o4 (d : Nat) (l0 : Value) (l1 : Value) (l2 : Value) (i : Int32) (σ : Hs) : ru d 61 76 [l0, l1, l2] [.int i, .ref 4] σ = gd (vp_in i 30) (ru d 61 77 [l0, l1, l2] [.int (σ 4 i.toNatClampNeg)] σ) := q_iald t61_76 rfl (by decide +kernel) rfl
theorem t61_77 : decode (mb 61) 77 = .ok (.ireturn, 1) := by decide +kernel
theorem s61_77 (d : Nat) (l0 : Value) (l1 : Value) (l2 : Value) (x : Int32) (σ : Hs) : ru d 61 77 [l0, l1, l2] [.int x] σ = some (some (.int x), σ) := q_ireti t61_77 mr61
theorem c61 (d : Nat) (x0 : Nat) (x1 : Int32) (x2 : Int32) (σ : Hs) : callD (d + 1) 61 [.ref x0, .int x1, .int x2] σ = ru d 61 0 [.ref x0, .int x1, .int x2] [] σ := callD_ru ml61 rfl rfl (Nat.le_of_ble_eq_true rfl)
-- 62: SmokyHeap.become(II)I
theorem t62_0 : decode (mb 62) 0 = .ok (.iload_n 1, 1) := by decide +kernel
theorem s62_0 (d : Nat) (l0 : Value) (i1 : Int32) (l2 : Value) (l3 : Value) (σ : Hs) : ru d 62 0 [l0, .int i1, l2, l3] [] σ = ru d 62 1 [l0, .int i1, l2, l3] [.int i1] σ := q_iload_n t62_0 rfl
theorem t62_1 : decode (mb 62) 1 = .ok (.invokestatic 69, 3) := by decide +kernel
theorem s62_1 (d : Nat) (l0 : Value) (l1 : Value) (l2 : Value) (l3 : Value) (v0 : Value) (σ : Hs) : ru d 62 1 [l0, l1, l2, l3] [v0] σ = kont (callD d 103 [v0] σ) d 62 4 [l0, l1, l2, l3] [] := q_invs t62_1 mo62 (by decide +kernel) K7_69 mj103 (Nat.le_of_ble_eq_true rfl) rfl rfl (Nat.le_of_ble_eq_true rfl)
theorem t62_4 : decode (mb 62) 4 = .ok (.ifCond .eq 10, 3) := by decide +kernel
theorem s62_4 (d : Nat) (l0 : Value) (l1 : Value) (l2 : Value) (l3 : Value) (x : Int32) (σ : Hs) : ru d 62 4 [l0, l1, l2, l3] [.int x] σ = if x = 0 then ru d 62 14 [l0, l1, l2, l3] [] σ else ru d 62 7 [l0, l1, l2, l3] [] σ := q_if_eq t62_4 (by decide +kernel)
theorem t62_7 : decode (mb 62) 7 = .ok (.iload_n 2, 1) := by decide +kernel
theorem s62_7 (d : Nat) (l0 : Value) (l1 : Value) (i2 : Int32) (l3 : Value) (σ : Hs) : ru d 62 7 [l0, l1, .int i2, l3] [] σ = ru d 62 8 [l0, l1, .int i2, l3] [.int i2] σ := q_iload_n t62_7 rfl
theorem t62_8 : decode (mb 62) 8 = .ok (.invokestatic 91, 3) := by decide +kernel
theorem s62_8 (d : Nat) (l0 : Value) (l1 : Value) (l2 : Value) (l3 : Value) (v0 : Value) (σ : Hs) : ru d 62 8 [l0, l1, l2, l3] [v0] σ = kont (callD d 104 [v0] σ) d 62 11 [l0, l1, l2, l3] [] := q_invs t62_8 mo62 (by decide +kernel) K7_91 mj104 (Nat.le_of_ble_eq_true rfl) rfl rfl (Nat.le_of_ble_eq_true rfl)
theorem t62_11 : decode (mb 62) 11 = .ok (.ifCond .ne 9, 3) := by decide +kernel
theorem s62_11 (d : Nat) (l0 : Value) (l1 : Value) (l2 : Value) (l3 : Value) (x : Int32) (σ : Hs) : ru d 62 11 [l0, l1, l2, l3] [.int x] σ = if x = 0 then ru d 62 14 [l0, l1, l2, l3] [] σ else ru d 62 20 [l0, l1, l2, l3] [] σ := q_if_ne t62_11 (by decide +kernel)
theorem t62_14 : decode (mb 62) 14 = .ok (.aload_n 0, 1) := by decide +kernel
theorem s62_14 (d : Nat) (a0 : Nat) (l1 : Value) (l2 : Value) (l3 : Value) (σ : Hs) : ru d 62 14 [.ref a0, l1, l2, l3] [] σ = ru d 62 15 [.ref a0, l1, l2, l3] [.ref a0] σ := q_aload_n t62_14 rfl
theorem t62_15 : decode (mb 62) 15 = .ok (.iconst 1, 1) := by decide +kernel
theorem s62_15 (d : Nat) (l0 : Value) (l1 : Value) (l2 : Value) (l3 : Value) (w0 : Value) (σ : Hs) : ru d 62 15 [l0, l1, l2, l3] [w0] σ = ru d 62 16 [l0, l1, l2, l3] [.int 1, w0] σ := q_iconst t62_15 (by decide +kernel)
theorem t62_16 : decode (mb 62) 16 = .ok (.invokevirtual 65, 3) := by decide +kernel
theorem s62_16_o0 (d : Nat) (l0 : Value) (l1 : Value) (l2 : Value) (l3 : Value) (v1 : Value) (σ : Hs) : ru d 62 16 [l0, l1, l2, l3] [v1, .ref 0] σ = kont (callD d 99 [.ref 0, v1] σ) d 62 19 [l0, l1, l2, l3] [] := q_invv t62_16 mo62 K7_65 mj99 rfl rfl rfl rfl (Nat.le_of_ble_eq_true rfl)
theorem t62_19 : decode (mb 62) 19 = .ok (.ireturn, 1) := by decide +kernel
theorem s62_19 (d : Nat) (l0 : Value) (l1 : Value) (l2 : Value) (l3 : Value) (x : Int32) (σ : Hs) : ru d 62 19 [l0, l1, l2, l3] [.int x] σ = some (some (.int x), σ) := q_ireti t62_19 mr62
theorem t62_20 : decode (mb 62) 20 = .ok (.aload_n 0, 1) := by decide +kernel
theorem s62_20 (d : Nat) (a0 : Nat) (l1 : Value) (l2 : Value) (l3 : Value) (σ : Hs) : ru d 62 20 [.ref a0, l1, l2, l3] [] σ = ru d 62 21 [.ref a0, l1, l2, l3] [.ref a0] σ := q_aload_n t62_20 rfl
theorem t62_21 : decode (mb 62) 21 = .ok (.getfield 10, 3) := by decide +kernel
theorem s62_21_o0 (d : Nat) (l0 : Value) (l1 : Value) (l2 : Value) (l3 : Value) (σ : Hs) : ru d 62 21 [l0, l1, l2, l3] [.ref 0] σ = ru d 62 24 [l0, l1, l2, l3] [.ref 1] σ := q_getf t62_21 mo62 F7_10 rfl rfl
theorem t62_24 : decode (mb 62) 24 = .ok (.getfield 58, 3) := by decide +kernel
theorem s62_24_o1 (d : Nat) (l0 : Value) (l1 : Value) (l2 : Value) (l3 : Value) (σ : Hs) : ru d 62 24 [l0, l1, l2, l3] [.ref 1] σ = ru d 62 27 [l0, l1, l2, l3] [.ref 2] σ := q_getf t62_24 mo62 F7_58 rfl rfl
theorem t62_27 : decode (mb 62) 27 = .ok (.iload_n 1, 1) := by decide +kernel
theorem s62_27 (d : Nat) (l0 : Value) (i1 : Int32) (l2 : Value) (l3 : Value) (w0 : Value) (σ : Hs) : ru d 62 27 [l0, .int i1, l2, l3] [w0] σ = ru d 62 28 [l0, .int i1, l2, l3] [.int i1, w0] σ := q_iload_n t62_27 rfl
theorem t62_28 : decode (mb 62) 28 = .ok (.invokevirtual 73, 3) := by decide +kernel
theorem s62_28_o2 (d : Nat) (l0 : Value) (l1 : Value) (l2 : Value) (l3 : Value) (v1 : Value) (σ : Hs) : ru d 62 28 [l0, l1, l2, l3] [v1, .ref 2] σ = kont (callD d 1 [.ref 2, v1] σ) d 62 31 [l0, l1, l2, l3] [] := q_invv t62_28 mo62 K7_73 mj1 rfl rfl rfl rfl (Nat.le_of_ble_eq_true rfl)
theorem t62_31 : decode (mb 62) 31 = .ok (.ifCond .ne 9, 3) := by decide +kernel
theorem s62_31 (d : Nat) (l0 : Value) (l1 : Value) (l2 : Value) (l3 : Value) (x : Int32) (σ : Hs) : ru d 62 31 [l0, l1, l2, l3] [.int x] σ = if x = 0 then ru d 62 34 [l0, l1, l2, l3] [] σ else ru d 62 40 [l0, l1, l2, l3] [] σ := q_if_ne t62_31 (by decide +kernel)
theorem t62_34 : decode (mb 62) 34 = .ok (.aload_n 0, 1) := by decide +kernel
theorem s62_34 (d : Nat) (a0 : Nat) (l1 : Value) (l2 : Value) (l3 : Value) (σ : Hs) : ru d 62 34 [.ref a0, l1, l2, l3] [] σ = ru d 62 35 [.ref a0, l1, l2, l3] [.ref a0] σ := q_aload_n t62_34 rfl
theorem t62_35 : decode (mb 62) 35 = .ok (.iconst 2, 1) := by decide +kernel
theorem s62_35 (d : Nat) (l0 : Value) (l1 : Value) (l2 : Value) (l3 : Value) (w0 : Value) (σ : Hs) : ru d 62 35 [l0, l1, l2, l3] [w0] σ = ru d 62 36 [l0, l1, l2, l3] [.int 2, w0] σ := q_iconst t62_35 (by decide +kernel)
theorem t62_36 : decode (mb 62) 36 = .ok (.invokevirtual 65, 3) := by decide +kernel
theorem s62_36_o0 (d : Nat) (l0 : Value) (l1 : Value) (l2 : Value) (l3 : Value) (v1 : Value) (σ : Hs) : ru d 62 36 [l0, l1, l2, l3] [v1, .ref 0] σ = kont (callD d 99 [.ref 0, v1] σ) d 62 39 [l0, l1, l2, l3] [] := q_invv t62_36 mo62 K7_65 mj99 rfl rfl rfl rfl (Nat.le_of_ble_eq_true rfl)
theorem t62_39 : decode (mb 62) 39 = .ok (.ireturn, 1) := by decide +kernel
theorem s62_39 (d : Nat) (l0 : Value) (l1 : Value) (l2 : Value) (l3 : Value) (x : Int32) (σ : Hs) : ru d 62 39 [l0, l1, l2, l3] [.int x] σ = some (some (.int x), σ) := q_ireti t62_39 mr62
theorem t62_40 : decode (mb 62) 40 = .ok (.aload_n 0, 1) := by decide +kernel
theorem s62_40 (d : Nat) (a0 : Nat) (l1 : Value) (l2 : Value) (l3 : Value) (σ : Hs) : ru d 62 40 [.ref a0, l1, l2, l3] [] σ = ru d 62 41 [.ref a0, l1, l2, l3] [.ref a0] σ := q_aload_n t62_40 rfl
theorem t62_41 : decode (mb 62) 41 = .ok (.getfield 10, 3) := by decide +kernel
theorem s62_41_o0 (d : Nat) (l0 : Value) (l1 : Value) (l2 : Value) (l3 : Value) (σ : Hs) : ru d 62 41 [l0, l1, l2, l3] [.ref 0] σ = ru d 62 44 [l0, l1, l2, l3] [.ref 1] σ := q_getf t62_41 mo62 F7_10 rfl rfl
theorem t62_44 : decode (mb 62) 44 = .ok (.getfield 58, 3) := by decide +kernel
theorem s62_44_o1 (d : Nat) (l0 : Value) (l1 : Value) (l2 : Value) (l3 : Value) (σ : Hs) : ru d 62 44 [l0, l1, l2, l3] [.ref 1] σ = ru d 62 47 [l0, l1, l2, l3] [.ref 2] σ := q_getf t62_44 mo62 F7_58 rfl rfl
theorem t62_47 : decode (mb 62) 47 = .ok (.getfield 94, 3) := by decide +kernel
theorem s62_47_o2 (d : Nat) (l0 : Value) (l1 : Value) (l2 : Value) (l3 : Value) (σ : Hs) : ru d 62 47 [l0, l1, l2, l3] [.ref 2] σ = ru d 62 50 [l0, l1, l2, l3] [.ref 3] σ := q_getf t62_47 mo62 F7_94 rfl rfl
theorem t62_50 : decode (mb 62) 50 = .ok (.iload_n 1, 1) := by decide +kernel
theorem s62_50 (d : Nat) (l0 : Value) (i1 : Int32) (l2 : Value) (l3 : Value) (w0 : Value) (σ : Hs) : ru d 62 50 [l0, .int i1, l2, l3] [w0] σ = ru d 62 51 [l0, .int i1, l2, l3] [.int i1, w0] σ := q_iload_n t62_50 rfl
theorem t62_51 : decode (mb 62) 51 = .ok (.iaload, 1) := by decide +kernel
theorem s62_51_o3 (d : Nat) (l0 : Value) (l1 : Value) (l2 : Value) (l3 : Value) (i : Int32) (σ : Hs) : ru d 62 51 [l0, l1, l2, l3] [.int i, .ref 3] σ = gd (vp_in i 30) (ru d 62 52 [l0, l1, l2, l3] [.int (σ 3 i.toNatClampNeg)] σ) := q_iald t62_51 rfl (by decide +kernel) rfl
theorem t62_52 : decode (mb 62) 52 = .ok (.istore_n 3, 1) := by decide +kernel
theorem s62_52 (d : Nat) (l0 : Value) (l1 : Value) (i2 : Int32) (l3 : Value) (x : Int32) (σ : Hs) : ru d 62 52 [l0, l1, .int i2, l3] [.int x] σ = ru d 62 53 [l0, l1, .int i2, .int x] [] σ := q_istore_n t62_52 ⟨Nat.le_of_ble_eq_true rfl, rfl⟩ rfl
theorem t62_53 : decode (mb 62) 53 = .ok (.aload_n 0, 1) := by decide +kernel
theorem s62_53 (d : Nat) (a0 : Nat) (l1 : Value) (l2 : Value) (l3 : Value) (σ : Hs) : ru d 62 53 [.ref a0, l1, l2, l3] [] σ = ru d 62 54 [.ref a0, l1, l2, l3] [.ref a0] σ := q_aload_n t62_53 rfl
theorem t62_54 : decode (mb 62) 54 = .ok (.getfield 10, 3) := by decide +kernel
theorem s62_54_o0 (d : Nat) (l0 : Value) (l1 : Value) (l2 : Value) (l3 : Value) (σ : Hs) : ru d 62 54 [l0, l1, l2, l3] [.ref 0] σ = ru d 62 57 [l0, l1, l2, l3] [.ref 1] σ := q_getf t62_54 mo62 F7_10 rfl rfl
theorem t62_57 : decode (mb 62) 57 = .ok (.getfield 58, 3) := by decide +kernel
theorem s62_57_o1 (d : Nat) (l0 : Value) (l1 : Value) (l2 : Value) (l3 : Value) (σ : Hs) : ru d 62 57 [l0, l1, l2, l3] [.ref 1] σ = ru d 62 60 [l0, l1, l2, l3] [.ref 2] σ := q_getf t62_57 mo62 F7_58 rfl rfl
theorem t62_60 : decode (mb 62) 60 = .ok (.getfield 94, 3) := by decide +kernel
theorem s62_60_o2 (d : Nat) (l0 : Value) (l1 : Value) (l2 : Value) (l3 : Value) (σ : Hs) : ru d 62 60 [l0, l1, l2, l3] [.ref 2] σ = ru d 62 63 [l0, l1, l2, l3] [.ref 3] σ := q_getf t62_60 mo62 F7_94 rfl rfl
theorem t62_63 : decode (mb 62) 63 = .ok (.iload_n 1, 1) := by decide +kernel
theorem s62_63 (d : Nat) (l0 : Value) (i1 : Int32) (l2 : Value) (l3 : Value) (w0 : Value) (σ : Hs) : ru d 62 63 [l0, .int i1, l2, l3] [w0] σ = ru d 62 64 [l0, .int i1, l2, l3] [.int i1, w0] σ := q_iload_n t62_63 rfl
theorem t62_64 : decode (mb 62) 64 = .ok (.iload_n 2, 1) := by decide +kernel
theorem s62_64 (d : Nat) (l0 : Value) (l1 : Value) (i2 : Int32) (l3 : Value) (w0 w1 : Value) (σ : Hs) : ru d 62 64 [l0, l1, .int i2, l3] [w0, w1] σ = ru d 62 65 [l0, l1, .int i2, l3] [.int i2, w0, w1] σ := q_iload_n t62_64 rfl
theorem t62_65 : decode (mb 62) 65 = .ok (.iastore, 1) := by decide +kernel
theorem s62_65_o3 (d : Nat) (l0 : Value) (l1 : Value) (l2 : Value) (l3 : Value) (i x : Int32) (σ : Hs) : ru d 62 65 [l0, l1, l2, l3] [.int x, .int i, .ref 3] σ = gd (vp_in i 30) (ru d 62 66 [l0, l1, l2, l3] [] (up2 σ 3 i.toNatClampNeg x)) := q_iast t62_65 (by decide +kernel) rfl rfl
theorem t62_66 : decode (mb 62) 66 = .ok (.iload_n 3, 1) := by decide +kernel
theorem s62_66 (d : Nat) (l0 : Value) (l1 : Value) (l2 : Value) (i3 : Int32) (σ : Hs) : ru d 62 66 [l0, l1, l2, .int i3] [] σ = ru d 62 67 [l0, l1, l2, .int i3] [.int i3] σ := q_iload_n t62_66 rfl
theorem t62_67 : decode (mb 62) 67 = .ok (.ireturn, 1) := by decide +kernel
theorem s62_67 (d : Nat) (l0 : Value) (l1 : Value) (l2 : Value) (l3 : Value) (x : Int32) (σ : Hs) : ru d 62 67 [l0, l1, l2, l3] [.int x] σ = some (some (.int x), σ) := q_ireti t62_67 mr62
theorem c62 (d : Nat) (x0 : Nat) (x1 : Int32) (x2 : Int32) (σ : Hs) : callD (d + 1) 62 [.ref x0, .int x1, .int x2] σ = ru d 62 0 [.ref x0, .int x1, .int x2, uu] [] σ := callD_ru ml62 rfl rfl (Nat.le_of_ble_eq_true rfl)
-- 63: SmokyHeap.light(I)I
theorem t63_0 : decode (mb 63) 0 = .ok (.iload_n 1, 1) := by decide +kernel
theorem s63_0 (d : Nat) (l0 : Value) (i1 : Int32) (σ : Hs) : ru d 63 0 [l0, .int i1] [] σ = ru d 63 1 [l0, .int i1] [.int i1] σ := q_iload_n t63_0 rfl
theorem t63_1 : decode (mb 63) 1 = .ok (.invokestatic 69, 3) := by decide +kernel
theorem s63_1 (d : Nat) (l0 : Value) (l1 : Value) (v0 : Value) (σ : Hs) : ru d 63 1 [l0, l1] [v0] σ = kont (callD d 103 [v0] σ) d 63 4 [l0, l1] [] := q_invs t63_1 mo63 (by decide +kernel) K7_69 mj103 (Nat.le_of_ble_eq_true rfl) rfl rfl (Nat.le_of_ble_eq_true rfl)
theorem t63_4 : decode (mb 63) 4 = .ok (.ifCond .ne 9, 3) := by decide +kernel
theorem s63_4 (d : Nat) (l0 : Value) (l1 : Value) (x : Int32) (σ : Hs) : ru d 63 4 [l0, l1] [.int x] σ = if x = 0 then ru d 63 7 [l0, l1] [] σ else ru d 63 13 [l0, l1] [] σ := q_if_ne t63_4 (by decide +kernel)
theorem t63_7 : decode (mb 63) 7 = .ok (.aload_n 0, 1) := by decide +kernel
theorem s63_7 (d : Nat) (a0 : Nat) (l1 : Value) (σ : Hs) : ru d 63 7 [.ref a0, l1] [] σ = ru d 63 8 [.ref a0, l1] [.ref a0] σ := q_aload_n t63_7 rfl
theorem t63_8 : decode (mb 63) 8 = .ok (.iconst 1, 1) := by decide +kernel
theorem s63_8 (d : Nat) (l0 : Value) (l1 : Value) (w0 : Value) (σ : Hs) : ru d 63 8 [l0, l1] [w0] σ = ru d 63 9 [l0, l1] [.int 1, w0] σ := q_iconst t63_8 (by decide +kernel)
theorem t63_9 : decode (mb 63) 9 = .ok (.invokevirtual 65, 3) := by decide +kernel
theorem s63_9_o0 (d : Nat) (l0 : Value) (l1 : Value) (v1 : Value) (σ : Hs) : ru d 63 9 [l0, l1] [v1, .ref 0] σ = kont (callD d 99 [.ref 0, v1] σ) d 63 12 [l0, l1] [] := q_invv t63_9 mo63 K7_65 mj99 rfl rfl rfl rfl (Nat.le_of_ble_eq_true rfl)
theorem t63_12 : decode (mb 63) 12 = .ok (.ireturn, 1) := by decide +kernel
theorem s63_12 (d : Nat) (l0 : Value) (l1 : Value) (x : Int32) (σ : Hs) : ru d 63 12 [l0, l1] [.int x] σ = some (some (.int x), σ) := q_ireti t63_12 mr63
theorem t63_13 : decode (mb 63) 13 = .ok (.aload_n 0, 1) := by decide +kernel
theorem s63_13 (d : Nat) (a0 : Nat) (l1 : Value) (σ : Hs) : ru d 63 13 [.ref a0, l1] [] σ = ru d 63 14 [.ref a0, l1] [.ref a0] σ := q_aload_n t63_13 rfl
theorem t63_14 : decode (mb 63) 14 = .ok (.getfield 10, 3) := by decide +kernel
theorem s63_14_o0 (d : Nat) (l0 : Value) (l1 : Value) (σ : Hs) : ru d 63 14 [l0, l1] [.ref 0] σ = ru d 63 17 [l0, l1] [.ref 1] σ := q_getf t63_14 mo63 F7_10 rfl rfl
theorem t63_17 : decode (mb 63) 17 = .ok (.getfield 58, 3) := by decide +kernel
theorem s63_17_o1 (d : Nat) (l0 : Value) (l1 : Value) (σ : Hs) : ru d 63 17 [l0, l1] [.ref 1] σ = ru d 63 20 [l0, l1] [.ref 2] σ := q_getf t63_17 mo63 F7_58 rfl rfl
theorem t63_20 : decode (mb 63) 20 = .ok (.iload_n 1, 1) := by decide +kernel
theorem s63_20 (d : Nat) (l0 : Value) (i1 : Int32) (w0 : Value) (σ : Hs) : ru d 63 20 [l0, .int i1] [w0] σ = ru d 63 21 [l0, .int i1] [.int i1, w0] σ := q_iload_n t63_20 rfl
theorem t63_21 : decode (mb 63) 21 = .ok (.invokevirtual 73, 3) := by decide +kernel
theorem s63_21_o2 (d : Nat) (l0 : Value) (l1 : Value) (v1 : Value) (σ : Hs) : ru d 63 21 [l0, l1] [v1, .ref 2] σ = kont (callD d 1 [.ref 2, v1] σ) d 63 24 [l0, l1] [] := q_invv t63_21 mo63 K7_73 mj1 rfl rfl rfl rfl (Nat.le_of_ble_eq_true rfl)
theorem t63_24 : decode (mb 63) 24 = .ok (.ifCond .ne 9, 3) := by decide +kernel
theorem s63_24 (d : Nat) (l0 : Value) (l1 : Value) (x : Int32) (σ : Hs) : ru d 63 24 [l0, l1] [.int x] σ = if x = 0 then ru d 63 27 [l0, l1] [] σ else ru d 63 33 [l0, l1] [] σ := q_if_ne t63_24 (by decide +kernel)
theorem t63_27 : decode (mb 63) 27 = .ok (.aload_n 0, 1) := by decide +kernel
theorem s63_27 (d : Nat) (a0 : Nat) (l1 : Value) (σ : Hs) : ru d 63 27 [.ref a0, l1] [] σ = ru d 63 28 [.ref a0, l1] [.ref a0] σ := q_aload_n t63_27 rfl
theorem t63_28 : decode (mb 63) 28 = .ok (.iconst 2, 1) := by decide +kernel
theorem s63_28 (d : Nat) (l0 : Value) (l1 : Value) (w0 : Value) (σ : Hs) : ru d 63 28 [l0, l1] [w0] σ = ru d 63 29 [l0, l1] [.int 2, w0] σ := q_iconst t63_28 (by decide +kernel)
theorem t63_29 : decode (mb 63) 29 = .ok (.invokevirtual 65, 3) := by decide +kernel
theorem s63_29_o0 (d : Nat) (l0 : Value) (l1 : Value) (v1 : Value) (σ : Hs) : ru d 63 29 [l0, l1] [v1, .ref 0] σ = kont (callD d 99 [.ref 0, v1] σ) d 63 32 [l0, l1] [] := q_invv t63_29 mo63 K7_65 mj99 rfl rfl rfl rfl (Nat.le_of_ble_eq_true rfl)
theorem t63_32 : decode (mb 63) 32 = .ok (.ireturn, 1) := by decide +kernel
theorem s63_32 (d : Nat) (l0 : Value) (l1 : Value) (x : Int32) (σ : Hs) : ru d 63 32 [l0, l1] [.int x] σ = some (some (.int x), σ) := q_ireti t63_32 mr63
theorem t63_33 : decode (mb 63) 33 = .ok (.aload_n 0, 1) := by decide +kernel
theorem s63_33 (d : Nat) (a0 : Nat) (l1 : Value) (σ : Hs) : ru d 63 33 [.ref a0, l1] [] σ = ru d 63 34 [.ref a0, l1] [.ref a0] σ := q_aload_n t63_33 rfl
theorem t63_34 : decode (mb 63) 34 = .ok (.getfield 10, 3) := by decide +kernel
theorem s63_34_o0 (d : Nat) (l0 : Value) (l1 : Value) (σ : Hs) : ru d 63 34 [l0, l1] [.ref 0] σ = ru d 63 37 [l0, l1] [.ref 1] σ := q_getf t63_34 mo63 F7_10 rfl rfl
theorem t63_37 : decode (mb 63) 37 = .ok (.getfield 58, 3) := by decide +kernel
theorem s63_37_o1 (d : Nat) (l0 : Value) (l1 : Value) (σ : Hs) : ru d 63 37 [l0, l1] [.ref 1] σ = ru d 63 40 [l0, l1] [.ref 2] σ := q_getf t63_37 mo63 F7_58 rfl rfl
theorem t63_40 : decode (mb 63) 40 = .ok (.iload_n 1, 1) := by decide +kernel
theorem s63_40 (d : Nat) (l0 : Value) (i1 : Int32) (w0 : Value) (σ : Hs) : ru d 63 40 [l0, .int i1] [w0] σ = ru d 63 41 [l0, .int i1] [.int i1, w0] σ := q_iload_n t63_40 rfl
theorem t63_41 : decode (mb 63) 41 = .ok (.invokevirtual 101, 3) := by decide +kernel
theorem s63_41_o2 (d : Nat) (l0 : Value) (l1 : Value) (v1 : Value) (σ : Hs) : ru d 63 41 [l0, l1] [v1, .ref 2] σ = kont (callD d 8 [.ref 2, v1] σ) d 63 44 [l0, l1] [] := q_invv t63_41 mo63 K7_101 mj8 rfl rfl rfl rfl (Nat.le_of_ble_eq_true rfl)
theorem t63_44 : decode (mb 63) 44 = .ok (.ifCond .eq 10, 3) := by decide +kernel
theorem s63_44 (d : Nat) (l0 : Value) (l1 : Value) (x : Int32) (σ : Hs) : ru d 63 44 [l0, l1] [.int x] σ = if x = 0 then ru d 63 54 [l0, l1] [] σ else ru d 63 47 [l0, l1] [] σ := q_if_eq t63_44 (by decide +kernel)
theorem t63_47 : decode (mb 63) 47 = .ok (.aload_n 0, 1) := by decide +kernel
theorem s63_47 (d : Nat) (a0 : Nat) (l1 : Value) (σ : Hs) : ru d 63 47 [.ref a0, l1] [] σ = ru d 63 48 [.ref a0, l1] [.ref a0] σ := q_aload_n t63_47 rfl
theorem t63_48 : decode (mb 63) 48 = .ok (.invokevirtual 104, 3) := by decide +kernel
theorem s63_48_o0 (d : Nat) (l0 : Value) (l1 : Value) (σ : Hs) : ru d 63 48 [l0, l1] [.ref 0] σ = kont (callD d 100 [.ref 0] σ) d 63 51 [l0, l1] [] := q_invv t63_48 mo63 K7_104 mj100 rfl rfl rfl rfl (Nat.le_of_ble_eq_true rfl)
theorem t63_51 : decode (mb 63) 51 = .ok (.ifCond .ne 9, 3) := by decide +kernel
theorem s63_51 (d : Nat) (l0 : Value) (l1 : Value) (x : Int32) (σ : Hs) : ru d 63 51 [l0, l1] [.int x] σ = if x = 0 then ru d 63 54 [l0, l1] [] σ else ru d 63 60 [l0, l1] [] σ := q_if_ne t63_51 (by decide +kernel)
theorem t63_54 : decode (mb 63) 54 = .ok (.aload_n 0, 1) := by decide +kernel
theorem s63_54 (d : Nat) (a0 : Nat) (l1 : Value) (σ : Hs) : ru d 63 54 [.ref a0, l1] [] σ = ru d 63 55 [.ref a0, l1] [.ref a0] σ := q_aload_n t63_54 rfl
theorem t63_55 : decode (mb 63) 55 = .ok (.iconst 3, 1) := by decide +kernel
theorem s63_55 (d : Nat) (l0 : Value) (l1 : Value) (w0 : Value) (σ : Hs) : ru d 63 55 [l0, l1] [w0] σ = ru d 63 56 [l0, l1] [.int 3, w0] σ := q_iconst t63_55 (by decide +kernel)
theorem t63_56 : decode (mb 63) 56 = .ok (.invokevirtual 65, 3) := by decide +kernel
theorem s63_56_o0 (d : Nat) (l0 : Value) (l1 : Value) (v1 : Value) (σ : Hs) : ru d 63 56 [l0, l1] [v1, .ref 0] σ = kont (callD d 99 [.ref 0, v1] σ) d 63 59 [l0, l1] [] := q_invv t63_56 mo63 K7_65 mj99 rfl rfl rfl rfl (Nat.le_of_ble_eq_true rfl)
theorem t63_59 : decode (mb 63) 59 = .ok (.ireturn, 1) := by decide +kernel
theorem s63_59 (d : Nat) (l0 : Value) (l1 : Value) (x : Int32) (σ : Hs) : ru d 63 59 [l0, l1] [.int x] σ = some (some (.int x), σ) := q_ireti t63_59 mr63
theorem t63_60 : decode (mb 63) 60 = .ok (.aload_n 0, 1) := by decide +kernel
theorem s63_60 (d : Nat) (a0 : Nat) (l1 : Value) (σ : Hs) : ru d 63 60 [.ref a0, l1] [] σ = ru d 63 61 [.ref a0, l1] [.ref a0] σ := q_aload_n t63_60 rfl
theorem t63_61 : decode (mb 63) 61 = .ok (.getfield 10, 3) := by decide +kernel
theorem s63_61_o0 (d : Nat) (l0 : Value) (l1 : Value) (σ : Hs) : ru d 63 61 [l0, l1] [.ref 0] σ = ru d 63 64 [l0, l1] [.ref 1] σ := q_getf t63_61 mo63 F7_10 rfl rfl
theorem t63_64 : decode (mb 63) 64 = .ok (.getfield 58, 3) := by decide +kernel
theorem s63_64_o1 (d : Nat) (l0 : Value) (l1 : Value) (σ : Hs) : ru d 63 64 [l0, l1] [.ref 1] σ = ru d 63 67 [l0, l1] [.ref 2] σ := q_getf t63_64 mo63 F7_58 rfl rfl
theorem t63_67 : decode (mb 63) 67 = .ok (.iload_n 1, 1) := by decide +kernel
theorem s63_67 (d : Nat) (l0 : Value) (i1 : Int32) (w0 : Value) (σ : Hs) : ru d 63 67 [l0, .int i1] [w0] σ = ru d 63 68 [l0, .int i1] [.int i1, w0] σ := q_iload_n t63_67 rfl
theorem t63_68 : decode (mb 63) 68 = .ok (.invokevirtual 108, 3) := by decide +kernel
theorem s63_68_o2 (d : Nat) (l0 : Value) (l1 : Value) (v1 : Value) (σ : Hs) : ru d 63 68 [l0, l1] [v1, .ref 2] σ = kont (callD d 9 [.ref 2, v1] σ) d 63 71 [l0, l1] [] := q_invv t63_68 mo63 K7_108 mj9 rfl rfl rfl rfl (Nat.le_of_ble_eq_true rfl)
theorem t63_71 : decode (mb 63) 71 = .ok (.iconst 1, 1) := by decide +kernel
theorem s63_71 (d : Nat) (l0 : Value) (l1 : Value) (σ : Hs) : ru d 63 71 [l0, l1] [] σ = ru d 63 72 [l0, l1] [.int 1] σ := q_iconst t63_71 (by decide +kernel)
theorem t63_72 : decode (mb 63) 72 = .ok (.ireturn, 1) := by decide +kernel
theorem s63_72 (d : Nat) (l0 : Value) (l1 : Value) (x : Int32) (σ : Hs) : ru d 63 72 [l0, l1] [.int x] σ = some (some (.int x), σ) := q_ireti t63_72 mr63
theorem c63 (d : Nat) (x0 : Nat) (x1 : Int32) (σ : Hs) : callD (d + 1) 63 [.ref x0, .int x1] σ = ru d 63 0 [.ref x0, .int x1] [] σ := callD_ru ml63 rfl rfl (Nat.le_of_ble_eq_true rfl)
-- 64: SmokyHeap.fork(II)I
theorem t64_0 : decode (mb 64) 0 = .ok (.iload_n 1, 1) := by decide +kernel
theorem s64_0 (d : Nat) (l0 : Value) (i1 : Int32) (l2 : Value) (l3 : Value) (σ : Hs) : ru d 64 0 [l0, .int i1, l2, l3] [] σ = ru d 64 1 [l0, .int i1, l2, l3] [.int i1] σ := q_iload_n t64_0 rfl
theorem t64_1 : decode (mb 64) 1 = .ok (.invokestatic 69, 3) := by decide +kernel
theorem s64_1 (d : Nat) (l0 : Value) (l1 : Value) (l2 : Value) (l3 : Value) (v0 : Value) (σ : Hs) : ru d 64 1 [l0, l1, l2, l3] [v0] σ = kont (callD d 103 [v0] σ) d 64 4 [l0, l1, l2, l3] [] := q_invs t64_1 mo64 (by decide +kernel) K7_69 mj103 (Nat.le_of_ble_eq_true rfl) rfl rfl (Nat.le_of_ble_eq_true rfl)
theorem t64_4 : decode (mb 64) 4 = .ok (.ifCond .eq 13, 3) := by decide +kernel
theorem s64_4 (d : Nat) (l0 : Value) (l1 : Value) (l2 : Value) (l3 : Value) (x : Int32) (σ : Hs) : ru d 64 4 [l0, l1, l2, l3] [.int x] σ = if x = 0 then ru d 64 17 [l0, l1, l2, l3] [] σ else ru d 64 7 [l0, l1, l2, l3] [] σ := q_if_eq t64_4 (by decide +kernel)
theorem t64_7 : decode (mb 64) 7 = .ok (.iload_n 2, 1) := by decide +kernel
theorem s64_7 (d : Nat) (l0 : Value) (l1 : Value) (i2 : Int32) (l3 : Value) (σ : Hs) : ru d 64 7 [l0, l1, .int i2, l3] [] σ = ru d 64 8 [l0, l1, .int i2, l3] [.int i2] σ := q_iload_n t64_7 rfl
theorem t64_8 : decode (mb 64) 8 = .ok (.iconst 0, 1) := by decide +kernel
theorem s64_8 (d : Nat) (l0 : Value) (l1 : Value) (l2 : Value) (l3 : Value) (w0 : Value) (σ : Hs) : ru d 64 8 [l0, l1, l2, l3] [w0] σ = ru d 64 9 [l0, l1, l2, l3] [.int 0, w0] σ := q_iconst t64_8 (by decide +kernel)
theorem t64_9 : decode (mb 64) 9 = .ok (.bipush 9, 2) := by decide +kernel
theorem s64_9 (d : Nat) (l0 : Value) (l1 : Value) (l2 : Value) (l3 : Value) (w0 w1 : Value) (σ : Hs) : ru d 64 9 [l0, l1, l2, l3] [w0, w1] σ = ru d 64 11 [l0, l1, l2, l3] [.int 9, w0, w1] σ := q_bipush t64_9 (by decide +kernel)
theorem t64_11 : decode (mb 64) 11 = .ok (.invokestatic 83, 3) := by decide +kernel
theorem s64_11 (d : Nat) (l0 : Value) (l1 : Value) (l2 : Value) (l3 : Value) (v0 v1 v2 : Value) (σ : Hs) : ru d 64 11 [l0, l1, l2, l3] [v2, v1, v0] σ = kont (callD d 102 [v0, v1, v2] σ) d 64 14 [l0, l1, l2, l3] [] := q_invs t64_11 mo64 (by decide +kernel) K7_83 mj102 (Nat.le_of_ble_eq_true rfl) rfl rfl (Nat.le_of_ble_eq_true rfl)
theorem t64_14 : decode (mb 64) 14 = .ok (.ifCond .ne 9, 3) := by decide +kernel
theorem s64_14 (d : Nat) (l0 : Value) (l1 : Value) (l2 : Value) (l3 : Value) (x : Int32) (σ : Hs) : ru d 64 14 [l0, l1, l2, l3] [.int x] σ = if x = 0 then ru d 64 17 [l0, l1, l2, l3] [] σ else ru d 64 23 [l0, l1, l2, l3] [] σ := q_if_ne t64_14 (by decide +kernel)
theorem t64_17 : decode (mb 64) 17 = .ok (.aload_n 0, 1) := by decide +kernel
theorem s64_17 (d : Nat) (a0 : Nat) (l1 : Value) (l2 : Value) (l3 : Value) (σ : Hs) : ru d 64 17 [.ref a0, l1, l2, l3] [] σ = ru d 64 18 [.ref a0, l1, l2, l3] [.ref a0] σ := q_aload_n t64_17 rfl
theorem t64_18 : decode (mb 64) 18 = .ok (.iconst 1, 1) := by decide +kernel
theorem s64_18 (d : Nat) (l0 : Value) (l1 : Value) (l2 : Value) (l3 : Value) (w0 : Value) (σ : Hs) : ru d 64 18 [l0, l1, l2, l3] [w0] σ = ru d 64 19 [l0, l1, l2, l3] [.int 1, w0] σ := q_iconst t64_18 (by decide +kernel)
theorem t64_19 : decode (mb 64) 19 = .ok (.invokevirtual 65, 3) := by decide +kernel
theorem s64_19_o0 (d : Nat) (l0 : Value) (l1 : Value) (l2 : Value) (l3 : Value) (v1 : Value) (σ : Hs) : ru d 64 19 [l0, l1, l2, l3] [v1, .ref 0] σ = kont (callD d 99 [.ref 0, v1] σ) d 64 22 [l0, l1, l2, l3] [] := q_invv t64_19 mo64 K7_65 mj99 rfl rfl rfl rfl (Nat.le_of_ble_eq_true rfl)
theorem t64_22 : decode (mb 64) 22 = .ok (.ireturn, 1) := by decide +kernel
theorem s64_22 (d : Nat) (l0 : Value) (l1 : Value) (l2 : Value) (l3 : Value) (x : Int32) (σ : Hs) : ru d 64 22 [l0, l1, l2, l3] [.int x] σ = some (some (.int x), σ) := q_ireti t64_22 mr64
theorem t64_23 : decode (mb 64) 23 = .ok (.aload_n 0, 1) := by decide +kernel
theorem s64_23 (d : Nat) (a0 : Nat) (l1 : Value) (l2 : Value) (l3 : Value) (σ : Hs) : ru d 64 23 [.ref a0, l1, l2, l3] [] σ = ru d 64 24 [.ref a0, l1, l2, l3] [.ref a0] σ := q_aload_n t64_23 rfl
theorem t64_24 : decode (mb 64) 24 = .ok (.getfield 10, 3) := by decide +kernel
theorem s64_24_o0 (d : Nat) (l0 : Value) (l1 : Value) (l2 : Value) (l3 : Value) (σ : Hs) : ru d 64 24 [l0, l1, l2, l3] [.ref 0] σ = ru d 64 27 [l0, l1, l2, l3] [.ref 1] σ := q_getf t64_24 mo64 F7_10 rfl rfl
theorem t64_27 : decode (mb 64) 27 = .ok (.getfield 58, 3) := by decide +kernel
theorem s64_27_o1 (d : Nat) (l0 : Value) (l1 : Value) (l2 : Value) (l3 : Value) (σ : Hs) : ru d 64 27 [l0, l1, l2, l3] [.ref 1] σ = ru d 64 30 [l0, l1, l2, l3] [.ref 2] σ := q_getf t64_27 mo64 F7_58 rfl rfl
theorem t64_30 : decode (mb 64) 30 = .ok (.iload_n 1, 1) := by decide +kernel
theorem s64_30 (d : Nat) (l0 : Value) (i1 : Int32) (l2 : Value) (l3 : Value) (w0 : Value) (σ : Hs) : ru d 64 30 [l0, .int i1, l2, l3] [w0] σ = ru d 64 31 [l0, .int i1, l2, l3] [.int i1, w0] σ := q_iload_n t64_30 rfl
theorem t64_31 : decode (mb 64) 31 = .ok (.invokevirtual 73, 3) := by decide +kernel
theorem s64_31_o2 (d : Nat) (l0 : Value) (l1 : Value) (l2 : Value) (l3 : Value) (v1 : Value) (σ : Hs) : ru d 64 31 [l0, l1, l2, l3] [v1, .ref 2] σ = kont (callD d 1 [.ref 2, v1] σ) d 64 34 [l0, l1, l2, l3] [] := q_invv t64_31 mo64 K7_73 mj1 rfl rfl rfl rfl (Nat.le_of_ble_eq_true rfl)
theorem t64_34 : decode (mb 64) 34 = .ok (.ifCond .ne 9, 3) := by decide +kernel
theorem s64_34 (d : Nat) (l0 : Value) (l1 : Value) (l2 : Value) (l3 : Value) (x : Int32) (σ : Hs) : ru d 64 34 [l0, l1, l2, l3] [.int x] σ = if x = 0 then ru d 64 37 [l0, l1, l2, l3] [] σ else ru d 64 43 [l0, l1, l2, l3] [] σ := q_if_ne t64_34 (by decide +kernel)
theorem t64_37 : decode (mb 64) 37 = .ok (.aload_n 0, 1) := by decide +kernel
theorem s64_37 (d : Nat) (a0 : Nat) (l1 : Value) (l2 : Value) (l3 : Value) (σ : Hs) : ru d 64 37 [.ref a0, l1, l2, l3] [] σ = ru d 64 38 [.ref a0, l1, l2, l3] [.ref a0] σ := q_aload_n t64_37 rfl
theorem t64_38 : decode (mb 64) 38 = .ok (.iconst 2, 1) := by decide +kernel
theorem s64_38 (d : Nat) (l0 : Value) (l1 : Value) (l2 : Value) (l3 : Value) (w0 : Value) (σ : Hs) : ru d 64 38 [l0, l1, l2, l3] [w0] σ = ru d 64 39 [l0, l1, l2, l3] [.int 2, w0] σ := q_iconst t64_38 (by decide +kernel)
theorem t64_39 : decode (mb 64) 39 = .ok (.invokevirtual 65, 3) := by decide +kernel
theorem s64_39_o0 (d : Nat) (l0 : Value) (l1 : Value) (l2 : Value) (l3 : Value) (v1 : Value) (σ : Hs) : ru d 64 39 [l0, l1, l2, l3] [v1, .ref 0] σ = kont (callD d 99 [.ref 0, v1] σ) d 64 42 [l0, l1, l2, l3] [] := q_invv t64_39 mo64 K7_65 mj99 rfl rfl rfl rfl (Nat.le_of_ble_eq_true rfl)
theorem t64_42 : decode (mb 64) 42 = .ok (.ireturn, 1) := by decide +kernel
theorem s64_42 (d : Nat) (l0 : Value) (l1 : Value) (l2 : Value) (l3 : Value) (x : Int32) (σ : Hs) : ru d 64 42 [l0, l1, l2, l3] [.int x] σ = some (some (.int x), σ) := q_ireti t64_42 mr64
theorem t64_43 : decode (mb 64) 43 = .ok (.aload_n 0, 1) := by decide +kernel
theorem s64_43 (d : Nat) (a0 : Nat) (l1 : Value) (l2 : Value) (l3 : Value) (σ : Hs) : ru d 64 43 [.ref a0, l1, l2, l3] [] σ = ru d 64 44 [.ref a0, l1, l2, l3] [.ref a0] σ := q_aload_n t64_43 rfl
theorem t64_44 : decode (mb 64) 44 = .ok (.getfield 10, 3) := by decide +kernel
theorem s64_44_o0 (d : Nat) (l0 : Value) (l1 : Value) (l2 : Value) (l3 : Value) (σ : Hs) : ru d 64 44 [l0, l1, l2, l3] [.ref 0] σ = ru d 64 47 [l0, l1, l2, l3] [.ref 1] σ := q_getf t64_44 mo64 F7_10 rfl rfl
theorem t64_47 : decode (mb 64) 47 = .ok (.getfield 58, 3) := by decide +kernel
theorem s64_47_o1 (d : Nat) (l0 : Value) (l1 : Value) (l2 : Value) (l3 : Value) (σ : Hs) : ru d 64 47 [l0, l1, l2, l3] [.ref 1] σ = ru d 64 50 [l0, l1, l2, l3] [.ref 2] σ := q_getf t64_47 mo64 F7_58 rfl rfl
theorem t64_50 : decode (mb 64) 50 = .ok (.getfield 111, 3) := by decide +kernel
theorem s64_50_o2 (d : Nat) (l0 : Value) (l1 : Value) (l2 : Value) (l3 : Value) (σ : Hs) : ru d 64 50 [l0, l1, l2, l3] [.ref 2] σ = ru d 64 53 [l0, l1, l2, l3] [.ref 6] σ := q_getf t64_50 mo64 F7_111 rfl rfl
theorem t64_53 : decode (mb 64) 53 = .ok (.iload_n 1, 1) := by decide +kernel
theorem s64_53 (d : Nat) (l0 : Value) (i1 : Int32) (l2 : Value) (l3 : Value) (w0 : Value) (σ : Hs) : ru d 64 53 [l0, .int i1, l2, l3] [w0] σ = ru d 64 54 [l0, .int i1, l2, l3] [.int i1, w0] σ := q_iload_n t64_53 rfl
theorem t64_54 : decode (mb 64) 54 = .ok (.iaload, 1) := by decide +kernel
theorem s64_54_o6 (d : Nat) (l0 : Value) (l1 : Value) (l2 : Value) (l3 : Value) (i : Int32) (σ : Hs) : ru d 64 54 [l0, l1, l2, l3] [.int i, .ref 6] σ = gd (vp_in i 30) (ru d 64 55 [l0, l1, l2, l3] [.int (σ 6 i.toNatClampNeg)] σ) := q_iald t64_54 rfl (by decide +kernel) rfl
theorem t64_55 : decode (mb 64) 55 = .ok (.istore_n 3, 1) := by decide +kernel
theorem s64_55 (d : Nat) (l0 : Value) (l1 : Value) (i2 : Int32) (l3 : Value) (x : Int32) (σ : Hs) : ru d 64 55 [l0, l1, .int i2, l3] [.int x] σ = ru d 64 56 [l0, l1, .int i2, .int x] [] σ := q_istore_n t64_55 ⟨Nat.le_of_ble_eq_true rfl, rfl⟩ rfl
theorem t64_56 : decode (mb 64) 56 = .ok (.aload_n 0, 1) := by decide +kernel
theorem s64_56 (d : Nat) (a0 : Nat) (l1 : Value) (l2 : Value) (l3 : Value) (σ : Hs) : ru d 64 56 [.ref a0, l1, l2, l3] [] σ = ru d 64 57 [.ref a0, l1, l2, l3] [.ref a0] σ := q_aload_n t64_56 rfl
theorem t64_57 : decode (mb 64) 57 = .ok (.getfield 10, 3) := by decide +kernel
theorem s64_57_o0 (d : Nat) (l0 : Value) (l1 : Value) (l2 : Value) (l3 : Value) (σ : Hs) : ru d 64 57 [l0, l1, l2, l3] [.ref 0] σ = ru d 64 60 [l0, l1, l2, l3] [.ref 1] σ := q_getf t64_57 mo64 F7_10 rfl rfl
theorem t64_60 : decode (mb 64) 60 = .ok (.getfield 58, 3) := by decide +kernel
theorem s64_60_o1 (d : Nat) (l0 : Value) (l1 : Value) (l2 : Value) (l3 : Value) (σ : Hs) : ru d 64 60 [l0, l1, l2, l3] [.ref 1] σ = ru d 64 63 [l0, l1, l2, l3] [.ref 2] σ := q_getf t64_60 mo64 F7_58 rfl rfl
theorem t64_63 : decode (mb 64) 63 = .ok (.getfield 111, 3) := by decide +kernel
theorem s64_63_o2 (d : Nat) (l0 : Value) (l1 : Value) (l2 : Value) (l3 : Value) (σ : Hs) : ru d 64 63 [l0, l1, l2, l3] [.ref 2] σ = ru d 64 66 [l0, l1, l2, l3] [.ref 6] σ := q_getf t64_63 mo64 F7_111 rfl rfl
theorem t64_66 : decode (mb 64) 66 = .ok (.iload_n 1, 1) := by decide +kernel
theorem s64_66 (d : Nat) (l0 : Value) (i1 : Int32) (l2 : Value) (l3 : Value) (w0 : Value) (σ : Hs) : ru d 64 66 [l0, .int i1, l2, l3] [w0] σ = ru d 64 67 [l0, .int i1, l2, l3] [.int i1, w0] σ := q_iload_n t64_66 rfl
theorem t64_67 : decode (mb 64) 67 = .ok (.iload_n 2, 1) := by decide +kernel
theorem s64_67 (d : Nat) (l0 : Value) (l1 : Value) (i2 : Int32) (l3 : Value) (w0 w1 : Value) (σ : Hs) : ru d 64 67 [l0, l1, .int i2, l3] [w0, w1] σ = ru d 64 68 [l0, l1, .int i2, l3] [.int i2, w0, w1] σ := q_iload_n t64_67 rfl
theorem t64_68 : decode (mb 64) 68 = .ok (.iastore, 1) := by decide +kernel
theorem s64_68_o6 (d : Nat) (l0 : Value) (l1 : Value) (l2 : Value) (l3 : Value) (i x : Int32) (σ : Hs) : ru d 64 68 [l0, l1, l2, l3] [.int x, .int i, .ref 6] σ = gd (vp_in i 30) (ru d 64 69 [l0, l1, l2, l3] [] (up2 σ 6 i.toNatClampNeg x)) := q_iast t64_68 (by decide +kernel) rfl rfl
theorem t64_69 : decode (mb 64) 69 = .ok (.iload_n 3, 1) := by decide +kernel
theorem s64_69 (d : Nat) (l0 : Value) (l1 : Value) (l2 : Value) (i3 : Int32) (σ : Hs) : ru d 64 69 [l0, l1, l2, .int i3] [] σ = ru d 64 70 [l0, l1, l2, .int i3] [.int i3] σ := q_iload_n t64_69 rfl
theorem t64_70 : decode (mb 64) 70 = .ok (.ireturn, 1) := by decide +kernel
theorem s64_70 (d : Nat) (l0 : Value) (l1 : Value) (l2 : Value) (l3 : Value) (x : Int32) (σ : Hs) : ru d 64 70 [l0, l1, l2, l3] [.int x] σ = some (some (.int x), σ) := q_ireti t64_70 mr64
theorem c64 (d : Nat) (x0 : Nat) (x1 : Int32) (x2 : Int32) (σ : Hs) : callD (d + 1) 64 [.ref x0, .int x1, .int x2] σ = ru d 64 0 [.ref x0, .int x1, .int x2, uu] [] σ := callD_ru ml64 rfl rfl (Nat.le_of_ble_eq_true rfl)
-- 65: SmokyHeap.pour(II)I
theorem t65_0 : decode (mb 65) 0 = .ok (.iload_n 1, 1) := by decide +kernel
theorem s65_0 (d : Nat) (l0 : Value) (i1 : Int32) (l2 : Value) (σ : Hs) : ru d 65 0 [l0, .int i1, l2] [] σ = ru d 65 1 [l0, .int i1, l2] [.int i1] σ := q_iload_n t65_0 rfl
theorem t65_1 : decode (mb 65) 1 = .ok (.invokestatic 69, 3) := by decide +kernel
theorem s65_1 (d : Nat) (l0 : Value) (l1 : Value) (l2 : Value) (v0 : Value) (σ : Hs) : ru d 65 1 [l0, l1, l2] [v0] σ = kont (callD d 103 [v0] σ) d 65 4 [l0, l1, l2] [] := q_invs t65_1 mo65 (by decide +kernel) K7_69 mj103 (Nat.le_of_ble_eq_true rfl) rfl rfl (Nat.le_of_ble_eq_true rfl)
theorem t65_4 : decode (mb 65) 4 = .ok (.ifCond .eq 14, 3) := by decide +kernel
theorem s65_4 (d : Nat) (l0 : Value) (l1 : Value) (l2 : Value) (x : Int32) (σ : Hs) : ru d 65 4 [l0, l1, l2] [.int x] σ = if x = 0 then ru d 65 18 [l0, l1, l2] [] σ else ru d 65 7 [l0, l1, l2] [] σ := q_if_eq t65_4 (by decide +kernel)
theorem t65_7 : decode (mb 65) 7 = .ok (.iload_n 2, 1) := by decide +kernel
theorem s65_7 (d : Nat) (l0 : Value) (l1 : Value) (i2 : Int32) (σ : Hs) : ru d 65 7 [l0, l1, .int i2] [] σ = ru d 65 8 [l0, l1, .int i2] [.int i2] σ := q_iload_n t65_7 rfl
theorem t65_8 : decode (mb 65) 8 = .ok (.iconst 0, 1) := by decide +kernel
theorem s65_8 (d : Nat) (l0 : Value) (l1 : Value) (l2 : Value) (w0 : Value) (σ : Hs) : ru d 65 8 [l0, l1, l2] [w0] σ = ru d 65 9 [l0, l1, l2] [.int 0, w0] σ := q_iconst t65_8 (by decide +kernel)
theorem t65_9 : decode (mb 65) 9 = .ok (.sipush 999, 3) := by decide +kernel
theorem s65_9 (d : Nat) (l0 : Value) (l1 : Value) (l2 : Value) (w0 w1 : Value) (σ : Hs) : ru d 65 9 [l0, l1, l2] [w0, w1] σ = ru d 65 12 [l0, l1, l2] [.int 999, w0, w1] σ := q_sipush t65_9 (by decide +kernel)
theorem t65_12 : decode (mb 65) 12 = .ok (.invokestatic 83, 3) := by decide +kernel
theorem s65_12 (d : Nat) (l0 : Value) (l1 : Value) (l2 : Value) (v0 v1 v2 : Value) (σ : Hs) : ru d 65 12 [l0, l1, l2] [v2, v1, v0] σ = kont (callD d 102 [v0, v1, v2] σ) d 65 15 [l0, l1, l2] [] := q_invs t65_12 mo65 (by decide +kernel) K7_83 mj102 (Nat.le_of_ble_eq_true rfl) rfl rfl (Nat.le_of_ble_eq_true rfl)
theorem t65_15 : decode (mb 65) 15 = .ok (.ifCond .ne 9, 3) := by decide +kernel
theorem s65_15 (d : Nat) (l0 : Value) (l1 : Value) (l2 : Value) (x : Int32) (σ : Hs) : ru d 65 15 [l0, l1, l2] [.int x] σ = if x = 0 then ru d 65 18 [l0, l1, l2] [] σ else ru d 65 24 [l0, l1, l2] [] σ := q_if_ne t65_15 (by decide +kernel)
theorem t65_18 : decode (mb 65) 18 = .ok (.aload_n 0, 1) := by decide +kernel
theorem s65_18 (d : Nat) (a0 : Nat) (l1 : Value) (l2 : Value) (σ : Hs) : ru d 65 18 [.ref a0, l1, l2] [] σ = ru d 65 19 [.ref a0, l1, l2] [.ref a0] σ := q_aload_n t65_18 rfl
theorem t65_19 : decode (mb 65) 19 = .ok (.iconst 1, 1) := by decide +kernel
theorem s65_19 (d : Nat) (l0 : Value) (l1 : Value) (l2 : Value) (w0 : Value) (σ : Hs) : ru d 65 19 [l0, l1, l2] [w0] σ = ru d 65 20 [l0, l1, l2] [.int 1, w0] σ := q_iconst t65_19 (by decide +kernel)
theorem t65_20 : decode (mb 65) 20 = .ok (.invokevirtual 65, 3) := by decide +kernel
theorem s65_20_o0 (d : Nat) (l0 : Value) (l1 : Value) (l2 : Value) (v1 : Value) (σ : Hs) : ru d 65 20 [l0, l1, l2] [v1, .ref 0] σ = kont (callD d 99 [.ref 0, v1] σ) d 65 23 [l0, l1, l2] [] := q_invv t65_20 mo65 K7_65 mj99 rfl rfl rfl rfl (Nat.le_of_ble_eq_true rfl)
theorem t65_23 : decode (mb 65) 23 = .ok (.ireturn, 1) := by decide +kernel
theorem s65_23 (d : Nat) (l0 : Value) (l1 : Value) (l2 : Value) (x : Int32) (σ : Hs) : ru d 65 23 [l0, l1, l2] [.int x] σ = some (some (.int x), σ) := q_ireti t65_23 mr65
theorem t65_24 : decode (mb 65) 24 = .ok (.aload_n 0, 1) := by decide +kernel
theorem s65_24 (d : Nat) (a0 : Nat) (l1 : Value) (l2 : Value) (σ : Hs) : ru d 65 24 [.ref a0, l1, l2] [] σ = ru d 65 25 [.ref a0, l1, l2] [.ref a0] σ := q_aload_n t65_24 rfl
theorem t65_25 : decode (mb 65) 25 = .ok (.getfield 10, 3) := by decide +kernel
theorem s65_25_o0 (d : Nat) (l0 : Value) (l1 : Value) (l2 : Value) (σ : Hs) : ru d 65 25 [l0, l1, l2] [.ref 0] σ = ru d 65 28 [l0, l1, l2] [.ref 1] σ := q_getf t65_25 mo65 F7_10 rfl rfl
theorem t65_28 : decode (mb 65) 28 = .ok (.getfield 58, 3) := by decide +kernel
theorem s65_28_o1 (d : Nat) (l0 : Value) (l1 : Value) (l2 : Value) (σ : Hs) : ru d 65 28 [l0, l1, l2] [.ref 1] σ = ru d 65 31 [l0, l1, l2] [.ref 2] σ := q_getf t65_28 mo65 F7_58 rfl rfl
theorem t65_31 : decode (mb 65) 31 = .ok (.iload_n 1, 1) := by decide +kernel
theorem s65_31 (d : Nat) (l0 : Value) (i1 : Int32) (l2 : Value) (w0 : Value) (σ : Hs) : ru d 65 31 [l0, .int i1, l2] [w0] σ = ru d 65 32 [l0, .int i1, l2] [.int i1, w0] σ := q_iload_n t65_31 rfl
theorem t65_32 : decode (mb 65) 32 = .ok (.invokevirtual 73, 3) := by decide +kernel
theorem s65_32_o2 (d : Nat) (l0 : Value) (l1 : Value) (l2 : Value) (v1 : Value) (σ : Hs) : ru d 65 32 [l0, l1, l2] [v1, .ref 2] σ = kont (callD d 1 [.ref 2, v1] σ) d 65 35 [l0, l1, l2] [] := q_invv t65_32 mo65 K7_73 mj1 rfl rfl rfl rfl (Nat.le_of_ble_eq_true rfl)
theorem t65_35 : decode (mb 65) 35 = .ok (.ifCond .ne 9, 3) := by decide +kernel
theorem s65_35 (d : Nat) (l0 : Value) (l1 : Value) (l2 : Value) (x : Int32) (σ : Hs) : ru d 65 35 [l0, l1, l2] [.int x] σ = if x = 0 then ru d 65 38 [l0, l1, l2] [] σ else ru d 65 44 [l0, l1, l2] [] σ := q_if_ne t65_35 (by decide +kernel)
theorem t65_38 : decode (mb 65) 38 = .ok (.aload_n 0, 1) := by decide +kernel
theorem s65_38 (d : Nat) (a0 : Nat) (l1 : Value) (l2 : Value) (σ : Hs) : ru d 65 38 [.ref a0, l1, l2] [] σ = ru d 65 39 [.ref a0, l1, l2] [.ref a0] σ := q_aload_n t65_38 rfl
theorem t65_39 : decode (mb 65) 39 = .ok (.iconst 2, 1) := by decide +kernel
theorem s65_39 (d : Nat) (l0 : Value) (l1 : Value) (l2 : Value) (w0 : Value) (σ : Hs) : ru d 65 39 [l0, l1, l2] [w0] σ = ru d 65 40 [l0, l1, l2] [.int 2, w0] σ := q_iconst t65_39 (by decide +kernel)
theorem t65_40 : decode (mb 65) 40 = .ok (.invokevirtual 65, 3) := by decide +kernel
theorem s65_40_o0 (d : Nat) (l0 : Value) (l1 : Value) (l2 : Value) (v1 : Value) (σ : Hs) : ru d 65 40 [l0, l1, l2] [v1, .ref 0] σ = kont (callD d 99 [.ref 0, v1] σ) d 65 43 [l0, l1, l2] [] := q_invv t65_40 mo65 K7_65 mj99 rfl rfl rfl rfl (Nat.le_of_ble_eq_true rfl)
theorem t65_43 : decode (mb 65) 43 = .ok (.ireturn, 1) := by decide +kernel
theorem s65_43 (d : Nat) (l0 : Value) (l1 : Value) (l2 : Value) (x : Int32) (σ : Hs) : ru d 65 43 [l0, l1, l2] [.int x] σ = some (some (.int x), σ) := q_ireti t65_43 mr65
theorem t65_44 : decode (mb 65) 44 = .ok (.aload_n 0, 1) := by decide +kernel
theorem s65_44 (d : Nat) (a0 : Nat) (l1 : Value) (l2 : Value) (σ : Hs) : ru d 65 44 [.ref a0, l1, l2] [] σ = ru d 65 45 [.ref a0, l1, l2] [.ref a0] σ := q_aload_n t65_44 rfl
theorem t65_45 : decode (mb 65) 45 = .ok (.getfield 10, 3) := by decide +kernel
theorem s65_45_o0 (d : Nat) (l0 : Value) (l1 : Value) (l2 : Value) (σ : Hs) : ru d 65 45 [l0, l1, l2] [.ref 0] σ = ru d 65 48 [l0, l1, l2] [.ref 1] σ := q_getf t65_45 mo65 F7_10 rfl rfl
theorem t65_48 : decode (mb 65) 48 = .ok (.getfield 58, 3) := by decide +kernel
theorem s65_48_o1 (d : Nat) (l0 : Value) (l1 : Value) (l2 : Value) (σ : Hs) : ru d 65 48 [l0, l1, l2] [.ref 1] σ = ru d 65 51 [l0, l1, l2] [.ref 2] σ := q_getf t65_48 mo65 F7_58 rfl rfl
theorem t65_51 : decode (mb 65) 51 = .ok (.iload_n 1, 1) := by decide +kernel
theorem s65_51 (d : Nat) (l0 : Value) (i1 : Int32) (l2 : Value) (w0 : Value) (σ : Hs) : ru d 65 51 [l0, .int i1, l2] [w0] σ = ru d 65 52 [l0, .int i1, l2] [.int i1, w0] σ := q_iload_n t65_51 rfl
theorem t65_52 : decode (mb 65) 52 = .ok (.iload_n 2, 1) := by decide +kernel
theorem s65_52 (d : Nat) (l0 : Value) (l1 : Value) (i2 : Int32) (w0 w1 : Value) (σ : Hs) : ru d 65 52 [l0, l1, .int i2] [w0, w1] σ = ru d 65 53 [l0, l1, .int i2] [.int i2, w0, w1] σ := q_iload_n t65_52 rfl
theorem t65_53 : decode (mb 65) 53 = .ok (.invokevirtual 114, 3) := by decide +kernel
theorem s65_53_o2 (d : Nat) (l0 : Value) (l1 : Value) (l2 : Value) (v1 v2 : Value) (σ : Hs) : ru d 65 53 [l0, l1, l2] [v2, v1, .ref 2] σ = kont (callD d 10 [.ref 2, v1, v2] σ) d 65 56 [l0, l1, l2] [] := q_invv t65_53 mo65 K7_114 mj10 rfl rfl rfl rfl (Nat.le_of_ble_eq_true rfl)
theorem t65_56 : decode (mb 65) 56 = .ok (.aload_n 0, 1) := by decide +kernel
theorem s65_56 (d : Nat) (a0 : Nat) (l1 : Value) (l2 : Value) (σ : Hs) : ru d 65 56 [.ref a0, l1, l2] [] σ = ru d 65 57 [.ref a0, l1, l2] [.ref a0] σ := q_aload_n t65_56 rfl
theorem t65_57 : decode (mb 65) 57 = .ok (.getfield 10, 3) := by decide +kernel
theorem s65_57_o0 (d : Nat) (l0 : Value) (l1 : Value) (l2 : Value) (σ : Hs) : ru d 65 57 [l0, l1, l2] [.ref 0] σ = ru d 65 60 [l0, l1, l2] [.ref 1] σ := q_getf t65_57 mo65 F7_10 rfl rfl
theorem t65_60 : decode (mb 65) 60 = .ok (.getfield 58, 3) := by decide +kernel
theorem s65_60_o1 (d : Nat) (l0 : Value) (l1 : Value) (l2 : Value) (σ : Hs) : ru d 65 60 [l0, l1, l2] [.ref 1] σ = ru d 65 63 [l0, l1, l2] [.ref 2] σ := q_getf t65_60 mo65 F7_58 rfl rfl
theorem t65_63 : decode (mb 65) 63 = .ok (.getfield 118, 3) := by decide +kernel
theorem s65_63_o2 (d : Nat) (l0 : Value) (l1 : Value) (l2 : Value) (σ : Hs) : ru d 65 63 [l0, l1, l2] [.ref 2] σ = ru d 65 66 [l0, l1, l2] [.ref 5] σ := q_getf t65_63 mo65 F7_118 rfl rfl
theorem t65_66 : decode (mb 65) 66 = .ok (.iload_n 1, 1) := by decide +kernel
theorem s65_66 (d : Nat) (l0 : Value) (i1 : Int32) (l2 : Value) (w0 : Value) (σ : Hs) : ru d 65 66 [l0, .int i1, l2] [w0] σ = ru d 65 67 [l0, .int i1, l2] [.int i1, w0] σ := q_iload_n t65_66 rfl
theorem t65_67 : decode (mb 65) 67 = .ok (.iaload, 1) := by decide +kernel
theorem s65_67_o5 (d : Nat) (l0 : Value) (l1 : Value) (l2 : Value) (i : Int32) (σ : Hs) : ru d 65 67 [l0, l1, l2] [.int i, .ref 5] σ = gd (vp_in i 30) (ru d 65 68 [l0, l1, l2] [.int (σ 5 i.toNatClampNeg)] σ) := q_iald t65_67 rfl (by decide +kernel) rfl
theorem t65_68 : decode (mb 65) 68 = .ok (.ireturn, 1) := by decide +kernel
theorem s65_68 (d : Nat) (l0 : Value) (l1 : Value) (l2 : Value) (x : Int32) (σ : Hs) : ru d 65 68 [l0, l1, l2] [.int x] σ = some (some (.int x), σ) := q_ireti t65_68 mr65
theorem c65 (d : Nat) (x0 : Nat) (x1 : Int32) (x2 : Int32) (σ : Hs) : callD (d + 1) 65 [.ref x0, .int x1, .int x2] σ = ru d 65 0 [.ref x0, .int x1, .int x2] [] σ := callD_ru ml65 rfl rfl (Nat.le_of_ble_eq_true rfl)
-- 66: SmokyHeap.set(II)I
theorem t66_0 : decode (mb 66) 0 = .ok (.iload_n 1, 1) := by decide +kernel
theorem s66_0 (d : Nat) (l0 : Value) (i1 : Int32) (l2 : Value) (l3 : Value) (σ : Hs) : ru d 66 0 [l0, .int i1, l2, l3] [] σ = ru d 66 1 [l0, .int i1, l2, l3] [.int i1] σ := q_iload_n t66_0 rfl
theorem t66_1 : decode (mb 66) 1 = .ok (.iconst 0, 1) := by decide +kernel
theorem s66_1 (d : Nat) (l0 : Value) (l1 : Value) (l2 : Value) (l3 : Value) (w0 : Value) (σ : Hs) : ru d 66 1 [l0, l1, l2, l3] [w0] σ = ru d 66 2 [l0, l1, l2, l3] [.int 0, w0] σ := q_iconst t66_1 (by decide +kernel)
theorem t66_2 : decode (mb 66) 2 = .ok (.iconst 4, 1) := by decide +kernel
theorem s66_2 (d : Nat) (l0 : Value) (l1 : Value) (l2 : Value) (l3 : Value) (w0 w1 : Value) (σ : Hs) : ru d 66 2 [l0, l1, l2, l3] [w0, w1] σ = ru d 66 3 [l0, l1, l2, l3] [.int 4, w0, w1] σ := q_iconst t66_2 (by decide +kernel)
theorem t66_3 : decode (mb 66) 3 = .ok (.invokestatic 83, 3) := by decide +kernel
theorem s66_3 (d : Nat) (l0 : Value) (l1 : Value) (l2 : Value) (l3 : Value) (v0 v1 v2 : Value) (σ : Hs) : ru d 66 3 [l0, l1, l2, l3] [v2, v1, v0] σ = kont (callD d 102 [v0, v1, v2] σ) d 66 6 [l0, l1, l2, l3] [] := q_invs t66_3 mo66 (by decide +kernel) K7_83 mj102 (Nat.le_of_ble_eq_true rfl) rfl rfl (Nat.le_of_ble_eq_true rfl)
theorem t66_6 : decode (mb 66) 6 = .ok (.ifCond .eq 16, 3) := by decide +kernel
theorem s66_6 (d : Nat) (l0 : Value) (l1 : Value) (l2 : Value) (l3 : Value) (x : Int32) (σ : Hs) : ru d 66 6 [l0, l1, l2, l3] [.int x] σ = if x = 0 then ru d 66 22 [l0, l1, l2, l3] [] σ else ru d 66 9 [l0, l1, l2, l3] [] σ := q_if_eq t66_6 (by decide +kernel)
theorem t66_9 : decode (mb 66) 9 = .ok (.iload_n 2, 1) := by decide +kernel
theorem s66_9 (d : Nat) (l0 : Value) (l1 : Value) (i2 : Int32) (l3 : Value) (σ : Hs) : ru d 66 9 [l0, l1, .int i2, l3] [] σ = ru d 66 10 [l0, l1, .int i2, l3] [.int i2] σ := q_iload_n t66_9 rfl
theorem t66_10 : decode (mb 66) 10 = .ok (.iconst 0, 1) := by decide +kernel
theorem s66_10 (d : Nat) (l0 : Value) (l1 : Value) (l2 : Value) (l3 : Value) (w0 : Value) (σ : Hs) : ru d 66 10 [l0, l1, l2, l3] [w0] σ = ru d 66 11 [l0, l1, l2, l3] [.int 0, w0] σ := q_iconst t66_10 (by decide +kernel)
theorem t66_11 : decode (mb 66) 11 = .ok (.getstatic 121, 3) := by decide +kernel
theorem s66_11 (d : Nat) (l0 : Value) (l1 : Value) (l2 : Value) (l3 : Value) (w0 w1 : Value) (σ : Hs) : ru d 66 11 [l0, l1, l2, l3] [w0, w1] σ = ru d 66 14 [l0, l1, l2, l3] [.ref 107, w0, w1] σ := q_gets t66_11 mo66 S7_121 rfl
theorem t66_14 : decode (mb 66) 14 = .ok (.iload_n 1, 1) := by decide +kernel
theorem s66_14 (d : Nat) (l0 : Value) (i1 : Int32) (l2 : Value) (l3 : Value) (w0 w1 w2 : Value) (σ : Hs) : ru d 66 14 [l0, .int i1, l2, l3] [w0, w1, w2] σ = ru d 66 15 [l0, .int i1, l2, l3] [.int i1, w0, w1, w2] σ := q_iload_n t66_14 rfl
theorem t66_15 : decode (mb 66) 15 = .ok (.iaload, 1) := by decide +kernel
theorem s66_15_o107 (d : Nat) (l0 : Value) (l1 : Value) (l2 : Value) (l3 : Value) (i : Int32) (w0 w1 : Value) (σ : Hs) : ru d 66 15 [l0, l1, l2, l3] [.int i, .ref 107, w0, w1] σ = gd (vp_in i 5) (ru d 66 16 [l0, l1, l2, l3] [.int (([1439, 99, 3, 999, 8] : List Int32).getD i.toNatClampNeg 0), w0, w1] σ) := q_ials t66_15 rfl (by decide +kernel) rfl rfl
theorem t66_16 : decode (mb 66) 16 = .ok (.invokestatic 83, 3) := by decide +kernel
theorem s66_16 (d : Nat) (l0 : Value) (l1 : Value) (l2 : Value) (l3 : Value) (v0 v1 v2 : Value) (σ : Hs) : ru d 66 16 [l0, l1, l2, l3] [v2, v1, v0] σ = kont (callD d 102 [v0, v1, v2] σ) d 66 19 [l0, l1, l2, l3] [] := q_invs t66_16 mo66 (by decide +kernel) K7_83 mj102 (Nat.le_of_ble_eq_true rfl) rfl rfl (Nat.le_of_ble_eq_true rfl)
theorem t66_19 : decode (mb 66) 19 = .ok (.ifCond .ne 9, 3) := by decide +kernel
theorem s66_19 (d : Nat) (l0 : Value) (l1 : Value) (l2 : Value) (l3 : Value) (x : Int32) (σ : Hs) : ru d 66 19 [l0, l1, l2, l3] [.int x] σ = if x = 0 then ru d 66 22 [l0, l1, l2, l3] [] σ else ru d 66 28 [l0, l1, l2, l3] [] σ := q_if_ne t66_19 (by decide +kernel)
theorem t66_22 : decode (mb 66) 22 = .ok (.aload_n 0, 1) := by decide +kernel
theorem s66_22 (d : Nat) (a0 : Nat) (l1 : Value) (l2 : Value) (l3 : Value) (σ : Hs) : ru d 66 22 [.ref a0, l1, l2, l3] [] σ = ru d 66 23 [.ref a0, l1, l2, l3] [.ref a0] σ := q_aload_n t66_22 rfl
theorem t66_23 : decode (mb 66) 23 = .ok (.iconst 1, 1) := by decide +kernel
theorem s66_23 (d : Nat) (l0 : Value) (l1 : Value) (l2 : Value) (l3 : Value) (w0 : Value) (σ : Hs) : ru d 66 23 [l0, l1, l2, l3] [w0] σ = ru d 66 24 [l0, l1, l2, l3] [.int 1, w0] σ := q_iconst t66_23 (by decide +kernel)
theorem t66_24 : decode (mb 66) 24 = .ok (.invokevirtual 65, 3) := by decide +kernel
theorem s66_24_o0 (d : Nat) (l0 : Value) (l1 : Value) (l2 : Value) (l3 : Value) (v1 : Value) (σ : Hs) : ru d 66 24 [l0, l1, l2, l3] [v1, .ref 0] σ = kont (callD d 99 [.ref 0, v1] σ) d 66 27 [l0, l1, l2, l3] [] := q_invv t66_24 mo66 K7_65 mj99 rfl rfl rfl rfl (Nat.le_of_ble_eq_true rfl)
theorem t66_27 : decode (mb 66) 27 = .ok (.ireturn, 1) := by decide +kernel
theorem s66_27 (d : Nat) (l0 : Value) (l1 : Value) (l2 : Value) (l3 : Value) (x : Int32) (σ : Hs) : ru d 66 27 [l0, l1, l2, l3] [.int x] σ = some (some (.int x), σ) := q_ireti t66_27 mr66
theorem t66_28 : decode (mb 66) 28 = .ok (.aload_n 0, 1) := by decide +kernel
theorem s66_28 (d : Nat) (a0 : Nat) (l1 : Value) (l2 : Value) (l3 : Value) (σ : Hs) : ru d 66 28 [.ref a0, l1, l2, l3] [] σ = ru d 66 29 [.ref a0, l1, l2, l3] [.ref a0] σ := q_aload_n t66_28 rfl
theorem t66_29 : decode (mb 66) 29 = .ok (.getfield 10, 3) := by decide +kernel
theorem s66_29_o0 (d : Nat) (l0 : Value) (l1 : Value) (l2 : Value) (l3 : Value) (σ : Hs) : ru d 66 29 [l0, l1, l2, l3] [.ref 0] σ = ru d 66 32 [l0, l1, l2, l3] [.ref 1] σ := q_getf t66_29 mo66 F7_10 rfl rfl
theorem t66_32 : decode (mb 66) 32 = .ok (.getfield 58, 3) := by decide +kernel
theorem s66_32_o1 (d : Nat) (l0 : Value) (l1 : Value) (l2 : Value) (l3 : Value) (σ : Hs) : ru d 66 32 [l0, l1, l2, l3] [.ref 1] σ = ru d 66 35 [l0, l1, l2, l3] [.ref 2] σ := q_getf t66_32 mo66 F7_58 rfl rfl
theorem t66_35 : decode (mb 66) 35 = .ok (.getfield 124, 3) := by decide +kernel
theorem s66_35_o2 (d : Nat) (l0 : Value) (l1 : Value) (l2 : Value) (l3 : Value) (σ : Hs) : ru d 66 35 [l0, l1, l2, l3] [.ref 2] σ = ru d 66 38 [l0, l1, l2, l3] [.ref 9] σ := q_getf t66_35 mo66 F7_124 rfl rfl
theorem t66_38 : decode (mb 66) 38 = .ok (.iload_n 1, 1) := by decide +kernel
theorem s66_38 (d : Nat) (l0 : Value) (i1 : Int32) (l2 : Value) (l3 : Value) (w0 : Value) (σ : Hs) : ru d 66 38 [l0, .int i1, l2, l3] [w0] σ = ru d 66 39 [l0, .int i1, l2, l3] [.int i1, w0] σ := q_iload_n t66_38 rfl
theorem t66_39 : decode (mb 66) 39 = .ok (.iaload, 1) := by decide +kernel
theorem s66_39_o9 (d : Nat) (l0 : Value) (l1 : Value) (l2 : Value) (l3 : Value) (i : Int32) (σ : Hs) : ru d 66 39 [l0, l1, l2, l3] [.int i, .ref 9] σ = gd (vp_in i 5) (ru d 66 40 [l0, l1, l2, l3] [.int (σ 9 i.toNatClampNeg)] σ) := q_iald t66_39 rfl (by decide +kernel) rfl
theorem t66_40 : decode (mb 66) 40 = .ok (.istore_n 3, 1) := by decide +kernel
theorem s66_40 (d : Nat) (l0 : Value) (l1 : Value) (i2 : Int32) (l3 : Value) (x : Int32) (σ : Hs) : ru d 66 40 [l0, l1, .int i2, l3] [.int x] σ = ru d 66 41 [l0, l1, .int i2, .int x] [] σ := q_istore_n t66_40 ⟨Nat.le_of_ble_eq_true rfl, rfl⟩ rfl
theorem t66_41 : decode (mb 66) 41 = .ok (.aload_n 0, 1) := by decide +kernel
theorem s66_41 (d : Nat) (a0 : Nat) (l1 : Value) (l2 : Value) (l3 : Value) (σ : Hs) : ru d 66 41 [.ref a0, l1, l2, l3] [] σ = ru d 66 42 [.ref a0, l1, l2, l3] [.ref a0] σ := q_aload_n t66_41 rfl
theorem t66_42 : decode (mb 66) 42 = .ok (.getfield 10, 3) := by decide +kernel
theorem s66_42_o0 (d : Nat) (l0 : Value) (l1 : Value) (l2 : Value) (l3 : Value) (σ : Hs) : ru d 66 42 [l0, l1, l2, l3] [.ref 0] σ = ru d 66 45 [l0, l1, l2, l3] [.ref 1] σ := q_getf t66_42 mo66 F7_10 rfl rfl
theorem t66_45 : decode (mb 66) 45 = .ok (.getfield 58, 3) := by decide +kernel
theorem s66_45_o1 (d : Nat) (l0 : Value) (l1 : Value) (l2 : Value) (l3 : Value) (σ : Hs) : ru d 66 45 [l0, l1, l2, l3] [.ref 1] σ = ru d 66 48 [l0, l1, l2, l3] [.ref 2] σ := q_getf t66_45 mo66 F7_58 rfl rfl
theorem t66_48 : decode (mb 66) 48 = .ok (.getfield 124, 3) := by decide +kernel
theorem s66_48_o2 (d : Nat) (l0 : Value) (l1 : Value) (l2 : Value) (l3 : Value) (σ : Hs) : ru d 66 48 [l0, l1, l2, l3] [.ref 2] σ = ru d 66 51 [l0, l1, l2, l3] [.ref 9] σ := q_getf t66_48 mo66 F7_124 rfl rfl
theorem t66_51 : decode (mb 66) 51 = .ok (.iload_n 1, 1) := by decide +kernel
theorem s66_51 (d : Nat) (l0 : Value) (i1 : Int32) (l2 : Value) (l3 : Value) (w0 : Value) (σ : Hs) : ru d 66 51 [l0, .int i1, l2, l3] [w0] σ = ru d 66 52 [l0, .int i1, l2, l3] [.int i1, w0] σ := q_iload_n t66_51 rfl
theorem t66_52 : decode (mb 66) 52 = .ok (.iload_n 2, 1) := by decide +kernel
theorem s66_52 (d : Nat) (l0 : Value) (l1 : Value) (i2 : Int32) (l3 : Value) (w0 w1 : Value) (σ : Hs) : ru d 66 52 [l0, l1, .int i2, l3] [w0, w1] σ = ru d 66 53 [l0, l1, .int i2, l3] [.int i2, w0, w1] σ := q_iload_n t66_52 rfl
theorem t66_53 : decode (mb 66) 53 = .ok (.iastore, 1) := by decide +kernel
theorem s66_53_o9 (d : Nat) (l0 : Value) (l1 : Value) (l2 : Value) (l3 : Value) (i x : Int32) (σ : Hs) : ru d 66 53 [l0, l1, l2, l3] [.int x, .int i, .ref 9] σ = gd (vp_in i 5) (ru d 66 54 [l0, l1, l2, l3] [] (up2 σ 9 i.toNatClampNeg x)) := q_iast t66_53 (by decide +kernel) rfl rfl
theorem t66_54 : decode (mb 66) 54 = .ok (.iload_n 3, 1) := by decide +kernel
theorem s66_54 (d : Nat) (l0 : Value) (l1 : Value) (l2 : Value) (i3 : Int32) (σ : Hs) : ru d 66 54 [l0, l1, l2, .int i3] [] σ = ru d 66 55 [l0, l1, l2, .int i3] [.int i3] σ := q_iload_n t66_54 rfl
theorem t66_55 : decode (mb 66) 55 = .ok (.ireturn, 1) := by decide +kernel
theorem s66_55 (d : Nat) (l0 : Value) (l1 : Value) (l2 : Value) (l3 : Value) (x : Int32) (σ : Hs) : ru d 66 55 [l0, l1, l2, l3] [.int x] σ = some (some (.int x), σ) := q_ireti t66_55 mr66
theorem c66 (d : Nat) (x0 : Nat) (x1 : Int32) (x2 : Int32) (σ : Hs) : callD (d + 1) 66 [.ref x0, .int x1, .int x2] σ = ru d 66 0 [.ref x0, .int x1, .int x2, uu] [] σ := callD_ru ml66 rfl rfl (Nat.le_of_ble_eq_true rfl)
-- 67: SmokyHeap.feed(JI)I
theorem t67_0 : decode (mb 67) 0 = .ok (.iload_n 3, 1) := by decide +kernel
theorem s67_0 (d : Nat) (l0 : Value) (l1 : Value) (l2 : Value) (i3 : Int32) (l4 : Value) (σ : Hs) : ru d 67 0 [l0, l1, l2, .int i3, l4] [] σ = ru d 67 1 [l0, l1, l2, .int i3, l4] [.int i3] σ := q_iload_n t67_0 rfl
theorem t67_1 : decode (mb 67) 1 = .ok (.iconst 1, 1) := by decide +kernel
theorem s67_1 (d : Nat) (l0 : Value) (l1 : Value) (l2 : Value) (l3 : Value) (l4 : Value) (w0 : Value) (σ : Hs) : ru d 67 1 [l0, l1, l2, l3, l4] [w0] σ = ru d 67 2 [l0, l1, l2, l3, l4] [.int 1, w0] σ := q_iconst t67_1 (by decide +kernel)
theorem t67_2 : decode (mb 67) 2 = .ok (.bipush 8, 2) := by decide +kernel
theorem s67_2 (d : Nat) (l0 : Value) (l1 : Value) (l2 : Value) (l3 : Value) (l4 : Value) (w0 w1 : Value) (σ : Hs) : ru d 67 2 [l0, l1, l2, l3, l4] [w0, w1] σ = ru d 67 4 [l0, l1, l2, l3, l4] [.int 8, w0, w1] σ := q_bipush t67_2 (by decide +kernel)
theorem t67_4 : decode (mb 67) 4 = .ok (.invokestatic 83, 3) := by decide +kernel
theorem s67_4 (d : Nat) (l0 : Value) (l1 : Value) (l2 : Value) (l3 : Value) (l4 : Value) (v0 v1 v2 : Value) (σ : Hs) : ru d 67 4 [l0, l1, l2, l3, l4] [v2, v1, v0] σ = kont (callD d 102 [v0, v1, v2] σ) d 67 7 [l0, l1, l2, l3, l4] [] := q_invs t67_4 mo67 (by decide +kernel) K7_83 mj102 (Nat.le_of_ble_eq_true rfl) rfl rfl (Nat.le_of_ble_eq_true rfl)
theorem t67_7 : decode (mb 67) 7 = .ok (.ifCond .ne 9, 3) := by decide +kernel
theorem s67_7 (d : Nat) (l0 : Value) (l1 : Value) (l2 : Value) (l3 : Value) (l4 : Value) (x : Int32) (σ : Hs) : ru d 67 7 [l0, l1, l2, l3, l4] [.int x] σ = if x = 0 then ru d 67 10 [l0, l1, l2, l3, l4] [] σ else ru d 67 16 [l0, l1, l2, l3, l4] [] σ := q_if_ne t67_7 (by decide +kernel)
theorem t67_10 : decode (mb 67) 10 = .ok (.aload_n 0, 1) := by decide +kernel
theorem s67_10 (d : Nat) (a0 : Nat) (l1 : Value) (l2 : Value) (l3 : Value) (l4 : Value) (σ : Hs) : ru d 67 10 [.ref a0, l1, l2, l3, l4] [] σ = ru d 67 11 [.ref a0, l1, l2, l3, l4] [.ref a0] σ := q_aload_n t67_10 rfl
theorem t67_11 : decode (mb 67) 11 = .ok (.iconst 1, 1) := by decide +kernel
theorem s67_11 (d : Nat) (l0 : Value) (l1 : Value) (l2 : Value) (l3 : Value) (l4 : Value) (w0 : Value) (σ : Hs) : ru d 67 11 [l0, l1, l2, l3, l4] [w0] σ = ru d 67 12 [l0, l1, l2, l3, l4] [.int 1, w0] σ := q_iconst t67_11 (by decide +kernel)
theorem t67_12 : decode (mb 67) 12 = .ok (.invokevirtual 65, 3) := by decide +kernel
theorem s67_12_o0 (d : Nat) (l0 : Value) (l1 : Value) (l2 : Value) (l3 : Value) (l4 : Value) (v1 : Value) (σ : Hs) : ru d 67 12 [l0, l1, l2, l3, l4] [v1, .ref 0] σ = kont (callD d 99 [.ref 0, v1] σ) d 67 15 [l0, l1, l2, l3, l4] [] := q_invv t67_12 mo67 K7_65 mj99 rfl rfl rfl rfl (Nat.le_of_ble_eq_true rfl)
theorem t67_15 : decode (mb 67) 15 = .ok (.ireturn, 1) := by decide +kernel
theorem s67_15 (d : Nat) (l0 : Value) (l1 : Value) (l2 : Value) (l3 : Value) (l4 : Value) (x : Int32) (σ : Hs) : ru d 67 15 [l0, l1, l2, l3, l4] [.int x] σ = some (some (.int x), σ) := q_ireti t67_15 mr67
theorem t67_16 : decode (mb 67) 16 = .ok (.aload_n 0, 1) := by decide +kernel
theorem s67_16 (d : Nat) (a0 : Nat) (l1 : Value) (l2 : Value) (l3 : Value) (l4 : Value) (σ : Hs) : ru d 67 16 [.ref a0, l1, l2, l3, l4] [] σ = ru d 67 17 [.ref a0, l1, l2, l3, l4] [.ref a0] σ := q_aload_n t67_16 rfl
theorem t67_17 : decode (mb 67) 17 = .ok (.getfield 10, 3) := by decide +kernel
theorem s67_17_o0 (d : Nat) (l0 : Value) (l1 : Value) (l2 : Value) (l3 : Value) (l4 : Value) (σ : Hs) : ru d 67 17 [l0, l1, l2, l3, l4] [.ref 0] σ = ru d 67 20 [l0, l1, l2, l3, l4] [.ref 1] σ := q_getf t67_17 mo67 F7_10 rfl rfl
theorem t67_20 : decode (mb 67) 20 = .ok (.getfield 127, 3) := by decide +kernel
theorem s67_20_o1 (d : Nat) (l0 : Value) (l1 : Value) (l2 : Value) (l3 : Value) (l4 : Value) (σ : Hs) : ru d 67 20 [l0, l1, l2, l3, l4] [.ref 1] σ = ru d 67 23 [l0, l1, l2, l3, l4] [.ref 22] σ := q_getf t67_20 mo67 F7_127 rfl rfl
theorem t67_23 : decode (mb 67) 23 = .ok (.getfield 131, 3) := by decide +kernel
theorem s67_23_o22 (d : Nat) (l0 : Value) (l1 : Value) (l2 : Value) (l3 : Value) (l4 : Value) (σ : Hs) : ru d 67 23 [l0, l1, l2, l3, l4] [.ref 22] σ = ru d 67 26 [l0, l1, l2, l3, l4] [.int (σ 22 1)] σ := q_getf t67_23 mo67 F7_131 rfl rfl
theorem t67_26 : decode (mb 67) 26 = .ok (.iload_n 3, 1) := by decide +kernel
theorem s67_26 (d : Nat) (l0 : Value) (l1 : Value) (l2 : Value) (i3 : Int32) (l4 : Value) (w0 : Value) (σ : Hs) : ru d 67 26 [l0, l1, l2, .int i3, l4] [w0] σ = ru d 67 27 [l0, l1, l2, .int i3, l4] [.int i3, w0] σ := q_iload_n t67_26 rfl
theorem t67_27 : decode (mb 67) 27 = .ok (.iadd, 1) := by decide +kernel
theorem s67_27 (d : Nat) (l0 : Value) (l1 : Value) (l2 : Value) (l3 : Value) (l4 : Value) (x y : Int32) (σ : Hs) : ru d 67 27 [l0, l1, l2, l3, l4] [.int y, .int x] σ = ru d 67 28 [l0, l1, l2, l3, l4] [.int (x + y)] σ := q_iadd t67_27
theorem t67_28 : decode (mb 67) 28 = .ok (.bipush 60, 2) := by decide +kernel
theorem s67_28 (d : Nat) (l0 : Value) (l1 : Value) (l2 : Value) (l3 : Value) (l4 : Value) (w0 : Value) (σ : Hs) : ru d 67 28 [l0, l1, l2, l3, l4] [w0] σ = ru d 67 30 [l0, l1, l2, l3, l4] [.int 60, w0] σ := q_bipush t67_28 (by decide +kernel)
theorem t67_30 : decode (mb 67) 30 = .ok (.if_icmp .le 9, 3) := by decide +kernel
theorem s67_30 (d : Nat) (l0 : Value) (l1 : Value) (l2 : Value) (l3 : Value) (l4 : Value) (x y : Int32) (σ : Hs) : ru d 67 30 [l0, l1, l2, l3, l4] [.int y, .int x] σ = if x ≤ y then ru d 67 39 [l0, l1, l2, l3, l4] [] σ else ru d 67 33 [l0, l1, l2, l3, l4] [] σ := q_ic_le t67_30 (by decide +kernel)
theorem t67_33 : decode (mb 67) 33 = .ok (.aload_n 0, 1) := by decide +kernel
theorem s67_33 (d : Nat) (a0 : Nat) (l1 : Value) (l2 : Value) (l3 : Value) (l4 : Value) (σ : Hs) : ru d 67 33 [.ref a0, l1, l2, l3, l4] [] σ = ru d 67 34 [.ref a0, l1, l2, l3, l4] [.ref a0] σ := q_aload_n t67_33 rfl
theorem t67_34 : decode (mb 67) 34 = .ok (.iconst 4, 1) := by decide +kernel
theorem s67_34 (d : Nat) (l0 : Value) (l1 : Value) (l2 : Value) (l3 : Value) (l4 : Value) (w0 : Value) (σ : Hs) : ru d 67 34 [l0, l1, l2, l3, l4] [w0] σ = ru d 67 35 [l0, l1, l2, l3, l4] [.int 4, w0] σ := q_iconst t67_34 (by decide +kernel)
theorem t67_35 : decode (mb 67) 35 = .ok (.invokevirtual 65, 3) := by decide +kernel
theorem s67_35_o0 (d : Nat) (l0 : Value) (l1 : Value) (l2 : Value) (l3 : Value) (l4 : Value) (v1 : Value) (σ : Hs) : ru d 67 35 [l0, l1, l2, l3, l4] [v1, .ref 0] σ = kont (callD d 99 [.ref 0, v1] σ) d 67 38 [l0, l1, l2, l3, l4] [] := q_invv t67_35 mo67 K7_65 mj99 rfl rfl rfl rfl (Nat.le_of_ble_eq_true rfl)
theorem t67_38 : decode (mb 67) 38 = .ok (.ireturn, 1) := by decide +kernel
theorem s67_38 (d : Nat) (l0 : Value) (l1 : Value) (l2 : Value) (l3 : Value) (l4 : Value) (x : Int32) (σ : Hs) : ru d 67 38 [l0, l1, l2, l3, l4] [.int x] σ = some (some (.int x), σ) := q_ireti t67_38 mr67
theorem t67_39 : decode (mb 67) 39 = .ok (.iconst 0, 1) := by decide +kernel
theorem s67_39 (d : Nat) (l0 : Value) (l1 : Value) (l2 : Value) (l3 : Value) (l4 : Value) (σ : Hs) : ru d 67 39 [l0, l1, l2, l3, l4] [] σ = ru d 67 40 [l0, l1, l2, l3, l4] [.int 0] σ := q_iconst t67_39 (by decide +kernel)
theorem t67_40 : decode (mb 67) 40 = .ok (.istore 4, 2) := by decide +kernel
theorem s67_40 (d : Nat) (l0 : Value) (l1 : Value) (l2 : Value) (i3 : Int32) (l4 : Value) (x : Int32) (σ : Hs) : ru d 67 40 [l0, l1, l2, .int i3, l4] [.int x] σ = ru d 67 42 [l0, l1, l2, .int i3, .int x] [] σ := q_istore t67_40 ⟨Nat.le_of_ble_eq_true rfl, rfl⟩ rfl
theorem t67_42 : decode (mb 67) 42 = .ok (.iload 4, 2) := by decide +kernel
theorem s67_42 (d : Nat) (l0 : Value) (l1 : Value) (l2 : Value) (l3 : Value) (i4 : Int32) (σ : Hs) : ru d 67 42 [l0, l1, l2, l3, .int i4] [] σ = ru d 67 44 [l0, l1, l2, l3, .int i4] [.int i4] σ := q_iload t67_42 rfl
theorem t67_44 : decode (mb 67) 44 = .ok (.iload_n 3, 1) := by decide +kernel
theorem s67_44 (d : Nat) (l0 : Value) (l1 : Value) (l2 : Value) (i3 : Int32) (l4 : Value) (w0 : Value) (σ : Hs) : ru d 67 44 [l0, l1, l2, .int i3, l4] [w0] σ = ru d 67 45 [l0, l1, l2, .int i3, l4] [.int i3, w0] σ := q_iload_n t67_44 rfl
theorem t67_45 : decode (mb 67) 45 = .ok (.if_icmp .ge 32, 3) := by decide +kernel
theorem s67_45 (d : Nat) (l0 : Value) (l1 : Value) (l2 : Value) (l3 : Value) (l4 : Value) (x y : Int32) (σ : Hs) : ru d 67 45 [l0, l1, l2, l3, l4] [.int y, .int x] σ = if y ≤ x then ru d 67 77 [l0, l1, l2, l3, l4] [] σ else ru d 67 48 [l0, l1, l2, l3, l4] [] σ := q_ic_ge t67_45 (by decide +kernel)
theorem t67_48 : decode (mb 67) 48 = .ok (.aload_n 0, 1) := by decide +kernel
theorem s67_48 (d : Nat) (a0 : Nat) (l1 : Value) (l2 : Value) (l3 : Value) (l4 : Value) (σ : Hs) : ru d 67 48 [.ref a0, l1, l2, l3, l4] [] σ = ru d 67 49 [.ref a0, l1, l2, l3, l4] [.ref a0] σ := q_aload_n t67_48 rfl
theorem t67_49 : decode (mb 67) 49 = .ok (.getfield 10, 3) := by decide +kernel
theorem s67_49_o0 (d : Nat) (l0 : Value) (l1 : Value) (l2 : Value) (l3 : Value) (l4 : Value) (σ : Hs) : ru d 67 49 [l0, l1, l2, l3, l4] [.ref 0] σ = ru d 67 52 [l0, l1, l2, l3, l4] [.ref 1] σ := q_getf t67_49 mo67 F7_10 rfl rfl
theorem t67_52 : decode (mb 67) 52 = .ok (.getfield 127, 3) := by decide +kernel
theorem s67_52_o1 (d : Nat) (l0 : Value) (l1 : Value) (l2 : Value) (l3 : Value) (l4 : Value) (σ : Hs) : ru d 67 52 [l0, l1, l2, l3, l4] [.ref 1] σ = ru d 67 55 [l0, l1, l2, l3, l4] [.ref 22] σ := q_getf t67_52 mo67 F7_127 rfl rfl
theorem t67_55 : decode (mb 67) 55 = .ok (.lload_n 1, 1) := by decide +kernel
theorem s67_55 (d : Nat) (l0 : Value) (j1 : Int64) (l2 : Value) (l3 : Value) (l4 : Value) (w0 : Value) (σ : Hs) : ru d 67 55 [l0, .long j1, l2, l3, l4] [w0] σ = ru d 67 56 [l0, .long j1, l2, l3, l4] [.long j1, w0] σ := q_lload_n t67_55 rfl
theorem t67_56 : decode (mb 67) 56 = .ok (.bipush 8, 2) := by decide +kernel
theorem s67_56 (d : Nat) (l0 : Value) (l1 : Value) (l2 : Value) (l3 : Value) (l4 : Value) (w0 w1 : Value) (σ : Hs) : ru d 67 56 [l0, l1, l2, l3, l4] [w0, w1] σ = ru d 67 58 [l0, l1, l2, l3, l4] [.int 8, w0, w1] σ := q_bipush t67_56 (by decide +kernel)
theorem t67_58 : decode (mb 67) 58 = .ok (.iload 4, 2) := by decide +kernel
theorem s67_58 (d : Nat) (l0 : Value) (l1 : Value) (l2 : Value) (l3 : Value) (i4 : Int32) (w0 w1 w2 : Value) (σ : Hs) : ru d 67 58 [l0, l1, l2, l3, .int i4] [w0, w1, w2] σ = ru d 67 60 [l0, l1, l2, l3, .int i4] [.int i4, w0, w1, w2] σ := q_iload t67_58 rfl
theorem t67_60 : decode (mb 67) 60 = .ok (.imul, 1) := by decide +kernel
theorem s67_60 (d : Nat) (l0 : Value) (l1 : Value) (l2 : Value) (l3 : Value) (l4 : Value) (x y : Int32) (w0 w1 : Value) (σ : Hs) : ru d 67 60 [l0, l1, l2, l3, l4] [.int y, .int x, w0, w1] σ = ru d 67 61 [l0, l1, l2, l3, l4] [.int (x * y), w0, w1] σ := q_imul t67_60
theorem t67_61 : decode (mb 67) 61 = .ok (.lushr, 1) := by decide +kernel
theorem s67_61 (d : Nat) (l0 : Value) (l1 : Value) (l2 : Value) (l3 : Value) (l4 : Value) (x : Int64) (y : Int32) (w0 : Value) (σ : Hs) : ru d 67 61 [l0, l1, l2, l3, l4] [.int y, .long x, w0] σ = ru d 67 62 [l0, l1, l2, l3, l4] [.long ((x.toUInt64 >>> (y.toInt64.toUInt64 &&& Int64.toUInt64 63)).toInt64), w0] σ := q_lushr t67_61
theorem t67_62 : decode (mb 67) 62 = .ok (.l2i, 1) := by decide +kernel
theorem s67_62 (d : Nat) (l0 : Value) (l1 : Value) (l2 : Value) (l3 : Value) (l4 : Value) (x : Int64) (w0 : Value) (σ : Hs) : ru d 67 62 [l0, l1, l2, l3, l4] [.long x, w0] σ = ru d 67 63 [l0, l1, l2, l3, l4] [.int x.toInt32, w0] σ := q_l2i t67_62
theorem t67_63 : decode (mb 67) 63 = .ok (.sipush 255, 3) := by decide +kernel
theorem s67_63 (d : Nat) (l0 : Value) (l1 : Value) (l2 : Value) (l3 : Value) (l4 : Value) (w0 w1 : Value) (σ : Hs) : ru d 67 63 [l0, l1, l2, l3, l4] [w0, w1] σ = ru d 67 66 [l0, l1, l2, l3, l4] [.int 255, w0, w1] σ := q_sipush t67_63 (by decide +kernel)
theorem t67_66 : decode (mb 67) 66 = .ok (.iand, 1) := by decide +kernel
theorem s67_66 (d : Nat) (l0 : Value) (l1 : Value) (l2 : Value) (l3 : Value) (l4 : Value) (x y : Int32) (w0 : Value) (σ : Hs) : ru d 67 66 [l0, l1, l2, l3, l4] [.int y, .int x, w0] σ = ru d 67 67 [l0, l1, l2, l3, l4] [.int (x &&& y), w0] σ := q_iand t67_66
theorem t67_67 : decode (mb 67) 67 = .ok (.invokevirtual 136, 3) := by decide +kernel
theorem s67_67_o22 (d : Nat) (l0 : Value) (l1 : Value) (l2 : Value) (l3 : Value) (l4 : Value) (v1 : Value) (σ : Hs) : ru d 67 67 [l0, l1, l2, l3, l4] [v1, .ref 22] σ = kont (callD d 44 [.ref 22, v1] σ) d 67 70 [l0, l1, l2, l3, l4] [] := q_invv t67_67 mo67 K7_136 mj44 rfl rfl rfl rfl (Nat.le_of_ble_eq_true rfl)
theorem t67_70 : decode (mb 67) 70 = .ok (.pop, 1) := by decide +kernel
theorem s67_70 (d : Nat) (l0 : Value) (l1 : Value) (l2 : Value) (l3 : Value) (l4 : Value) (x : Int32) (σ : Hs) : ru d 67 70 [l0, l1, l2, l3, l4] [.int x] σ = ru d 67 71 [l0, l1, l2, l3, l4] [] σ := q_pop t67_70 rfl
theorem t67_71 : decode (mb 67) 71 = .ok (.iinc 4 1, 3) := by decide +kernel
theorem s67_71 (d : Nat) (l0 : Value) (l1 : Value) (l2 : Value) (i3 : Int32) (i4 : Int32) (σ : Hs) : ru d 67 71 [l0, l1, l2, .int i3, .int i4] [] σ = ru d 67 74 [l0, l1, l2, .int i3, .int (i4 + 1)] [] σ := q_iinc t67_71 ⟨Nat.le_of_ble_eq_true rfl, rfl⟩ rfl (by decide +kernel) rfl
theorem t67_74 : decode (mb 67) 74 = .ok (.goto (-32), 3) := by decide +kernel
theorem s67_74 (d : Nat) (l0 : Value) (l1 : Value) (l2 : Value) (l3 : Value) (l4 : Value) (σ : Hs) : ru d 67 74 [l0, l1, l2, l3, l4] [] σ = ru d 67 42 [l0, l1, l2, l3, l4] [] σ := q_goto t67_74 (by decide +kernel)
theorem t67_77 : decode (mb 67) 77 = .ok (.aload_n 0, 1) := by decide +kernel
theorem s67_77 (d : Nat) (a0 : Nat) (l1 : Value) (l2 : Value) (l3 : Value) (l4 : Value) (σ : Hs) : ru d 67 77 [.ref a0, l1, l2, l3, l4] [] σ = ru d 67 78 [.ref a0, l1, l2, l3, l4] [.ref a0] σ := q_aload_n t67_77 rfl
theorem t67_78 : decode (mb 67) 78 = .ok (.getfield 10, 3) := by decide +kernel
theorem s67_78_o0 (d : Nat) (l0 : Value) (l1 : Value) (l2 : Value) (l3 : Value) (l4 : Value) (σ : Hs) : ru d 67 78 [l0, l1, l2, l3, l4] [.ref 0] σ = ru d 67 81 [l0, l1, l2, l3, l4] [.ref 1] σ := q_getf t67_78 mo67 F7_10 rfl rfl
theorem t67_81 : decode (mb 67) 81 = .ok (.getfield 127, 3) := by decide +kernel
theorem s67_81_o1 (d : Nat) (l0 : Value) (l1 : Value) (l2 : Value) (l3 : Value) (l4 : Value) (σ : Hs) : ru d 67 81 [l0, l1, l2, l3, l4] [.ref 1] σ = ru d 67 84 [l0, l1, l2, l3, l4] [.ref 22] σ := q_getf t67_81 mo67 F7_127 rfl rfl
theorem t67_84 : decode (mb 67) 84 = .ok (.getfield 131, 3) := by decide +kernel
theorem s67_84_o22 (d : Nat) (l0 : Value) (l1 : Value) (l2 : Value) (l3 : Value) (l4 : Value) (σ : Hs) : ru d 67 84 [l0, l1, l2, l3, l4] [.ref 22] σ = ru d 67 87 [l0, l1, l2, l3, l4] [.int (σ 22 1)] σ := q_getf t67_84 mo67 F7_131 rfl rfl
theorem t67_87 : decode (mb 67) 87 = .ok (.ireturn, 1) := by decide +kernel
theorem s67_87 (d : Nat) (l0 : Value) (l1 : Value) (l2 : Value) (l3 : Value) (l4 : Value) (x : Int32) (σ : Hs) : ru d 67 87 [l0, l1, l2, l3, l4] [.int x] σ = some (some (.int x), σ) := q_ireti t67_87 mr67
theorem c67 (d : Nat) (x0 : Nat) (x1 : Int64) (x2 : Int32) (σ : Hs) : callD (d + 1) 67 [.ref x0, .long x1, .int x2] σ = ru d 67 0 [.ref x0, .long x1, uu, .int x2, uu] [] σ := callD_ru ml67 rfl rfl (Nat.le_of_ble_eq_true rfl)
-- 68: SmokyHeap.text(I)I
theorem t68_0 : decode (mb 68) 0 = .ok (.iload_n 1, 1) := by decide +kernel
theorem s68_0 (d : Nat) (l0 : Value) (i1 : Int32) (l2 : Value) (σ : Hs) : ru d 68 0 [l0, .int i1, l2] [] σ = ru d 68 1 [l0, .int i1, l2] [.int i1] σ := q_iload_n t68_0 rfl
theorem t68_1 : decode (mb 68) 1 = .ok (.invokestatic 139, 3) := by decide +kernel
theorem s68_1 (d : Nat) (l0 : Value) (l1 : Value) (l2 : Value) (v0 : Value) (σ : Hs) : ru d 68 1 [l0, l1, l2] [v0] σ = kont (callD d 105 [v0] σ) d 68 4 [l0, l1, l2] [] := q_invs t68_1 mo68 (by decide +kernel) K7_139 mj105 (Nat.le_of_ble_eq_true rfl) rfl rfl (Nat.le_of_ble_eq_true rfl)
theorem t68_4 : decode (mb 68) 4 = .ok (.ifCond .ne 9, 3) := by decide +kernel
theorem s68_4 (d : Nat) (l0 : Value) (l1 : Value) (l2 : Value) (x : Int32) (σ : Hs) : ru d 68 4 [l0, l1, l2] [.int x] σ = if x = 0 then ru d 68 7 [l0, l1, l2] [] σ else ru d 68 13 [l0, l1, l2] [] σ := q_if_ne t68_4 (by decide +kernel)
theorem t68_7 : decode (mb 68) 7 = .ok (.aload_n 0, 1) := by decide +kernel
theorem s68_7 (d : Nat) (a0 : Nat) (l1 : Value) (l2 : Value) (σ : Hs) : ru d 68 7 [.ref a0, l1, l2] [] σ = ru d 68 8 [.ref a0, l1, l2] [.ref a0] σ := q_aload_n t68_7 rfl
theorem t68_8 : decode (mb 68) 8 = .ok (.iconst 1, 1) := by decide +kernel
theorem s68_8 (d : Nat) (l0 : Value) (l1 : Value) (l2 : Value) (w0 : Value) (σ : Hs) : ru d 68 8 [l0, l1, l2] [w0] σ = ru d 68 9 [l0, l1, l2] [.int 1, w0] σ := q_iconst t68_8 (by decide +kernel)
theorem t68_9 : decode (mb 68) 9 = .ok (.invokevirtual 65, 3) := by decide +kernel
theorem s68_9_o0 (d : Nat) (l0 : Value) (l1 : Value) (l2 : Value) (v1 : Value) (σ : Hs) : ru d 68 9 [l0, l1, l2] [v1, .ref 0] σ = kont (callD d 99 [.ref 0, v1] σ) d 68 12 [l0, l1, l2] [] := q_invv t68_9 mo68 K7_65 mj99 rfl rfl rfl rfl (Nat.le_of_ble_eq_true rfl)
theorem t68_12 : decode (mb 68) 12 = .ok (.ireturn, 1) := by decide +kernel
theorem s68_12 (d : Nat) (l0 : Value) (l1 : Value) (l2 : Value) (x : Int32) (σ : Hs) : ru d 68 12 [l0, l1, l2] [.int x] σ = some (some (.int x), σ) := q_ireti t68_12 mr68
theorem t68_13 : decode (mb 68) 13 = .ok (.aload_n 0, 1) := by decide +kernel
theorem s68_13 (d : Nat) (a0 : Nat) (l1 : Value) (l2 : Value) (σ : Hs) : ru d 68 13 [.ref a0, l1, l2] [] σ = ru d 68 14 [.ref a0, l1, l2] [.ref a0] σ := q_aload_n t68_13 rfl
theorem t68_14 : decode (mb 68) 14 = .ok (.getfield 29, 3) := by decide +kernel
theorem s68_14_o0 (d : Nat) (l0 : Value) (l1 : Value) (l2 : Value) (σ : Hs) : ru d 68 14 [l0, l1, l2] [.ref 0] σ = ru d 68 17 [l0, l1, l2] [.ref 70] σ := q_getf t68_14 mo68 F7_29 rfl rfl
theorem t68_17 : decode (mb 68) 17 = .ok (.aload_n 0, 1) := by decide +kernel
theorem s68_17 (d : Nat) (a0 : Nat) (l1 : Value) (l2 : Value) (w0 : Value) (σ : Hs) : ru d 68 17 [.ref a0, l1, l2] [w0] σ = ru d 68 18 [.ref a0, l1, l2] [.ref a0, w0] σ := q_aload_n t68_17 rfl
theorem t68_18 : decode (mb 68) 18 = .ok (.getfield 10, 3) := by decide +kernel
theorem s68_18_o0 (d : Nat) (l0 : Value) (l1 : Value) (l2 : Value) (w0 : Value) (σ : Hs) : ru d 68 18 [l0, l1, l2] [.ref 0, w0] σ = ru d 68 21 [l0, l1, l2] [.ref 1, w0] σ := q_getf t68_18 mo68 F7_10 rfl rfl
theorem t68_21 : decode (mb 68) 21 = .ok (.getfield 127, 3) := by decide +kernel
theorem s68_21_o1 (d : Nat) (l0 : Value) (l1 : Value) (l2 : Value) (w0 : Value) (σ : Hs) : ru d 68 21 [l0, l1, l2] [.ref 1, w0] σ = ru d 68 24 [l0, l1, l2] [.ref 22, w0] σ := q_getf t68_21 mo68 F7_127 rfl rfl
theorem t68_24 : decode (mb 68) 24 = .ok (.iload_n 1, 1) := by decide +kernel
theorem s68_24 (d : Nat) (l0 : Value) (i1 : Int32) (l2 : Value) (w0 w1 : Value) (σ : Hs) : ru d 68 24 [l0, .int i1, l2] [w0, w1] σ = ru d 68 25 [l0, .int i1, l2] [.int i1, w0, w1] σ := q_iload_n t68_24 rfl
theorem t68_25 : decode (mb 68) 25 = .ok (.invokevirtual 142, 3) := by decide +kernel
theorem s68_25_o70 (d : Nat) (l0 : Value) (l1 : Value) (l2 : Value) (v1 v2 : Value) (σ : Hs) : ru d 68 25 [l0, l1, l2] [v2, v1, .ref 70] σ = kont (callD d 34 [.ref 70, v1, v2] σ) d 68 28 [l0, l1, l2] [] := q_invv t68_25 mo68 K7_142 mj34 rfl rfl rfl rfl (Nat.le_of_ble_eq_true rfl)
theorem t68_28 : decode (mb 68) 28 = .ok (.istore_n 2, 1) := by decide +kernel
theorem s68_28 (d : Nat) (l0 : Value) (i1 : Int32) (l2 : Value) (x : Int32) (σ : Hs) : ru d 68 28 [l0, .int i1, l2] [.int x] σ = ru d 68 29 [l0, .int i1, .int x] [] σ := q_istore_n t68_28 ⟨Nat.le_of_ble_eq_true rfl, rfl⟩ rfl
theorem t68_29 : decode (mb 68) 29 = .ok (.aload_n 0, 1) := by decide +kernel
theorem s68_29 (d : Nat) (a0 : Nat) (l1 : Value) (l2 : Value) (σ : Hs) : ru d 68 29 [.ref a0, l1, l2] [] σ = ru d 68 30 [.ref a0, l1, l2] [.ref a0] σ := q_aload_n t68_29 rfl
theorem t68_30 : decode (mb 68) 30 = .ok (.getfield 10, 3) := by decide +kernel
theorem s68_30_o0 (d : Nat) (l0 : Value) (l1 : Value) (l2 : Value) (σ : Hs) : ru d 68 30 [l0, l1, l2] [.ref 0] σ = ru d 68 33 [l0, l1, l2] [.ref 1] σ := q_getf t68_30 mo68 F7_10 rfl rfl
theorem t68_33 : decode (mb 68) 33 = .ok (.getfield 127, 3) := by decide +kernel
theorem s68_33_o1 (d : Nat) (l0 : Value) (l1 : Value) (l2 : Value) (σ : Hs) : ru d 68 33 [l0, l1, l2] [.ref 1] σ = ru d 68 36 [l0, l1, l2] [.ref 22] σ := q_getf t68_33 mo68 F7_127 rfl rfl
theorem t68_36 : decode (mb 68) 36 = .ok (.iconst 0, 1) := by decide +kernel
theorem s68_36 (d : Nat) (l0 : Value) (l1 : Value) (l2 : Value) (w0 : Value) (σ : Hs) : ru d 68 36 [l0, l1, l2] [w0] σ = ru d 68 37 [l0, l1, l2] [.int 0, w0] σ := q_iconst t68_36 (by decide +kernel)
theorem t68_37 : decode (mb 68) 37 = .ok (.putfield 131, 3) := by decide +kernel
theorem s68_37_o22 (d : Nat) (l0 : Value) (l1 : Value) (l2 : Value) (x : Int32) (σ : Hs) : ru d 68 37 [l0, l1, l2] [.int x, .ref 22] σ = ru d 68 40 [l0, l1, l2] [] (up2 σ 22 1 x) := q_puti t68_37 mo68 F7_131 (by decide +kernel) rfl rfl
theorem t68_40 : decode (mb 68) 40 = .ok (.iload_n 2, 1) := by decide +kernel
theorem s68_40 (d : Nat) (l0 : Value) (l1 : Value) (i2 : Int32) (σ : Hs) : ru d 68 40 [l0, l1, .int i2] [] σ = ru d 68 41 [l0, l1, .int i2] [.int i2] σ := q_iload_n t68_40 rfl
theorem t68_41 : decode (mb 68) 41 = .ok (.iconst (-1), 1) := by decide +kernel
theorem s68_41 (d : Nat) (l0 : Value) (l1 : Value) (l2 : Value) (w0 : Value) (σ : Hs) : ru d 68 41 [l0, l1, l2] [w0] σ = ru d 68 42 [l0, l1, l2] [.int (-1), w0] σ := q_iconst t68_41 (by decide +kernel)
theorem t68_42 : decode (mb 68) 42 = .ok (.if_icmp .eq 8, 3) := by decide +kernel
theorem s68_42 (d : Nat) (l0 : Value) (l1 : Value) (l2 : Value) (x y : Int32) (σ : Hs) : ru d 68 42 [l0, l1, l2] [.int y, .int x] σ = if x = y then ru d 68 50 [l0, l1, l2] [] σ else ru d 68 45 [l0, l1, l2] [] σ := q_ic_eq t68_42 (by decide +kernel)
theorem t68_45 : decode (mb 68) 45 = .ok (.bipush (-10), 2) := by decide +kernel
theorem s68_45 (d : Nat) (l0 : Value) (l1 : Value) (l2 : Value) (σ : Hs) : ru d 68 45 [l0, l1, l2] [] σ = ru d 68 47 [l0, l1, l2] [.int (-10)] σ := q_bipush t68_45 (by decide +kernel)
theorem t68_47 : decode (mb 68) 47 = .ok (.iload_n 2, 1) := by decide +kernel
theorem s68_47 (d : Nat) (l0 : Value) (l1 : Value) (i2 : Int32) (w0 : Value) (σ : Hs) : ru d 68 47 [l0, l1, .int i2] [w0] σ = ru d 68 48 [l0, l1, .int i2] [.int i2, w0] σ := q_iload_n t68_47 rfl
theorem t68_48 : decode (mb 68) 48 = .ok (.isub, 1) := by decide +kernel
theorem s68_48 (d : Nat) (l0 : Value) (l1 : Value) (l2 : Value) (x y : Int32) (σ : Hs) : ru d 68 48 [l0, l1, l2] [.int y, .int x] σ = ru d 68 49 [l0, l1, l2] [.int (x - y)] σ := q_isub t68_48
theorem t68_49 : decode (mb 68) 49 = .ok (.ireturn, 1) := by decide +kernel
theorem s68_49 (d : Nat) (l0 : Value) (l1 : Value) (l2 : Value) (x : Int32) (σ : Hs) : ru d 68 49 [l0, l1, l2] [.int x] σ = some (some (.int x), σ) := q_ireti t68_49 mr68
theorem t68_50 : decode (mb 68) 50 = .ok (.aload_n 0, 1) := by decide +kernel
theorem s68_50 (d : Nat) (a0 : Nat) (l1 : Value) (l2 : Value) (σ : Hs) : ru d 68 50 [.ref a0, l1, l2] [] σ = ru d 68 51 [.ref a0, l1, l2] [.ref a0] σ := q_aload_n t68_50 rfl
theorem t68_51 : decode (mb 68) 51 = .ok (.getfield 10, 3) := by decide +kernel
theorem s68_51_o0 (d : Nat) (l0 : Value) (l1 : Value) (l2 : Value) (σ : Hs) : ru d 68 51 [l0, l1, l2] [.ref 0] σ = ru d 68 54 [l0, l1, l2] [.ref 1] σ := q_getf t68_51 mo68 F7_10 rfl rfl
theorem t68_54 : decode (mb 68) 54 = .ok (.getfield 146, 3) := by decide +kernel
theorem s68_54_o1 (d : Nat) (l0 : Value) (l1 : Value) (l2 : Value) (σ : Hs) : ru d 68 54 [l0, l1, l2] [.ref 1] σ = ru d 68 57 [l0, l1, l2] [.ref 13] σ := q_getf t68_54 mo68 F7_146 rfl rfl
theorem t68_57 : decode (mb 68) 57 = .ok (.getfield 150, 3) := by decide +kernel
theorem s68_57_o13 (d : Nat) (l0 : Value) (l1 : Value) (l2 : Value) (σ : Hs) : ru d 68 57 [l0, l1, l2] [.ref 13] σ = ru d 68 60 [l0, l1, l2] [.ref 14] σ := q_getf t68_57 mo68 F7_150 rfl rfl
theorem t68_60 : decode (mb 68) 60 = .ok (.iload_n 1, 1) := by decide +kernel
theorem s68_60 (d : Nat) (l0 : Value) (i1 : Int32) (l2 : Value) (w0 : Value) (σ : Hs) : ru d 68 60 [l0, .int i1, l2] [w0] σ = ru d 68 61 [l0, .int i1, l2] [.int i1, w0] σ := q_iload_n t68_60 rfl
theorem t68_61 : decode (mb 68) 61 = .ok (.aaload, 1) := by decide +kernel
theorem s68_61_o14 (d : Nat) (l0 : Value) (l1 : Value) (l2 : Value) (i : Int32) (σ : Hs) : ru d 68 61 [l0, l1, l2] [.int i, .ref 14] σ = gd (vp_in i 3) (ru d 68 62 [l0, l1, l2] [.ref (cr 14 i.toNatClampNeg)] σ) := q_aald t68_61 (by decide +kernel) (by decide +kernel) rfl
theorem t68_62 : decode (mb 68) 62 = .ok (.aload_n 0, 1) := by decide +kernel
theorem s68_62 (d : Nat) (a0 : Nat) (l1 : Value) (l2 : Value) (w0 : Value) (σ : Hs) : ru d 68 62 [.ref a0, l1, l2] [w0] σ = ru d 68 63 [.ref a0, l1, l2] [.ref a0, w0] σ := q_aload_n t68_62 rfl
theorem t68_63 : decode (mb 68) 63 = .ok (.getfield 29, 3) := by decide +kernel
theorem s68_63_o0 (d : Nat) (l0 : Value) (l1 : Value) (l2 : Value) (w0 : Value) (σ : Hs) : ru d 68 63 [l0, l1, l2] [.ref 0, w0] σ = ru d 68 66 [l0, l1, l2] [.ref 70, w0] σ := q_getf t68_63 mo68 F7_29 rfl rfl
theorem t68_66 : decode (mb 68) 66 = .ok (.getfield 156, 3) := by decide +kernel
theorem s68_66_o70 (d : Nat) (l0 : Value) (l1 : Value) (l2 : Value) (w0 : Value) (σ : Hs) : ru d 68 66 [l0, l1, l2] [.ref 70, w0] σ = ru d 68 69 [l0, l1, l2] [.ref 71, w0] σ := q_getf t68_66 mo68 F7_156 rfl rfl
theorem t68_69 : decode (mb 68) 69 = .ok (.invokevirtual 159, 3) := by decide +kernel
theorem s68_69_o16 (d : Nat) (l0 : Value) (l1 : Value) (l2 : Value) (v1 : Value) (σ : Hs) : ru d 68 69 [l0, l1, l2] [v1, .ref 16] σ = kont (callD d 45 [.ref 16, v1] σ) d 68 72 [l0, l1, l2] [] := q_invv t68_69 mo68 K7_159 mj45 rfl rfl rfl rfl (Nat.le_of_ble_eq_true rfl)
theorem s68_69_o18 (d : Nat) (l0 : Value) (l1 : Value) (l2 : Value) (v1 : Value) (σ : Hs) : ru d 68 69 [l0, l1, l2] [v1, .ref 18] σ = kont (callD d 45 [.ref 18, v1] σ) d 68 72 [l0, l1, l2] [] := q_invv t68_69 mo68 K7_159 mj45 rfl rfl rfl rfl (Nat.le_of_ble_eq_true rfl)
theorem s68_69_o20 (d : Nat) (l0 : Value) (l1 : Value) (l2 : Value) (v1 : Value) (σ : Hs) : ru d 68 69 [l0, l1, l2] [v1, .ref 20] σ = kont (callD d 45 [.ref 20, v1] σ) d 68 72 [l0, l1, l2] [] := q_invv t68_69 mo68 K7_159 mj45 rfl rfl rfl rfl (Nat.le_of_ble_eq_true rfl)
theorem t68_72 : decode (mb 68) 72 = .ok (.iconst 1, 1) := by decide +kernel
theorem s68_72 (d : Nat) (l0 : Value) (l1 : Value) (l2 : Value) (σ : Hs) : ru d 68 72 [l0, l1, l2] [] σ = ru d 68 73 [l0, l1, l2] [.int 1] σ := q_iconst t68_72 (by decide +kernel)
theorem t68_73 : decode (mb 68) 73 = .ok (.ireturn, 1) := by decide +kernel
theorem s68_73 (d : Nat) (l0 : Value) (l1 : Value) (l2 : Value) (x : Int32) (σ : Hs) : ru d 68 73 [l0, l1, l2] [.int x] σ = some (some (.int x), σ) := q_ireti t68_73 mr68
theorem c68 (d : Nat) (x0 : Nat) (x1 : Int32) (σ : Hs) : callD (d + 1) 68 [.ref x0, .int x1] σ = ru d 68 0 [.ref x0, .int x1, uu] [] σ := callD_ru ml68 rfl rfl (Nat.le_of_ble_eq_true rfl)
