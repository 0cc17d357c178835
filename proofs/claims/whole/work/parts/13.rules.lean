-- 51: State.copyFrom(LSmokyHeap$State;)V
theorem t51_0 : decode (mb 51) 0 = .ok (.aload_n 0, 1) := by decide +kernel
theorem s51_0 (d : Nat) (a0 : Nat) (l1 : Value) (σ : Hs) : ru d 51 0 [.ref a0, l1] [] σ = ru d 51 1 [.ref a0, l1] [.ref a0] σ := q_aload_n t51_0 rfl
theorem t51_1 : decode (mb 51) 1 = .ok (.getfield 12, 3) := by decide +kernel
theorem s51_1_o1 (d : Nat) (l0 : Value) (l1 : Value) (σ : Hs) : ru d 51 1 [l0, l1] [.ref 1] σ = ru d 51 4 [l0, l1] [.ref 2] σ := q_getf t51_1 mo51 F5_12 rfl rfl
theorem s51_1_o30 (d : Nat) (l0 : Value) (l1 : Value) (σ : Hs) : ru d 51 1 [l0, l1] [.ref 30] σ = ru d 51 4 [l0, l1] [.ref 31] σ := q_getf t51_1 mo51 F5_12 rfl rfl
theorem t51_4 : decode (mb 51) 4 = .ok (.aload_n 1, 1) := by decide +kernel
theorem s51_4 (d : Nat) (l0 : Value) (a1 : Nat) (w0 : Value) (σ : Hs) : ru d 51 4 [l0, .ref a1] [w0] σ = ru d 51 5 [l0, .ref a1] [.ref a1, w0] σ := q_aload_n t51_4 rfl
theorem t51_5 : decode (mb 51) 5 = .ok (.getfield 12, 3) := by decide +kernel
theorem s51_5_o1 (d : Nat) (l0 : Value) (l1 : Value) (w0 : Value) (σ : Hs) : ru d 51 5 [l0, l1] [.ref 1, w0] σ = ru d 51 8 [l0, l1] [.ref 2, w0] σ := q_getf t51_5 mo51 F5_12 rfl rfl
theorem s51_5_o30 (d : Nat) (l0 : Value) (l1 : Value) (w0 : Value) (σ : Hs) : ru d 51 5 [l0, l1] [.ref 30, w0] σ = ru d 51 8 [l0, l1] [.ref 31, w0] σ := q_getf t51_5 mo51 F5_12 rfl rfl
theorem t51_8 : decode (mb 51) 8 = .ok (.invokevirtual 47, 3) := by decide +kernel
theorem s51_8_o2 (d : Nat) (l0 : Value) (l1 : Value) (v1 : Value) (σ : Hs) : ru d 51 8 [l0, l1] [v1, .ref 2] σ = kont (callD d 0 [.ref 2, v1] σ) d 51 11 [l0, l1] [] := q_invv t51_8 mo51 K5_47 mj0 rfl rfl rfl rfl (Nat.le_of_ble_eq_true rfl)
theorem s51_8_o31 (d : Nat) (l0 : Value) (l1 : Value) (v1 : Value) (σ : Hs) : ru d 51 8 [l0, l1] [v1, .ref 31] σ = kont (callD d 0 [.ref 31, v1] σ) d 51 11 [l0, l1] [] := q_invv t51_8 mo51 K5_47 mj0 rfl rfl rfl rfl (Nat.le_of_ble_eq_true rfl)
theorem t51_11 : decode (mb 51) 11 = .ok (.aload_n 0, 1) := by decide +kernel
theorem s51_11 (d : Nat) (a0 : Nat) (l1 : Value) (σ : Hs) : ru d 51 11 [.ref a0, l1] [] σ = ru d 51 12 [.ref a0, l1] [.ref a0] σ := q_aload_n t51_11 rfl
theorem t51_12 : decode (mb 51) 12 = .ok (.getfield 21, 3) := by decide +kernel
theorem s51_12_o1 (d : Nat) (l0 : Value) (l1 : Value) (σ : Hs) : ru d 51 12 [l0, l1] [.ref 1] σ = ru d 51 15 [l0, l1] [.ref 13] σ := q_getf t51_12 mo51 F5_21 rfl rfl
theorem s51_12_o30 (d : Nat) (l0 : Value) (l1 : Value) (σ : Hs) : ru d 51 12 [l0, l1] [.ref 30] σ = ru d 51 15 [l0, l1] [.ref 42] σ := q_getf t51_12 mo51 F5_21 rfl rfl
theorem t51_15 : decode (mb 51) 15 = .ok (.aload_n 1, 1) := by decide +kernel
theorem s51_15 (d : Nat) (l0 : Value) (a1 : Nat) (w0 : Value) (σ : Hs) : ru d 51 15 [l0, .ref a1] [w0] σ = ru d 51 16 [l0, .ref a1] [.ref a1, w0] σ := q_aload_n t51_15 rfl
theorem t51_16 : decode (mb 51) 16 = .ok (.getfield 21, 3) := by decide +kernel
theorem s51_16_o1 (d : Nat) (l0 : Value) (l1 : Value) (w0 : Value) (σ : Hs) : ru d 51 16 [l0, l1] [.ref 1, w0] σ = ru d 51 19 [l0, l1] [.ref 13, w0] σ := q_getf t51_16 mo51 F5_21 rfl rfl
theorem s51_16_o30 (d : Nat) (l0 : Value) (l1 : Value) (w0 : Value) (σ : Hs) : ru d 51 16 [l0, l1] [.ref 30, w0] σ = ru d 51 19 [l0, l1] [.ref 42, w0] σ := q_getf t51_16 mo51 F5_21 rfl rfl
theorem t51_19 : decode (mb 51) 19 = .ok (.invokevirtual 51, 3) := by decide +kernel
theorem s51_19_o13 (d : Nat) (l0 : Value) (l1 : Value) (v1 : Value) (σ : Hs) : ru d 51 19 [l0, l1] [v1, .ref 13] σ = kont (callD d 32 [.ref 13, v1] σ) d 51 22 [l0, l1] [] := q_invv t51_19 mo51 K5_51 mj32 rfl rfl rfl rfl (Nat.le_of_ble_eq_true rfl)
theorem s51_19_o42 (d : Nat) (l0 : Value) (l1 : Value) (v1 : Value) (σ : Hs) : ru d 51 19 [l0, l1] [v1, .ref 42] σ = kont (callD d 32 [.ref 42, v1] σ) d 51 22 [l0, l1] [] := q_invv t51_19 mo51 K5_51 mj32 rfl rfl rfl rfl (Nat.le_of_ble_eq_true rfl)
theorem t51_22 : decode (mb 51) 22 = .ok (.aload_n 0, 1) := by decide +kernel
theorem s51_22 (d : Nat) (a0 : Nat) (l1 : Value) (σ : Hs) : ru d 51 22 [.ref a0, l1] [] σ = ru d 51 23 [.ref a0, l1] [.ref a0] σ := q_aload_n t51_22 rfl
theorem t51_23 : decode (mb 51) 23 = .ok (.getfield 30, 3) := by decide +kernel
theorem s51_23_o1 (d : Nat) (l0 : Value) (l1 : Value) (σ : Hs) : ru d 51 23 [l0, l1] [.ref 1] σ = ru d 51 26 [l0, l1] [.ref 22] σ := q_getf t51_23 mo51 F5_30 rfl rfl
theorem s51_23_o30 (d : Nat) (l0 : Value) (l1 : Value) (σ : Hs) : ru d 51 23 [l0, l1] [.ref 30] σ = ru d 51 26 [l0, l1] [.ref 51] σ := q_getf t51_23 mo51 F5_30 rfl rfl
theorem t51_26 : decode (mb 51) 26 = .ok (.aload_n 1, 1) := by decide +kernel
theorem s51_26 (d : Nat) (l0 : Value) (a1 : Nat) (w0 : Value) (σ : Hs) : ru d 51 26 [l0, .ref a1] [w0] σ = ru d 51 27 [l0, .ref a1] [.ref a1, w0] σ := q_aload_n t51_26 rfl
theorem t51_27 : decode (mb 51) 27 = .ok (.getfield 30, 3) := by decide +kernel
theorem s51_27_o1 (d : Nat) (l0 : Value) (l1 : Value) (w0 : Value) (σ : Hs) : ru d 51 27 [l0, l1] [.ref 1, w0] σ = ru d 51 30 [l0, l1] [.ref 22, w0] σ := q_getf t51_27 mo51 F5_30 rfl rfl
theorem s51_27_o30 (d : Nat) (l0 : Value) (l1 : Value) (w0 : Value) (σ : Hs) : ru d 51 27 [l0, l1] [.ref 30, w0] σ = ru d 51 30 [l0, l1] [.ref 51, w0] σ := q_getf t51_27 mo51 F5_30 rfl rfl
theorem t51_30 : decode (mb 51) 30 = .ok (.invokevirtual 54, 3) := by decide +kernel
theorem s51_30_o22 (d : Nat) (l0 : Value) (l1 : Value) (v1 : Value) (σ : Hs) : ru d 51 30 [l0, l1] [v1, .ref 22] σ = kont (callD d 46 [.ref 22, v1] σ) d 51 33 [l0, l1] [] := q_invv t51_30 mo51 K5_54 mj46 rfl rfl rfl rfl (Nat.le_of_ble_eq_true rfl)
theorem s51_30_o51 (d : Nat) (l0 : Value) (l1 : Value) (v1 : Value) (σ : Hs) : ru d 51 30 [l0, l1] [v1, .ref 51] σ = kont (callD d 46 [.ref 51, v1] σ) d 51 33 [l0, l1] [] := q_invv t51_30 mo51 K5_54 mj46 rfl rfl rfl rfl (Nat.le_of_ble_eq_true rfl)
theorem t51_33 : decode (mb 51) 33 = .ok (.aload_n 0, 1) := by decide +kernel
theorem s51_33 (d : Nat) (a0 : Nat) (l1 : Value) (σ : Hs) : ru d 51 33 [.ref a0, l1] [] σ = ru d 51 34 [.ref a0, l1] [.ref a0] σ := q_aload_n t51_33 rfl
theorem t51_34 : decode (mb 51) 34 = .ok (.getfield 34, 3) := by decide +kernel
theorem s51_34_o1 (d : Nat) (l0 : Value) (l1 : Value) (σ : Hs) : ru d 51 34 [l0, l1] [.ref 1] σ = ru d 51 37 [l0, l1] [.ref 24] σ := q_getf t51_34 mo51 F5_34 rfl rfl
theorem s51_34_o30 (d : Nat) (l0 : Value) (l1 : Value) (σ : Hs) : ru d 51 34 [l0, l1] [.ref 30] σ = ru d 51 37 [l0, l1] [.ref 53] σ := q_getf t51_34 mo51 F5_34 rfl rfl
theorem t51_37 : decode (mb 51) 37 = .ok (.aload_n 1, 1) := by decide +kernel
theorem s51_37 (d : Nat) (l0 : Value) (a1 : Nat) (w0 : Value) (σ : Hs) : ru d 51 37 [l0, .ref a1] [w0] σ = ru d 51 38 [l0, .ref a1] [.ref a1, w0] σ := q_aload_n t51_37 rfl
theorem t51_38 : decode (mb 51) 38 = .ok (.getfield 34, 3) := by decide +kernel
theorem s51_38_o1 (d : Nat) (l0 : Value) (l1 : Value) (w0 : Value) (σ : Hs) : ru d 51 38 [l0, l1] [.ref 1, w0] σ = ru d 51 41 [l0, l1] [.ref 24, w0] σ := q_getf t51_38 mo51 F5_34 rfl rfl
theorem s51_38_o30 (d : Nat) (l0 : Value) (l1 : Value) (w0 : Value) (σ : Hs) : ru d 51 38 [l0, l1] [.ref 30, w0] σ = ru d 51 41 [l0, l1] [.ref 53, w0] σ := q_getf t51_38 mo51 F5_34 rfl rfl
theorem t51_41 : decode (mb 51) 41 = .ok (.invokevirtual 54, 3) := by decide +kernel
theorem s51_41_o24 (d : Nat) (l0 : Value) (l1 : Value) (v1 : Value) (σ : Hs) : ru d 51 41 [l0, l1] [v1, .ref 24] σ = kont (callD d 46 [.ref 24, v1] σ) d 51 44 [l0, l1] [] := q_invv t51_41 mo51 K5_54 mj46 rfl rfl rfl rfl (Nat.le_of_ble_eq_true rfl)
theorem s51_41_o53 (d : Nat) (l0 : Value) (l1 : Value) (v1 : Value) (σ : Hs) : ru d 51 41 [l0, l1] [v1, .ref 53] σ = kont (callD d 46 [.ref 53, v1] σ) d 51 44 [l0, l1] [] := q_invv t51_41 mo51 K5_54 mj46 rfl rfl rfl rfl (Nat.le_of_ble_eq_true rfl)
theorem t51_44 : decode (mb 51) 44 = .ok (.aload_n 0, 1) := by decide +kernel
theorem s51_44 (d : Nat) (a0 : Nat) (l1 : Value) (σ : Hs) : ru d 51 44 [.ref a0, l1] [] σ = ru d 51 45 [.ref a0, l1] [.ref a0] σ := q_aload_n t51_44 rfl
theorem t51_45 : decode (mb 51) 45 = .ok (.getfield 37, 3) := by decide +kernel
theorem s51_45_o1 (d : Nat) (l0 : Value) (l1 : Value) (σ : Hs) : ru d 51 45 [l0, l1] [.ref 1] σ = ru d 51 48 [l0, l1] [.ref 26] σ := q_getf t51_45 mo51 F5_37 rfl rfl
theorem s51_45_o30 (d : Nat) (l0 : Value) (l1 : Value) (σ : Hs) : ru d 51 45 [l0, l1] [.ref 30] σ = ru d 51 48 [l0, l1] [.ref 55] σ := q_getf t51_45 mo51 F5_37 rfl rfl
theorem t51_48 : decode (mb 51) 48 = .ok (.aload_n 1, 1) := by decide +kernel
theorem s51_48 (d : Nat) (l0 : Value) (a1 : Nat) (w0 : Value) (σ : Hs) : ru d 51 48 [l0, .ref a1] [w0] σ = ru d 51 49 [l0, .ref a1] [.ref a1, w0] σ := q_aload_n t51_48 rfl
theorem t51_49 : decode (mb 51) 49 = .ok (.getfield 37, 3) := by decide +kernel
theorem s51_49_o1 (d : Nat) (l0 : Value) (l1 : Value) (w0 : Value) (σ : Hs) : ru d 51 49 [l0, l1] [.ref 1, w0] σ = ru d 51 52 [l0, l1] [.ref 26, w0] σ := q_getf t51_49 mo51 F5_37 rfl rfl
theorem s51_49_o30 (d : Nat) (l0 : Value) (l1 : Value) (w0 : Value) (σ : Hs) : ru d 51 49 [l0, l1] [.ref 30, w0] σ = ru d 51 52 [l0, l1] [.ref 55, w0] σ := q_getf t51_49 mo51 F5_37 rfl rfl
theorem t51_52 : decode (mb 51) 52 = .ok (.invokevirtual 54, 3) := by decide +kernel
theorem s51_52_o26 (d : Nat) (l0 : Value) (l1 : Value) (v1 : Value) (σ : Hs) : ru d 51 52 [l0, l1] [v1, .ref 26] σ = kont (callD d 46 [.ref 26, v1] σ) d 51 55 [l0, l1] [] := q_invv t51_52 mo51 K5_54 mj46 rfl rfl rfl rfl (Nat.le_of_ble_eq_true rfl)
theorem s51_52_o55 (d : Nat) (l0 : Value) (l1 : Value) (v1 : Value) (σ : Hs) : ru d 51 52 [l0, l1] [v1, .ref 55] σ = kont (callD d 46 [.ref 55, v1] σ) d 51 55 [l0, l1] [] := q_invv t51_52 mo51 K5_54 mj46 rfl rfl rfl rfl (Nat.le_of_ble_eq_true rfl)
theorem t51_55 : decode (mb 51) 55 = .ok (.aload_n 0, 1) := by decide +kernel
theorem s51_55 (d : Nat) (a0 : Nat) (l1 : Value) (σ : Hs) : ru d 51 55 [.ref a0, l1] [] σ = ru d 51 56 [.ref a0, l1] [.ref a0] σ := q_aload_n t51_55 rfl
theorem t51_56 : decode (mb 51) 56 = .ok (.getfield 40, 3) := by decide +kernel
theorem s51_56_o1 (d : Nat) (l0 : Value) (l1 : Value) (σ : Hs) : ru d 51 56 [l0, l1] [.ref 1] σ = ru d 51 59 [l0, l1] [.ref 28] σ := q_getf t51_56 mo51 F5_40 rfl rfl
theorem s51_56_o30 (d : Nat) (l0 : Value) (l1 : Value) (σ : Hs) : ru d 51 56 [l0, l1] [.ref 30] σ = ru d 51 59 [l0, l1] [.ref 57] σ := q_getf t51_56 mo51 F5_40 rfl rfl
theorem t51_59 : decode (mb 51) 59 = .ok (.aload_n 1, 1) := by decide +kernel
theorem s51_59 (d : Nat) (l0 : Value) (a1 : Nat) (w0 : Value) (σ : Hs) : ru d 51 59 [l0, .ref a1] [w0] σ = ru d 51 60 [l0, .ref a1] [.ref a1, w0] σ := q_aload_n t51_59 rfl
theorem t51_60 : decode (mb 51) 60 = .ok (.getfield 40, 3) := by decide +kernel
theorem s51_60_o1 (d : Nat) (l0 : Value) (l1 : Value) (w0 : Value) (σ : Hs) : ru d 51 60 [l0, l1] [.ref 1, w0] σ = ru d 51 63 [l0, l1] [.ref 28, w0] σ := q_getf t51_60 mo51 F5_40 rfl rfl
theorem s51_60_o30 (d : Nat) (l0 : Value) (l1 : Value) (w0 : Value) (σ : Hs) : ru d 51 60 [l0, l1] [.ref 30, w0] σ = ru d 51 63 [l0, l1] [.ref 57, w0] σ := q_getf t51_60 mo51 F5_40 rfl rfl
theorem t51_63 : decode (mb 51) 63 = .ok (.invokevirtual 54, 3) := by decide +kernel
theorem s51_63_o28 (d : Nat) (l0 : Value) (l1 : Value) (v1 : Value) (σ : Hs) : ru d 51 63 [l0, l1] [v1, .ref 28] σ = kont (callD d 46 [.ref 28, v1] σ) d 51 66 [l0, l1] [] := q_invv t51_63 mo51 K5_54 mj46 rfl rfl rfl rfl (Nat.le_of_ble_eq_true rfl)
theorem s51_63_o57 (d : Nat) (l0 : Value) (l1 : Value) (v1 : Value) (σ : Hs) : ru d 51 63 [l0, l1] [v1, .ref 57] σ = kont (callD d 46 [.ref 57, v1] σ) d 51 66 [l0, l1] [] := q_invv t51_63 mo51 K5_54 mj46 rfl rfl rfl rfl (Nat.le_of_ble_eq_true rfl)
theorem t51_66 : decode (mb 51) 66 = .ok (.aload_n 0, 1) := by decide +kernel
theorem s51_66 (d : Nat) (a0 : Nat) (l1 : Value) (σ : Hs) : ru d 51 66 [.ref a0, l1] [] σ = ru d 51 67 [.ref a0, l1] [.ref a0] σ := q_aload_n t51_66 rfl
theorem t51_67 : decode (mb 51) 67 = .ok (.aload_n 1, 1) := by decide +kernel
theorem s51_67 (d : Nat) (l0 : Value) (a1 : Nat) (w0 : Value) (σ : Hs) : ru d 51 67 [l0, .ref a1] [w0] σ = ru d 51 68 [l0, .ref a1] [.ref a1, w0] σ := q_aload_n t51_67 rfl
theorem t51_68 : decode (mb 51) 68 = .ok (.getfield 43, 3) := by decide +kernel
theorem s51_68_o1 (d : Nat) (l0 : Value) (l1 : Value) (w0 : Value) (σ : Hs) : ru d 51 68 [l0, l1] [.ref 1, w0] σ = ru d 51 71 [l0, l1] [.int (σ 1 6), w0] σ := q_getf t51_68 mo51 F5_43 rfl rfl
theorem s51_68_o30 (d : Nat) (l0 : Value) (l1 : Value) (w0 : Value) (σ : Hs) : ru d 51 68 [l0, l1] [.ref 30, w0] σ = ru d 51 71 [l0, l1] [.int (σ 30 6), w0] σ := q_getf t51_68 mo51 F5_43 rfl rfl
theorem t51_71 : decode (mb 51) 71 = .ok (.putfield 43, 3) := by decide +kernel
theorem s51_71_o1 (d : Nat) (l0 : Value) (l1 : Value) (x : Int32) (σ : Hs) : ru d 51 71 [l0, l1] [.int x, .ref 1] σ = ru d 51 74 [l0, l1] [] (up2 σ 1 6 x) := q_puti t51_71 mo51 F5_43 (by decide +kernel) rfl rfl
theorem s51_71_o30 (d : Nat) (l0 : Value) (l1 : Value) (x : Int32) (σ : Hs) : ru d 51 71 [l0, l1] [.int x, .ref 30] σ = ru d 51 74 [l0, l1] [] (up2 σ 30 6 x) := q_puti t51_71 mo51 F5_43 (by decide +kernel) rfl rfl
theorem t51_74 : decode (mb 51) 74 = .ok (.return_, 1) := by decide +kernel
theorem s51_74 (d : Nat) (l0 : Value) (l1 : Value) (σ : Hs) : ru d 51 74 [l0, l1] [] σ = some (none, σ) := q_vret t51_74 mr51
theorem c51 (d : Nat) (x0 : Nat) (x1 : Nat) (σ : Hs) : callD (d + 1) 51 [.ref x0, .ref x1] σ = ru d 51 0 [.ref x0, .ref x1] [] σ := callD_ru ml51 rfl rfl (Nat.le_of_ble_eq_true rfl)
-- 52: State.draw()I
theorem t52_0 : decode (mb 52) 0 = .ok (.aload_n 0, 1) := by decide +kernel
theorem s52_0 (d : Nat) (a0 : Nat) (σ : Hs) : ru d 52 0 [.ref a0] [] σ = ru d 52 1 [.ref a0] [.ref a0] σ := q_aload_n t52_0 rfl
theorem t52_1 : decode (mb 52) 1 = .ok (.aload_n 0, 1) := by decide +kernel
theorem s52_1 (d : Nat) (a0 : Nat) (w0 : Value) (σ : Hs) : ru d 52 1 [.ref a0] [w0] σ = ru d 52 2 [.ref a0] [.ref a0, w0] σ := q_aload_n t52_1 rfl
theorem t52_2 : decode (mb 52) 2 = .ok (.getfield 43, 3) := by decide +kernel
theorem s52_2_o1 (d : Nat) (l0 : Value) (w0 : Value) (σ : Hs) : ru d 52 2 [l0] [.ref 1, w0] σ = ru d 52 5 [l0] [.int (σ 1 6), w0] σ := q_getf t52_2 mo52 F5_43 rfl rfl
theorem t52_5 : decode (mb 52) 5 = .ok (.ldc 57, 2) := by decide +kernel
theorem s52_5 (d : Nat) (l0 : Value) (w0 w1 : Value) (σ : Hs) : ru d 52 5 [l0] [w0, w1] σ = ru d 52 7 [l0] [.int 1103515245, w0, w1] σ := q_ldc t52_5 mo52 C5_57
theorem t52_7 : decode (mb 52) 7 = .ok (.imul, 1) := by decide +kernel
theorem s52_7 (d : Nat) (l0 : Value) (x y : Int32) (w0 : Value) (σ : Hs) : ru d 52 7 [l0] [.int y, .int x, w0] σ = ru d 52 8 [l0] [.int (x * y), w0] σ := q_imul t52_7
theorem t52_8 : decode (mb 52) 8 = .ok (.sipush 12345, 3) := by decide +kernel
theorem s52_8 (d : Nat) (l0 : Value) (w0 w1 : Value) (σ : Hs) : ru d 52 8 [l0] [w0, w1] σ = ru d 52 11 [l0] [.int 12345, w0, w1] σ := q_sipush t52_8 (by decide +kernel)
theorem t52_11 : decode (mb 52) 11 = .ok (.iadd, 1) := by decide +kernel
theorem s52_11 (d : Nat) (l0 : Value) (x y : Int32) (w0 : Value) (σ : Hs) : ru d 52 11 [l0] [.int y, .int x, w0] σ = ru d 52 12 [l0] [.int (x + y), w0] σ := q_iadd t52_11
theorem t52_12 : decode (mb 52) 12 = .ok (.putfield 43, 3) := by decide +kernel
theorem s52_12_o1 (d : Nat) (l0 : Value) (x : Int32) (σ : Hs) : ru d 52 12 [l0] [.int x, .ref 1] σ = ru d 52 15 [l0] [] (up2 σ 1 6 x) := q_puti t52_12 mo52 F5_43 (by decide +kernel) rfl rfl
theorem t52_15 : decode (mb 52) 15 = .ok (.aload_n 0, 1) := by decide +kernel
theorem s52_15 (d : Nat) (a0 : Nat) (σ : Hs) : ru d 52 15 [.ref a0] [] σ = ru d 52 16 [.ref a0] [.ref a0] σ := q_aload_n t52_15 rfl
theorem t52_16 : decode (mb 52) 16 = .ok (.getfield 43, 3) := by decide +kernel
theorem s52_16_o1 (d : Nat) (l0 : Value) (σ : Hs) : ru d 52 16 [l0] [.ref 1] σ = ru d 52 19 [l0] [.int (σ 1 6)] σ := q_getf t52_16 mo52 F5_43 rfl rfl
theorem t52_19 : decode (mb 52) 19 = .ok (.bipush 8, 2) := by decide +kernel
theorem s52_19 (d : Nat) (l0 : Value) (w0 : Value) (σ : Hs) : ru d 52 19 [l0] [w0] σ = ru d 52 21 [l0] [.int 8, w0] σ := q_bipush t52_19 (by decide +kernel)
theorem t52_21 : decode (mb 52) 21 = .ok (.iushr, 1) := by decide +kernel
theorem s52_21 (d : Nat) (l0 : Value) (x y : Int32) (σ : Hs) : ru d 52 21 [l0] [.int y, .int x] σ = ru d 52 22 [l0] [.int ((x.toUInt32 >>> (y.toUInt32 &&& Int32.toUInt32 31)).toInt32)] σ := q_iushr t52_21
theorem t52_22 : decode (mb 52) 22 = .ok (.ireturn, 1) := by decide +kernel
theorem s52_22 (d : Nat) (l0 : Value) (x : Int32) (σ : Hs) : ru d 52 22 [l0] [.int x] σ = some (some (.int x), σ) := q_ireti t52_22 mr52
theorem c52 (d : Nat) (x0 : Nat) (σ : Hs) : callD (d + 1) 52 [.ref x0] σ = ru d 52 0 [.ref x0] [] σ := callD_ru ml52 rfl rfl (Nat.le_of_ble_eq_true rfl)
-- 53: State.suspectsWithout(I)I
theorem t53_0 : decode (mb 53) 0 = .ok (.sipush 511, 3) := by decide +kernel
theorem s53_0 (d : Nat) (l0 : Value) (l1 : Value) (l2 : Value) (l3 : Value) (σ : Hs) : ru d 53 0 [l0, l1, l2, l3] [] σ = ru d 53 3 [l0, l1, l2, l3] [.int 511] σ := q_sipush t53_0 (by decide +kernel)
theorem t53_3 : decode (mb 53) 3 = .ok (.istore_n 2, 1) := by decide +kernel
theorem s53_3 (d : Nat) (l0 : Value) (i1 : Int32) (l2 : Value) (l3 : Value) (x : Int32) (σ : Hs) : ru d 53 3 [l0, .int i1, l2, l3] [.int x] σ = ru d 53 4 [l0, .int i1, .int x, l3] [] σ := q_istore_n t53_3 ⟨Nat.le_of_ble_eq_true rfl, rfl⟩ rfl
theorem t53_4 : decode (mb 53) 4 = .ok (.iconst 0, 1) := by decide +kernel
theorem s53_4 (d : Nat) (l0 : Value) (l1 : Value) (l2 : Value) (l3 : Value) (σ : Hs) : ru d 53 4 [l0, l1, l2, l3] [] σ = ru d 53 5 [l0, l1, l2, l3] [.int 0] σ := q_iconst t53_4 (by decide +kernel)
theorem t53_5 : decode (mb 53) 5 = .ok (.istore_n 3, 1) := by decide +kernel
theorem s53_5 (d : Nat) (l0 : Value) (l1 : Value) (i2 : Int32) (l3 : Value) (x : Int32) (σ : Hs) : ru d 53 5 [l0, l1, .int i2, l3] [.int x] σ = ru d 53 6 [l0, l1, .int i2, .int x] [] σ := q_istore_n t53_5 ⟨Nat.le_of_ble_eq_true rfl, rfl⟩ rfl
theorem t53_6 : decode (mb 53) 6 = .ok (.iload_n 3, 1) := by decide +kernel
theorem s53_6 (d : Nat) (l0 : Value) (l1 : Value) (l2 : Value) (i3 : Int32) (σ : Hs) : ru d 53 6 [l0, l1, l2, .int i3] [] σ = ru d 53 7 [l0, l1, l2, .int i3] [.int i3] σ := q_iload_n t53_6 rfl
theorem t53_7 : decode (mb 53) 7 = .ok (.aload_n 0, 1) := by decide +kernel
theorem s53_7 (d : Nat) (a0 : Nat) (l1 : Value) (l2 : Value) (l3 : Value) (w0 : Value) (σ : Hs) : ru d 53 7 [.ref a0, l1, l2, l3] [w0] σ = ru d 53 8 [.ref a0, l1, l2, l3] [.ref a0, w0] σ := q_aload_n t53_7 rfl
theorem t53_8 : decode (mb 53) 8 = .ok (.getfield 34, 3) := by decide +kernel
theorem s53_8_o1 (d : Nat) (l0 : Value) (l1 : Value) (l2 : Value) (l3 : Value) (w0 : Value) (σ : Hs) : ru d 53 8 [l0, l1, l2, l3] [.ref 1, w0] σ = ru d 53 11 [l0, l1, l2, l3] [.ref 24, w0] σ := q_getf t53_8 mo53 F5_34 rfl rfl
theorem t53_11 : decode (mb 53) 11 = .ok (.getfield 58, 3) := by decide +kernel
theorem s53_11_o24 (d : Nat) (l0 : Value) (l1 : Value) (l2 : Value) (l3 : Value) (w0 : Value) (σ : Hs) : ru d 53 11 [l0, l1, l2, l3] [.ref 24, w0] σ = ru d 53 14 [l0, l1, l2, l3] [.int (σ 24 1), w0] σ := q_getf t53_11 mo53 F5_58 rfl rfl
theorem t53_14 : decode (mb 53) 14 = .ok (.if_icmp .ge 38, 3) := by decide +kernel
theorem s53_14 (d : Nat) (l0 : Value) (l1 : Value) (l2 : Value) (l3 : Value) (x y : Int32) (σ : Hs) : ru d 53 14 [l0, l1, l2, l3] [.int y, .int x] σ = if y ≤ x then ru d 53 52 [l0, l1, l2, l3] [] σ else ru d 53 17 [l0, l1, l2, l3] [] σ := q_ic_ge t53_14 (by decide +kernel)
theorem t53_17 : decode (mb 53) 17 = .ok (.iload_n 3, 1) := by decide +kernel
theorem s53_17 (d : Nat) (l0 : Value) (l1 : Value) (l2 : Value) (i3 : Int32) (σ : Hs) : ru d 53 17 [l0, l1, l2, .int i3] [] σ = ru d 53 18 [l0, l1, l2, .int i3] [.int i3] σ := q_iload_n t53_17 rfl
theorem t53_18 : decode (mb 53) 18 = .ok (.iload_n 1, 1) := by decide +kernel
theorem s53_18 (d : Nat) (l0 : Value) (i1 : Int32) (l2 : Value) (l3 : Value) (w0 : Value) (σ : Hs) : ru d 53 18 [l0, .int i1, l2, l3] [w0] σ = ru d 53 19 [l0, .int i1, l2, l3] [.int i1, w0] σ := q_iload_n t53_18 rfl
theorem t53_19 : decode (mb 53) 19 = .ok (.if_icmp .eq 27, 3) := by decide +kernel
theorem s53_19 (d : Nat) (l0 : Value) (l1 : Value) (l2 : Value) (l3 : Value) (x y : Int32) (σ : Hs) : ru d 53 19 [l0, l1, l2, l3] [.int y, .int x] σ = if x = y then ru d 53 46 [l0, l1, l2, l3] [] σ else ru d 53 22 [l0, l1, l2, l3] [] σ := q_ic_eq t53_19 (by decide +kernel)
theorem t53_22 : decode (mb 53) 22 = .ok (.iload_n 2, 1) := by decide +kernel
theorem s53_22 (d : Nat) (l0 : Value) (l1 : Value) (i2 : Int32) (l3 : Value) (σ : Hs) : ru d 53 22 [l0, l1, .int i2, l3] [] σ = ru d 53 23 [l0, l1, .int i2, l3] [.int i2] σ := q_iload_n t53_22 rfl
theorem t53_23 : decode (mb 53) 23 = .ok (.aload_n 0, 1) := by decide +kernel
theorem s53_23 (d : Nat) (a0 : Nat) (l1 : Value) (l2 : Value) (l3 : Value) (w0 : Value) (σ : Hs) : ru d 53 23 [.ref a0, l1, l2, l3] [w0] σ = ru d 53 24 [.ref a0, l1, l2, l3] [.ref a0, w0] σ := q_aload_n t53_23 rfl
theorem t53_24 : decode (mb 53) 24 = .ok (.getfield 34, 3) := by decide +kernel
theorem s53_24_o1 (d : Nat) (l0 : Value) (l1 : Value) (l2 : Value) (l3 : Value) (w0 : Value) (σ : Hs) : ru d 53 24 [l0, l1, l2, l3] [.ref 1, w0] σ = ru d 53 27 [l0, l1, l2, l3] [.ref 24, w0] σ := q_getf t53_24 mo53 F5_34 rfl rfl
theorem t53_27 : decode (mb 53) 27 = .ok (.getfield 61, 3) := by decide +kernel
theorem s53_27_o24 (d : Nat) (l0 : Value) (l1 : Value) (l2 : Value) (l3 : Value) (w0 : Value) (σ : Hs) : ru d 53 27 [l0, l1, l2, l3] [.ref 24, w0] σ = ru d 53 30 [l0, l1, l2, l3] [.ref 25, w0] σ := q_getf t53_27 mo53 F5_61 rfl rfl
theorem t53_30 : decode (mb 53) 30 = .ok (.iload_n 3, 1) := by decide +kernel
theorem s53_30 (d : Nat) (l0 : Value) (l1 : Value) (l2 : Value) (i3 : Int32) (w0 w1 : Value) (σ : Hs) : ru d 53 30 [l0, l1, l2, .int i3] [w0, w1] σ = ru d 53 31 [l0, l1, l2, .int i3] [.int i3, w0, w1] σ := q_iload_n t53_30 rfl
theorem t53_31 : decode (mb 53) 31 = .ok (.iaload, 1) := by decide +kernel
theorem s53_31_o25 (d : Nat) (l0 : Value) (l1 : Value) (l2 : Value) (l3 : Value) (i : Int32) (w0 : Value) (σ : Hs) : ru d 53 31 [l0, l1, l2, l3] [.int i, .ref 25, w0] σ = gd (vp_in i 12) (ru d 53 32 [l0, l1, l2, l3] [.int (σ 25 i.toNatClampNeg), w0] σ) := q_iald t53_31 rfl (by decide +kernel) rfl
theorem t53_32 : decode (mb 53) 32 = .ok (.aload_n 0, 1) := by decide +kernel
theorem s53_32 (d : Nat) (a0 : Nat) (l1 : Value) (l2 : Value) (l3 : Value) (w0 w1 : Value) (σ : Hs) : ru d 53 32 [.ref a0, l1, l2, l3] [w0, w1] σ = ru d 53 33 [.ref a0, l1, l2, l3] [.ref a0, w0, w1] σ := q_aload_n t53_32 rfl
theorem t53_33 : decode (mb 53) 33 = .ok (.getfield 37, 3) := by decide +kernel
theorem s53_33_o1 (d : Nat) (l0 : Value) (l1 : Value) (l2 : Value) (l3 : Value) (w0 w1 : Value) (σ : Hs) : ru d 53 33 [l0, l1, l2, l3] [.ref 1, w0, w1] σ = ru d 53 36 [l0, l1, l2, l3] [.ref 26, w0, w1] σ := q_getf t53_33 mo53 F5_37 rfl rfl
theorem t53_36 : decode (mb 53) 36 = .ok (.getfield 61, 3) := by decide +kernel
theorem s53_36_o26 (d : Nat) (l0 : Value) (l1 : Value) (l2 : Value) (l3 : Value) (w0 w1 : Value) (σ : Hs) : ru d 53 36 [l0, l1, l2, l3] [.ref 26, w0, w1] σ = ru d 53 39 [l0, l1, l2, l3] [.ref 27, w0, w1] σ := q_getf t53_36 mo53 F5_61 rfl rfl
theorem t53_39 : decode (mb 53) 39 = .ok (.iload_n 3, 1) := by decide +kernel
theorem s53_39 (d : Nat) (l0 : Value) (l1 : Value) (l2 : Value) (i3 : Int32) (w0 w1 w2 : Value) (σ : Hs) : ru d 53 39 [l0, l1, l2, .int i3] [w0, w1, w2] σ = ru d 53 40 [l0, l1, l2, .int i3] [.int i3, w0, w1, w2] σ := q_iload_n t53_39 rfl
theorem t53_40 : decode (mb 53) 40 = .ok (.iaload, 1) := by decide +kernel
theorem s53_40_o27 (d : Nat) (l0 : Value) (l1 : Value) (l2 : Value) (l3 : Value) (i : Int32) (w0 w1 : Value) (σ : Hs) : ru d 53 40 [l0, l1, l2, l3] [.int i, .ref 27, w0, w1] σ = gd (vp_in i 12) (ru d 53 41 [l0, l1, l2, l3] [.int (σ 27 i.toNatClampNeg), w0, w1] σ) := q_iald t53_40 rfl (by decide +kernel) rfl
theorem t53_41 : decode (mb 53) 41 = .ok (.invokestatic 65, 3) := by decide +kernel
theorem s53_41 (d : Nat) (l0 : Value) (l1 : Value) (l2 : Value) (l3 : Value) (v0 v1 : Value) (w0 : Int32) (σ : Hs) : ru d 53 41 [l0, l1, l2, l3] [v1, v0, .int w0] σ = kont (callD d 54 [v0, v1] σ) d 53 44 [l0, l1, l2, l3] [.int w0] := q_invs t53_41 mo53 (by decide +kernel) K5_65 mj54 (Nat.le_of_ble_eq_true rfl) rfl rfl (Nat.le_of_ble_eq_true rfl)
theorem t53_44 : decode (mb 53) 44 = .ok (.iand, 1) := by decide +kernel
theorem s53_44 (d : Nat) (l0 : Value) (l1 : Value) (l2 : Value) (l3 : Value) (x y : Int32) (σ : Hs) : ru d 53 44 [l0, l1, l2, l3] [.int y, .int x] σ = ru d 53 45 [l0, l1, l2, l3] [.int (x &&& y)] σ := q_iand t53_44
theorem t53_45 : decode (mb 53) 45 = .ok (.istore_n 2, 1) := by decide +kernel
theorem s53_45 (d : Nat) (l0 : Value) (i1 : Int32) (l2 : Value) (l3 : Value) (x : Int32) (σ : Hs) : ru d 53 45 [l0, .int i1, l2, l3] [.int x] σ = ru d 53 46 [l0, .int i1, .int x, l3] [] σ := q_istore_n t53_45 ⟨Nat.le_of_ble_eq_true rfl, rfl⟩ rfl
theorem t53_46 : decode (mb 53) 46 = .ok (.iinc 3 1, 3) := by decide +kernel
theorem s53_46 (d : Nat) (l0 : Value) (l1 : Value) (i2 : Int32) (i3 : Int32) (σ : Hs) : ru d 53 46 [l0, l1, .int i2, .int i3] [] σ = ru d 53 49 [l0, l1, .int i2, .int (i3 + 1)] [] σ := q_iinc t53_46 ⟨Nat.le_of_ble_eq_true rfl, rfl⟩ rfl (by decide +kernel) rfl
theorem t53_49 : decode (mb 53) 49 = .ok (.goto (-43), 3) := by decide +kernel
theorem s53_49 (d : Nat) (l0 : Value) (l1 : Value) (l2 : Value) (l3 : Value) (σ : Hs) : ru d 53 49 [l0, l1, l2, l3] [] σ = ru d 53 6 [l0, l1, l2, l3] [] σ := q_goto t53_49 (by decide +kernel)
theorem t53_52 : decode (mb 53) 52 = .ok (.iload_n 2, 1) := by decide +kernel
theorem s53_52 (d : Nat) (l0 : Value) (l1 : Value) (i2 : Int32) (l3 : Value) (σ : Hs) : ru d 53 52 [l0, l1, .int i2, l3] [] σ = ru d 53 53 [l0, l1, .int i2, l3] [.int i2] σ := q_iload_n t53_52 rfl
theorem t53_53 : decode (mb 53) 53 = .ok (.ireturn, 1) := by decide +kernel
theorem s53_53 (d : Nat) (l0 : Value) (l1 : Value) (l2 : Value) (l3 : Value) (x : Int32) (σ : Hs) : ru d 53 53 [l0, l1, l2, l3] [.int x] σ = some (some (.int x), σ) := q_ireti t53_53 mr53
theorem c53 (d : Nat) (x0 : Nat) (x1 : Int32) (σ : Hs) : callD (d + 1) 53 [.ref x0, .int x1] σ = ru d 53 0 [.ref x0, .int x1, uu, uu] [] σ := callD_ru ml53 rfl rfl (Nat.le_of_ble_eq_true rfl)
-- 54: State.gardensUpwind(II)I
theorem t54_0 : decode (mb 54) 0 = .ok (.iload_n 1, 1) := by decide +kernel
theorem s54_0 (d : Nat) (l0 : Value) (i1 : Int32) (l2 : Value) (l3 : Value) (l4 : Value) (l5 : Value) (σ : Hs) : ru d 54 0 [l0, .int i1, l2, l3, l4, l5] [] σ = ru d 54 1 [l0, .int i1, l2, l3, l4, l5] [.int i1] σ := q_iload_n t54_0 rfl
theorem t54_1 : decode (mb 54) 1 = .ok (.iconst 2, 1) := by decide +kernel
theorem s54_1 (d : Nat) (l0 : Value) (l1 : Value) (l2 : Value) (l3 : Value) (l4 : Value) (l5 : Value) (w0 : Value) (σ : Hs) : ru d 54 1 [l0, l1, l2, l3, l4, l5] [w0] σ = ru d 54 2 [l0, l1, l2, l3, l4, l5] [.int 2, w0] σ := q_iconst t54_1 (by decide +kernel)
theorem t54_2 : decode (mb 54) 2 = .ok (.iadd, 1) := by decide +kernel
theorem s54_2 (d : Nat) (l0 : Value) (l1 : Value) (l2 : Value) (l3 : Value) (l4 : Value) (l5 : Value) (x y : Int32) (σ : Hs) : ru d 54 2 [l0, l1, l2, l3, l4, l5] [.int y, .int x] σ = ru d 54 3 [l0, l1, l2, l3, l4, l5] [.int (x + y)] σ := q_iadd t54_2
theorem t54_3 : decode (mb 54) 3 = .ok (.iconst 4, 1) := by decide +kernel
theorem s54_3 (d : Nat) (l0 : Value) (l1 : Value) (l2 : Value) (l3 : Value) (l4 : Value) (l5 : Value) (w0 : Value) (σ : Hs) : ru d 54 3 [l0, l1, l2, l3, l4, l5] [w0] σ = ru d 54 4 [l0, l1, l2, l3, l4, l5] [.int 4, w0] σ := q_iconst t54_3 (by decide +kernel)
theorem t54_4 : decode (mb 54) 4 = .ok (.irem, 1) := by decide +kernel
theorem s54_4 (d : Nat) (l0 : Value) (l1 : Value) (l2 : Value) (l3 : Value) (l4 : Value) (l5 : Value) (x y : Int32) (σ : Hs) : ru d 54 4 [l0, l1, l2, l3, l4, l5] [.int y, .int x] σ = gd (¬ y = 0) (ru d 54 5 [l0, l1, l2, l3, l4, l5] [.int (x - x / y * y)] σ) := q_irem t54_4
theorem t54_5 : decode (mb 54) 5 = .ok (.istore_n 2, 1) := by decide +kernel
theorem s54_5 (d : Nat) (l0 : Value) (i1 : Int32) (l2 : Value) (l3 : Value) (l4 : Value) (l5 : Value) (x : Int32) (σ : Hs) : ru d 54 5 [l0, .int i1, l2, l3, l4, l5] [.int x] σ = ru d 54 6 [l0, .int i1, .int x, l3, l4, l5] [] σ := q_istore_n t54_5 ⟨Nat.le_of_ble_eq_true rfl, rfl⟩ rfl
theorem t54_6 : decode (mb 54) 6 = .ok (.iconst 0, 1) := by decide +kernel
theorem s54_6 (d : Nat) (l0 : Value) (l1 : Value) (l2 : Value) (l3 : Value) (l4 : Value) (l5 : Value) (σ : Hs) : ru d 54 6 [l0, l1, l2, l3, l4, l5] [] σ = ru d 54 7 [l0, l1, l2, l3, l4, l5] [.int 0] σ := q_iconst t54_6 (by decide +kernel)
theorem t54_7 : decode (mb 54) 7 = .ok (.istore_n 3, 1) := by decide +kernel
theorem s54_7 (d : Nat) (l0 : Value) (l1 : Value) (i2 : Int32) (l3 : Value) (l4 : Value) (l5 : Value) (x : Int32) (σ : Hs) : ru d 54 7 [l0, l1, .int i2, l3, l4, l5] [.int x] σ = ru d 54 8 [l0, l1, .int i2, .int x, l4, l5] [] σ := q_istore_n t54_7 ⟨Nat.le_of_ble_eq_true rfl, rfl⟩ rfl
theorem t54_8 : decode (mb 54) 8 = .ok (.iload_n 0, 1) := by decide +kernel
theorem s54_8 (d : Nat) (i0 : Int32) (l1 : Value) (l2 : Value) (l3 : Value) (l4 : Value) (l5 : Value) (σ : Hs) : ru d 54 8 [.int i0, l1, l2, l3, l4, l5] [] σ = ru d 54 9 [.int i0, l1, l2, l3, l4, l5] [.int i0] σ := q_iload_n t54_8 rfl
theorem t54_9 : decode (mb 54) 9 = .ok (.istore 4, 2) := by decide +kernel
theorem s54_9 (d : Nat) (l0 : Value) (l1 : Value) (l2 : Value) (i3 : Int32) (l4 : Value) (l5 : Value) (x : Int32) (σ : Hs) : ru d 54 9 [l0, l1, l2, .int i3, l4, l5] [.int x] σ = ru d 54 11 [l0, l1, l2, .int i3, .int x, l5] [] σ := q_istore t54_9 ⟨Nat.le_of_ble_eq_true rfl, rfl⟩ rfl
theorem t54_11 : decode (mb 54) 11 = .ok (.iconst 0, 1) := by decide +kernel
theorem s54_11 (d : Nat) (l0 : Value) (l1 : Value) (l2 : Value) (l3 : Value) (l4 : Value) (l5 : Value) (σ : Hs) : ru d 54 11 [l0, l1, l2, l3, l4, l5] [] σ = ru d 54 12 [l0, l1, l2, l3, l4, l5] [.int 0] σ := q_iconst t54_11 (by decide +kernel)
theorem t54_12 : decode (mb 54) 12 = .ok (.istore 5, 2) := by decide +kernel
theorem s54_12 (d : Nat) (l0 : Value) (l1 : Value) (l2 : Value) (l3 : Value) (i4 : Int32) (l5 : Value) (x : Int32) (σ : Hs) : ru d 54 12 [l0, l1, l2, l3, .int i4, l5] [.int x] σ = ru d 54 14 [l0, l1, l2, l3, .int i4, .int x] [] σ := q_istore t54_12 ⟨Nat.le_of_ble_eq_true rfl, rfl⟩ rfl
theorem t54_14 : decode (mb 54) 14 = .ok (.iload 5, 2) := by decide +kernel
theorem s54_14 (d : Nat) (l0 : Value) (l1 : Value) (l2 : Value) (l3 : Value) (l4 : Value) (i5 : Int32) (σ : Hs) : ru d 54 14 [l0, l1, l2, l3, l4, .int i5] [] σ = ru d 54 16 [l0, l1, l2, l3, l4, .int i5] [.int i5] σ := q_iload t54_14 rfl
theorem t54_16 : decode (mb 54) 16 = .ok (.iconst 3, 1) := by decide +kernel
theorem s54_16 (d : Nat) (l0 : Value) (l1 : Value) (l2 : Value) (l3 : Value) (l4 : Value) (l5 : Value) (w0 : Value) (σ : Hs) : ru d 54 16 [l0, l1, l2, l3, l4, l5] [w0] σ = ru d 54 17 [l0, l1, l2, l3, l4, l5] [.int 3, w0] σ := q_iconst t54_16 (by decide +kernel)
theorem t54_17 : decode (mb 54) 17 = .ok (.if_icmp .ge 32, 3) := by decide +kernel
theorem s54_17 (d : Nat) (l0 : Value) (l1 : Value) (l2 : Value) (l3 : Value) (l4 : Value) (l5 : Value) (x y : Int32) (σ : Hs) : ru d 54 17 [l0, l1, l2, l3, l4, l5] [.int y, .int x] σ = if y ≤ x then ru d 54 49 [l0, l1, l2, l3, l4, l5] [] σ else ru d 54 20 [l0, l1, l2, l3, l4, l5] [] σ := q_ic_ge t54_17 (by decide +kernel)
theorem t54_20 : decode (mb 54) 20 = .ok (.iload 4, 2) := by decide +kernel
theorem s54_20 (d : Nat) (l0 : Value) (l1 : Value) (l2 : Value) (l3 : Value) (i4 : Int32) (l5 : Value) (σ : Hs) : ru d 54 20 [l0, l1, l2, l3, .int i4, l5] [] σ = ru d 54 22 [l0, l1, l2, l3, .int i4, l5] [.int i4] σ := q_iload t54_20 rfl
theorem t54_22 : decode (mb 54) 22 = .ok (.invokestatic 69, 3) := by decide +kernel
theorem s54_22 (d : Nat) (l0 : Value) (l1 : Value) (l2 : Value) (l3 : Value) (l4 : Value) (l5 : Value) (v0 : Value) (σ : Hs) : ru d 54 22 [l0, l1, l2, l3, l4, l5] [v0] σ = kont (callD d 107 [v0] σ) d 54 25 [l0, l1, l2, l3, l4, l5] [] := q_invs t54_22 mo54 (by decide +kernel) K5_69 mj107 (Nat.le_of_ble_eq_true rfl) rfl rfl (Nat.le_of_ble_eq_true rfl)
theorem t54_25 : decode (mb 54) 25 = .ok (.ifCond .eq 24, 3) := by decide +kernel
theorem s54_25 (d : Nat) (l0 : Value) (l1 : Value) (l2 : Value) (l3 : Value) (l4 : Value) (l5 : Value) (x : Int32) (σ : Hs) : ru d 54 25 [l0, l1, l2, l3, l4, l5] [.int x] σ = if x = 0 then ru d 54 49 [l0, l1, l2, l3, l4, l5] [] σ else ru d 54 28 [l0, l1, l2, l3, l4, l5] [] σ := q_if_eq t54_25 (by decide +kernel)
theorem t54_28 : decode (mb 54) 28 = .ok (.iload_n 3, 1) := by decide +kernel
theorem s54_28 (d : Nat) (l0 : Value) (l1 : Value) (l2 : Value) (i3 : Int32) (l4 : Value) (l5 : Value) (σ : Hs) : ru d 54 28 [l0, l1, l2, .int i3, l4, l5] [] σ = ru d 54 29 [l0, l1, l2, .int i3, l4, l5] [.int i3] σ := q_iload_n t54_28 rfl
theorem t54_29 : decode (mb 54) 29 = .ok (.iconst 1, 1) := by decide +kernel
theorem s54_29 (d : Nat) (l0 : Value) (l1 : Value) (l2 : Value) (l3 : Value) (l4 : Value) (l5 : Value) (w0 : Value) (σ : Hs) : ru d 54 29 [l0, l1, l2, l3, l4, l5] [w0] σ = ru d 54 30 [l0, l1, l2, l3, l4, l5] [.int 1, w0] σ := q_iconst t54_29 (by decide +kernel)
theorem t54_30 : decode (mb 54) 30 = .ok (.iload 4, 2) := by decide +kernel
theorem s54_30 (d : Nat) (l0 : Value) (l1 : Value) (l2 : Value) (l3 : Value) (i4 : Int32) (l5 : Value) (w0 w1 : Value) (σ : Hs) : ru d 54 30 [l0, l1, l2, l3, .int i4, l5] [w0, w1] σ = ru d 54 32 [l0, l1, l2, l3, .int i4, l5] [.int i4, w0, w1] σ := q_iload t54_30 rfl
theorem t54_32 : decode (mb 54) 32 = .ok (.ishl, 1) := by decide +kernel
theorem s54_32 (d : Nat) (l0 : Value) (l1 : Value) (l2 : Value) (l3 : Value) (l4 : Value) (l5 : Value) (x y : Int32) (w0 : Value) (σ : Hs) : ru d 54 32 [l0, l1, l2, l3, l4, l5] [.int y, .int x, w0] σ = ru d 54 33 [l0, l1, l2, l3, l4, l5] [.int (x <<< (y &&& 31)), w0] σ := q_ishl t54_32
theorem t54_33 : decode (mb 54) 33 = .ok (.ior, 1) := by decide +kernel
theorem s54_33 (d : Nat) (l0 : Value) (l1 : Value) (l2 : Value) (l3 : Value) (l4 : Value) (l5 : Value) (x y : Int32) (σ : Hs) : ru d 54 33 [l0, l1, l2, l3, l4, l5] [.int y, .int x] σ = ru d 54 34 [l0, l1, l2, l3, l4, l5] [.int (x ||| y)] σ := q_ior t54_33
theorem t54_34 : decode (mb 54) 34 = .ok (.istore_n 3, 1) := by decide +kernel
theorem s54_34 (d : Nat) (l0 : Value) (l1 : Value) (i2 : Int32) (l3 : Value) (l4 : Value) (l5 : Value) (x : Int32) (σ : Hs) : ru d 54 34 [l0, l1, .int i2, l3, l4, l5] [.int x] σ = ru d 54 35 [l0, l1, .int i2, .int x, l4, l5] [] σ := q_istore_n t54_34 ⟨Nat.le_of_ble_eq_true rfl, rfl⟩ rfl
theorem t54_35 : decode (mb 54) 35 = .ok (.iload 4, 2) := by decide +kernel
theorem s54_35 (d : Nat) (l0 : Value) (l1 : Value) (l2 : Value) (l3 : Value) (i4 : Int32) (l5 : Value) (σ : Hs) : ru d 54 35 [l0, l1, l2, l3, .int i4, l5] [] σ = ru d 54 37 [l0, l1, l2, l3, .int i4, l5] [.int i4] σ := q_iload t54_35 rfl
theorem t54_37 : decode (mb 54) 37 = .ok (.iload_n 2, 1) := by decide +kernel
theorem s54_37 (d : Nat) (l0 : Value) (l1 : Value) (i2 : Int32) (l3 : Value) (l4 : Value) (l5 : Value) (w0 : Value) (σ : Hs) : ru d 54 37 [l0, l1, .int i2, l3, l4, l5] [w0] σ = ru d 54 38 [l0, l1, .int i2, l3, l4, l5] [.int i2, w0] σ := q_iload_n t54_37 rfl
theorem t54_38 : decode (mb 54) 38 = .ok (.invokestatic 73, 3) := by decide +kernel
theorem s54_38 (d : Nat) (l0 : Value) (l1 : Value) (l2 : Value) (l3 : Value) (l4 : Value) (l5 : Value) (v0 v1 : Value) (σ : Hs) : ru d 54 38 [l0, l1, l2, l3, l4, l5] [v1, v0] σ = kont (callD d 111 [v0, v1] σ) d 54 41 [l0, l1, l2, l3, l4, l5] [] := q_invs t54_38 mo54 (by decide +kernel) K5_73 mj111 (Nat.le_of_ble_eq_true rfl) rfl rfl (Nat.le_of_ble_eq_true rfl)
theorem t54_41 : decode (mb 54) 41 = .ok (.istore 4, 2) := by decide +kernel
theorem s54_41 (d : Nat) (l0 : Value) (l1 : Value) (l2 : Value) (i3 : Int32) (l4 : Value) (l5 : Value) (x : Int32) (σ : Hs) : ru d 54 41 [l0, l1, l2, .int i3, l4, l5] [.int x] σ = ru d 54 43 [l0, l1, l2, .int i3, .int x, l5] [] σ := q_istore t54_41 ⟨Nat.le_of_ble_eq_true rfl, rfl⟩ rfl
theorem t54_43 : decode (mb 54) 43 = .ok (.iinc 5 1, 3) := by decide +kernel
theorem s54_43 (d : Nat) (l0 : Value) (l1 : Value) (l2 : Value) (l3 : Value) (i4 : Int32) (i5 : Int32) (σ : Hs) : ru d 54 43 [l0, l1, l2, l3, .int i4, .int i5] [] σ = ru d 54 46 [l0, l1, l2, l3, .int i4, .int (i5 + 1)] [] σ := q_iinc t54_43 ⟨Nat.le_of_ble_eq_true rfl, rfl⟩ rfl (by decide +kernel) rfl
theorem t54_46 : decode (mb 54) 46 = .ok (.goto (-32), 3) := by decide +kernel
theorem s54_46 (d : Nat) (l0 : Value) (l1 : Value) (l2 : Value) (l3 : Value) (l4 : Value) (l5 : Value) (σ : Hs) : ru d 54 46 [l0, l1, l2, l3, l4, l5] [] σ = ru d 54 14 [l0, l1, l2, l3, l4, l5] [] σ := q_goto t54_46 (by decide +kernel)
theorem t54_49 : decode (mb 54) 49 = .ok (.iload_n 3, 1) := by decide +kernel
theorem s54_49 (d : Nat) (l0 : Value) (l1 : Value) (l2 : Value) (i3 : Int32) (l4 : Value) (l5 : Value) (σ : Hs) : ru d 54 49 [l0, l1, l2, .int i3, l4, l5] [] σ = ru d 54 50 [l0, l1, l2, .int i3, l4, l5] [.int i3] σ := q_iload_n t54_49 rfl
theorem t54_50 : decode (mb 54) 50 = .ok (.ireturn, 1) := by decide +kernel
theorem s54_50 (d : Nat) (l0 : Value) (l1 : Value) (l2 : Value) (l3 : Value) (l4 : Value) (l5 : Value) (x : Int32) (σ : Hs) : ru d 54 50 [l0, l1, l2, l3, l4, l5] [.int x] σ = some (some (.int x), σ) := q_ireti t54_50 mr54
theorem c54 (d : Nat) (x0 : Int32) (x1 : Int32) (σ : Hs) : callD (d + 1) 54 [.int x0, .int x1] σ = ru d 54 0 [.int x0, .int x1, uu, uu, uu, uu] [] σ := callD_ru ml54 rfl rfl (Nat.le_of_ble_eq_true rfl)
-- 55: Voices.begin(III)V
theorem t55_0 : decode (mb 55) 0 = .ok (.aload_n 0, 1) := by decide +kernel
theorem s55_0 (d : Nat) (a0 : Nat) (l1 : Value) (l2 : Value) (l3 : Value) (σ : Hs) : ru d 55 0 [.ref a0, l1, l2, l3] [] σ = ru d 55 1 [.ref a0, l1, l2, l3] [.ref a0] σ := q_aload_n t55_0 rfl
theorem t55_1 : decode (mb 55) 1 = .ok (.iload_n 1, 1) := by decide +kernel
theorem s55_1 (d : Nat) (l0 : Value) (i1 : Int32) (l2 : Value) (l3 : Value) (w0 : Value) (σ : Hs) : ru d 55 1 [l0, .int i1, l2, l3] [w0] σ = ru d 55 2 [l0, .int i1, l2, l3] [.int i1, w0] σ := q_iload_n t55_1 rfl
theorem t55_2 : decode (mb 55) 2 = .ok (.putfield 24, 3) := by decide +kernel
theorem s55_2_o73 (d : Nat) (l0 : Value) (l1 : Value) (l2 : Value) (l3 : Value) (x : Int32) (σ : Hs) : ru d 55 2 [l0, l1, l2, l3] [.int x, .ref 73] σ = ru d 55 5 [l0, l1, l2, l3] [] (up2 σ 73 2 x) := q_puti t55_2 mo55 F6_24 (by decide +kernel) rfl rfl
theorem t55_5 : decode (mb 55) 5 = .ok (.aload_n 0, 1) := by decide +kernel
theorem s55_5 (d : Nat) (a0 : Nat) (l1 : Value) (l2 : Value) (l3 : Value) (σ : Hs) : ru d 55 5 [.ref a0, l1, l2, l3] [] σ = ru d 55 6 [.ref a0, l1, l2, l3] [.ref a0] σ := q_aload_n t55_5 rfl
theorem t55_6 : decode (mb 55) 6 = .ok (.iload_n 2, 1) := by decide +kernel
theorem s55_6 (d : Nat) (l0 : Value) (l1 : Value) (i2 : Int32) (l3 : Value) (w0 : Value) (σ : Hs) : ru d 55 6 [l0, l1, .int i2, l3] [w0] σ = ru d 55 7 [l0, l1, .int i2, l3] [.int i2, w0] σ := q_iload_n t55_6 rfl
theorem t55_7 : decode (mb 55) 7 = .ok (.putfield 28, 3) := by decide +kernel
theorem s55_7_o73 (d : Nat) (l0 : Value) (l1 : Value) (l2 : Value) (l3 : Value) (x : Int32) (σ : Hs) : ru d 55 7 [l0, l1, l2, l3] [.int x, .ref 73] σ = ru d 55 10 [l0, l1, l2, l3] [] (up2 σ 73 3 x) := q_puti t55_7 mo55 F6_28 (by decide +kernel) rfl rfl
theorem t55_10 : decode (mb 55) 10 = .ok (.aload_n 0, 1) := by decide +kernel
theorem s55_10 (d : Nat) (a0 : Nat) (l1 : Value) (l2 : Value) (l3 : Value) (σ : Hs) : ru d 55 10 [.ref a0, l1, l2, l3] [] σ = ru d 55 11 [.ref a0, l1, l2, l3] [.ref a0] σ := q_aload_n t55_10 rfl
theorem t55_11 : decode (mb 55) 11 = .ok (.iload_n 3, 1) := by decide +kernel
theorem s55_11 (d : Nat) (l0 : Value) (l1 : Value) (l2 : Value) (i3 : Int32) (w0 : Value) (σ : Hs) : ru d 55 11 [l0, l1, l2, .int i3] [w0] σ = ru d 55 12 [l0, l1, l2, .int i3] [.int i3, w0] σ := q_iload_n t55_11 rfl
theorem t55_12 : decode (mb 55) 12 = .ok (.putfield 31, 3) := by decide +kernel
theorem s55_12_o73 (d : Nat) (l0 : Value) (l1 : Value) (l2 : Value) (l3 : Value) (x : Int32) (σ : Hs) : ru d 55 12 [l0, l1, l2, l3] [.int x, .ref 73] σ = ru d 55 15 [l0, l1, l2, l3] [] (up2 σ 73 4 x) := q_puti t55_12 mo55 F6_31 (by decide +kernel) rfl rfl
theorem t55_15 : decode (mb 55) 15 = .ok (.aload_n 0, 1) := by decide +kernel
theorem s55_15 (d : Nat) (a0 : Nat) (l1 : Value) (l2 : Value) (l3 : Value) (σ : Hs) : ru d 55 15 [.ref a0, l1, l2, l3] [] σ = ru d 55 16 [.ref a0, l1, l2, l3] [.ref a0] σ := q_aload_n t55_15 rfl
theorem t55_16 : decode (mb 55) 16 = .ok (.iconst 0, 1) := by decide +kernel
theorem s55_16 (d : Nat) (l0 : Value) (l1 : Value) (l2 : Value) (l3 : Value) (w0 : Value) (σ : Hs) : ru d 55 16 [l0, l1, l2, l3] [w0] σ = ru d 55 17 [l0, l1, l2, l3] [.int 0, w0] σ := q_iconst t55_16 (by decide +kernel)
theorem t55_17 : decode (mb 55) 17 = .ok (.putfield 20, 3) := by decide +kernel
theorem s55_17_o73 (d : Nat) (l0 : Value) (l1 : Value) (l2 : Value) (l3 : Value) (x : Int32) (hx : isB x) (σ : Hs) : ru d 55 17 [l0, l1, l2, l3] [.int x, .ref 73] σ = ru d 55 20 [l0, l1, l2, l3] [] (up2 σ 73 1 x) := q_putz t55_17 mo55 F6_20 (by decide +kernel) rfl rfl hx
theorem t55_20 : decode (mb 55) 20 = .ok (.aload_n 0, 1) := by decide +kernel
theorem s55_20 (d : Nat) (a0 : Nat) (l1 : Value) (l2 : Value) (l3 : Value) (σ : Hs) : ru d 55 20 [.ref a0, l1, l2, l3] [] σ = ru d 55 21 [.ref a0, l1, l2, l3] [.ref a0] σ := q_aload_n t55_20 rfl
theorem t55_21 : decode (mb 55) 21 = .ok (.getfield 14, 3) := by decide +kernel
theorem s55_21_o73 (d : Nat) (l0 : Value) (l1 : Value) (l2 : Value) (l3 : Value) (σ : Hs) : ru d 55 21 [l0, l1, l2, l3] [.ref 73] σ = ru d 55 24 [l0, l1, l2, l3] [.ref 74] σ := q_getf t55_21 mo55 F6_14 rfl rfl
theorem t55_24 : decode (mb 55) 24 = .ok (.iconst 0, 1) := by decide +kernel
theorem s55_24 (d : Nat) (l0 : Value) (l1 : Value) (l2 : Value) (l3 : Value) (w0 : Value) (σ : Hs) : ru d 55 24 [l0, l1, l2, l3] [w0] σ = ru d 55 25 [l0, l1, l2, l3] [.int 0, w0] σ := q_iconst t55_24 (by decide +kernel)
theorem t55_25 : decode (mb 55) 25 = .ok (.putfield 34, 3) := by decide +kernel
theorem s55_25_o74 (d : Nat) (l0 : Value) (l1 : Value) (l2 : Value) (l3 : Value) (x : Int32) (σ : Hs) : ru d 55 25 [l0, l1, l2, l3] [.int x, .ref 74] σ = ru d 55 28 [l0, l1, l2, l3] [] (up2 σ 74 1 x) := q_puti t55_25 mo55 F6_34 (by decide +kernel) rfl rfl
theorem t55_28 : decode (mb 55) 28 = .ok (.return_, 1) := by decide +kernel
theorem s55_28 (d : Nat) (l0 : Value) (l1 : Value) (l2 : Value) (l3 : Value) (σ : Hs) : ru d 55 28 [l0, l1, l2, l3] [] σ = some (none, σ) := q_vret t55_28 mr55
theorem c55 (d : Nat) (x0 : Nat) (x1 : Int32) (x2 : Int32) (x3 : Int32) (σ : Hs) : callD (d + 1) 55 [.ref x0, .int x1, .int x2, .int x3] σ = ru d 55 0 [.ref x0, .int x1, .int x2, .int x3] [] σ := callD_ru ml55 rfl rfl (Nat.le_of_ble_eq_true rfl)
-- 56: Voices.speak(IIII)I
theorem t56_0 : decode (mb 56) 0 = .ok (.iload_n 1, 1) := by decide +kernel
theorem s56_0 (d : Nat) (l0 : Value) (i1 : Int32) (l2 : Value) (l3 : Value) (l4 : Value) (l5 : Value) (l6 : Value) (l7 : Value) (l8 : Value) (σ : Hs) : ru d 56 0 [l0, .int i1, l2, l3, l4, l5, l6, l7, l8] [] σ = ru d 56 1 [l0, .int i1, l2, l3, l4, l5, l6, l7, l8] [.int i1] σ := q_iload_n t56_0 rfl
theorem t56_1 : decode (mb 56) 1 = .ok (.iload_n 2, 1) := by decide +kernel
theorem s56_1 (d : Nat) (l0 : Value) (l1 : Value) (i2 : Int32) (l3 : Value) (l4 : Value) (l5 : Value) (l6 : Value) (l7 : Value) (l8 : Value) (w0 : Value) (σ : Hs) : ru d 56 1 [l0, l1, .int i2, l3, l4, l5, l6, l7, l8] [w0] σ = ru d 56 2 [l0, l1, .int i2, l3, l4, l5, l6, l7, l8] [.int i2, w0] σ := q_iload_n t56_1 rfl
theorem t56_2 : decode (mb 56) 2 = .ok (.invokestatic 37, 3) := by decide +kernel
theorem s56_2 (d : Nat) (l0 : Value) (l1 : Value) (l2 : Value) (l3 : Value) (l4 : Value) (l5 : Value) (l6 : Value) (l7 : Value) (l8 : Value) (v0 v1 : Value) (σ : Hs) : ru d 56 2 [l0, l1, l2, l3, l4, l5, l6, l7, l8] [v1, v0] σ = kont (callD d 58 [v0, v1] σ) d 56 5 [l0, l1, l2, l3, l4, l5, l6, l7, l8] [] := q_invs t56_2 mo56 (by decide +kernel) K6_37 mj58 (Nat.le_of_ble_eq_true rfl) rfl rfl (Nat.le_of_ble_eq_true rfl)
theorem t56_5 : decode (mb 56) 5 = .ok (.istore 5, 2) := by decide +kernel
theorem s56_5 (d : Nat) (l0 : Value) (l1 : Value) (l2 : Value) (l3 : Value) (i4 : Int32) (l5 : Value) (l6 : Value) (l7 : Value) (l8 : Value) (x : Int32) (σ : Hs) : ru d 56 5 [l0, l1, l2, l3, .int i4, l5, l6, l7, l8] [.int x] σ = ru d 56 7 [l0, l1, l2, l3, .int i4, .int x, l6, l7, l8] [] σ := q_istore t56_5 ⟨Nat.le_of_ble_eq_true rfl, rfl⟩ rfl
theorem t56_7 : decode (mb 56) 7 = .ok (.aload_n 0, 1) := by decide +kernel
theorem s56_7 (d : Nat) (a0 : Nat) (l1 : Value) (l2 : Value) (l3 : Value) (l4 : Value) (l5 : Value) (l6 : Value) (l7 : Value) (l8 : Value) (σ : Hs) : ru d 56 7 [.ref a0, l1, l2, l3, l4, l5, l6, l7, l8] [] σ = ru d 56 8 [.ref a0, l1, l2, l3, l4, l5, l6, l7, l8] [.ref a0] σ := q_aload_n t56_7 rfl
theorem t56_8 : decode (mb 56) 8 = .ok (.getfield 20, 3) := by decide +kernel
theorem s56_8_o73 (d : Nat) (l0 : Value) (l1 : Value) (l2 : Value) (l3 : Value) (l4 : Value) (l5 : Value) (l6 : Value) (l7 : Value) (l8 : Value) (σ : Hs) : ru d 56 8 [l0, l1, l2, l3, l4, l5, l6, l7, l8] [.ref 73] σ = ru d 56 11 [l0, l1, l2, l3, l4, l5, l6, l7, l8] [.int (σ 73 1)] σ := q_getf t56_8 mo56 F6_20 rfl rfl
theorem t56_11 : decode (mb 56) 11 = .ok (.ifCond .ne 16, 3) := by decide +kernel
theorem s56_11 (d : Nat) (l0 : Value) (l1 : Value) (l2 : Value) (l3 : Value) (l4 : Value) (l5 : Value) (l6 : Value) (l7 : Value) (l8 : Value) (x : Int32) (σ : Hs) : ru d 56 11 [l0, l1, l2, l3, l4, l5, l6, l7, l8] [.int x] σ = if x = 0 then ru d 56 14 [l0, l1, l2, l3, l4, l5, l6, l7, l8] [] σ else ru d 56 27 [l0, l1, l2, l3, l4, l5, l6, l7, l8] [] σ := q_if_ne t56_11 (by decide +kernel)
theorem t56_14 : decode (mb 56) 14 = .ok (.iload 4, 2) := by decide +kernel
theorem s56_14 (d : Nat) (l0 : Value) (l1 : Value) (l2 : Value) (l3 : Value) (i4 : Int32) (l5 : Value) (l6 : Value) (l7 : Value) (l8 : Value) (σ : Hs) : ru d 56 14 [l0, l1, l2, l3, .int i4, l5, l6, l7, l8] [] σ = ru d 56 16 [l0, l1, l2, l3, .int i4, l5, l6, l7, l8] [.int i4] σ := q_iload t56_14 rfl
theorem t56_16 : decode (mb 56) 16 = .ok (.bipush 40, 2) := by decide +kernel
theorem s56_16 (d : Nat) (l0 : Value) (l1 : Value) (l2 : Value) (l3 : Value) (l4 : Value) (l5 : Value) (l6 : Value) (l7 : Value) (l8 : Value) (w0 : Value) (σ : Hs) : ru d 56 16 [l0, l1, l2, l3, l4, l5, l6, l7, l8] [w0] σ = ru d 56 18 [l0, l1, l2, l3, l4, l5, l6, l7, l8] [.int 40, w0] σ := q_bipush t56_16 (by decide +kernel)
theorem t56_18 : decode (mb 56) 18 = .ok (.if_icmp .gt 9, 3) := by decide +kernel
theorem s56_18 (d : Nat) (l0 : Value) (l1 : Value) (l2 : Value) (l3 : Value) (l4 : Value) (l5 : Value) (l6 : Value) (l7 : Value) (l8 : Value) (x y : Int32) (σ : Hs) : ru d 56 18 [l0, l1, l2, l3, l4, l5, l6, l7, l8] [.int y, .int x] σ = if y < x then ru d 56 27 [l0, l1, l2, l3, l4, l5, l6, l7, l8] [] σ else ru d 56 21 [l0, l1, l2, l3, l4, l5, l6, l7, l8] [] σ := q_ic_gt t56_18 (by decide +kernel)
theorem t56_21 : decode (mb 56) 21 = .ok (.iload 5, 2) := by decide +kernel
theorem s56_21 (d : Nat) (l0 : Value) (l1 : Value) (l2 : Value) (l3 : Value) (l4 : Value) (i5 : Int32) (l6 : Value) (l7 : Value) (l8 : Value) (σ : Hs) : ru d 56 21 [l0, l1, l2, l3, l4, .int i5, l6, l7, l8] [] σ = ru d 56 23 [l0, l1, l2, l3, l4, .int i5, l6, l7, l8] [.int i5] σ := q_iload t56_21 rfl
theorem t56_23 : decode (mb 56) 23 = .ok (.iconst (-1), 1) := by decide +kernel
theorem s56_23 (d : Nat) (l0 : Value) (l1 : Value) (l2 : Value) (l3 : Value) (l4 : Value) (l5 : Value) (l6 : Value) (l7 : Value) (l8 : Value) (w0 : Value) (σ : Hs) : ru d 56 23 [l0, l1, l2, l3, l4, l5, l6, l7, l8] [w0] σ = ru d 56 24 [l0, l1, l2, l3, l4, l5, l6, l7, l8] [.int (-1), w0] σ := q_iconst t56_23 (by decide +kernel)
theorem t56_24 : decode (mb 56) 24 = .ok (.if_icmp .ne 5, 3) := by decide +kernel
theorem s56_24 (d : Nat) (l0 : Value) (l1 : Value) (l2 : Value) (l3 : Value) (l4 : Value) (l5 : Value) (l6 : Value) (l7 : Value) (l8 : Value) (x y : Int32) (σ : Hs) : ru d 56 24 [l0, l1, l2, l3, l4, l5, l6, l7, l8] [.int y, .int x] σ = if x = y then ru d 56 27 [l0, l1, l2, l3, l4, l5, l6, l7, l8] [] σ else ru d 56 29 [l0, l1, l2, l3, l4, l5, l6, l7, l8] [] σ := q_ic_ne t56_24 (by decide +kernel)
theorem t56_27 : decode (mb 56) 27 = .ok (.iconst 0, 1) := by decide +kernel
theorem s56_27 (d : Nat) (l0 : Value) (l1 : Value) (l2 : Value) (l3 : Value) (l4 : Value) (l5 : Value) (l6 : Value) (l7 : Value) (l8 : Value) (σ : Hs) : ru d 56 27 [l0, l1, l2, l3, l4, l5, l6, l7, l8] [] σ = ru d 56 28 [l0, l1, l2, l3, l4, l5, l6, l7, l8] [.int 0] σ := q_iconst t56_27 (by decide +kernel)
theorem t56_28 : decode (mb 56) 28 = .ok (.ireturn, 1) := by decide +kernel
theorem s56_28 (d : Nat) (l0 : Value) (l1 : Value) (l2 : Value) (l3 : Value) (l4 : Value) (l5 : Value) (l6 : Value) (l7 : Value) (l8 : Value) (x : Int32) (σ : Hs) : ru d 56 28 [l0, l1, l2, l3, l4, l5, l6, l7, l8] [.int x] σ = some (some (.int x), σ) := q_ireti t56_28 mr56
theorem t56_29 : decode (mb 56) 29 = .ok (.getstatic 41, 3) := by decide +kernel
theorem s56_29 (d : Nat) (l0 : Value) (l1 : Value) (l2 : Value) (l3 : Value) (l4 : Value) (l5 : Value) (l6 : Value) (l7 : Value) (l8 : Value) (σ : Hs) : ru d 56 29 [l0, l1, l2, l3, l4, l5, l6, l7, l8] [] σ = ru d 56 32 [l0, l1, l2, l3, l4, l5, l6, l7, l8] [.ref 104] σ := q_gets t56_29 mo56 S6_41 rfl
theorem t56_32 : decode (mb 56) 32 = .ok (.iload 5, 2) := by decide +kernel
theorem s56_32 (d : Nat) (l0 : Value) (l1 : Value) (l2 : Value) (l3 : Value) (l4 : Value) (i5 : Int32) (l6 : Value) (l7 : Value) (l8 : Value) (w0 : Value) (σ : Hs) : ru d 56 32 [l0, l1, l2, l3, l4, .int i5, l6, l7, l8] [w0] σ = ru d 56 34 [l0, l1, l2, l3, l4, .int i5, l6, l7, l8] [.int i5, w0] σ := q_iload t56_32 rfl
theorem t56_34 : decode (mb 56) 34 = .ok (.iaload, 1) := by decide +kernel
theorem s56_34_o104 (d : Nat) (l0 : Value) (l1 : Value) (l2 : Value) (l3 : Value) (l4 : Value) (l5 : Value) (l6 : Value) (l7 : Value) (l8 : Value) (i : Int32) (σ : Hs) : ru d 56 34 [l0, l1, l2, l3, l4, l5, l6, l7, l8] [.int i, .ref 104] σ = gd (vp_in i 7) (ru d 56 35 [l0, l1, l2, l3, l4, l5, l6, l7, l8] [.int (([(-1), 0, 0, 1, 2, 0, 5] : List Int32).getD i.toNatClampNeg 0)] σ) := q_ials t56_34 rfl (by decide +kernel) rfl rfl
theorem t56_35 : decode (mb 56) 35 = .ok (.istore 6, 2) := by decide +kernel
theorem s56_35 (d : Nat) (l0 : Value) (l1 : Value) (l2 : Value) (l3 : Value) (l4 : Value) (i5 : Int32) (l6 : Value) (l7 : Value) (l8 : Value) (x : Int32) (σ : Hs) : ru d 56 35 [l0, l1, l2, l3, l4, .int i5, l6, l7, l8] [.int x] σ = ru d 56 37 [l0, l1, l2, l3, l4, .int i5, .int x, l7, l8] [] σ := q_istore t56_35 ⟨Nat.le_of_ble_eq_true rfl, rfl⟩ rfl
theorem t56_37 : decode (mb 56) 37 = .ok (.iload 4, 2) := by decide +kernel
theorem s56_37 (d : Nat) (l0 : Value) (l1 : Value) (l2 : Value) (l3 : Value) (i4 : Int32) (l5 : Value) (l6 : Value) (l7 : Value) (l8 : Value) (σ : Hs) : ru d 56 37 [l0, l1, l2, l3, .int i4, l5, l6, l7, l8] [] σ = ru d 56 39 [l0, l1, l2, l3, .int i4, l5, l6, l7, l8] [.int i4] σ := q_iload t56_37 rfl
theorem t56_39 : decode (mb 56) 39 = .ok (.iconst 1, 1) := by decide +kernel
theorem s56_39 (d : Nat) (l0 : Value) (l1 : Value) (l2 : Value) (l3 : Value) (l4 : Value) (l5 : Value) (l6 : Value) (l7 : Value) (l8 : Value) (w0 : Value) (σ : Hs) : ru d 56 39 [l0, l1, l2, l3, l4, l5, l6, l7, l8] [w0] σ = ru d 56 40 [l0, l1, l2, l3, l4, l5, l6, l7, l8] [.int 1, w0] σ := q_iconst t56_39 (by decide +kernel)
theorem t56_40 : decode (mb 56) 40 = .ok (.iadd, 1) := by decide +kernel
theorem s56_40 (d : Nat) (l0 : Value) (l1 : Value) (l2 : Value) (l3 : Value) (l4 : Value) (l5 : Value) (l6 : Value) (l7 : Value) (l8 : Value) (x y : Int32) (σ : Hs) : ru d 56 40 [l0, l1, l2, l3, l4, l5, l6, l7, l8] [.int y, .int x] σ = ru d 56 41 [l0, l1, l2, l3, l4, l5, l6, l7, l8] [.int (x + y)] σ := q_iadd t56_40
theorem t56_41 : decode (mb 56) 41 = .ok (.istore 7, 2) := by decide +kernel
theorem s56_41 (d : Nat) (l0 : Value) (l1 : Value) (l2 : Value) (l3 : Value) (l4 : Value) (l5 : Value) (i6 : Int32) (l7 : Value) (l8 : Value) (x : Int32) (σ : Hs) : ru d 56 41 [l0, l1, l2, l3, l4, l5, .int i6, l7, l8] [.int x] σ = ru d 56 43 [l0, l1, l2, l3, l4, l5, .int i6, .int x, l8] [] σ := q_istore t56_41 ⟨Nat.le_of_ble_eq_true rfl, rfl⟩ rfl
theorem t56_43 : decode (mb 56) 43 = .ok (.getstatic 45, 3) := by decide +kernel
theorem s56_43 (d : Nat) (l0 : Value) (l1 : Value) (l2 : Value) (l3 : Value) (l4 : Value) (l5 : Value) (l6 : Value) (l7 : Value) (l8 : Value) (σ : Hs) : ru d 56 43 [l0, l1, l2, l3, l4, l5, l6, l7, l8] [] σ = ru d 56 46 [l0, l1, l2, l3, l4, l5, l6, l7, l8] [.ref 108] σ := q_gets t56_43 mo56 S6_45 rfl
theorem t56_46 : decode (mb 56) 46 = .ok (.iconst 4, 1) := by decide +kernel
theorem s56_46 (d : Nat) (l0 : Value) (l1 : Value) (l2 : Value) (l3 : Value) (l4 : Value) (l5 : Value) (l6 : Value) (l7 : Value) (l8 : Value) (w0 : Value) (σ : Hs) : ru d 56 46 [l0, l1, l2, l3, l4, l5, l6, l7, l8] [w0] σ = ru d 56 47 [l0, l1, l2, l3, l4, l5, l6, l7, l8] [.int 4, w0] σ := q_iconst t56_46 (by decide +kernel)
theorem t56_47 : decode (mb 56) 47 = .ok (.iload 5, 2) := by decide +kernel
theorem s56_47 (d : Nat) (l0 : Value) (l1 : Value) (l2 : Value) (l3 : Value) (l4 : Value) (i5 : Int32) (l6 : Value) (l7 : Value) (l8 : Value) (w0 w1 : Value) (σ : Hs) : ru d 56 47 [l0, l1, l2, l3, l4, .int i5, l6, l7, l8] [w0, w1] σ = ru d 56 49 [l0, l1, l2, l3, l4, .int i5, l6, l7, l8] [.int i5, w0, w1] σ := q_iload t56_47 rfl
theorem t56_49 : decode (mb 56) 49 = .ok (.imul, 1) := by decide +kernel
theorem s56_49 (d : Nat) (l0 : Value) (l1 : Value) (l2 : Value) (l3 : Value) (l4 : Value) (l5 : Value) (l6 : Value) (l7 : Value) (l8 : Value) (x y : Int32) (w0 : Value) (σ : Hs) : ru d 56 49 [l0, l1, l2, l3, l4, l5, l6, l7, l8] [.int y, .int x, w0] σ = ru d 56 50 [l0, l1, l2, l3, l4, l5, l6, l7, l8] [.int (x * y), w0] σ := q_imul t56_49
theorem t56_50 : decode (mb 56) 50 = .ok (.iload_n 2, 1) := by decide +kernel
theorem s56_50 (d : Nat) (l0 : Value) (l1 : Value) (i2 : Int32) (l3 : Value) (l4 : Value) (l5 : Value) (l6 : Value) (l7 : Value) (l8 : Value) (w0 w1 : Value) (σ : Hs) : ru d 56 50 [l0, l1, .int i2, l3, l4, l5, l6, l7, l8] [w0, w1] σ = ru d 56 51 [l0, l1, .int i2, l3, l4, l5, l6, l7, l8] [.int i2, w0, w1] σ := q_iload_n t56_50 rfl
theorem t56_51 : decode (mb 56) 51 = .ok (.iadd, 1) := by decide +kernel
theorem s56_51 (d : Nat) (l0 : Value) (l1 : Value) (l2 : Value) (l3 : Value) (l4 : Value) (l5 : Value) (l6 : Value) (l7 : Value) (l8 : Value) (x y : Int32) (w0 : Value) (σ : Hs) : ru d 56 51 [l0, l1, l2, l3, l4, l5, l6, l7, l8] [.int y, .int x, w0] σ = ru d 56 52 [l0, l1, l2, l3, l4, l5, l6, l7, l8] [.int (x + y), w0] σ := q_iadd t56_51
theorem t56_52 : decode (mb 56) 52 = .ok (.iaload, 1) := by decide +kernel
theorem s56_52_o108 (d : Nat) (l0 : Value) (l1 : Value) (l2 : Value) (l3 : Value) (l4 : Value) (l5 : Value) (l6 : Value) (l7 : Value) (l8 : Value) (i : Int32) (σ : Hs) : ru d 56 52 [l0, l1, l2, l3, l4, l5, l6, l7, l8] [.int i, .ref 108] σ = gd (vp_in i 28) (ru d 56 53 [l0, l1, l2, l3, l4, l5, l6, l7, l8] [.int (([10, 11, 12, 13, 20, 0, 0, 21, 0, 0, 30, 0, 40, 41, 0, 0, 0, 0, 50, 51, 0, 60, 0, 0, 70, 0, 71, 0] : List Int32).getD i.toNatClampNeg 0)] σ) := q_ials t56_52 rfl (by decide +kernel) rfl rfl
theorem t56_53 : decode (mb 56) 53 = .ok (.istore 8, 2) := by decide +kernel
theorem s56_53 (d : Nat) (l0 : Value) (l1 : Value) (l2 : Value) (l3 : Value) (l4 : Value) (l5 : Value) (l6 : Value) (i7 : Int32) (l8 : Value) (x : Int32) (σ : Hs) : ru d 56 53 [l0, l1, l2, l3, l4, l5, l6, .int i7, l8] [.int x] σ = ru d 56 55 [l0, l1, l2, l3, l4, l5, l6, .int i7, .int x] [] σ := q_istore t56_53 ⟨Nat.le_of_ble_eq_true rfl, rfl⟩ rfl
theorem t56_55 : decode (mb 56) 55 = .ok (.aload_n 0, 1) := by decide +kernel
theorem s56_55 (d : Nat) (a0 : Nat) (l1 : Value) (l2 : Value) (l3 : Value) (l4 : Value) (l5 : Value) (l6 : Value) (l7 : Value) (l8 : Value) (σ : Hs) : ru d 56 55 [.ref a0, l1, l2, l3, l4, l5, l6, l7, l8] [] σ = ru d 56 56 [.ref a0, l1, l2, l3, l4, l5, l6, l7, l8] [.ref a0] σ := q_aload_n t56_55 rfl
theorem t56_56 : decode (mb 56) 56 = .ok (.getfield 14, 3) := by decide +kernel
theorem s56_56_o73 (d : Nat) (l0 : Value) (l1 : Value) (l2 : Value) (l3 : Value) (l4 : Value) (l5 : Value) (l6 : Value) (l7 : Value) (l8 : Value) (σ : Hs) : ru d 56 56 [l0, l1, l2, l3, l4, l5, l6, l7, l8] [.ref 73] σ = ru d 56 59 [l0, l1, l2, l3, l4, l5, l6, l7, l8] [.ref 74] σ := q_getf t56_56 mo56 F6_14 rfl rfl
theorem t56_59 : decode (mb 56) 59 = .ok (.iload 8, 2) := by decide +kernel
theorem s56_59 (d : Nat) (l0 : Value) (l1 : Value) (l2 : Value) (l3 : Value) (l4 : Value) (l5 : Value) (l6 : Value) (l7 : Value) (i8 : Int32) (w0 : Value) (σ : Hs) : ru d 56 59 [l0, l1, l2, l3, l4, l5, l6, l7, .int i8] [w0] σ = ru d 56 61 [l0, l1, l2, l3, l4, l5, l6, l7, .int i8] [.int i8, w0] σ := q_iload t56_59 rfl
theorem t56_61 : decode (mb 56) 61 = .ok (.invokevirtual 48, 3) := by decide +kernel
theorem s56_61_o74 (d : Nat) (l0 : Value) (l1 : Value) (l2 : Value) (l3 : Value) (l4 : Value) (l5 : Value) (l6 : Value) (l7 : Value) (l8 : Value) (v1 : Value) (σ : Hs) : ru d 56 61 [l0, l1, l2, l3, l4, l5, l6, l7, l8] [v1, .ref 74] σ = kont (callD d 45 [.ref 74, v1] σ) d 56 64 [l0, l1, l2, l3, l4, l5, l6, l7, l8] [] := q_invv t56_61 mo56 K6_48 mj45 rfl rfl rfl rfl (Nat.le_of_ble_eq_true rfl)
theorem t56_64 : decode (mb 56) 64 = .ok (.pop, 1) := by decide +kernel
theorem s56_64 (d : Nat) (l0 : Value) (l1 : Value) (l2 : Value) (l3 : Value) (l4 : Value) (l5 : Value) (l6 : Value) (l7 : Value) (l8 : Value) (x : Int32) (σ : Hs) : ru d 56 64 [l0, l1, l2, l3, l4, l5, l6, l7, l8] [.int x] σ = ru d 56 65 [l0, l1, l2, l3, l4, l5, l6, l7, l8] [] σ := q_pop t56_64 rfl
theorem t56_65 : decode (mb 56) 65 = .ok (.iload 8, 2) := by decide +kernel
theorem s56_65 (d : Nat) (l0 : Value) (l1 : Value) (l2 : Value) (l3 : Value) (l4 : Value) (l5 : Value) (l6 : Value) (l7 : Value) (i8 : Int32) (σ : Hs) : ru d 56 65 [l0, l1, l2, l3, l4, l5, l6, l7, .int i8] [] σ = ru d 56 67 [l0, l1, l2, l3, l4, l5, l6, l7, .int i8] [.int i8] σ := q_iload t56_65 rfl
theorem t56_67 : decode (mb 56) 67 = .ok (.lookupswitch 294 #[(10, 113), (11, 120), (12, 135), (13, 153), (20, 159), (21, 173), (30, 197), (40, 213), (41, 226), (50, 239), (51, 252), (60, 276), (70, 292)], 113) := by decide +kernel
theorem f56_67 (x : Int32) : tgt 67 (Op.lookupswitch.offset (#[(10, 113), (11, 120), (12, 135), (13, 153), (20, 159), (21, 173), (30, 197), (40, 213), (41, 226), (50, 239), (51, 252), (60, 276), (70, 292)] : Array (Int × Int)).toList 294 x.toInt) = some (if x = 10 then 180 else (if x = 11 then 187 else (if x = 12 then 202 else (if x = 13 then 220 else (if x = 20 then 226 else (if x = 21 then 240 else (if x = 30 then 264 else (if x = 40 then 280 else (if x = 41 then 293 else (if x = 50 then 306 else (if x = 51 then 319 else (if x = 60 then 343 else (if x = 70 then 359 else 361))))))))))))) := by
  by_cases h0 : x = 10
  · subst h0; decide +kernel
  by_cases h1 : x = 11
  · subst h1; decide +kernel
  by_cases h2 : x = 12
  · subst h2; decide +kernel
  by_cases h3 : x = 13
  · subst h3; decide +kernel
  by_cases h4 : x = 20
  · subst h4; decide +kernel
  by_cases h5 : x = 21
  · subst h5; decide +kernel
  by_cases h6 : x = 30
  · subst h6; decide +kernel
  by_cases h7 : x = 40
  · subst h7; decide +kernel
  by_cases h8 : x = 41
  · subst h8; decide +kernel
  by_cases h9 : x = 50
  · subst h9; decide +kernel
  by_cases h10 : x = 51
  · subst h10; decide +kernel
  by_cases h11 : x = 60
  · subst h11; decide +kernel
  by_cases h12 : x = 70
  · subst h12; decide +kernel
  have e0 : ¬ x.toInt = 10 := fun h => h0 (Int32.toInt_inj.mp (h.trans (by decide +kernel)))
  have e1 : ¬ x.toInt = 11 := fun h => h1 (Int32.toInt_inj.mp (h.trans (by decide +kernel)))
  have e2 : ¬ x.toInt = 12 := fun h => h2 (Int32.toInt_inj.mp (h.trans (by decide +kernel)))
  have e3 : ¬ x.toInt = 13 := fun h => h3 (Int32.toInt_inj.mp (h.trans (by decide +kernel)))
  have e4 : ¬ x.toInt = 20 := fun h => h4 (Int32.toInt_inj.mp (h.trans (by decide +kernel)))
  have e5 : ¬ x.toInt = 21 := fun h => h5 (Int32.toInt_inj.mp (h.trans (by decide +kernel)))
  have e6 : ¬ x.toInt = 30 := fun h => h6 (Int32.toInt_inj.mp (h.trans (by decide +kernel)))
  have e7 : ¬ x.toInt = 40 := fun h => h7 (Int32.toInt_inj.mp (h.trans (by decide +kernel)))
  have e8 : ¬ x.toInt = 41 := fun h => h8 (Int32.toInt_inj.mp (h.trans (by decide +kernel)))
  have e9 : ¬ x.toInt = 50 := fun h => h9 (Int32.toInt_inj.mp (h.trans (by decide +kernel)))
  have e10 : ¬ x.toInt = 51 := fun h => h10 (Int32.toInt_inj.mp (h.trans (by decide +kernel)))
  have e11 : ¬ x.toInt = 60 := fun h => h11 (Int32.toInt_inj.mp (h.trans (by decide +kernel)))
  have e12 : ¬ x.toInt = 70 := fun h => h12 (Int32.toInt_inj.mp (h.trans (by decide +kernel)))
  have g0 : ¬ (10 : Int) = x.toInt := fun h => e0 h.symm
  have g1 : ¬ (11 : Int) = x.toInt := fun h => e1 h.symm
  have g2 : ¬ (12 : Int) = x.toInt := fun h => e2 h.symm
  have g3 : ¬ (13 : Int) = x.toInt := fun h => e3 h.symm
  have g4 : ¬ (20 : Int) = x.toInt := fun h => e4 h.symm
  have g5 : ¬ (21 : Int) = x.toInt := fun h => e5 h.symm
  have g6 : ¬ (30 : Int) = x.toInt := fun h => e6 h.symm
  have g7 : ¬ (40 : Int) = x.toInt := fun h => e7 h.symm
  have g8 : ¬ (41 : Int) = x.toInt := fun h => e8 h.symm
  have g9 : ¬ (50 : Int) = x.toInt := fun h => e9 h.symm
  have g10 : ¬ (51 : Int) = x.toInt := fun h => e10 h.symm
  have g11 : ¬ (60 : Int) = x.toInt := fun h => e11 h.symm
  have g12 : ¬ (70 : Int) = x.toInt := fun h => e12 h.symm
  simp only [Op.lookupswitch.offset_cons, Op.lookupswitch.offset_nil, if_neg g0, if_neg h0, if_neg g1, if_neg h1, if_neg g2, if_neg h2, if_neg g3, if_neg h3, if_neg g4, if_neg h4, if_neg g5, if_neg h5, if_neg g6, if_neg h6, if_neg g7, if_neg h7, if_neg g8, if_neg h8, if_neg g9, if_neg h9, if_neg g10, if_neg h10, if_neg g11, if_neg h11, if_neg g12, if_neg h12]
  decide +kernel
theorem s56_67 (d : Nat) (l0 : Value) (l1 : Value) (l2 : Value) (l3 : Value) (l4 : Value) (l5 : Value) (l6 : Value) (l7 : Value) (l8 : Value) (x : Int32) (σ : Hs) : ru d 56 67 [l0, l1, l2, l3, l4, l5, l6, l7, l8] [.int x] σ = if x = 10 then ru d 56 180 [l0, l1, l2, l3, l4, l5, l6, l7, l8] [] σ else if x = 11 then ru d 56 187 [l0, l1, l2, l3, l4, l5, l6, l7, l8] [] σ else if x = 12 then ru d 56 202 [l0, l1, l2, l3, l4, l5, l6, l7, l8] [] σ else if x = 13 then ru d 56 220 [l0, l1, l2, l3, l4, l5, l6, l7, l8] [] σ else if x = 20 then ru d 56 226 [l0, l1, l2, l3, l4, l5, l6, l7, l8] [] σ else if x = 21 then ru d 56 240 [l0, l1, l2, l3, l4, l5, l6, l7, l8] [] σ else if x = 30 then ru d 56 264 [l0, l1, l2, l3, l4, l5, l6, l7, l8] [] σ else if x = 40 then ru d 56 280 [l0, l1, l2, l3, l4, l5, l6, l7, l8] [] σ else if x = 41 then ru d 56 293 [l0, l1, l2, l3, l4, l5, l6, l7, l8] [] σ else if x = 50 then ru d 56 306 [l0, l1, l2, l3, l4, l5, l6, l7, l8] [] σ else if x = 51 then ru d 56 319 [l0, l1, l2, l3, l4, l5, l6, l7, l8] [] σ else if x = 60 then ru d 56 343 [l0, l1, l2, l3, l4, l5, l6, l7, l8] [] σ else if x = 70 then ru d 56 359 [l0, l1, l2, l3, l4, l5, l6, l7, l8] [] σ else ru d 56 361 [l0, l1, l2, l3, l4, l5, l6, l7, l8] [] σ := by
  refine (q_lsw t56_67 (by decide +kernel) (fun x => (if x = 10 then 180 else (if x = 11 then 187 else (if x = 12 then 202 else (if x = 13 then 220 else (if x = 20 then 226 else (if x = 21 then 240 else (if x = 30 then 264 else (if x = 40 then 280 else (if x = 41 then 293 else (if x = 50 then 306 else (if x = 51 then 319 else (if x = 60 then 343 else (if x = 70 then 359 else 361)))))))))))))) (f56_67 x)).trans ?_
  by_cases h0 : x = 10
  · rw [if_pos h0, if_pos h0]
  rw [if_neg h0, if_neg h0]
  by_cases h1 : x = 11
  · rw [if_pos h1, if_pos h1]
  rw [if_neg h1, if_neg h1]
  by_cases h2 : x = 12
  · rw [if_pos h2, if_pos h2]
  rw [if_neg h2, if_neg h2]
  by_cases h3 : x = 13
  · rw [if_pos h3, if_pos h3]
  rw [if_neg h3, if_neg h3]
  by_cases h4 : x = 20
  · rw [if_pos h4, if_pos h4]
  rw [if_neg h4, if_neg h4]
  by_cases h5 : x = 21
  · rw [if_pos h5, if_pos h5]
  rw [if_neg h5, if_neg h5]
  by_cases h6 : x = 30
  · rw [if_pos h6, if_pos h6]
  rw [if_neg h6, if_neg h6]
  by_cases h7 : x = 40
  · rw [if_pos h7, if_pos h7]
  rw [if_neg h7, if_neg h7]
  by_cases h8 : x = 41
  · rw [if_pos h8, if_pos h8]
  rw [if_neg h8, if_neg h8]
  by_cases h9 : x = 50
  · rw [if_pos h9, if_pos h9]
  rw [if_neg h9, if_neg h9]
  by_cases h10 : x = 51
  · rw [if_pos h10, if_pos h10]
  rw [if_neg h10, if_neg h10]
  by_cases h11 : x = 60
  · rw [if_pos h11, if_pos h11]
  rw [if_neg h11, if_neg h11]
  by_cases h12 : x = 70
  · rw [if_pos h12, if_pos h12]
  rw [if_neg h12, if_neg h12]
theorem t56_180 : decode (mb 56) 180 = .ok (.iload_n 3, 1) := by decide +kernel
theorem s56_180 (d : Nat) (l0 : Value) (l1 : Value) (l2 : Value) (i3 : Int32) (l4 : Value) (l5 : Value) (l6 : Value) (l7 : Value) (l8 : Value) (σ : Hs) : ru d 56 180 [l0, l1, l2, .int i3, l4, l5, l6, l7, l8] [] σ = ru d 56 181 [l0, l1, l2, .int i3, l4, l5, l6, l7, l8] [.int i3] σ := q_iload_n t56_180 rfl
theorem t56_181 : decode (mb 56) 181 = .ok (.aload_n 0, 1) := by decide +kernel
theorem s56_181 (d : Nat) (a0 : Nat) (l1 : Value) (l2 : Value) (l3 : Value) (l4 : Value) (l5 : Value) (l6 : Value) (l7 : Value) (l8 : Value) (w0 : Value) (σ : Hs) : ru d 56 181 [.ref a0, l1, l2, l3, l4, l5, l6, l7, l8] [w0] σ = ru d 56 182 [.ref a0, l1, l2, l3, l4, l5, l6, l7, l8] [.ref a0, w0] σ := q_aload_n t56_181 rfl
theorem t56_182 : decode (mb 56) 182 = .ok (.getfield 31, 3) := by decide +kernel
theorem s56_182_o73 (d : Nat) (l0 : Value) (l1 : Value) (l2 : Value) (l3 : Value) (l4 : Value) (l5 : Value) (l6 : Value) (l7 : Value) (l8 : Value) (w0 : Value) (σ : Hs) : ru d 56 182 [l0, l1, l2, l3, l4, l5, l6, l7, l8] [.ref 73, w0] σ = ru d 56 185 [l0, l1, l2, l3, l4, l5, l6, l7, l8] [.int (σ 73 4), w0] σ := q_getf t56_182 mo56 F6_31 rfl rfl
theorem t56_185 : decode (mb 56) 185 = .ok (.iadd, 1) := by decide +kernel
theorem s56_185 (d : Nat) (l0 : Value) (l1 : Value) (l2 : Value) (l3 : Value) (l4 : Value) (l5 : Value) (l6 : Value) (l7 : Value) (l8 : Value) (x y : Int32) (σ : Hs) : ru d 56 185 [l0, l1, l2, l3, l4, l5, l6, l7, l8] [.int y, .int x] σ = ru d 56 186 [l0, l1, l2, l3, l4, l5, l6, l7, l8] [.int (x + y)] σ := q_iadd t56_185
theorem t56_186 : decode (mb 56) 186 = .ok (.ireturn, 1) := by decide +kernel
theorem s56_186 (d : Nat) (l0 : Value) (l1 : Value) (l2 : Value) (l3 : Value) (l4 : Value) (l5 : Value) (l6 : Value) (l7 : Value) (l8 : Value) (x : Int32) (σ : Hs) : ru d 56 186 [l0, l1, l2, l3, l4, l5, l6, l7, l8] [.int x] σ = some (some (.int x), σ) := q_ireti t56_186 mr56
theorem t56_187 : decode (mb 56) 187 = .ok (.aload_n 0, 1) := by decide +kernel
theorem s56_187 (d : Nat) (a0 : Nat) (l1 : Value) (l2 : Value) (l3 : Value) (l4 : Value) (l5 : Value) (l6 : Value) (l7 : Value) (l8 : Value) (σ : Hs) : ru d 56 187 [.ref a0, l1, l2, l3, l4, l5, l6, l7, l8] [] σ = ru d 56 188 [.ref a0, l1, l2, l3, l4, l5, l6, l7, l8] [.ref a0] σ := q_aload_n t56_187 rfl
theorem t56_188 : decode (mb 56) 188 = .ok (.aload_n 0, 1) := by decide +kernel
theorem s56_188 (d : Nat) (a0 : Nat) (l1 : Value) (l2 : Value) (l3 : Value) (l4 : Value) (l5 : Value) (l6 : Value) (l7 : Value) (l8 : Value) (w0 : Value) (σ : Hs) : ru d 56 188 [.ref a0, l1, l2, l3, l4, l5, l6, l7, l8] [w0] σ = ru d 56 189 [.ref a0, l1, l2, l3, l4, l5, l6, l7, l8] [.ref a0, w0] σ := q_aload_n t56_188 rfl
theorem t56_189 : decode (mb 56) 189 = .ok (.getfield 24, 3) := by decide +kernel
theorem s56_189_o73 (d : Nat) (l0 : Value) (l1 : Value) (l2 : Value) (l3 : Value) (l4 : Value) (l5 : Value) (l6 : Value) (l7 : Value) (l8 : Value) (w0 : Value) (σ : Hs) : ru d 56 189 [l0, l1, l2, l3, l4, l5, l6, l7, l8] [.ref 73, w0] σ = ru d 56 192 [l0, l1, l2, l3, l4, l5, l6, l7, l8] [.int (σ 73 2), w0] σ := q_getf t56_189 mo56 F6_24 rfl rfl
theorem t56_192 : decode (mb 56) 192 = .ok (.iconst 0, 1) := by decide +kernel
theorem s56_192 (d : Nat) (l0 : Value) (l1 : Value) (l2 : Value) (l3 : Value) (l4 : Value) (l5 : Value) (l6 : Value) (l7 : Value) (l8 : Value) (w0 w1 : Value) (σ : Hs) : ru d 56 192 [l0, l1, l2, l3, l4, l5, l6, l7, l8] [w0, w1] σ = ru d 56 193 [l0, l1, l2, l3, l4, l5, l6, l7, l8] [.int 0, w0, w1] σ := q_iconst t56_192 (by decide +kernel)
theorem t56_193 : decode (mb 56) 193 = .ok (.iload_n 3, 1) := by decide +kernel
theorem s56_193 (d : Nat) (l0 : Value) (l1 : Value) (l2 : Value) (i3 : Int32) (l4 : Value) (l5 : Value) (l6 : Value) (l7 : Value) (l8 : Value) (w0 w1 w2 : Value) (σ : Hs) : ru d 56 193 [l0, l1, l2, .int i3, l4, l5, l6, l7, l8] [w0, w1, w2] σ = ru d 56 194 [l0, l1, l2, .int i3, l4, l5, l6, l7, l8] [.int i3, w0, w1, w2] σ := q_iload_n t56_193 rfl
theorem t56_194 : decode (mb 56) 194 = .ok (.iload 7, 2) := by decide +kernel
theorem s56_194 (d : Nat) (l0 : Value) (l1 : Value) (l2 : Value) (l3 : Value) (l4 : Value) (l5 : Value) (l6 : Value) (i7 : Int32) (l8 : Value) (w0 w1 w2 w3 : Value) (σ : Hs) : ru d 56 194 [l0, l1, l2, l3, l4, l5, l6, .int i7, l8] [w0, w1, w2, w3] σ = ru d 56 196 [l0, l1, l2, l3, l4, l5, l6, .int i7, l8] [.int i7, w0, w1, w2, w3] σ := q_iload t56_194 rfl
theorem t56_196 : decode (mb 56) 196 = .ok (.invokevirtual 52, 3) := by decide +kernel
theorem s56_196_o73 (d : Nat) (l0 : Value) (l1 : Value) (l2 : Value) (l3 : Value) (l4 : Value) (l5 : Value) (l6 : Value) (l7 : Value) (l8 : Value) (v1 v2 v3 v4 : Value) (σ : Hs) : ru d 56 196 [l0, l1, l2, l3, l4, l5, l6, l7, l8] [v4, v3, v2, v1, .ref 73] σ = kont (callD d 56 [.ref 73, v1, v2, v3, v4] σ) d 56 199 [l0, l1, l2, l3, l4, l5, l6, l7, l8] [] := q_invv t56_196 mo56 K6_52 mj56 rfl rfl rfl rfl (Nat.le_of_ble_eq_true rfl)
theorem t56_199 : decode (mb 56) 199 = .ok (.iconst 2, 1) := by decide +kernel
theorem s56_199 (d : Nat) (l0 : Value) (l1 : Value) (l2 : Value) (l3 : Value) (l4 : Value) (l5 : Value) (l6 : Value) (l7 : Value) (l8 : Value) (w0 : Value) (σ : Hs) : ru d 56 199 [l0, l1, l2, l3, l4, l5, l6, l7, l8] [w0] σ = ru d 56 200 [l0, l1, l2, l3, l4, l5, l6, l7, l8] [.int 2, w0] σ := q_iconst t56_199 (by decide +kernel)
theorem t56_200 : decode (mb 56) 200 = .ok (.imul, 1) := by decide +kernel
theorem s56_200 (d : Nat) (l0 : Value) (l1 : Value) (l2 : Value) (l3 : Value) (l4 : Value) (l5 : Value) (l6 : Value) (l7 : Value) (l8 : Value) (x y : Int32) (σ : Hs) : ru d 56 200 [l0, l1, l2, l3, l4, l5, l6, l7, l8] [.int y, .int x] σ = ru d 56 201 [l0, l1, l2, l3, l4, l5, l6, l7, l8] [.int (x * y)] σ := q_imul t56_200
theorem t56_201 : decode (mb 56) 201 = .ok (.ireturn, 1) := by decide +kernel
theorem s56_201 (d : Nat) (l0 : Value) (l1 : Value) (l2 : Value) (l3 : Value) (l4 : Value) (l5 : Value) (l6 : Value) (l7 : Value) (l8 : Value) (x : Int32) (σ : Hs) : ru d 56 201 [l0, l1, l2, l3, l4, l5, l6, l7, l8] [.int x] σ = some (some (.int x), σ) := q_ireti t56_201 mr56
theorem t56_202 : decode (mb 56) 202 = .ok (.aload_n 0, 1) := by decide +kernel
theorem s56_202 (d : Nat) (a0 : Nat) (l1 : Value) (l2 : Value) (l3 : Value) (l4 : Value) (l5 : Value) (l6 : Value) (l7 : Value) (l8 : Value) (σ : Hs) : ru d 56 202 [.ref a0, l1, l2, l3, l4, l5, l6, l7, l8] [] σ = ru d 56 203 [.ref a0, l1, l2, l3, l4, l5, l6, l7, l8] [.ref a0] σ := q_aload_n t56_202 rfl
theorem t56_203 : decode (mb 56) 203 = .ok (.aload_n 0, 1) := by decide +kernel
theorem s56_203 (d : Nat) (a0 : Nat) (l1 : Value) (l2 : Value) (l3 : Value) (l4 : Value) (l5 : Value) (l6 : Value) (l7 : Value) (l8 : Value) (w0 : Value) (σ : Hs) : ru d 56 203 [.ref a0, l1, l2, l3, l4, l5, l6, l7, l8] [w0] σ = ru d 56 204 [.ref a0, l1, l2, l3, l4, l5, l6, l7, l8] [.ref a0, w0] σ := q_aload_n t56_203 rfl
theorem t56_204 : decode (mb 56) 204 = .ok (.getfield 24, 3) := by decide +kernel
theorem s56_204_o73 (d : Nat) (l0 : Value) (l1 : Value) (l2 : Value) (l3 : Value) (l4 : Value) (l5 : Value) (l6 : Value) (l7 : Value) (l8 : Value) (w0 : Value) (σ : Hs) : ru d 56 204 [l0, l1, l2, l3, l4, l5, l6, l7, l8] [.ref 73, w0] σ = ru d 56 207 [l0, l1, l2, l3, l4, l5, l6, l7, l8] [.int (σ 73 2), w0] σ := q_getf t56_204 mo56 F6_24 rfl rfl
theorem t56_207 : decode (mb 56) 207 = .ok (.iconst 1, 1) := by decide +kernel
theorem s56_207 (d : Nat) (l0 : Value) (l1 : Value) (l2 : Value) (l3 : Value) (l4 : Value) (l5 : Value) (l6 : Value) (l7 : Value) (l8 : Value) (w0 w1 : Value) (σ : Hs) : ru d 56 207 [l0, l1, l2, l3, l4, l5, l6, l7, l8] [w0, w1] σ = ru d 56 208 [l0, l1, l2, l3, l4, l5, l6, l7, l8] [.int 1, w0, w1] σ := q_iconst t56_207 (by decide +kernel)
theorem t56_208 : decode (mb 56) 208 = .ok (.iload_n 3, 1) := by decide +kernel
theorem s56_208 (d : Nat) (l0 : Value) (l1 : Value) (l2 : Value) (i3 : Int32) (l4 : Value) (l5 : Value) (l6 : Value) (l7 : Value) (l8 : Value) (w0 w1 w2 : Value) (σ : Hs) : ru d 56 208 [l0, l1, l2, .int i3, l4, l5, l6, l7, l8] [w0, w1, w2] σ = ru d 56 209 [l0, l1, l2, .int i3, l4, l5, l6, l7, l8] [.int i3, w0, w1, w2] σ := q_iload_n t56_208 rfl
theorem t56_209 : decode (mb 56) 209 = .ok (.iload 7, 2) := by decide +kernel
theorem s56_209 (d : Nat) (l0 : Value) (l1 : Value) (l2 : Value) (l3 : Value) (l4 : Value) (l5 : Value) (l6 : Value) (i7 : Int32) (l8 : Value) (w0 w1 w2 w3 : Value) (σ : Hs) : ru d 56 209 [l0, l1, l2, l3, l4, l5, l6, .int i7, l8] [w0, w1, w2, w3] σ = ru d 56 211 [l0, l1, l2, l3, l4, l5, l6, .int i7, l8] [.int i7, w0, w1, w2, w3] σ := q_iload t56_209 rfl
theorem t56_211 : decode (mb 56) 211 = .ok (.invokevirtual 52, 3) := by decide +kernel
theorem s56_211_o73 (d : Nat) (l0 : Value) (l1 : Value) (l2 : Value) (l3 : Value) (l4 : Value) (l5 : Value) (l6 : Value) (l7 : Value) (l8 : Value) (v1 v2 v3 v4 : Value) (σ : Hs) : ru d 56 211 [l0, l1, l2, l3, l4, l5, l6, l7, l8] [v4, v3, v2, v1, .ref 73] σ = kont (callD d 56 [.ref 73, v1, v2, v3, v4] σ) d 56 214 [l0, l1, l2, l3, l4, l5, l6, l7, l8] [] := q_invv t56_211 mo56 K6_52 mj56 rfl rfl rfl rfl (Nat.le_of_ble_eq_true rfl)
theorem t56_214 : decode (mb 56) 214 = .ok (.aload_n 0, 1) := by decide +kernel
theorem s56_214 (d : Nat) (a0 : Nat) (l1 : Value) (l2 : Value) (l3 : Value) (l4 : Value) (l5 : Value) (l6 : Value) (l7 : Value) (l8 : Value) (w0 : Value) (σ : Hs) : ru d 56 214 [.ref a0, l1, l2, l3, l4, l5, l6, l7, l8] [w0] σ = ru d 56 215 [.ref a0, l1, l2, l3, l4, l5, l6, l7, l8] [.ref a0, w0] σ := q_aload_n t56_214 rfl
theorem t56_215 : decode (mb 56) 215 = .ok (.getfield 28, 3) := by decide +kernel
theorem s56_215_o73 (d : Nat) (l0 : Value) (l1 : Value) (l2 : Value) (l3 : Value) (l4 : Value) (l5 : Value) (l6 : Value) (l7 : Value) (l8 : Value) (w0 : Value) (σ : Hs) : ru d 56 215 [l0, l1, l2, l3, l4, l5, l6, l7, l8] [.ref 73, w0] σ = ru d 56 218 [l0, l1, l2, l3, l4, l5, l6, l7, l8] [.int (σ 73 3), w0] σ := q_getf t56_215 mo56 F6_28 rfl rfl
theorem t56_218 : decode (mb 56) 218 = .ok (.isub, 1) := by decide +kernel
theorem s56_218 (d : Nat) (l0 : Value) (l1 : Value) (l2 : Value) (l3 : Value) (l4 : Value) (l5 : Value) (l6 : Value) (l7 : Value) (l8 : Value) (x y : Int32) (σ : Hs) : ru d 56 218 [l0, l1, l2, l3, l4, l5, l6, l7, l8] [.int y, .int x] σ = ru d 56 219 [l0, l1, l2, l3, l4, l5, l6, l7, l8] [.int (x - y)] σ := q_isub t56_218
theorem t56_219 : decode (mb 56) 219 = .ok (.ireturn, 1) := by decide +kernel
theorem s56_219 (d : Nat) (l0 : Value) (l1 : Value) (l2 : Value) (l3 : Value) (l4 : Value) (l5 : Value) (l6 : Value) (l7 : Value) (l8 : Value) (x : Int32) (σ : Hs) : ru d 56 219 [l0, l1, l2, l3, l4, l5, l6, l7, l8] [.int x] σ = some (some (.int x), σ) := q_ireti t56_219 mr56
theorem t56_220 : decode (mb 56) 220 = .ok (.aload_n 0, 1) := by decide +kernel
theorem s56_220 (d : Nat) (a0 : Nat) (l1 : Value) (l2 : Value) (l3 : Value) (l4 : Value) (l5 : Value) (l6 : Value) (l7 : Value) (l8 : Value) (σ : Hs) : ru d 56 220 [.ref a0, l1, l2, l3, l4, l5, l6, l7, l8] [] σ = ru d 56 221 [.ref a0, l1, l2, l3, l4, l5, l6, l7, l8] [.ref a0] σ := q_aload_n t56_220 rfl
theorem t56_221 : decode (mb 56) 221 = .ok (.iload_n 3, 1) := by decide +kernel
theorem s56_221 (d : Nat) (l0 : Value) (l1 : Value) (l2 : Value) (i3 : Int32) (l4 : Value) (l5 : Value) (l6 : Value) (l7 : Value) (l8 : Value) (w0 : Value) (σ : Hs) : ru d 56 221 [l0, l1, l2, .int i3, l4, l5, l6, l7, l8] [w0] σ = ru d 56 222 [l0, l1, l2, .int i3, l4, l5, l6, l7, l8] [.int i3, w0] σ := q_iload_n t56_221 rfl
theorem t56_222 : decode (mb 56) 222 = .ok (.invokevirtual 56, 3) := by decide +kernel
theorem s56_222_o73 (d : Nat) (l0 : Value) (l1 : Value) (l2 : Value) (l3 : Value) (l4 : Value) (l5 : Value) (l6 : Value) (l7 : Value) (l8 : Value) (v1 : Value) (σ : Hs) : ru d 56 222 [l0, l1, l2, l3, l4, l5, l6, l7, l8] [v1, .ref 73] σ = kont (callD d 57 [.ref 73, v1] σ) d 56 225 [l0, l1, l2, l3, l4, l5, l6, l7, l8] [] := q_invv t56_222 mo56 K6_56 mj57 rfl rfl rfl rfl (Nat.le_of_ble_eq_true rfl)
theorem t56_225 : decode (mb 56) 225 = .ok (.ireturn, 1) := by decide +kernel
theorem s56_225 (d : Nat) (l0 : Value) (l1 : Value) (l2 : Value) (l3 : Value) (l4 : Value) (l5 : Value) (l6 : Value) (l7 : Value) (l8 : Value) (x : Int32) (σ : Hs) : ru d 56 225 [l0, l1, l2, l3, l4, l5, l6, l7, l8] [.int x] σ = some (some (.int x), σ) := q_ireti t56_225 mr56
theorem t56_226 : decode (mb 56) 226 = .ok (.aload_n 0, 1) := by decide +kernel
theorem s56_226 (d : Nat) (a0 : Nat) (l1 : Value) (l2 : Value) (l3 : Value) (l4 : Value) (l5 : Value) (l6 : Value) (l7 : Value) (l8 : Value) (σ : Hs) : ru d 56 226 [.ref a0, l1, l2, l3, l4, l5, l6, l7, l8] [] σ = ru d 56 227 [.ref a0, l1, l2, l3, l4, l5, l6, l7, l8] [.ref a0] σ := q_aload_n t56_226 rfl
theorem t56_227 : decode (mb 56) 227 = .ok (.iload 6, 2) := by decide +kernel
theorem s56_227 (d : Nat) (l0 : Value) (l1 : Value) (l2 : Value) (l3 : Value) (l4 : Value) (l5 : Value) (i6 : Int32) (l7 : Value) (l8 : Value) (w0 : Value) (σ : Hs) : ru d 56 227 [l0, l1, l2, l3, l4, l5, .int i6, l7, l8] [w0] σ = ru d 56 229 [l0, l1, l2, l3, l4, l5, .int i6, l7, l8] [.int i6, w0] σ := q_iload t56_227 rfl
theorem t56_229 : decode (mb 56) 229 = .ok (.iconst 0, 1) := by decide +kernel
theorem s56_229 (d : Nat) (l0 : Value) (l1 : Value) (l2 : Value) (l3 : Value) (l4 : Value) (l5 : Value) (l6 : Value) (l7 : Value) (l8 : Value) (w0 w1 : Value) (σ : Hs) : ru d 56 229 [l0, l1, l2, l3, l4, l5, l6, l7, l8] [w0, w1] σ = ru d 56 230 [l0, l1, l2, l3, l4, l5, l6, l7, l8] [.int 0, w0, w1] σ := q_iconst t56_229 (by decide +kernel)
theorem t56_230 : decode (mb 56) 230 = .ok (.iload_n 3, 1) := by decide +kernel
theorem s56_230 (d : Nat) (l0 : Value) (l1 : Value) (l2 : Value) (i3 : Int32) (l4 : Value) (l5 : Value) (l6 : Value) (l7 : Value) (l8 : Value) (w0 w1 w2 : Value) (σ : Hs) : ru d 56 230 [l0, l1, l2, .int i3, l4, l5, l6, l7, l8] [w0, w1, w2] σ = ru d 56 231 [l0, l1, l2, .int i3, l4, l5, l6, l7, l8] [.int i3, w0, w1, w2] σ := q_iload_n t56_230 rfl
theorem t56_231 : decode (mb 56) 231 = .ok (.iload 7, 2) := by decide +kernel
theorem s56_231 (d : Nat) (l0 : Value) (l1 : Value) (l2 : Value) (l3 : Value) (l4 : Value) (l5 : Value) (l6 : Value) (i7 : Int32) (l8 : Value) (w0 w1 w2 w3 : Value) (σ : Hs) : ru d 56 231 [l0, l1, l2, l3, l4, l5, l6, .int i7, l8] [w0, w1, w2, w3] σ = ru d 56 233 [l0, l1, l2, l3, l4, l5, l6, .int i7, l8] [.int i7, w0, w1, w2, w3] σ := q_iload t56_231 rfl
theorem t56_233 : decode (mb 56) 233 = .ok (.invokevirtual 52, 3) := by decide +kernel
theorem s56_233_o73 (d : Nat) (l0 : Value) (l1 : Value) (l2 : Value) (l3 : Value) (l4 : Value) (l5 : Value) (l6 : Value) (l7 : Value) (l8 : Value) (v1 v2 v3 v4 : Value) (σ : Hs) : ru d 56 233 [l0, l1, l2, l3, l4, l5, l6, l7, l8] [v4, v3, v2, v1, .ref 73] σ = kont (callD d 56 [.ref 73, v1, v2, v3, v4] σ) d 56 236 [l0, l1, l2, l3, l4, l5, l6, l7, l8] [] := q_invv t56_233 mo56 K6_52 mj56 rfl rfl rfl rfl (Nat.le_of_ble_eq_true rfl)
theorem t56_236 : decode (mb 56) 236 = .ok (.bipush 7, 2) := by decide +kernel
theorem s56_236 (d : Nat) (l0 : Value) (l1 : Value) (l2 : Value) (l3 : Value) (l4 : Value) (l5 : Value) (l6 : Value) (l7 : Value) (l8 : Value) (w0 : Value) (σ : Hs) : ru d 56 236 [l0, l1, l2, l3, l4, l5, l6, l7, l8] [w0] σ = ru d 56 238 [l0, l1, l2, l3, l4, l5, l6, l7, l8] [.int 7, w0] σ := q_bipush t56_236 (by decide +kernel)
theorem t56_238 : decode (mb 56) 238 = .ok (.isub, 1) := by decide +kernel
theorem s56_238 (d : Nat) (l0 : Value) (l1 : Value) (l2 : Value) (l3 : Value) (l4 : Value) (l5 : Value) (l6 : Value) (l7 : Value) (l8 : Value) (x y : Int32) (σ : Hs) : ru d 56 238 [l0, l1, l2, l3, l4, l5, l6, l7, l8] [.int y, .int x] σ = ru d 56 239 [l0, l1, l2, l3, l4, l5, l6, l7, l8] [.int (x - y)] σ := q_isub t56_238
theorem t56_239 : decode (mb 56) 239 = .ok (.ireturn, 1) := by decide +kernel
theorem s56_239 (d : Nat) (l0 : Value) (l1 : Value) (l2 : Value) (l3 : Value) (l4 : Value) (l5 : Value) (l6 : Value) (l7 : Value) (l8 : Value) (x : Int32) (σ : Hs) : ru d 56 239 [l0, l1, l2, l3, l4, l5, l6, l7, l8] [.int x] σ = some (some (.int x), σ) := q_ireti t56_239 mr56
theorem t56_240 : decode (mb 56) 240 = .ok (.aload_n 0, 1) := by decide +kernel
theorem s56_240 (d : Nat) (a0 : Nat) (l1 : Value) (l2 : Value) (l3 : Value) (l4 : Value) (l5 : Value) (l6 : Value) (l7 : Value) (l8 : Value) (σ : Hs) : ru d 56 240 [.ref a0, l1, l2, l3, l4, l5, l6, l7, l8] [] σ = ru d 56 241 [.ref a0, l1, l2, l3, l4, l5, l6, l7, l8] [.ref a0] σ := q_aload_n t56_240 rfl
theorem t56_241 : decode (mb 56) 241 = .ok (.iload 6, 2) := by decide +kernel
theorem s56_241 (d : Nat) (l0 : Value) (l1 : Value) (l2 : Value) (l3 : Value) (l4 : Value) (l5 : Value) (i6 : Int32) (l7 : Value) (l8 : Value) (w0 : Value) (σ : Hs) : ru d 56 241 [l0, l1, l2, l3, l4, l5, .int i6, l7, l8] [w0] σ = ru d 56 243 [l0, l1, l2, l3, l4, l5, .int i6, l7, l8] [.int i6, w0] σ := q_iload t56_241 rfl
theorem t56_243 : decode (mb 56) 243 = .ok (.iconst 3, 1) := by decide +kernel
theorem s56_243 (d : Nat) (l0 : Value) (l1 : Value) (l2 : Value) (l3 : Value) (l4 : Value) (l5 : Value) (l6 : Value) (l7 : Value) (l8 : Value) (w0 w1 : Value) (σ : Hs) : ru d 56 243 [l0, l1, l2, l3, l4, l5, l6, l7, l8] [w0, w1] σ = ru d 56 244 [l0, l1, l2, l3, l4, l5, l6, l7, l8] [.int 3, w0, w1] σ := q_iconst t56_243 (by decide +kernel)
theorem t56_244 : decode (mb 56) 244 = .ok (.iload_n 3, 1) := by decide +kernel
theorem s56_244 (d : Nat) (l0 : Value) (l1 : Value) (l2 : Value) (i3 : Int32) (l4 : Value) (l5 : Value) (l6 : Value) (l7 : Value) (l8 : Value) (w0 w1 w2 : Value) (σ : Hs) : ru d 56 244 [l0, l1, l2, .int i3, l4, l5, l6, l7, l8] [w0, w1, w2] σ = ru d 56 245 [l0, l1, l2, .int i3, l4, l5, l6, l7, l8] [.int i3, w0, w1, w2] σ := q_iload_n t56_244 rfl
theorem t56_245 : decode (mb 56) 245 = .ok (.iload 7, 2) := by decide +kernel
theorem s56_245 (d : Nat) (l0 : Value) (l1 : Value) (l2 : Value) (l3 : Value) (l4 : Value) (l5 : Value) (l6 : Value) (i7 : Int32) (l8 : Value) (w0 w1 w2 w3 : Value) (σ : Hs) : ru d 56 245 [l0, l1, l2, l3, l4, l5, l6, .int i7, l8] [w0, w1, w2, w3] σ = ru d 56 247 [l0, l1, l2, l3, l4, l5, l6, .int i7, l8] [.int i7, w0, w1, w2, w3] σ := q_iload t56_245 rfl
theorem t56_247 : decode (mb 56) 247 = .ok (.invokevirtual 52, 3) := by decide +kernel
theorem s56_247_o73 (d : Nat) (l0 : Value) (l1 : Value) (l2 : Value) (l3 : Value) (l4 : Value) (l5 : Value) (l6 : Value) (l7 : Value) (l8 : Value) (v1 v2 v3 v4 : Value) (σ : Hs) : ru d 56 247 [l0, l1, l2, l3, l4, l5, l6, l7, l8] [v4, v3, v2, v1, .ref 73] σ = kont (callD d 56 [.ref 73, v1, v2, v3, v4] σ) d 56 250 [l0, l1, l2, l3, l4, l5, l6, l7, l8] [] := q_invv t56_247 mo56 K6_52 mj56 rfl rfl rfl rfl (Nat.le_of_ble_eq_true rfl)
theorem t56_250 : decode (mb 56) 250 = .ok (.aload_n 0, 1) := by decide +kernel
theorem s56_250 (d : Nat) (a0 : Nat) (l1 : Value) (l2 : Value) (l3 : Value) (l4 : Value) (l5 : Value) (l6 : Value) (l7 : Value) (l8 : Value) (w0 : Value) (σ : Hs) : ru d 56 250 [.ref a0, l1, l2, l3, l4, l5, l6, l7, l8] [w0] σ = ru d 56 251 [.ref a0, l1, l2, l3, l4, l5, l6, l7, l8] [.ref a0, w0] σ := q_aload_n t56_250 rfl
theorem t56_251 : decode (mb 56) 251 = .ok (.aload_n 0, 1) := by decide +kernel
theorem s56_251 (d : Nat) (a0 : Nat) (l1 : Value) (l2 : Value) (l3 : Value) (l4 : Value) (l5 : Value) (l6 : Value) (l7 : Value) (l8 : Value) (w0 w1 : Value) (σ : Hs) : ru d 56 251 [.ref a0, l1, l2, l3, l4, l5, l6, l7, l8] [w0, w1] σ = ru d 56 252 [.ref a0, l1, l2, l3, l4, l5, l6, l7, l8] [.ref a0, w0, w1] σ := q_aload_n t56_251 rfl
theorem t56_252 : decode (mb 56) 252 = .ok (.getfield 24, 3) := by decide +kernel
theorem s56_252_o73 (d : Nat) (l0 : Value) (l1 : Value) (l2 : Value) (l3 : Value) (l4 : Value) (l5 : Value) (l6 : Value) (l7 : Value) (l8 : Value) (w0 w1 : Value) (σ : Hs) : ru d 56 252 [l0, l1, l2, l3, l4, l5, l6, l7, l8] [.ref 73, w0, w1] σ = ru d 56 255 [l0, l1, l2, l3, l4, l5, l6, l7, l8] [.int (σ 73 2), w0, w1] σ := q_getf t56_252 mo56 F6_24 rfl rfl
theorem t56_255 : decode (mb 56) 255 = .ok (.iconst 1, 1) := by decide +kernel
theorem s56_255 (d : Nat) (l0 : Value) (l1 : Value) (l2 : Value) (l3 : Value) (l4 : Value) (l5 : Value) (l6 : Value) (l7 : Value) (l8 : Value) (w0 w1 w2 : Value) (σ : Hs) : ru d 56 255 [l0, l1, l2, l3, l4, l5, l6, l7, l8] [w0, w1, w2] σ = ru d 56 256 [l0, l1, l2, l3, l4, l5, l6, l7, l8] [.int 1, w0, w1, w2] σ := q_iconst t56_255 (by decide +kernel)
theorem t56_256 : decode (mb 56) 256 = .ok (.iconst 1, 1) := by decide +kernel
theorem s56_256 (d : Nat) (l0 : Value) (l1 : Value) (l2 : Value) (l3 : Value) (l4 : Value) (l5 : Value) (l6 : Value) (l7 : Value) (l8 : Value) (w0 w1 w2 w3 : Value) (σ : Hs) : ru d 56 256 [l0, l1, l2, l3, l4, l5, l6, l7, l8] [w0, w1, w2, w3] σ = ru d 56 257 [l0, l1, l2, l3, l4, l5, l6, l7, l8] [.int 1, w0, w1, w2, w3] σ := q_iconst t56_256 (by decide +kernel)
theorem t56_257 : decode (mb 56) 257 = .ok (.iload 7, 2) := by decide +kernel
theorem s56_257 (d : Nat) (l0 : Value) (l1 : Value) (l2 : Value) (l3 : Value) (l4 : Value) (l5 : Value) (l6 : Value) (i7 : Int32) (l8 : Value) (w0 w1 w2 w3 w4 : Value) (σ : Hs) : ru d 56 257 [l0, l1, l2, l3, l4, l5, l6, .int i7, l8] [w0, w1, w2, w3, w4] σ = ru d 56 259 [l0, l1, l2, l3, l4, l5, l6, .int i7, l8] [.int i7, w0, w1, w2, w3, w4] σ := q_iload t56_257 rfl
theorem t56_259 : decode (mb 56) 259 = .ok (.invokevirtual 52, 3) := by decide +kernel
theorem s56_259_o73 (d : Nat) (l0 : Value) (l1 : Value) (l2 : Value) (l3 : Value) (l4 : Value) (l5 : Value) (l6 : Value) (l7 : Value) (l8 : Value) (v1 v2 v3 v4 : Value) (w0 : Int32) (σ : Hs) : ru d 56 259 [l0, l1, l2, l3, l4, l5, l6, l7, l8] [v4, v3, v2, v1, .ref 73, .int w0] σ = kont (callD d 56 [.ref 73, v1, v2, v3, v4] σ) d 56 262 [l0, l1, l2, l3, l4, l5, l6, l7, l8] [.int w0] := q_invv t56_259 mo56 K6_52 mj56 rfl rfl rfl rfl (Nat.le_of_ble_eq_true rfl)
theorem t56_262 : decode (mb 56) 262 = .ok (.iadd, 1) := by decide +kernel
theorem s56_262 (d : Nat) (l0 : Value) (l1 : Value) (l2 : Value) (l3 : Value) (l4 : Value) (l5 : Value) (l6 : Value) (l7 : Value) (l8 : Value) (x y : Int32) (σ : Hs) : ru d 56 262 [l0, l1, l2, l3, l4, l5, l6, l7, l8] [.int y, .int x] σ = ru d 56 263 [l0, l1, l2, l3, l4, l5, l6, l7, l8] [.int (x + y)] σ := q_iadd t56_262
theorem t56_263 : decode (mb 56) 263 = .ok (.ireturn, 1) := by decide +kernel
theorem s56_263 (d : Nat) (l0 : Value) (l1 : Value) (l2 : Value) (l3 : Value) (l4 : Value) (l5 : Value) (l6 : Value) (l7 : Value) (l8 : Value) (x : Int32) (σ : Hs) : ru d 56 263 [l0, l1, l2, l3, l4, l5, l6, l7, l8] [.int x] σ = some (some (.int x), σ) := q_ireti t56_263 mr56
theorem t56_264 : decode (mb 56) 264 = .ok (.aload_n 0, 1) := by decide +kernel
theorem s56_264 (d : Nat) (a0 : Nat) (l1 : Value) (l2 : Value) (l3 : Value) (l4 : Value) (l5 : Value) (l6 : Value) (l7 : Value) (l8 : Value) (σ : Hs) : ru d 56 264 [.ref a0, l1, l2, l3, l4, l5, l6, l7, l8] [] σ = ru d 56 265 [.ref a0, l1, l2, l3, l4, l5, l6, l7, l8] [.ref a0] σ := q_aload_n t56_264 rfl
theorem t56_265 : decode (mb 56) 265 = .ok (.iload 6, 2) := by decide +kernel
theorem s56_265 (d : Nat) (l0 : Value) (l1 : Value) (l2 : Value) (l3 : Value) (l4 : Value) (l5 : Value) (i6 : Int32) (l7 : Value) (l8 : Value) (w0 : Value) (σ : Hs) : ru d 56 265 [l0, l1, l2, l3, l4, l5, .int i6, l7, l8] [w0] σ = ru d 56 267 [l0, l1, l2, l3, l4, l5, .int i6, l7, l8] [.int i6, w0] σ := q_iload t56_265 rfl
theorem t56_267 : decode (mb 56) 267 = .ok (.iconst 2, 1) := by decide +kernel
theorem s56_267 (d : Nat) (l0 : Value) (l1 : Value) (l2 : Value) (l3 : Value) (l4 : Value) (l5 : Value) (l6 : Value) (l7 : Value) (l8 : Value) (w0 w1 : Value) (σ : Hs) : ru d 56 267 [l0, l1, l2, l3, l4, l5, l6, l7, l8] [w0, w1] σ = ru d 56 268 [l0, l1, l2, l3, l4, l5, l6, l7, l8] [.int 2, w0, w1] σ := q_iconst t56_267 (by decide +kernel)
theorem t56_268 : decode (mb 56) 268 = .ok (.iload_n 3, 1) := by decide +kernel
theorem s56_268 (d : Nat) (l0 : Value) (l1 : Value) (l2 : Value) (i3 : Int32) (l4 : Value) (l5 : Value) (l6 : Value) (l7 : Value) (l8 : Value) (w0 w1 w2 : Value) (σ : Hs) : ru d 56 268 [l0, l1, l2, .int i3, l4, l5, l6, l7, l8] [w0, w1, w2] σ = ru d 56 269 [l0, l1, l2, .int i3, l4, l5, l6, l7, l8] [.int i3, w0, w1, w2] σ := q_iload_n t56_268 rfl
theorem t56_269 : decode (mb 56) 269 = .ok (.iload 7, 2) := by decide +kernel
theorem s56_269 (d : Nat) (l0 : Value) (l1 : Value) (l2 : Value) (l3 : Value) (l4 : Value) (l5 : Value) (l6 : Value) (i7 : Int32) (l8 : Value) (w0 w1 w2 w3 : Value) (σ : Hs) : ru d 56 269 [l0, l1, l2, l3, l4, l5, l6, .int i7, l8] [w0, w1, w2, w3] σ = ru d 56 271 [l0, l1, l2, l3, l4, l5, l6, .int i7, l8] [.int i7, w0, w1, w2, w3] σ := q_iload t56_269 rfl
theorem t56_271 : decode (mb 56) 271 = .ok (.invokevirtual 52, 3) := by decide +kernel
theorem s56_271_o73 (d : Nat) (l0 : Value) (l1 : Value) (l2 : Value) (l3 : Value) (l4 : Value) (l5 : Value) (l6 : Value) (l7 : Value) (l8 : Value) (v1 v2 v3 v4 : Value) (σ : Hs) : ru d 56 271 [l0, l1, l2, l3, l4, l5, l6, l7, l8] [v4, v3, v2, v1, .ref 73] σ = kont (callD d 56 [.ref 73, v1, v2, v3, v4] σ) d 56 274 [l0, l1, l2, l3, l4, l5, l6, l7, l8] [] := q_invv t56_271 mo56 K6_52 mj56 rfl rfl rfl rfl (Nat.le_of_ble_eq_true rfl)
theorem t56_274 : decode (mb 56) 274 = .ok (.aload_n 0, 1) := by decide +kernel
theorem s56_274 (d : Nat) (a0 : Nat) (l1 : Value) (l2 : Value) (l3 : Value) (l4 : Value) (l5 : Value) (l6 : Value) (l7 : Value) (l8 : Value) (w0 : Value) (σ : Hs) : ru d 56 274 [.ref a0, l1, l2, l3, l4, l5, l6, l7, l8] [w0] σ = ru d 56 275 [.ref a0, l1, l2, l3, l4, l5, l6, l7, l8] [.ref a0, w0] σ := q_aload_n t56_274 rfl
theorem t56_275 : decode (mb 56) 275 = .ok (.getfield 31, 3) := by decide +kernel
theorem s56_275_o73 (d : Nat) (l0 : Value) (l1 : Value) (l2 : Value) (l3 : Value) (l4 : Value) (l5 : Value) (l6 : Value) (l7 : Value) (l8 : Value) (w0 : Value) (σ : Hs) : ru d 56 275 [l0, l1, l2, l3, l4, l5, l6, l7, l8] [.ref 73, w0] σ = ru d 56 278 [l0, l1, l2, l3, l4, l5, l6, l7, l8] [.int (σ 73 4), w0] σ := q_getf t56_275 mo56 F6_31 rfl rfl
theorem t56_278 : decode (mb 56) 278 = .ok (.ixor, 1) := by decide +kernel
theorem s56_278 (d : Nat) (l0 : Value) (l1 : Value) (l2 : Value) (l3 : Value) (l4 : Value) (l5 : Value) (l6 : Value) (l7 : Value) (l8 : Value) (x y : Int32) (σ : Hs) : ru d 56 278 [l0, l1, l2, l3, l4, l5, l6, l7, l8] [.int y, .int x] σ = ru d 56 279 [l0, l1, l2, l3, l4, l5, l6, l7, l8] [.int (x ^^^ y)] σ := q_ixor t56_278
theorem t56_279 : decode (mb 56) 279 = .ok (.ireturn, 1) := by decide +kernel
theorem s56_279 (d : Nat) (l0 : Value) (l1 : Value) (l2 : Value) (l3 : Value) (l4 : Value) (l5 : Value) (l6 : Value) (l7 : Value) (l8 : Value) (x : Int32) (σ : Hs) : ru d 56 279 [l0, l1, l2, l3, l4, l5, l6, l7, l8] [.int x] σ = some (some (.int x), σ) := q_ireti t56_279 mr56
theorem t56_280 : decode (mb 56) 280 = .ok (.aload_n 0, 1) := by decide +kernel
theorem s56_280 (d : Nat) (a0 : Nat) (l1 : Value) (l2 : Value) (l3 : Value) (l4 : Value) (l5 : Value) (l6 : Value) (l7 : Value) (l8 : Value) (σ : Hs) : ru d 56 280 [.ref a0, l1, l2, l3, l4, l5, l6, l7, l8] [] σ = ru d 56 281 [.ref a0, l1, l2, l3, l4, l5, l6, l7, l8] [.ref a0] σ := q_aload_n t56_280 rfl
theorem t56_281 : decode (mb 56) 281 = .ok (.iload 6, 2) := by decide +kernel
theorem s56_281 (d : Nat) (l0 : Value) (l1 : Value) (l2 : Value) (l3 : Value) (l4 : Value) (l5 : Value) (i6 : Int32) (l7 : Value) (l8 : Value) (w0 : Value) (σ : Hs) : ru d 56 281 [l0, l1, l2, l3, l4, l5, .int i6, l7, l8] [w0] σ = ru d 56 283 [l0, l1, l2, l3, l4, l5, .int i6, l7, l8] [.int i6, w0] σ := q_iload t56_281 rfl
theorem t56_283 : decode (mb 56) 283 = .ok (.iconst 0, 1) := by decide +kernel
theorem s56_283 (d : Nat) (l0 : Value) (l1 : Value) (l2 : Value) (l3 : Value) (l4 : Value) (l5 : Value) (l6 : Value) (l7 : Value) (l8 : Value) (w0 w1 : Value) (σ : Hs) : ru d 56 283 [l0, l1, l2, l3, l4, l5, l6, l7, l8] [w0, w1] σ = ru d 56 284 [l0, l1, l2, l3, l4, l5, l6, l7, l8] [.int 0, w0, w1] σ := q_iconst t56_283 (by decide +kernel)
theorem t56_284 : decode (mb 56) 284 = .ok (.iload_n 3, 1) := by decide +kernel
theorem s56_284 (d : Nat) (l0 : Value) (l1 : Value) (l2 : Value) (i3 : Int32) (l4 : Value) (l5 : Value) (l6 : Value) (l7 : Value) (l8 : Value) (w0 w1 w2 : Value) (σ : Hs) : ru d 56 284 [l0, l1, l2, .int i3, l4, l5, l6, l7, l8] [w0, w1, w2] σ = ru d 56 285 [l0, l1, l2, .int i3, l4, l5, l6, l7, l8] [.int i3, w0, w1, w2] σ := q_iload_n t56_284 rfl
theorem t56_285 : decode (mb 56) 285 = .ok (.iconst 2, 1) := by decide +kernel
theorem s56_285 (d : Nat) (l0 : Value) (l1 : Value) (l2 : Value) (l3 : Value) (l4 : Value) (l5 : Value) (l6 : Value) (l7 : Value) (l8 : Value) (w0 w1 w2 w3 : Value) (σ : Hs) : ru d 56 285 [l0, l1, l2, l3, l4, l5, l6, l7, l8] [w0, w1, w2, w3] σ = ru d 56 286 [l0, l1, l2, l3, l4, l5, l6, l7, l8] [.int 2, w0, w1, w2, w3] σ := q_iconst t56_285 (by decide +kernel)
theorem t56_286 : decode (mb 56) 286 = .ok (.idiv, 1) := by decide +kernel
theorem s56_286 (d : Nat) (l0 : Value) (l1 : Value) (l2 : Value) (l3 : Value) (l4 : Value) (l5 : Value) (l6 : Value) (l7 : Value) (l8 : Value) (x y : Int32) (w0 w1 w2 : Value) (σ : Hs) : ru d 56 286 [l0, l1, l2, l3, l4, l5, l6, l7, l8] [.int y, .int x, w0, w1, w2] σ = gd (¬ y = 0) (ru d 56 287 [l0, l1, l2, l3, l4, l5, l6, l7, l8] [.int (x / y), w0, w1, w2] σ) := q_idiv t56_286
theorem t56_287 : decode (mb 56) 287 = .ok (.iload 7, 2) := by decide +kernel
theorem s56_287 (d : Nat) (l0 : Value) (l1 : Value) (l2 : Value) (l3 : Value) (l4 : Value) (l5 : Value) (l6 : Value) (i7 : Int32) (l8 : Value) (w0 w1 w2 w3 : Value) (σ : Hs) : ru d 56 287 [l0, l1, l2, l3, l4, l5, l6, .int i7, l8] [w0, w1, w2, w3] σ = ru d 56 289 [l0, l1, l2, l3, l4, l5, l6, .int i7, l8] [.int i7, w0, w1, w2, w3] σ := q_iload t56_287 rfl
theorem t56_289 : decode (mb 56) 289 = .ok (.invokevirtual 52, 3) := by decide +kernel
theorem s56_289_o73 (d : Nat) (l0 : Value) (l1 : Value) (l2 : Value) (l3 : Value) (l4 : Value) (l5 : Value) (l6 : Value) (l7 : Value) (l8 : Value) (v1 v2 v3 v4 : Value) (σ : Hs) : ru d 56 289 [l0, l1, l2, l3, l4, l5, l6, l7, l8] [v4, v3, v2, v1, .ref 73] σ = kont (callD d 56 [.ref 73, v1, v2, v3, v4] σ) d 56 292 [l0, l1, l2, l3, l4, l5, l6, l7, l8] [] := q_invv t56_289 mo56 K6_52 mj56 rfl rfl rfl rfl (Nat.le_of_ble_eq_true rfl)
theorem t56_292 : decode (mb 56) 292 = .ok (.ireturn, 1) := by decide +kernel
theorem s56_292 (d : Nat) (l0 : Value) (l1 : Value) (l2 : Value) (l3 : Value) (l4 : Value) (l5 : Value) (l6 : Value) (l7 : Value) (l8 : Value) (x : Int32) (σ : Hs) : ru d 56 292 [l0, l1, l2, l3, l4, l5, l6, l7, l8] [.int x] σ = some (some (.int x), σ) := q_ireti t56_292 mr56
theorem t56_293 : decode (mb 56) 293 = .ok (.iconst 0, 1) := by decide +kernel
theorem s56_293 (d : Nat) (l0 : Value) (l1 : Value) (l2 : Value) (l3 : Value) (l4 : Value) (l5 : Value) (l6 : Value) (l7 : Value) (l8 : Value) (σ : Hs) : ru d 56 293 [l0, l1, l2, l3, l4, l5, l6, l7, l8] [] σ = ru d 56 294 [l0, l1, l2, l3, l4, l5, l6, l7, l8] [.int 0] σ := q_iconst t56_293 (by decide +kernel)
theorem t56_294 : decode (mb 56) 294 = .ok (.aload_n 0, 1) := by decide +kernel
theorem s56_294 (d : Nat) (a0 : Nat) (l1 : Value) (l2 : Value) (l3 : Value) (l4 : Value) (l5 : Value) (l6 : Value) (l7 : Value) (l8 : Value) (w0 : Value) (σ : Hs) : ru d 56 294 [.ref a0, l1, l2, l3, l4, l5, l6, l7, l8] [w0] σ = ru d 56 295 [.ref a0, l1, l2, l3, l4, l5, l6, l7, l8] [.ref a0, w0] σ := q_aload_n t56_294 rfl
theorem t56_295 : decode (mb 56) 295 = .ok (.iload 6, 2) := by decide +kernel
theorem s56_295 (d : Nat) (l0 : Value) (l1 : Value) (l2 : Value) (l3 : Value) (l4 : Value) (l5 : Value) (i6 : Int32) (l7 : Value) (l8 : Value) (w0 w1 : Value) (σ : Hs) : ru d 56 295 [l0, l1, l2, l3, l4, l5, .int i6, l7, l8] [w0, w1] σ = ru d 56 297 [l0, l1, l2, l3, l4, l5, .int i6, l7, l8] [.int i6, w0, w1] σ := q_iload t56_295 rfl
theorem t56_297 : decode (mb 56) 297 = .ok (.iconst 1, 1) := by decide +kernel
theorem s56_297 (d : Nat) (l0 : Value) (l1 : Value) (l2 : Value) (l3 : Value) (l4 : Value) (l5 : Value) (l6 : Value) (l7 : Value) (l8 : Value) (w0 w1 w2 : Value) (σ : Hs) : ru d 56 297 [l0, l1, l2, l3, l4, l5, l6, l7, l8] [w0, w1, w2] σ = ru d 56 298 [l0, l1, l2, l3, l4, l5, l6, l7, l8] [.int 1, w0, w1, w2] σ := q_iconst t56_297 (by decide +kernel)
theorem t56_298 : decode (mb 56) 298 = .ok (.iload_n 3, 1) := by decide +kernel
theorem s56_298 (d : Nat) (l0 : Value) (l1 : Value) (l2 : Value) (i3 : Int32) (l4 : Value) (l5 : Value) (l6 : Value) (l7 : Value) (l8 : Value) (w0 w1 w2 w3 : Value) (σ : Hs) : ru d 56 298 [l0, l1, l2, .int i3, l4, l5, l6, l7, l8] [w0, w1, w2, w3] σ = ru d 56 299 [l0, l1, l2, .int i3, l4, l5, l6, l7, l8] [.int i3, w0, w1, w2, w3] σ := q_iload_n t56_298 rfl
theorem t56_299 : decode (mb 56) 299 = .ok (.iload 7, 2) := by decide +kernel
theorem s56_299 (d : Nat) (l0 : Value) (l1 : Value) (l2 : Value) (l3 : Value) (l4 : Value) (l5 : Value) (l6 : Value) (i7 : Int32) (l8 : Value) (w0 w1 w2 w3 w4 : Value) (σ : Hs) : ru d 56 299 [l0, l1, l2, l3, l4, l5, l6, .int i7, l8] [w0, w1, w2, w3, w4] σ = ru d 56 301 [l0, l1, l2, l3, l4, l5, l6, .int i7, l8] [.int i7, w0, w1, w2, w3, w4] σ := q_iload t56_299 rfl
theorem t56_301 : decode (mb 56) 301 = .ok (.invokevirtual 52, 3) := by decide +kernel
theorem s56_301_o73 (d : Nat) (l0 : Value) (l1 : Value) (l2 : Value) (l3 : Value) (l4 : Value) (l5 : Value) (l6 : Value) (l7 : Value) (l8 : Value) (v1 v2 v3 v4 : Value) (w0 : Int32) (σ : Hs) : ru d 56 301 [l0, l1, l2, l3, l4, l5, l6, l7, l8] [v4, v3, v2, v1, .ref 73, .int w0] σ = kont (callD d 56 [.ref 73, v1, v2, v3, v4] σ) d 56 304 [l0, l1, l2, l3, l4, l5, l6, l7, l8] [.int w0] := q_invv t56_301 mo56 K6_52 mj56 rfl rfl rfl rfl (Nat.le_of_ble_eq_true rfl)
theorem t56_304 : decode (mb 56) 304 = .ok (.isub, 1) := by decide +kernel
theorem s56_304 (d : Nat) (l0 : Value) (l1 : Value) (l2 : Value) (l3 : Value) (l4 : Value) (l5 : Value) (l6 : Value) (l7 : Value) (l8 : Value) (x y : Int32) (σ : Hs) : ru d 56 304 [l0, l1, l2, l3, l4, l5, l6, l7, l8] [.int y, .int x] σ = ru d 56 305 [l0, l1, l2, l3, l4, l5, l6, l7, l8] [.int (x - y)] σ := q_isub t56_304
theorem t56_305 : decode (mb 56) 305 = .ok (.ireturn, 1) := by decide +kernel
theorem s56_305 (d : Nat) (l0 : Value) (l1 : Value) (l2 : Value) (l3 : Value) (l4 : Value) (l5 : Value) (l6 : Value) (l7 : Value) (l8 : Value) (x : Int32) (σ : Hs) : ru d 56 305 [l0, l1, l2, l3, l4, l5, l6, l7, l8] [.int x] σ = some (some (.int x), σ) := q_ireti t56_305 mr56
theorem t56_306 : decode (mb 56) 306 = .ok (.aload_n 0, 1) := by decide +kernel
theorem s56_306 (d : Nat) (a0 : Nat) (l1 : Value) (l2 : Value) (l3 : Value) (l4 : Value) (l5 : Value) (l6 : Value) (l7 : Value) (l8 : Value) (σ : Hs) : ru d 56 306 [.ref a0, l1, l2, l3, l4, l5, l6, l7, l8] [] σ = ru d 56 307 [.ref a0, l1, l2, l3, l4, l5, l6, l7, l8] [.ref a0] σ := q_aload_n t56_306 rfl
theorem t56_307 : decode (mb 56) 307 = .ok (.iload 6, 2) := by decide +kernel
theorem s56_307 (d : Nat) (l0 : Value) (l1 : Value) (l2 : Value) (l3 : Value) (l4 : Value) (l5 : Value) (i6 : Int32) (l7 : Value) (l8 : Value) (w0 : Value) (σ : Hs) : ru d 56 307 [l0, l1, l2, l3, l4, l5, .int i6, l7, l8] [w0] σ = ru d 56 309 [l0, l1, l2, l3, l4, l5, .int i6, l7, l8] [.int i6, w0] σ := q_iload t56_307 rfl
theorem t56_309 : decode (mb 56) 309 = .ok (.iconst 2, 1) := by decide +kernel
theorem s56_309 (d : Nat) (l0 : Value) (l1 : Value) (l2 : Value) (l3 : Value) (l4 : Value) (l5 : Value) (l6 : Value) (l7 : Value) (l8 : Value) (w0 w1 : Value) (σ : Hs) : ru d 56 309 [l0, l1, l2, l3, l4, l5, l6, l7, l8] [w0, w1] σ = ru d 56 310 [l0, l1, l2, l3, l4, l5, l6, l7, l8] [.int 2, w0, w1] σ := q_iconst t56_309 (by decide +kernel)
theorem t56_310 : decode (mb 56) 310 = .ok (.iload_n 3, 1) := by decide +kernel
theorem s56_310 (d : Nat) (l0 : Value) (l1 : Value) (l2 : Value) (i3 : Int32) (l4 : Value) (l5 : Value) (l6 : Value) (l7 : Value) (l8 : Value) (w0 w1 w2 : Value) (σ : Hs) : ru d 56 310 [l0, l1, l2, .int i3, l4, l5, l6, l7, l8] [w0, w1, w2] σ = ru d 56 311 [l0, l1, l2, .int i3, l4, l5, l6, l7, l8] [.int i3, w0, w1, w2] σ := q_iload_n t56_310 rfl
theorem t56_311 : decode (mb 56) 311 = .ok (.iconst 1, 1) := by decide +kernel
theorem s56_311 (d : Nat) (l0 : Value) (l1 : Value) (l2 : Value) (l3 : Value) (l4 : Value) (l5 : Value) (l6 : Value) (l7 : Value) (l8 : Value) (w0 w1 w2 w3 : Value) (σ : Hs) : ru d 56 311 [l0, l1, l2, l3, l4, l5, l6, l7, l8] [w0, w1, w2, w3] σ = ru d 56 312 [l0, l1, l2, l3, l4, l5, l6, l7, l8] [.int 1, w0, w1, w2, w3] σ := q_iconst t56_311 (by decide +kernel)
theorem t56_312 : decode (mb 56) 312 = .ok (.iadd, 1) := by decide +kernel
theorem s56_312 (d : Nat) (l0 : Value) (l1 : Value) (l2 : Value) (l3 : Value) (l4 : Value) (l5 : Value) (l6 : Value) (l7 : Value) (l8 : Value) (x y : Int32) (w0 w1 w2 : Value) (σ : Hs) : ru d 56 312 [l0, l1, l2, l3, l4, l5, l6, l7, l8] [.int y, .int x, w0, w1, w2] σ = ru d 56 313 [l0, l1, l2, l3, l4, l5, l6, l7, l8] [.int (x + y), w0, w1, w2] σ := q_iadd t56_312
theorem t56_313 : decode (mb 56) 313 = .ok (.iload 7, 2) := by decide +kernel
theorem s56_313 (d : Nat) (l0 : Value) (l1 : Value) (l2 : Value) (l3 : Value) (l4 : Value) (l5 : Value) (l6 : Value) (i7 : Int32) (l8 : Value) (w0 w1 w2 w3 : Value) (σ : Hs) : ru d 56 313 [l0, l1, l2, l3, l4, l5, l6, .int i7, l8] [w0, w1, w2, w3] σ = ru d 56 315 [l0, l1, l2, l3, l4, l5, l6, .int i7, l8] [.int i7, w0, w1, w2, w3] σ := q_iload t56_313 rfl
theorem t56_315 : decode (mb 56) 315 = .ok (.invokevirtual 52, 3) := by decide +kernel
theorem s56_315_o73 (d : Nat) (l0 : Value) (l1 : Value) (l2 : Value) (l3 : Value) (l4 : Value) (l5 : Value) (l6 : Value) (l7 : Value) (l8 : Value) (v1 v2 v3 v4 : Value) (σ : Hs) : ru d 56 315 [l0, l1, l2, l3, l4, l5, l6, l7, l8] [v4, v3, v2, v1, .ref 73] σ = kont (callD d 56 [.ref 73, v1, v2, v3, v4] σ) d 56 318 [l0, l1, l2, l3, l4, l5, l6, l7, l8] [] := q_invv t56_315 mo56 K6_52 mj56 rfl rfl rfl rfl (Nat.le_of_ble_eq_true rfl)
theorem t56_318 : decode (mb 56) 318 = .ok (.ireturn, 1) := by decide +kernel
theorem s56_318 (d : Nat) (l0 : Value) (l1 : Value) (l2 : Value) (l3 : Value) (l4 : Value) (l5 : Value) (l6 : Value) (l7 : Value) (l8 : Value) (x : Int32) (σ : Hs) : ru d 56 318 [l0, l1, l2, l3, l4, l5, l6, l7, l8] [.int x] σ = some (some (.int x), σ) := q_ireti t56_318 mr56
theorem t56_319 : decode (mb 56) 319 = .ok (.aload_n 0, 1) := by decide +kernel
theorem s56_319 (d : Nat) (a0 : Nat) (l1 : Value) (l2 : Value) (l3 : Value) (l4 : Value) (l5 : Value) (l6 : Value) (l7 : Value) (l8 : Value) (σ : Hs) : ru d 56 319 [.ref a0, l1, l2, l3, l4, l5, l6, l7, l8] [] σ = ru d 56 320 [.ref a0, l1, l2, l3, l4, l5, l6, l7, l8] [.ref a0] σ := q_aload_n t56_319 rfl
theorem t56_320 : decode (mb 56) 320 = .ok (.iload 6, 2) := by decide +kernel
theorem s56_320 (d : Nat) (l0 : Value) (l1 : Value) (l2 : Value) (l3 : Value) (l4 : Value) (l5 : Value) (i6 : Int32) (l7 : Value) (l8 : Value) (w0 : Value) (σ : Hs) : ru d 56 320 [l0, l1, l2, l3, l4, l5, .int i6, l7, l8] [w0] σ = ru d 56 322 [l0, l1, l2, l3, l4, l5, .int i6, l7, l8] [.int i6, w0] σ := q_iload t56_320 rfl
theorem t56_322 : decode (mb 56) 322 = .ok (.iconst 3, 1) := by decide +kernel
theorem s56_322 (d : Nat) (l0 : Value) (l1 : Value) (l2 : Value) (l3 : Value) (l4 : Value) (l5 : Value) (l6 : Value) (l7 : Value) (l8 : Value) (w0 w1 : Value) (σ : Hs) : ru d 56 322 [l0, l1, l2, l3, l4, l5, l6, l7, l8] [w0, w1] σ = ru d 56 323 [l0, l1, l2, l3, l4, l5, l6, l7, l8] [.int 3, w0, w1] σ := q_iconst t56_322 (by decide +kernel)
theorem t56_323 : decode (mb 56) 323 = .ok (.iload_n 3, 1) := by decide +kernel
theorem s56_323 (d : Nat) (l0 : Value) (l1 : Value) (l2 : Value) (i3 : Int32) (l4 : Value) (l5 : Value) (l6 : Value) (l7 : Value) (l8 : Value) (w0 w1 w2 : Value) (σ : Hs) : ru d 56 323 [l0, l1, l2, .int i3, l4, l5, l6, l7, l8] [w0, w1, w2] σ = ru d 56 324 [l0, l1, l2, .int i3, l4, l5, l6, l7, l8] [.int i3, w0, w1, w2] σ := q_iload_n t56_323 rfl
theorem t56_324 : decode (mb 56) 324 = .ok (.iload 7, 2) := by decide +kernel
theorem s56_324 (d : Nat) (l0 : Value) (l1 : Value) (l2 : Value) (l3 : Value) (l4 : Value) (l5 : Value) (l6 : Value) (i7 : Int32) (l8 : Value) (w0 w1 w2 w3 : Value) (σ : Hs) : ru d 56 324 [l0, l1, l2, l3, l4, l5, l6, .int i7, l8] [w0, w1, w2, w3] σ = ru d 56 326 [l0, l1, l2, l3, l4, l5, l6, .int i7, l8] [.int i7, w0, w1, w2, w3] σ := q_iload t56_324 rfl
theorem t56_326 : decode (mb 56) 326 = .ok (.invokevirtual 52, 3) := by decide +kernel
theorem s56_326_o73 (d : Nat) (l0 : Value) (l1 : Value) (l2 : Value) (l3 : Value) (l4 : Value) (l5 : Value) (l6 : Value) (l7 : Value) (l8 : Value) (v1 v2 v3 v4 : Value) (σ : Hs) : ru d 56 326 [l0, l1, l2, l3, l4, l5, l6, l7, l8] [v4, v3, v2, v1, .ref 73] σ = kont (callD d 56 [.ref 73, v1, v2, v3, v4] σ) d 56 329 [l0, l1, l2, l3, l4, l5, l6, l7, l8] [] := q_invv t56_326 mo56 K6_52 mj56 rfl rfl rfl rfl (Nat.le_of_ble_eq_true rfl)
theorem t56_329 : decode (mb 56) 329 = .ok (.aload_n 0, 1) := by decide +kernel
theorem s56_329 (d : Nat) (a0 : Nat) (l1 : Value) (l2 : Value) (l3 : Value) (l4 : Value) (l5 : Value) (l6 : Value) (l7 : Value) (l8 : Value) (w0 : Value) (σ : Hs) : ru d 56 329 [.ref a0, l1, l2, l3, l4, l5, l6, l7, l8] [w0] σ = ru d 56 330 [.ref a0, l1, l2, l3, l4, l5, l6, l7, l8] [.ref a0, w0] σ := q_aload_n t56_329 rfl
theorem t56_330 : decode (mb 56) 330 = .ok (.aload_n 0, 1) := by decide +kernel
theorem s56_330 (d : Nat) (a0 : Nat) (l1 : Value) (l2 : Value) (l3 : Value) (l4 : Value) (l5 : Value) (l6 : Value) (l7 : Value) (l8 : Value) (w0 w1 : Value) (σ : Hs) : ru d 56 330 [.ref a0, l1, l2, l3, l4, l5, l6, l7, l8] [w0, w1] σ = ru d 56 331 [.ref a0, l1, l2, l3, l4, l5, l6, l7, l8] [.ref a0, w0, w1] σ := q_aload_n t56_330 rfl
theorem t56_331 : decode (mb 56) 331 = .ok (.getfield 24, 3) := by decide +kernel
theorem s56_331_o73 (d : Nat) (l0 : Value) (l1 : Value) (l2 : Value) (l3 : Value) (l4 : Value) (l5 : Value) (l6 : Value) (l7 : Value) (l8 : Value) (w0 w1 : Value) (σ : Hs) : ru d 56 331 [l0, l1, l2, l3, l4, l5, l6, l7, l8] [.ref 73, w0, w1] σ = ru d 56 334 [l0, l1, l2, l3, l4, l5, l6, l7, l8] [.int (σ 73 2), w0, w1] σ := q_getf t56_331 mo56 F6_24 rfl rfl
theorem t56_334 : decode (mb 56) 334 = .ok (.iconst 2, 1) := by decide +kernel
theorem s56_334 (d : Nat) (l0 : Value) (l1 : Value) (l2 : Value) (l3 : Value) (l4 : Value) (l5 : Value) (l6 : Value) (l7 : Value) (l8 : Value) (w0 w1 w2 : Value) (σ : Hs) : ru d 56 334 [l0, l1, l2, l3, l4, l5, l6, l7, l8] [w0, w1, w2] σ = ru d 56 335 [l0, l1, l2, l3, l4, l5, l6, l7, l8] [.int 2, w0, w1, w2] σ := q_iconst t56_334 (by decide +kernel)
theorem t56_335 : decode (mb 56) 335 = .ok (.iconst 0, 1) := by decide +kernel
theorem s56_335 (d : Nat) (l0 : Value) (l1 : Value) (l2 : Value) (l3 : Value) (l4 : Value) (l5 : Value) (l6 : Value) (l7 : Value) (l8 : Value) (w0 w1 w2 w3 : Value) (σ : Hs) : ru d 56 335 [l0, l1, l2, l3, l4, l5, l6, l7, l8] [w0, w1, w2, w3] σ = ru d 56 336 [l0, l1, l2, l3, l4, l5, l6, l7, l8] [.int 0, w0, w1, w2, w3] σ := q_iconst t56_335 (by decide +kernel)
theorem t56_336 : decode (mb 56) 336 = .ok (.iload 7, 2) := by decide +kernel
theorem s56_336 (d : Nat) (l0 : Value) (l1 : Value) (l2 : Value) (l3 : Value) (l4 : Value) (l5 : Value) (l6 : Value) (i7 : Int32) (l8 : Value) (w0 w1 w2 w3 w4 : Value) (σ : Hs) : ru d 56 336 [l0, l1, l2, l3, l4, l5, l6, .int i7, l8] [w0, w1, w2, w3, w4] σ = ru d 56 338 [l0, l1, l2, l3, l4, l5, l6, .int i7, l8] [.int i7, w0, w1, w2, w3, w4] σ := q_iload t56_336 rfl
theorem t56_338 : decode (mb 56) 338 = .ok (.invokevirtual 52, 3) := by decide +kernel
theorem s56_338_o73 (d : Nat) (l0 : Value) (l1 : Value) (l2 : Value) (l3 : Value) (l4 : Value) (l5 : Value) (l6 : Value) (l7 : Value) (l8 : Value) (v1 v2 v3 v4 : Value) (w0 : Int32) (σ : Hs) : ru d 56 338 [l0, l1, l2, l3, l4, l5, l6, l7, l8] [v4, v3, v2, v1, .ref 73, .int w0] σ = kont (callD d 56 [.ref 73, v1, v2, v3, v4] σ) d 56 341 [l0, l1, l2, l3, l4, l5, l6, l7, l8] [.int w0] := q_invv t56_338 mo56 K6_52 mj56 rfl rfl rfl rfl (Nat.le_of_ble_eq_true rfl)
theorem t56_341 : decode (mb 56) 341 = .ok (.isub, 1) := by decide +kernel
theorem s56_341 (d : Nat) (l0 : Value) (l1 : Value) (l2 : Value) (l3 : Value) (l4 : Value) (l5 : Value) (l6 : Value) (l7 : Value) (l8 : Value) (x y : Int32) (σ : Hs) : ru d 56 341 [l0, l1, l2, l3, l4, l5, l6, l7, l8] [.int y, .int x] σ = ru d 56 342 [l0, l1, l2, l3, l4, l5, l6, l7, l8] [.int (x - y)] σ := q_isub t56_341
theorem t56_342 : decode (mb 56) 342 = .ok (.ireturn, 1) := by decide +kernel
theorem s56_342 (d : Nat) (l0 : Value) (l1 : Value) (l2 : Value) (l3 : Value) (l4 : Value) (l5 : Value) (l6 : Value) (l7 : Value) (l8 : Value) (x : Int32) (σ : Hs) : ru d 56 342 [l0, l1, l2, l3, l4, l5, l6, l7, l8] [.int x] σ = some (some (.int x), σ) := q_ireti t56_342 mr56
theorem t56_343 : decode (mb 56) 343 = .ok (.aload_n 0, 1) := by decide +kernel
theorem s56_343 (d : Nat) (a0 : Nat) (l1 : Value) (l2 : Value) (l3 : Value) (l4 : Value) (l5 : Value) (l6 : Value) (l7 : Value) (l8 : Value) (σ : Hs) : ru d 56 343 [.ref a0, l1, l2, l3, l4, l5, l6, l7, l8] [] σ = ru d 56 344 [.ref a0, l1, l2, l3, l4, l5, l6, l7, l8] [.ref a0] σ := q_aload_n t56_343 rfl
theorem t56_344 : decode (mb 56) 344 = .ok (.iload 6, 2) := by decide +kernel
theorem s56_344 (d : Nat) (l0 : Value) (l1 : Value) (l2 : Value) (l3 : Value) (l4 : Value) (l5 : Value) (i6 : Int32) (l7 : Value) (l8 : Value) (w0 : Value) (σ : Hs) : ru d 56 344 [l0, l1, l2, l3, l4, l5, .int i6, l7, l8] [w0] σ = ru d 56 346 [l0, l1, l2, l3, l4, l5, .int i6, l7, l8] [.int i6, w0] σ := q_iload t56_344 rfl
theorem t56_346 : decode (mb 56) 346 = .ok (.iconst 1, 1) := by decide +kernel
theorem s56_346 (d : Nat) (l0 : Value) (l1 : Value) (l2 : Value) (l3 : Value) (l4 : Value) (l5 : Value) (l6 : Value) (l7 : Value) (l8 : Value) (w0 w1 : Value) (σ : Hs) : ru d 56 346 [l0, l1, l2, l3, l4, l5, l6, l7, l8] [w0, w1] σ = ru d 56 347 [l0, l1, l2, l3, l4, l5, l6, l7, l8] [.int 1, w0, w1] σ := q_iconst t56_346 (by decide +kernel)
theorem t56_347 : decode (mb 56) 347 = .ok (.iload_n 3, 1) := by decide +kernel
theorem s56_347 (d : Nat) (l0 : Value) (l1 : Value) (l2 : Value) (i3 : Int32) (l4 : Value) (l5 : Value) (l6 : Value) (l7 : Value) (l8 : Value) (w0 w1 w2 : Value) (σ : Hs) : ru d 56 347 [l0, l1, l2, .int i3, l4, l5, l6, l7, l8] [w0, w1, w2] σ = ru d 56 348 [l0, l1, l2, .int i3, l4, l5, l6, l7, l8] [.int i3, w0, w1, w2] σ := q_iload_n t56_347 rfl
theorem t56_348 : decode (mb 56) 348 = .ok (.iload 7, 2) := by decide +kernel
theorem s56_348 (d : Nat) (l0 : Value) (l1 : Value) (l2 : Value) (l3 : Value) (l4 : Value) (l5 : Value) (l6 : Value) (i7 : Int32) (l8 : Value) (w0 w1 w2 w3 : Value) (σ : Hs) : ru d 56 348 [l0, l1, l2, l3, l4, l5, l6, .int i7, l8] [w0, w1, w2, w3] σ = ru d 56 350 [l0, l1, l2, l3, l4, l5, l6, .int i7, l8] [.int i7, w0, w1, w2, w3] σ := q_iload t56_348 rfl
theorem t56_350 : decode (mb 56) 350 = .ok (.invokevirtual 52, 3) := by decide +kernel
theorem s56_350_o73 (d : Nat) (l0 : Value) (l1 : Value) (l2 : Value) (l3 : Value) (l4 : Value) (l5 : Value) (l6 : Value) (l7 : Value) (l8 : Value) (v1 v2 v3 v4 : Value) (σ : Hs) : ru d 56 350 [l0, l1, l2, l3, l4, l5, l6, l7, l8] [v4, v3, v2, v1, .ref 73] σ = kont (callD d 56 [.ref 73, v1, v2, v3, v4] σ) d 56 353 [l0, l1, l2, l3, l4, l5, l6, l7, l8] [] := q_invv t56_350 mo56 K6_52 mj56 rfl rfl rfl rfl (Nat.le_of_ble_eq_true rfl)
theorem t56_353 : decode (mb 56) 353 = .ok (.aload_n 0, 1) := by decide +kernel
theorem s56_353 (d : Nat) (a0 : Nat) (l1 : Value) (l2 : Value) (l3 : Value) (l4 : Value) (l5 : Value) (l6 : Value) (l7 : Value) (l8 : Value) (w0 : Value) (σ : Hs) : ru d 56 353 [.ref a0, l1, l2, l3, l4, l5, l6, l7, l8] [w0] σ = ru d 56 354 [.ref a0, l1, l2, l3, l4, l5, l6, l7, l8] [.ref a0, w0] σ := q_aload_n t56_353 rfl
theorem t56_354 : decode (mb 56) 354 = .ok (.getfield 28, 3) := by decide +kernel
theorem s56_354_o73 (d : Nat) (l0 : Value) (l1 : Value) (l2 : Value) (l3 : Value) (l4 : Value) (l5 : Value) (l6 : Value) (l7 : Value) (l8 : Value) (w0 : Value) (σ : Hs) : ru d 56 354 [l0, l1, l2, l3, l4, l5, l6, l7, l8] [.ref 73, w0] σ = ru d 56 357 [l0, l1, l2, l3, l4, l5, l6, l7, l8] [.int (σ 73 3), w0] σ := q_getf t56_354 mo56 F6_28 rfl rfl
theorem t56_357 : decode (mb 56) 357 = .ok (.iadd, 1) := by decide +kernel
theorem s56_357 (d : Nat) (l0 : Value) (l1 : Value) (l2 : Value) (l3 : Value) (l4 : Value) (l5 : Value) (l6 : Value) (l7 : Value) (l8 : Value) (x y : Int32) (σ : Hs) : ru d 56 357 [l0, l1, l2, l3, l4, l5, l6, l7, l8] [.int y, .int x] σ = ru d 56 358 [l0, l1, l2, l3, l4, l5, l6, l7, l8] [.int (x + y)] σ := q_iadd t56_357
theorem t56_358 : decode (mb 56) 358 = .ok (.ireturn, 1) := by decide +kernel
theorem s56_358 (d : Nat) (l0 : Value) (l1 : Value) (l2 : Value) (l3 : Value) (l4 : Value) (l5 : Value) (l6 : Value) (l7 : Value) (l8 : Value) (x : Int32) (σ : Hs) : ru d 56 358 [l0, l1, l2, l3, l4, l5, l6, l7, l8] [.int x] σ = some (some (.int x), σ) := q_ireti t56_358 mr56
theorem t56_359 : decode (mb 56) 359 = .ok (.iconst 3, 1) := by decide +kernel
theorem s56_359 (d : Nat) (l0 : Value) (l1 : Value) (l2 : Value) (l3 : Value) (l4 : Value) (l5 : Value) (l6 : Value) (l7 : Value) (l8 : Value) (σ : Hs) : ru d 56 359 [l0, l1, l2, l3, l4, l5, l6, l7, l8] [] σ = ru d 56 360 [l0, l1, l2, l3, l4, l5, l6, l7, l8] [.int 3] σ := q_iconst t56_359 (by decide +kernel)
theorem t56_360 : decode (mb 56) 360 = .ok (.ireturn, 1) := by decide +kernel
theorem s56_360 (d : Nat) (l0 : Value) (l1 : Value) (l2 : Value) (l3 : Value) (l4 : Value) (l5 : Value) (l6 : Value) (l7 : Value) (l8 : Value) (x : Int32) (σ : Hs) : ru d 56 360 [l0, l1, l2, l3, l4, l5, l6, l7, l8] [.int x] σ = some (some (.int x), σ) := q_ireti t56_360 mr56
theorem t56_361 : decode (mb 56) 361 = .ok (.aload_n 0, 1) := by decide +kernel
theorem s56_361 (d : Nat) (a0 : Nat) (l1 : Value) (l2 : Value) (l3 : Value) (l4 : Value) (l5 : Value) (l6 : Value) (l7 : Value) (l8 : Value) (σ : Hs) : ru d 56 361 [.ref a0, l1, l2, l3, l4, l5, l6, l7, l8] [] σ = ru d 56 362 [.ref a0, l1, l2, l3, l4, l5, l6, l7, l8] [.ref a0] σ := q_aload_n t56_361 rfl
theorem t56_362 : decode (mb 56) 362 = .ok (.iload 6, 2) := by decide +kernel
theorem s56_362 (d : Nat) (l0 : Value) (l1 : Value) (l2 : Value) (l3 : Value) (l4 : Value) (l5 : Value) (i6 : Int32) (l7 : Value) (l8 : Value) (w0 : Value) (σ : Hs) : ru d 56 362 [l0, l1, l2, l3, l4, l5, .int i6, l7, l8] [w0] σ = ru d 56 364 [l0, l1, l2, l3, l4, l5, .int i6, l7, l8] [.int i6, w0] σ := q_iload t56_362 rfl
theorem t56_364 : decode (mb 56) 364 = .ok (.iconst 2, 1) := by decide +kernel
theorem s56_364 (d : Nat) (l0 : Value) (l1 : Value) (l2 : Value) (l3 : Value) (l4 : Value) (l5 : Value) (l6 : Value) (l7 : Value) (l8 : Value) (w0 w1 : Value) (σ : Hs) : ru d 56 364 [l0, l1, l2, l3, l4, l5, l6, l7, l8] [w0, w1] σ = ru d 56 365 [l0, l1, l2, l3, l4, l5, l6, l7, l8] [.int 2, w0, w1] σ := q_iconst t56_364 (by decide +kernel)
theorem t56_365 : decode (mb 56) 365 = .ok (.iload_n 3, 1) := by decide +kernel
theorem s56_365 (d : Nat) (l0 : Value) (l1 : Value) (l2 : Value) (i3 : Int32) (l4 : Value) (l5 : Value) (l6 : Value) (l7 : Value) (l8 : Value) (w0 w1 w2 : Value) (σ : Hs) : ru d 56 365 [l0, l1, l2, .int i3, l4, l5, l6, l7, l8] [w0, w1, w2] σ = ru d 56 366 [l0, l1, l2, .int i3, l4, l5, l6, l7, l8] [.int i3, w0, w1, w2] σ := q_iload_n t56_365 rfl
theorem t56_366 : decode (mb 56) 366 = .ok (.iload 7, 2) := by decide +kernel
theorem s56_366 (d : Nat) (l0 : Value) (l1 : Value) (l2 : Value) (l3 : Value) (l4 : Value) (l5 : Value) (l6 : Value) (i7 : Int32) (l8 : Value) (w0 w1 w2 w3 : Value) (σ : Hs) : ru d 56 366 [l0, l1, l2, l3, l4, l5, l6, .int i7, l8] [w0, w1, w2, w3] σ = ru d 56 368 [l0, l1, l2, l3, l4, l5, l6, .int i7, l8] [.int i7, w0, w1, w2, w3] σ := q_iload t56_366 rfl
theorem t56_368 : decode (mb 56) 368 = .ok (.invokevirtual 52, 3) := by decide +kernel
theorem s56_368_o73 (d : Nat) (l0 : Value) (l1 : Value) (l2 : Value) (l3 : Value) (l4 : Value) (l5 : Value) (l6 : Value) (l7 : Value) (l8 : Value) (v1 v2 v3 v4 : Value) (σ : Hs) : ru d 56 368 [l0, l1, l2, l3, l4, l5, l6, l7, l8] [v4, v3, v2, v1, .ref 73] σ = kont (callD d 56 [.ref 73, v1, v2, v3, v4] σ) d 56 371 [l0, l1, l2, l3, l4, l5, l6, l7, l8] [] := q_invv t56_368 mo56 K6_52 mj56 rfl rfl rfl rfl (Nat.le_of_ble_eq_true rfl)
theorem t56_371 : decode (mb 56) 371 = .ok (.iconst 5, 1) := by decide +kernel
theorem s56_371 (d : Nat) (l0 : Value) (l1 : Value) (l2 : Value) (l3 : Value) (l4 : Value) (l5 : Value) (l6 : Value) (l7 : Value) (l8 : Value) (w0 : Value) (σ : Hs) : ru d 56 371 [l0, l1, l2, l3, l4, l5, l6, l7, l8] [w0] σ = ru d 56 372 [l0, l1, l2, l3, l4, l5, l6, l7, l8] [.int 5, w0] σ := q_iconst t56_371 (by decide +kernel)
theorem t56_372 : decode (mb 56) 372 = .ok (.imul, 1) := by decide +kernel
theorem s56_372 (d : Nat) (l0 : Value) (l1 : Value) (l2 : Value) (l3 : Value) (l4 : Value) (l5 : Value) (l6 : Value) (l7 : Value) (l8 : Value) (x y : Int32) (σ : Hs) : ru d 56 372 [l0, l1, l2, l3, l4, l5, l6, l7, l8] [.int y, .int x] σ = ru d 56 373 [l0, l1, l2, l3, l4, l5, l6, l7, l8] [.int (x * y)] σ := q_imul t56_372
theorem t56_373 : decode (mb 56) 373 = .ok (.ireturn, 1) := by decide +kernel
theorem s56_373 (d : Nat) (l0 : Value) (l1 : Value) (l2 : Value) (l3 : Value) (l4 : Value) (l5 : Value) (l6 : Value) (l7 : Value) (l8 : Value) (x : Int32) (σ : Hs) : ru d 56 373 [l0, l1, l2, l3, l4, l5, l6, l7, l8] [.int x] σ = some (some (.int x), σ) := q_ireti t56_373 mr56
theorem c56 (d : Nat) (x0 : Nat) (x1 : Int32) (x2 : Int32) (x3 : Int32) (x4 : Int32) (σ : Hs) : callD (d + 1) 56 [.ref x0, .int x1, .int x2, .int x3, .int x4] σ = ru d 56 0 [.ref x0, .int x1, .int x2, .int x3, .int x4, uu, uu, uu, uu] [] σ := callD_ru ml56 rfl rfl (Nat.le_of_ble_eq_true rfl)
-- 57: Voices.shared(I)I
theorem t57_0 : decode (mb 57) 0 = .ok (.aload_n 0, 1) := by decide +kernel
theorem s57_0 (d : Nat) (a0 : Nat) (l1 : Value) (l2 : Value) (σ : Hs) : ru d 57 0 [.ref a0, l1, l2] [] σ = ru d 57 1 [.ref a0, l1, l2] [.ref a0] σ := q_aload_n t57_0 rfl
theorem t57_1 : decode (mb 57) 1 = .ok (.getfield 31, 3) := by decide +kernel
theorem s57_1_o73 (d : Nat) (l0 : Value) (l1 : Value) (l2 : Value) (σ : Hs) : ru d 57 1 [l0, l1, l2] [.ref 73] σ = ru d 57 4 [l0, l1, l2] [.int (σ 73 4)] σ := q_getf t57_1 mo57 F6_31 rfl rfl
theorem t57_4 : decode (mb 57) 4 = .ok (.aload_n 0, 1) := by decide +kernel
theorem s57_4 (d : Nat) (a0 : Nat) (l1 : Value) (l2 : Value) (w0 : Value) (σ : Hs) : ru d 57 4 [.ref a0, l1, l2] [w0] σ = ru d 57 5 [.ref a0, l1, l2] [.ref a0, w0] σ := q_aload_n t57_4 rfl
theorem t57_5 : decode (mb 57) 5 = .ok (.getfield 28, 3) := by decide +kernel
theorem s57_5_o73 (d : Nat) (l0 : Value) (l1 : Value) (l2 : Value) (w0 : Value) (σ : Hs) : ru d 57 5 [l0, l1, l2] [.ref 73, w0] σ = ru d 57 8 [l0, l1, l2] [.int (σ 73 3), w0] σ := q_getf t57_5 mo57 F6_28 rfl rfl
theorem t57_8 : decode (mb 57) 8 = .ok (.isub, 1) := by decide +kernel
theorem s57_8 (d : Nat) (l0 : Value) (l1 : Value) (l2 : Value) (x y : Int32) (σ : Hs) : ru d 57 8 [l0, l1, l2] [.int y, .int x] σ = ru d 57 9 [l0, l1, l2] [.int (x - y)] σ := q_isub t57_8
theorem t57_9 : decode (mb 57) 9 = .ok (.istore_n 2, 1) := by decide +kernel
theorem s57_9 (d : Nat) (l0 : Value) (i1 : Int32) (l2 : Value) (x : Int32) (σ : Hs) : ru d 57 9 [l0, .int i1, l2] [.int x] σ = ru d 57 10 [l0, .int i1, .int x] [] σ := q_istore_n t57_9 ⟨Nat.le_of_ble_eq_true rfl, rfl⟩ rfl
theorem t57_10 : decode (mb 57) 10 = .ok (.iload_n 2, 1) := by decide +kernel
theorem s57_10 (d : Nat) (l0 : Value) (l1 : Value) (i2 : Int32) (σ : Hs) : ru d 57 10 [l0, l1, .int i2] [] σ = ru d 57 11 [l0, l1, .int i2] [.int i2] σ := q_iload_n t57_10 rfl
theorem t57_11 : decode (mb 57) 11 = .ok (.ifCond .ne 10, 3) := by decide +kernel
theorem s57_11 (d : Nat) (l0 : Value) (l1 : Value) (l2 : Value) (x : Int32) (σ : Hs) : ru d 57 11 [l0, l1, l2] [.int x] σ = if x = 0 then ru d 57 14 [l0, l1, l2] [] σ else ru d 57 21 [l0, l1, l2] [] σ := q_if_ne t57_11 (by decide +kernel)
theorem t57_14 : decode (mb 57) 14 = .ok (.aload_n 0, 1) := by decide +kernel
theorem s57_14 (d : Nat) (a0 : Nat) (l1 : Value) (l2 : Value) (σ : Hs) : ru d 57 14 [.ref a0, l1, l2] [] σ = ru d 57 15 [.ref a0, l1, l2] [.ref a0] σ := q_aload_n t57_14 rfl
theorem t57_15 : decode (mb 57) 15 = .ok (.iconst 1, 1) := by decide +kernel
theorem s57_15 (d : Nat) (l0 : Value) (l1 : Value) (l2 : Value) (w0 : Value) (σ : Hs) : ru d 57 15 [l0, l1, l2] [w0] σ = ru d 57 16 [l0, l1, l2] [.int 1, w0] σ := q_iconst t57_15 (by decide +kernel)
theorem t57_16 : decode (mb 57) 16 = .ok (.putfield 20, 3) := by decide +kernel
theorem s57_16_o73 (d : Nat) (l0 : Value) (l1 : Value) (l2 : Value) (x : Int32) (hx : isB x) (σ : Hs) : ru d 57 16 [l0, l1, l2] [.int x, .ref 73] σ = ru d 57 19 [l0, l1, l2] [] (up2 σ 73 1 x) := q_putz t57_16 mo57 F6_20 (by decide +kernel) rfl rfl hx
theorem t57_19 : decode (mb 57) 19 = .ok (.iconst 0, 1) := by decide +kernel
theorem s57_19 (d : Nat) (l0 : Value) (l1 : Value) (l2 : Value) (σ : Hs) : ru d 57 19 [l0, l1, l2] [] σ = ru d 57 20 [l0, l1, l2] [.int 0] σ := q_iconst t57_19 (by decide +kernel)
theorem t57_20 : decode (mb 57) 20 = .ok (.ireturn, 1) := by decide +kernel
theorem s57_20 (d : Nat) (l0 : Value) (l1 : Value) (l2 : Value) (x : Int32) (σ : Hs) : ru d 57 20 [l0, l1, l2] [.int x] σ = some (some (.int x), σ) := q_ireti t57_20 mr57
theorem t57_21 : decode (mb 57) 21 = .ok (.iload_n 1, 1) := by decide +kernel
theorem s57_21 (d : Nat) (l0 : Value) (i1 : Int32) (l2 : Value) (σ : Hs) : ru d 57 21 [l0, .int i1, l2] [] σ = ru d 57 22 [l0, .int i1, l2] [.int i1] σ := q_iload_n t57_21 rfl
theorem t57_22 : decode (mb 57) 22 = .ok (.iload_n 2, 1) := by decide +kernel
theorem s57_22 (d : Nat) (l0 : Value) (l1 : Value) (i2 : Int32) (w0 : Value) (σ : Hs) : ru d 57 22 [l0, l1, .int i2] [w0] σ = ru d 57 23 [l0, l1, .int i2] [.int i2, w0] σ := q_iload_n t57_22 rfl
theorem t57_23 : decode (mb 57) 23 = .ok (.idiv, 1) := by decide +kernel
theorem s57_23 (d : Nat) (l0 : Value) (l1 : Value) (l2 : Value) (x y : Int32) (σ : Hs) : ru d 57 23 [l0, l1, l2] [.int y, .int x] σ = gd (¬ y = 0) (ru d 57 24 [l0, l1, l2] [.int (x / y)] σ) := q_idiv t57_23
theorem t57_24 : decode (mb 57) 24 = .ok (.ireturn, 1) := by decide +kernel
theorem s57_24 (d : Nat) (l0 : Value) (l1 : Value) (l2 : Value) (x : Int32) (σ : Hs) : ru d 57 24 [l0, l1, l2] [.int x] σ = some (some (.int x), σ) := q_ireti t57_24 mr57
theorem c57 (d : Nat) (x0 : Nat) (x1 : Int32) (σ : Hs) : callD (d + 1) 57 [.ref x0, .int x1] σ = ru d 57 0 [.ref x0, .int x1, uu] [] σ := callD_ru ml57 rfl rfl (Nat.le_of_ble_eq_true rfl)
-- 58: Voices.ownerOf(II)I
theorem t58_0 : decode (mb 58) 0 = .ok (.iload_n 0, 1) := by decide +kernel
theorem s58_0 (d : Nat) (i0 : Int32) (l1 : Value) (l2 : Value) (l3 : Value) (σ : Hs) : ru d 58 0 [.int i0, l1, l2, l3] [] σ = ru d 58 1 [.int i0, l1, l2, l3] [.int i0] σ := q_iload_n t58_0 rfl
theorem t58_1 : decode (mb 58) 1 = .ok (.istore_n 2, 1) := by decide +kernel
theorem s58_1 (d : Nat) (l0 : Value) (i1 : Int32) (l2 : Value) (l3 : Value) (x : Int32) (σ : Hs) : ru d 58 1 [l0, .int i1, l2, l3] [.int x] σ = ru d 58 2 [l0, .int i1, .int x, l3] [] σ := q_istore_n t58_1 ⟨Nat.le_of_ble_eq_true rfl, rfl⟩ rfl
theorem t58_2 : decode (mb 58) 2 = .ok (.iconst 0, 1) := by decide +kernel
theorem s58_2 (d : Nat) (l0 : Value) (l1 : Value) (l2 : Value) (l3 : Value) (σ : Hs) : ru d 58 2 [l0, l1, l2, l3] [] σ = ru d 58 3 [l0, l1, l2, l3] [.int 0] σ := q_iconst t58_2 (by decide +kernel)
theorem t58_3 : decode (mb 58) 3 = .ok (.istore_n 3, 1) := by decide +kernel
theorem s58_3 (d : Nat) (l0 : Value) (l1 : Value) (i2 : Int32) (l3 : Value) (x : Int32) (σ : Hs) : ru d 58 3 [l0, l1, .int i2, l3] [.int x] σ = ru d 58 4 [l0, l1, .int i2, .int x] [] σ := q_istore_n t58_3 ⟨Nat.le_of_ble_eq_true rfl, rfl⟩ rfl
theorem t58_4 : decode (mb 58) 4 = .ok (.iload_n 3, 1) := by decide +kernel
theorem s58_4 (d : Nat) (l0 : Value) (l1 : Value) (l2 : Value) (i3 : Int32) (σ : Hs) : ru d 58 4 [l0, l1, l2, .int i3] [] σ = ru d 58 5 [l0, l1, l2, .int i3] [.int i3] σ := q_iload_n t58_4 rfl
theorem t58_5 : decode (mb 58) 5 = .ok (.bipush 7, 2) := by decide +kernel
theorem s58_5 (d : Nat) (l0 : Value) (l1 : Value) (l2 : Value) (l3 : Value) (w0 : Value) (σ : Hs) : ru d 58 5 [l0, l1, l2, l3] [w0] σ = ru d 58 7 [l0, l1, l2, l3] [.int 7, w0] σ := q_bipush t58_5 (by decide +kernel)
theorem t58_7 : decode (mb 58) 7 = .ok (.if_icmp .ge 36, 3) := by decide +kernel
theorem s58_7 (d : Nat) (l0 : Value) (l1 : Value) (l2 : Value) (l3 : Value) (x y : Int32) (σ : Hs) : ru d 58 7 [l0, l1, l2, l3] [.int y, .int x] σ = if y ≤ x then ru d 58 43 [l0, l1, l2, l3] [] σ else ru d 58 10 [l0, l1, l2, l3] [] σ := q_ic_ge t58_7 (by decide +kernel)
theorem t58_10 : decode (mb 58) 10 = .ok (.iload_n 2, 1) := by decide +kernel
theorem s58_10 (d : Nat) (l0 : Value) (l1 : Value) (i2 : Int32) (l3 : Value) (σ : Hs) : ru d 58 10 [l0, l1, .int i2, l3] [] σ = ru d 58 11 [l0, l1, .int i2, l3] [.int i2] σ := q_iload_n t58_10 rfl
theorem t58_11 : decode (mb 58) 11 = .ok (.invokestatic 60, 3) := by decide +kernel
theorem s58_11 (d : Nat) (l0 : Value) (l1 : Value) (l2 : Value) (l3 : Value) (v0 : Value) (σ : Hs) : ru d 58 11 [l0, l1, l2, l3] [v0] σ = kont (callD d 105 [v0] σ) d 58 14 [l0, l1, l2, l3] [] := q_invs t58_11 mo58 (by decide +kernel) K6_60 mj105 (Nat.le_of_ble_eq_true rfl) rfl rfl (Nat.le_of_ble_eq_true rfl)
theorem t58_14 : decode (mb 58) 14 = .ok (.ifCond .eq 29, 3) := by decide +kernel
theorem s58_14 (d : Nat) (l0 : Value) (l1 : Value) (l2 : Value) (l3 : Value) (x : Int32) (σ : Hs) : ru d 58 14 [l0, l1, l2, l3] [.int x] σ = if x = 0 then ru d 58 43 [l0, l1, l2, l3] [] σ else ru d 58 17 [l0, l1, l2, l3] [] σ := q_if_eq t58_14 (by decide +kernel)
theorem t58_17 : decode (mb 58) 17 = .ok (.getstatic 45, 3) := by decide +kernel
theorem s58_17 (d : Nat) (l0 : Value) (l1 : Value) (l2 : Value) (l3 : Value) (σ : Hs) : ru d 58 17 [l0, l1, l2, l3] [] σ = ru d 58 20 [l0, l1, l2, l3] [.ref 108] σ := q_gets t58_17 mo58 S6_45 rfl
theorem t58_20 : decode (mb 58) 20 = .ok (.iconst 4, 1) := by decide +kernel
theorem s58_20 (d : Nat) (l0 : Value) (l1 : Value) (l2 : Value) (l3 : Value) (w0 : Value) (σ : Hs) : ru d 58 20 [l0, l1, l2, l3] [w0] σ = ru d 58 21 [l0, l1, l2, l3] [.int 4, w0] σ := q_iconst t58_20 (by decide +kernel)
theorem t58_21 : decode (mb 58) 21 = .ok (.iload_n 2, 1) := by decide +kernel
theorem s58_21 (d : Nat) (l0 : Value) (l1 : Value) (i2 : Int32) (l3 : Value) (w0 w1 : Value) (σ : Hs) : ru d 58 21 [l0, l1, .int i2, l3] [w0, w1] σ = ru d 58 22 [l0, l1, .int i2, l3] [.int i2, w0, w1] σ := q_iload_n t58_21 rfl
theorem t58_22 : decode (mb 58) 22 = .ok (.imul, 1) := by decide +kernel
theorem s58_22 (d : Nat) (l0 : Value) (l1 : Value) (l2 : Value) (l3 : Value) (x y : Int32) (w0 : Value) (σ : Hs) : ru d 58 22 [l0, l1, l2, l3] [.int y, .int x, w0] σ = ru d 58 23 [l0, l1, l2, l3] [.int (x * y), w0] σ := q_imul t58_22
theorem t58_23 : decode (mb 58) 23 = .ok (.iload_n 1, 1) := by decide +kernel
theorem s58_23 (d : Nat) (l0 : Value) (i1 : Int32) (l2 : Value) (l3 : Value) (w0 w1 : Value) (σ : Hs) : ru d 58 23 [l0, .int i1, l2, l3] [w0, w1] σ = ru d 58 24 [l0, .int i1, l2, l3] [.int i1, w0, w1] σ := q_iload_n t58_23 rfl
theorem t58_24 : decode (mb 58) 24 = .ok (.iadd, 1) := by decide +kernel
theorem s58_24 (d : Nat) (l0 : Value) (l1 : Value) (l2 : Value) (l3 : Value) (x y : Int32) (w0 : Value) (σ : Hs) : ru d 58 24 [l0, l1, l2, l3] [.int y, .int x, w0] σ = ru d 58 25 [l0, l1, l2, l3] [.int (x + y), w0] σ := q_iadd t58_24
theorem t58_25 : decode (mb 58) 25 = .ok (.iaload, 1) := by decide +kernel
theorem s58_25_o108 (d : Nat) (l0 : Value) (l1 : Value) (l2 : Value) (l3 : Value) (i : Int32) (σ : Hs) : ru d 58 25 [l0, l1, l2, l3] [.int i, .ref 108] σ = gd (vp_in i 28) (ru d 58 26 [l0, l1, l2, l3] [.int (([10, 11, 12, 13, 20, 0, 0, 21, 0, 0, 30, 0, 40, 41, 0, 0, 0, 0, 50, 51, 0, 60, 0, 0, 70, 0, 71, 0] : List Int32).getD i.toNatClampNeg 0)] σ) := q_ials t58_25 rfl (by decide +kernel) rfl rfl
theorem t58_26 : decode (mb 58) 26 = .ok (.ifCond .eq 5, 3) := by decide +kernel
theorem s58_26 (d : Nat) (l0 : Value) (l1 : Value) (l2 : Value) (l3 : Value) (x : Int32) (σ : Hs) : ru d 58 26 [l0, l1, l2, l3] [.int x] σ = if x = 0 then ru d 58 31 [l0, l1, l2, l3] [] σ else ru d 58 29 [l0, l1, l2, l3] [] σ := q_if_eq t58_26 (by decide +kernel)
theorem t58_29 : decode (mb 58) 29 = .ok (.iload_n 2, 1) := by decide +kernel
theorem s58_29 (d : Nat) (l0 : Value) (l1 : Value) (i2 : Int32) (l3 : Value) (σ : Hs) : ru d 58 29 [l0, l1, .int i2, l3] [] σ = ru d 58 30 [l0, l1, .int i2, l3] [.int i2] σ := q_iload_n t58_29 rfl
theorem t58_30 : decode (mb 58) 30 = .ok (.ireturn, 1) := by decide +kernel
theorem s58_30 (d : Nat) (l0 : Value) (l1 : Value) (l2 : Value) (l3 : Value) (x : Int32) (σ : Hs) : ru d 58 30 [l0, l1, l2, l3] [.int x] σ = some (some (.int x), σ) := q_ireti t58_30 mr58
theorem t58_31 : decode (mb 58) 31 = .ok (.getstatic 41, 3) := by decide +kernel
theorem s58_31 (d : Nat) (l0 : Value) (l1 : Value) (l2 : Value) (l3 : Value) (σ : Hs) : ru d 58 31 [l0, l1, l2, l3] [] σ = ru d 58 34 [l0, l1, l2, l3] [.ref 104] σ := q_gets t58_31 mo58 S6_41 rfl
theorem t58_34 : decode (mb 58) 34 = .ok (.iload_n 2, 1) := by decide +kernel
theorem s58_34 (d : Nat) (l0 : Value) (l1 : Value) (i2 : Int32) (l3 : Value) (w0 : Value) (σ : Hs) : ru d 58 34 [l0, l1, .int i2, l3] [w0] σ = ru d 58 35 [l0, l1, .int i2, l3] [.int i2, w0] σ := q_iload_n t58_34 rfl
theorem t58_35 : decode (mb 58) 35 = .ok (.iaload, 1) := by decide +kernel
theorem s58_35_o104 (d : Nat) (l0 : Value) (l1 : Value) (l2 : Value) (l3 : Value) (i : Int32) (σ : Hs) : ru d 58 35 [l0, l1, l2, l3] [.int i, .ref 104] σ = gd (vp_in i 7) (ru d 58 36 [l0, l1, l2, l3] [.int (([(-1), 0, 0, 1, 2, 0, 5] : List Int32).getD i.toNatClampNeg 0)] σ) := q_ials t58_35 rfl (by decide +kernel) rfl rfl
theorem t58_36 : decode (mb 58) 36 = .ok (.istore_n 2, 1) := by decide +kernel
theorem s58_36 (d : Nat) (l0 : Value) (i1 : Int32) (l2 : Value) (l3 : Value) (x : Int32) (σ : Hs) : ru d 58 36 [l0, .int i1, l2, l3] [.int x] σ = ru d 58 37 [l0, .int i1, .int x, l3] [] σ := q_istore_n t58_36 ⟨Nat.le_of_ble_eq_true rfl, rfl⟩ rfl
theorem t58_37 : decode (mb 58) 37 = .ok (.iinc 3 1, 3) := by decide +kernel
theorem s58_37 (d : Nat) (l0 : Value) (l1 : Value) (i2 : Int32) (i3 : Int32) (σ : Hs) : ru d 58 37 [l0, l1, .int i2, .int i3] [] σ = ru d 58 40 [l0, l1, .int i2, .int (i3 + 1)] [] σ := q_iinc t58_37 ⟨Nat.le_of_ble_eq_true rfl, rfl⟩ rfl (by decide +kernel) rfl
theorem t58_40 : decode (mb 58) 40 = .ok (.goto (-36), 3) := by decide +kernel
theorem s58_40 (d : Nat) (l0 : Value) (l1 : Value) (l2 : Value) (l3 : Value) (σ : Hs) : ru d 58 40 [l0, l1, l2, l3] [] σ = ru d 58 4 [l0, l1, l2, l3] [] σ := q_goto t58_40 (by decide +kernel)
theorem t58_43 : decode (mb 58) 43 = .ok (.iconst (-1), 1) := by decide +kernel
theorem s58_43 (d : Nat) (l0 : Value) (l1 : Value) (l2 : Value) (l3 : Value) (σ : Hs) : ru d 58 43 [l0, l1, l2, l3] [] σ = ru d 58 44 [l0, l1, l2, l3] [.int (-1)] σ := q_iconst t58_43 (by decide +kernel)
theorem t58_44 : decode (mb 58) 44 = .ok (.ireturn, 1) := by decide +kernel
theorem s58_44 (d : Nat) (l0 : Value) (l1 : Value) (l2 : Value) (l3 : Value) (x : Int32) (σ : Hs) : ru d 58 44 [l0, l1, l2, l3] [.int x] σ = some (some (.int x), σ) := q_ireti t58_44 mr58
theorem c58 (d : Nat) (x0 : Int32) (x1 : Int32) (σ : Hs) : callD (d + 1) 58 [.int x0, .int x1] σ = ru d 58 0 [.int x0, .int x1, uu, uu] [] σ := callD_ru ml58 rfl rfl (Nat.le_of_ble_eq_true rfl)
-- 59: SmokyHeap.lay(IIII)I
theorem t59_0 : decode (mb 59) 0 = .ok (.aload_n 0, 1) := by decide +kernel
theorem s59_0 (d : Nat) (a0 : Nat) (l1 : Value) (l2 : Value) (l3 : Value) (l4 : Value) (l5 : Value) (σ : Hs) : ru d 59 0 [.ref a0, l1, l2, l3, l4, l5] [] σ = ru d 59 1 [.ref a0, l1, l2, l3, l4, l5] [.ref a0] σ := q_aload_n t59_0 rfl
theorem t59_1 : decode (mb 59) 1 = .ok (.getfield 10, 3) := by decide +kernel
theorem s59_1_o0 (d : Nat) (l0 : Value) (l1 : Value) (l2 : Value) (l3 : Value) (l4 : Value) (l5 : Value) (σ : Hs) : ru d 59 1 [l0, l1, l2, l3, l4, l5] [.ref 0] σ = ru d 59 4 [l0, l1, l2, l3, l4, l5] [.ref 1] σ := q_getf t59_1 mo59 F7_10 rfl rfl
theorem t59_4 : decode (mb 59) 4 = .ok (.getfield 58, 3) := by decide +kernel
theorem s59_4_o1 (d : Nat) (l0 : Value) (l1 : Value) (l2 : Value) (l3 : Value) (l4 : Value) (l5 : Value) (σ : Hs) : ru d 59 4 [l0, l1, l2, l3, l4, l5] [.ref 1] σ = ru d 59 7 [l0, l1, l2, l3, l4, l5] [.ref 2] σ := q_getf t59_4 mo59 F7_58 rfl rfl
theorem t59_7 : decode (mb 59) 7 = .ok (.iload_n 1, 1) := by decide +kernel
theorem s59_7 (d : Nat) (l0 : Value) (i1 : Int32) (l2 : Value) (l3 : Value) (l4 : Value) (l5 : Value) (w0 : Value) (σ : Hs) : ru d 59 7 [l0, .int i1, l2, l3, l4, l5] [w0] σ = ru d 59 8 [l0, .int i1, l2, l3, l4, l5] [.int i1, w0] σ := q_iload_n t59_7 rfl
theorem t59_8 : decode (mb 59) 8 = .ok (.iload_n 2, 1) := by decide +kernel
theorem s59_8 (d : Nat) (l0 : Value) (l1 : Value) (i2 : Int32) (l3 : Value) (l4 : Value) (l5 : Value) (w0 w1 : Value) (σ : Hs) : ru d 59 8 [l0, l1, .int i2, l3, l4, l5] [w0, w1] σ = ru d 59 9 [l0, l1, .int i2, l3, l4, l5] [.int i2, w0, w1] σ := q_iload_n t59_8 rfl
theorem t59_9 : decode (mb 59) 9 = .ok (.iload_n 3, 1) := by decide +kernel
theorem s59_9 (d : Nat) (l0 : Value) (l1 : Value) (l2 : Value) (i3 : Int32) (l4 : Value) (l5 : Value) (w0 w1 w2 : Value) (σ : Hs) : ru d 59 9 [l0, l1, l2, .int i3, l4, l5] [w0, w1, w2] σ = ru d 59 10 [l0, l1, l2, .int i3, l4, l5] [.int i3, w0, w1, w2] σ := q_iload_n t59_9 rfl
theorem t59_10 : decode (mb 59) 10 = .ok (.iload 4, 2) := by decide +kernel
theorem s59_10 (d : Nat) (l0 : Value) (l1 : Value) (l2 : Value) (l3 : Value) (i4 : Int32) (l5 : Value) (w0 w1 w2 w3 : Value) (σ : Hs) : ru d 59 10 [l0, l1, l2, l3, .int i4, l5] [w0, w1, w2, w3] σ = ru d 59 12 [l0, l1, l2, l3, .int i4, l5] [.int i4, w0, w1, w2, w3] σ := q_iload t59_10 rfl
theorem t59_12 : decode (mb 59) 12 = .ok (.invokevirtual 61, 3) := by decide +kernel
theorem s59_12_o2 (d : Nat) (l0 : Value) (l1 : Value) (l2 : Value) (l3 : Value) (l4 : Value) (l5 : Value) (v1 v2 v3 v4 : Value) (σ : Hs) : ru d 59 12 [l0, l1, l2, l3, l4, l5] [v4, v3, v2, v1, .ref 2] σ = kont (callD d 2 [.ref 2, v1, v2, v3, v4] σ) d 59 15 [l0, l1, l2, l3, l4, l5] [] := q_invv t59_12 mo59 K7_61 mj2 rfl rfl rfl rfl (Nat.le_of_ble_eq_true rfl)
theorem t59_15 : decode (mb 59) 15 = .ok (.istore 5, 2) := by decide +kernel
theorem s59_15 (d : Nat) (l0 : Value) (l1 : Value) (l2 : Value) (l3 : Value) (i4 : Int32) (l5 : Value) (x : Int32) (σ : Hs) : ru d 59 15 [l0, l1, l2, l3, .int i4, l5] [.int x] σ = ru d 59 17 [l0, l1, l2, l3, .int i4, .int x] [] σ := q_istore t59_15 ⟨Nat.le_of_ble_eq_true rfl, rfl⟩ rfl
theorem t59_17 : decode (mb 59) 17 = .ok (.iload 5, 2) := by decide +kernel
theorem s59_17 (d : Nat) (l0 : Value) (l1 : Value) (l2 : Value) (l3 : Value) (l4 : Value) (i5 : Int32) (σ : Hs) : ru d 59 17 [l0, l1, l2, l3, l4, .int i5] [] σ = ru d 59 19 [l0, l1, l2, l3, l4, .int i5] [.int i5] σ := q_iload t59_17 rfl
theorem t59_19 : decode (mb 59) 19 = .ok (.ifCond .ge 13, 3) := by decide +kernel
theorem s59_19 (d : Nat) (l0 : Value) (l1 : Value) (l2 : Value) (l3 : Value) (l4 : Value) (l5 : Value) (x : Int32) (σ : Hs) : ru d 59 19 [l0, l1, l2, l3, l4, l5] [.int x] σ = if 0 ≤ x then ru d 59 32 [l0, l1, l2, l3, l4, l5] [] σ else ru d 59 22 [l0, l1, l2, l3, l4, l5] [] σ := q_if_ge t59_19 (by decide +kernel)
theorem t59_22 : decode (mb 59) 22 = .ok (.aload_n 0, 1) := by decide +kernel
theorem s59_22 (d : Nat) (a0 : Nat) (l1 : Value) (l2 : Value) (l3 : Value) (l4 : Value) (l5 : Value) (σ : Hs) : ru d 59 22 [.ref a0, l1, l2, l3, l4, l5] [] σ = ru d 59 23 [.ref a0, l1, l2, l3, l4, l5] [.ref a0] σ := q_aload_n t59_22 rfl
theorem t59_23 : decode (mb 59) 23 = .ok (.iload 5, 2) := by decide +kernel
theorem s59_23 (d : Nat) (l0 : Value) (l1 : Value) (l2 : Value) (l3 : Value) (l4 : Value) (i5 : Int32) (w0 : Value) (σ : Hs) : ru d 59 23 [l0, l1, l2, l3, l4, .int i5] [w0] σ = ru d 59 25 [l0, l1, l2, l3, l4, .int i5] [.int i5, w0] σ := q_iload t59_23 rfl
theorem t59_25 : decode (mb 59) 25 = .ok (.ineg, 1) := by decide +kernel
theorem s59_25 (d : Nat) (l0 : Value) (l1 : Value) (l2 : Value) (l3 : Value) (l4 : Value) (l5 : Value) (x : Int32) (w0 : Value) (σ : Hs) : ru d 59 25 [l0, l1, l2, l3, l4, l5] [.int x, w0] σ = ru d 59 26 [l0, l1, l2, l3, l4, l5] [.int (-x), w0] σ := q_ineg t59_25
theorem t59_26 : decode (mb 59) 26 = .ok (.invokevirtual 65, 3) := by decide +kernel
theorem s59_26_o0 (d : Nat) (l0 : Value) (l1 : Value) (l2 : Value) (l3 : Value) (l4 : Value) (l5 : Value) (v1 : Value) (σ : Hs) : ru d 59 26 [l0, l1, l2, l3, l4, l5] [v1, .ref 0] σ = kont (callD d 100 [.ref 0, v1] σ) d 59 29 [l0, l1, l2, l3, l4, l5] [] := q_invv t59_26 mo59 K7_65 mj100 rfl rfl rfl rfl (Nat.le_of_ble_eq_true rfl)
theorem t59_29 : decode (mb 59) 29 = .ok (.goto 5, 3) := by decide +kernel
theorem s59_29 (d : Nat) (l0 : Value) (l1 : Value) (l2 : Value) (l3 : Value) (l4 : Value) (l5 : Value) (w0 : Value) (σ : Hs) : ru d 59 29 [l0, l1, l2, l3, l4, l5] [w0] σ = ru d 59 34 [l0, l1, l2, l3, l4, l5] [w0] σ := q_goto t59_29 (by decide +kernel)
theorem t59_32 : decode (mb 59) 32 = .ok (.iload 5, 2) := by decide +kernel
theorem s59_32 (d : Nat) (l0 : Value) (l1 : Value) (l2 : Value) (l3 : Value) (l4 : Value) (i5 : Int32) (σ : Hs) : ru d 59 32 [l0, l1, l2, l3, l4, .int i5] [] σ = ru d 59 34 [l0, l1, l2, l3, l4, .int i5] [.int i5] σ := q_iload t59_32 rfl
theorem t59_34 : decode (mb 59) 34 = .ok (.ireturn, 1) := by decide +kernel
theorem s59_34 (d : Nat) (l0 : Value) (l1 : Value) (l2 : Value) (l3 : Value) (l4 : Value) (l5 : Value) (x : Int32) (σ : Hs) : ru d 59 34 [l0, l1, l2, l3, l4, l5] [.int x] σ = some (some (.int x), σ) := q_ireti t59_34 mr59
theorem c59 (d : Nat) (x0 : Nat) (x1 : Int32) (x2 : Int32) (x3 : Int32) (x4 : Int32) (σ : Hs) : callD (d + 1) 59 [.ref x0, .int x1, .int x2, .int x3, .int x4] σ = ru d 59 0 [.ref x0, .int x1, .int x2, .int x3, .int x4, uu] [] σ := callD_ru ml59 rfl rfl (Nat.le_of_ble_eq_true rfl)
-- 60: SmokyHeap.take(I)I
theorem t60_0 : decode (mb 60) 0 = .ok (.iload_n 1, 1) := by decide +kernel
theorem s60_0 (d : Nat) (l0 : Value) (i1 : Int32) (l2 : Value) (σ : Hs) : ru d 60 0 [l0, .int i1, l2] [] σ = ru d 60 1 [l0, .int i1, l2] [.int i1] σ := q_iload_n t60_0 rfl
theorem t60_1 : decode (mb 60) 1 = .ok (.invokestatic 69, 3) := by decide +kernel
theorem s60_1 (d : Nat) (l0 : Value) (l1 : Value) (l2 : Value) (v0 : Value) (σ : Hs) : ru d 60 1 [l0, l1, l2] [v0] σ = kont (callD d 104 [v0] σ) d 60 4 [l0, l1, l2] [] := q_invs t60_1 mo60 (by decide +kernel) K7_69 mj104 (Nat.le_of_ble_eq_true rfl) rfl rfl (Nat.le_of_ble_eq_true rfl)
theorem t60_4 : decode (mb 60) 4 = .ok (.ifCond .ne 9, 3) := by decide +kernel
theorem s60_4 (d : Nat) (l0 : Value) (l1 : Value) (l2 : Value) (x : Int32) (σ : Hs) : ru d 60 4 [l0, l1, l2] [.int x] σ = if x = 0 then ru d 60 7 [l0, l1, l2] [] σ else ru d 60 13 [l0, l1, l2] [] σ := q_if_ne t60_4 (by decide +kernel)
theorem t60_7 : decode (mb 60) 7 = .ok (.aload_n 0, 1) := by decide +kernel
theorem s60_7 (d : Nat) (a0 : Nat) (l1 : Value) (l2 : Value) (σ : Hs) : ru d 60 7 [.ref a0, l1, l2] [] σ = ru d 60 8 [.ref a0, l1, l2] [.ref a0] σ := q_aload_n t60_7 rfl
theorem t60_8 : decode (mb 60) 8 = .ok (.iconst 1, 1) := by decide +kernel
theorem s60_8 (d : Nat) (l0 : Value) (l1 : Value) (l2 : Value) (w0 : Value) (σ : Hs) : ru d 60 8 [l0, l1, l2] [w0] σ = ru d 60 9 [l0, l1, l2] [.int 1, w0] σ := q_iconst t60_8 (by decide +kernel)
theorem t60_9 : decode (mb 60) 9 = .ok (.invokevirtual 65, 3) := by decide +kernel
theorem s60_9_o0 (d : Nat) (l0 : Value) (l1 : Value) (l2 : Value) (v1 : Value) (σ : Hs) : ru d 60 9 [l0, l1, l2] [v1, .ref 0] σ = kont (callD d 100 [.ref 0, v1] σ) d 60 12 [l0, l1, l2] [] := q_invv t60_9 mo60 K7_65 mj100 rfl rfl rfl rfl (Nat.le_of_ble_eq_true rfl)
theorem t60_12 : decode (mb 60) 12 = .ok (.ireturn, 1) := by decide +kernel
theorem s60_12 (d : Nat) (l0 : Value) (l1 : Value) (l2 : Value) (x : Int32) (σ : Hs) : ru d 60 12 [l0, l1, l2] [.int x] σ = some (some (.int x), σ) := q_ireti t60_12 mr60
theorem t60_13 : decode (mb 60) 13 = .ok (.aload_n 0, 1) := by decide +kernel
theorem s60_13 (d : Nat) (a0 : Nat) (l1 : Value) (l2 : Value) (σ : Hs) : ru d 60 13 [.ref a0, l1, l2] [] σ = ru d 60 14 [.ref a0, l1, l2] [.ref a0] σ := q_aload_n t60_13 rfl
theorem t60_14 : decode (mb 60) 14 = .ok (.getfield 10, 3) := by decide +kernel
theorem s60_14_o0 (d : Nat) (l0 : Value) (l1 : Value) (l2 : Value) (σ : Hs) : ru d 60 14 [l0, l1, l2] [.ref 0] σ = ru d 60 17 [l0, l1, l2] [.ref 1] σ := q_getf t60_14 mo60 F7_10 rfl rfl
theorem t60_17 : decode (mb 60) 17 = .ok (.getfield 58, 3) := by decide +kernel
theorem s60_17_o1 (d : Nat) (l0 : Value) (l1 : Value) (l2 : Value) (σ : Hs) : ru d 60 17 [l0, l1, l2] [.ref 1] σ = ru d 60 20 [l0, l1, l2] [.ref 2] σ := q_getf t60_17 mo60 F7_58 rfl rfl
theorem t60_20 : decode (mb 60) 20 = .ok (.iload_n 1, 1) := by decide +kernel
theorem s60_20 (d : Nat) (l0 : Value) (i1 : Int32) (l2 : Value) (w0 : Value) (σ : Hs) : ru d 60 20 [l0, .int i1, l2] [w0] σ = ru d 60 21 [l0, .int i1, l2] [.int i1, w0] σ := q_iload_n t60_20 rfl
theorem t60_21 : decode (mb 60) 21 = .ok (.invokevirtual 73, 3) := by decide +kernel
theorem s60_21_o2 (d : Nat) (l0 : Value) (l1 : Value) (l2 : Value) (v1 : Value) (σ : Hs) : ru d 60 21 [l0, l1, l2] [v1, .ref 2] σ = kont (callD d 1 [.ref 2, v1] σ) d 60 24 [l0, l1, l2] [] := q_invv t60_21 mo60 K7_73 mj1 rfl rfl rfl rfl (Nat.le_of_ble_eq_true rfl)
theorem t60_24 : decode (mb 60) 24 = .ok (.ifCond .ne 9, 3) := by decide +kernel
theorem s60_24 (d : Nat) (l0 : Value) (l1 : Value) (l2 : Value) (x : Int32) (σ : Hs) : ru d 60 24 [l0, l1, l2] [.int x] σ = if x = 0 then ru d 60 27 [l0, l1, l2] [] σ else ru d 60 33 [l0, l1, l2] [] σ := q_if_ne t60_24 (by decide +kernel)
theorem t60_27 : decode (mb 60) 27 = .ok (.aload_n 0, 1) := by decide +kernel
theorem s60_27 (d : Nat) (a0 : Nat) (l1 : Value) (l2 : Value) (σ : Hs) : ru d 60 27 [.ref a0, l1, l2] [] σ = ru d 60 28 [.ref a0, l1, l2] [.ref a0] σ := q_aload_n t60_27 rfl
theorem t60_28 : decode (mb 60) 28 = .ok (.iconst 2, 1) := by decide +kernel
theorem s60_28 (d : Nat) (l0 : Value) (l1 : Value) (l2 : Value) (w0 : Value) (σ : Hs) : ru d 60 28 [l0, l1, l2] [w0] σ = ru d 60 29 [l0, l1, l2] [.int 2, w0] σ := q_iconst t60_28 (by decide +kernel)
theorem t60_29 : decode (mb 60) 29 = .ok (.invokevirtual 65, 3) := by decide +kernel
theorem s60_29_o0 (d : Nat) (l0 : Value) (l1 : Value) (l2 : Value) (v1 : Value) (σ : Hs) : ru d 60 29 [l0, l1, l2] [v1, .ref 0] σ = kont (callD d 100 [.ref 0, v1] σ) d 60 32 [l0, l1, l2] [] := q_invv t60_29 mo60 K7_65 mj100 rfl rfl rfl rfl (Nat.le_of_ble_eq_true rfl)
theorem t60_32 : decode (mb 60) 32 = .ok (.ireturn, 1) := by decide +kernel
theorem s60_32 (d : Nat) (l0 : Value) (l1 : Value) (l2 : Value) (x : Int32) (σ : Hs) : ru d 60 32 [l0, l1, l2] [.int x] σ = some (some (.int x), σ) := q_ireti t60_32 mr60
theorem t60_33 : decode (mb 60) 33 = .ok (.aload_n 0, 1) := by decide +kernel
theorem s60_33 (d : Nat) (a0 : Nat) (l1 : Value) (l2 : Value) (σ : Hs) : ru d 60 33 [.ref a0, l1, l2] [] σ = ru d 60 34 [.ref a0, l1, l2] [.ref a0] σ := q_aload_n t60_33 rfl
theorem t60_34 : decode (mb 60) 34 = .ok (.getfield 10, 3) := by decide +kernel
theorem s60_34_o0 (d : Nat) (l0 : Value) (l1 : Value) (l2 : Value) (σ : Hs) : ru d 60 34 [l0, l1, l2] [.ref 0] σ = ru d 60 37 [l0, l1, l2] [.ref 1] σ := q_getf t60_34 mo60 F7_10 rfl rfl
theorem t60_37 : decode (mb 60) 37 = .ok (.getfield 58, 3) := by decide +kernel
theorem s60_37_o1 (d : Nat) (l0 : Value) (l1 : Value) (l2 : Value) (σ : Hs) : ru d 60 37 [l0, l1, l2] [.ref 1] σ = ru d 60 40 [l0, l1, l2] [.ref 2] σ := q_getf t60_37 mo60 F7_58 rfl rfl
theorem t60_40 : decode (mb 60) 40 = .ok (.getfield 76, 3) := by decide +kernel
theorem s60_40_o2 (d : Nat) (l0 : Value) (l1 : Value) (l2 : Value) (σ : Hs) : ru d 60 40 [l0, l1, l2] [.ref 2] σ = ru d 60 43 [l0, l1, l2] [.ref 4] σ := q_getf t60_40 mo60 F7_76 rfl rfl
theorem t60_43 : decode (mb 60) 43 = .ok (.iload_n 1, 1) := by decide +kernel
theorem s60_43 (d : Nat) (l0 : Value) (i1 : Int32) (l2 : Value) (w0 : Value) (σ : Hs) : ru d 60 43 [l0, .int i1, l2] [w0] σ = ru d 60 44 [l0, .int i1, l2] [.int i1, w0] σ := q_iload_n t60_43 rfl
theorem t60_44 : decode (mb 60) 44 = .ok (.iaload, 1) := by decide +kernel
theorem s60_44_o4 (d : Nat) (l0 : Value) (l1 : Value) (l2 : Value) (i : Int32) (σ : Hs) : ru d 60 44 [l0, l1, l2] [.int i, .ref 4] σ = gd (vp_in i 30) (ru d 60 45 [l0, l1, l2] [.int (σ 4 i.toNatClampNeg)] σ) := q_iald t60_44 rfl (by decide +kernel) rfl
theorem t60_45 : decode (mb 60) 45 = .ok (.istore_n 2, 1) := by decide +kernel
theorem s60_45 (d : Nat) (l0 : Value) (i1 : Int32) (l2 : Value) (x : Int32) (σ : Hs) : ru d 60 45 [l0, .int i1, l2] [.int x] σ = ru d 60 46 [l0, .int i1, .int x] [] σ := q_istore_n t60_45 ⟨Nat.le_of_ble_eq_true rfl, rfl⟩ rfl
theorem t60_46 : decode (mb 60) 46 = .ok (.aload_n 0, 1) := by decide +kernel
theorem s60_46 (d : Nat) (a0 : Nat) (l1 : Value) (l2 : Value) (σ : Hs) : ru d 60 46 [.ref a0, l1, l2] [] σ = ru d 60 47 [.ref a0, l1, l2] [.ref a0] σ := q_aload_n t60_46 rfl
theorem t60_47 : decode (mb 60) 47 = .ok (.getfield 10, 3) := by decide +kernel
theorem s60_47_o0 (d : Nat) (l0 : Value) (l1 : Value) (l2 : Value) (σ : Hs) : ru d 60 47 [l0, l1, l2] [.ref 0] σ = ru d 60 50 [l0, l1, l2] [.ref 1] σ := q_getf t60_47 mo60 F7_10 rfl rfl
theorem t60_50 : decode (mb 60) 50 = .ok (.getfield 58, 3) := by decide +kernel
theorem s60_50_o1 (d : Nat) (l0 : Value) (l1 : Value) (l2 : Value) (σ : Hs) : ru d 60 50 [l0, l1, l2] [.ref 1] σ = ru d 60 53 [l0, l1, l2] [.ref 2] σ := q_getf t60_50 mo60 F7_58 rfl rfl
theorem t60_53 : decode (mb 60) 53 = .ok (.iload_n 1, 1) := by decide +kernel
theorem s60_53 (d : Nat) (l0 : Value) (i1 : Int32) (l2 : Value) (w0 : Value) (σ : Hs) : ru d 60 53 [l0, .int i1, l2] [w0] σ = ru d 60 54 [l0, .int i1, l2] [.int i1, w0] σ := q_iload_n t60_53 rfl
theorem t60_54 : decode (mb 60) 54 = .ok (.invokevirtual 79, 3) := by decide +kernel
theorem s60_54_o2 (d : Nat) (l0 : Value) (l1 : Value) (l2 : Value) (v1 : Value) (σ : Hs) : ru d 60 54 [l0, l1, l2] [v1, .ref 2] σ = kont (callD d 3 [.ref 2, v1] σ) d 60 57 [l0, l1, l2] [] := q_invv t60_54 mo60 K7_79 mj3 rfl rfl rfl rfl (Nat.le_of_ble_eq_true rfl)
theorem t60_57 : decode (mb 60) 57 = .ok (.iload_n 2, 1) := by decide +kernel
theorem s60_57 (d : Nat) (l0 : Value) (l1 : Value) (i2 : Int32) (σ : Hs) : ru d 60 57 [l0, l1, .int i2] [] σ = ru d 60 58 [l0, l1, .int i2] [.int i2] σ := q_iload_n t60_57 rfl
theorem t60_58 : decode (mb 60) 58 = .ok (.ireturn, 1) := by decide +kernel
theorem s60_58 (d : Nat) (l0 : Value) (l1 : Value) (l2 : Value) (x : Int32) (σ : Hs) : ru d 60 58 [l0, l1, l2] [.int x] σ = some (some (.int x), σ) := q_ireti t60_58 mr60
theorem c60 (d : Nat) (x0 : Nat) (x1 : Int32) (σ : Hs) : callD (d + 1) 60 [.ref x0, .int x1] σ = ru d 60 0 [.ref x0, .int x1, uu] [] σ := callD_ru ml60 rfl rfl (Nat.le_of_ble_eq_true rfl)
-- 61: SmokyHeap.armful(II)I
theorem t61_0 : decode (mb 61) 0 = .ok (.iload_n 1, 1) := by decide +kernel
theorem s61_0 (d : Nat) (l0 : Value) (i1 : Int32) (l2 : Value) (σ : Hs) : ru d 61 0 [l0, .int i1, l2] [] σ = ru d 61 1 [l0, .int i1, l2] [.int i1] σ := q_iload_n t61_0 rfl
theorem t61_1 : decode (mb 61) 1 = .ok (.invokestatic 69, 3) := by decide +kernel
theorem s61_1 (d : Nat) (l0 : Value) (l1 : Value) (l2 : Value) (v0 : Value) (σ : Hs) : ru d 61 1 [l0, l1, l2] [v0] σ = kont (callD d 104 [v0] σ) d 61 4 [l0, l1, l2] [] := q_invs t61_1 mo61 (by decide +kernel) K7_69 mj104 (Nat.le_of_ble_eq_true rfl) rfl rfl (Nat.le_of_ble_eq_true rfl)
theorem t61_4 : decode (mb 61) 4 = .ok (.ifCond .eq 13, 3) := by decide +kernel
theorem s61_4 (d : Nat) (l0 : Value) (l1 : Value) (l2 : Value) (x : Int32) (σ : Hs) : ru d 61 4 [l0, l1, l2] [.int x] σ = if x = 0 then ru d 61 17 [l0, l1, l2] [] σ else ru d 61 7 [l0, l1, l2] [] σ := q_if_eq t61_4 (by decide +kernel)
theorem t61_7 : decode (mb 61) 7 = .ok (.iload_n 2, 1) := by decide +kernel
theorem s61_7 (d : Nat) (l0 : Value) (l1 : Value) (i2 : Int32) (σ : Hs) : ru d 61 7 [l0, l1, .int i2] [] σ = ru d 61 8 [l0, l1, .int i2] [.int i2] σ := q_iload_n t61_7 rfl
theorem t61_8 : decode (mb 61) 8 = .ok (.iconst 0, 1) := by decide +kernel
theorem s61_8 (d : Nat) (l0 : Value) (l1 : Value) (l2 : Value) (w0 : Value) (σ : Hs) : ru d 61 8 [l0, l1, l2] [w0] σ = ru d 61 9 [l0, l1, l2] [.int 0, w0] σ := q_iconst t61_8 (by decide +kernel)
theorem t61_9 : decode (mb 61) 9 = .ok (.bipush 8, 2) := by decide +kernel
theorem s61_9 (d : Nat) (l0 : Value) (l1 : Value) (l2 : Value) (w0 w1 : Value) (σ : Hs) : ru d 61 9 [l0, l1, l2] [w0, w1] σ = ru d 61 11 [l0, l1, l2] [.int 8, w0, w1] σ := q_bipush t61_9 (by decide +kernel)
theorem t61_11 : decode (mb 61) 11 = .ok (.invokestatic 83, 3) := by decide +kernel
theorem s61_11 (d : Nat) (l0 : Value) (l1 : Value) (l2 : Value) (v0 v1 v2 : Value) (σ : Hs) : ru d 61 11 [l0, l1, l2] [v2, v1, v0] σ = kont (callD d 103 [v0, v1, v2] σ) d 61 14 [l0, l1, l2] [] := q_invs t61_11 mo61 (by decide +kernel) K7_83 mj103 (Nat.le_of_ble_eq_true rfl) rfl rfl (Nat.le_of_ble_eq_true rfl)
theorem t61_14 : decode (mb 61) 14 = .ok (.ifCond .ne 9, 3) := by decide +kernel
theorem s61_14 (d : Nat) (l0 : Value) (l1 : Value) (l2 : Value) (x : Int32) (σ : Hs) : ru d 61 14 [l0, l1, l2] [.int x] σ = if x = 0 then ru d 61 17 [l0, l1, l2] [] σ else ru d 61 23 [l0, l1, l2] [] σ := q_if_ne t61_14 (by decide +kernel)
theorem t61_17 : decode (mb 61) 17 = .ok (.aload_n 0, 1) := by decide +kernel
theorem s61_17 (d : Nat) (a0 : Nat) (l1 : Value) (l2 : Value) (σ : Hs) : ru d 61 17 [.ref a0, l1, l2] [] σ = ru d 61 18 [.ref a0, l1, l2] [.ref a0] σ := q_aload_n t61_17 rfl
theorem t61_18 : decode (mb 61) 18 = .ok (.iconst 1, 1) := by decide +kernel
theorem s61_18 (d : Nat) (l0 : Value) (l1 : Value) (l2 : Value) (w0 : Value) (σ : Hs) : ru d 61 18 [l0, l1, l2] [w0] σ = ru d 61 19 [l0, l1, l2] [.int 1, w0] σ := q_iconst t61_18 (by decide +kernel)
theorem t61_19 : decode (mb 61) 19 = .ok (.invokevirtual 65, 3) := by decide +kernel
theorem s61_19_o0 (d : Nat) (l0 : Value) (l1 : Value) (l2 : Value) (v1 : Value) (σ : Hs) : ru d 61 19 [l0, l1, l2] [v1, .ref 0] σ = kont (callD d 100 [.ref 0, v1] σ) d 61 22 [l0, l1, l2] [] := q_invv t61_19 mo61 K7_65 mj100 rfl rfl rfl rfl (Nat.le_of_ble_eq_true rfl)
theorem t61_22 : decode (mb 61) 22 = .ok (.ireturn, 1) := by decide +kernel
theorem s61_22 (d : Nat) (l0 : Value) (l1 : Value) (l2 : Value) (x : Int32) (σ : Hs) : ru d 61 22 [l0, l1, l2] [.int x] σ = some (some (.int x), σ) := q_ireti t61_22 mr61
theorem t61_23 : decode (mb 61) 23 = .ok (.aload_n 0, 1) := by decide +kernel
theorem s61_23 (d : Nat) (a0 : Nat) (l1 : Value) (l2 : Value) (σ : Hs) : ru d 61 23 [.ref a0, l1, l2] [] σ = ru d 61 24 [.ref a0, l1, l2] [.ref a0] σ := q_aload_n t61_23 rfl
theorem t61_24 : decode (mb 61) 24 = .ok (.getfield 10, 3) := by decide +kernel
theorem s61_24_o0 (d : Nat) (l0 : Value) (l1 : Value) (l2 : Value) (σ : Hs) : ru d 61 24 [l0, l1, l2] [.ref 0] σ = ru d 61 27 [l0, l1, l2] [.ref 1] σ := q_getf t61_24 mo61 F7_10 rfl rfl
theorem t61_27 : decode (mb 61) 27 = .ok (.getfield 58, 3) := by decide +kernel
theorem s61_27_o1 (d : Nat) (l0 : Value) (l1 : Value) (l2 : Value) (σ : Hs) : ru d 61 27 [l0, l1, l2] [.ref 1] σ = ru d 61 30 [l0, l1, l2] [.ref 2] σ := q_getf t61_27 mo61 F7_58 rfl rfl
theorem t61_30 : decode (mb 61) 30 = .ok (.iload_n 1, 1) := by decide +kernel
theorem s61_30 (d : Nat) (l0 : Value) (i1 : Int32) (l2 : Value) (w0 : Value) (σ : Hs) : ru d 61 30 [l0, .int i1, l2] [w0] σ = ru d 61 31 [l0, .int i1, l2] [.int i1, w0] σ := q_iload_n t61_30 rfl
theorem t61_31 : decode (mb 61) 31 = .ok (.invokevirtual 73, 3) := by decide +kernel
theorem s61_31_o2 (d : Nat) (l0 : Value) (l1 : Value) (l2 : Value) (v1 : Value) (σ : Hs) : ru d 61 31 [l0, l1, l2] [v1, .ref 2] σ = kont (callD d 1 [.ref 2, v1] σ) d 61 34 [l0, l1, l2] [] := q_invv t61_31 mo61 K7_73 mj1 rfl rfl rfl rfl (Nat.le_of_ble_eq_true rfl)
theorem t61_34 : decode (mb 61) 34 = .ok (.ifCond .ne 9, 3) := by decide +kernel
theorem s61_34 (d : Nat) (l0 : Value) (l1 : Value) (l2 : Value) (x : Int32) (σ : Hs) : ru d 61 34 [l0, l1, l2] [.int x] σ = if x = 0 then ru d 61 37 [l0, l1, l2] [] σ else ru d 61 43 [l0, l1, l2] [] σ := q_if_ne t61_34 (by decide +kernel)
theorem t61_37 : decode (mb 61) 37 = .ok (.aload_n 0, 1) := by decide +kernel
theorem s61_37 (d : Nat) (a0 : Nat) (l1 : Value) (l2 : Value) (σ : Hs) : ru d 61 37 [.ref a0, l1, l2] [] σ = ru d 61 38 [.ref a0, l1, l2] [.ref a0] σ := q_aload_n t61_37 rfl
theorem t61_38 : decode (mb 61) 38 = .ok (.iconst 2, 1) := by decide +kernel
theorem s61_38 (d : Nat) (l0 : Value) (l1 : Value) (l2 : Value) (w0 : Value) (σ : Hs) : ru d 61 38 [l0, l1, l2] [w0] σ = ru d 61 39 [l0, l1, l2] [.int 2, w0] σ := q_iconst t61_38 (by decide +kernel)
theorem t61_39 : decode (mb 61) 39 = .ok (.invokevirtual 65, 3) := by decide +kernel
theorem s61_39_o0 (d : Nat) (l0 : Value) (l1 : Value) (l2 : Value) (v1 : Value) (σ : Hs) : ru d 61 39 [l0, l1, l2] [v1, .ref 0] σ = kont (callD d 100 [.ref 0, v1] σ) d 61 42 [l0, l1, l2] [] := q_invv t61_39 mo61 K7_65 mj100 rfl rfl rfl rfl (Nat.le_of_ble_eq_true rfl)
theorem t61_42 : decode (mb 61) 42 = .ok (.ireturn, 1) := by decide +kernel
theorem s61_42 (d : Nat) (l0 : Value) (l1 : Value) (l2 : Value) (x : Int32) (σ : Hs) : ru d 61 42 [l0, l1, l2] [.int x] σ = some (some (.int x), σ) := q_ireti t61_42 mr61
theorem t61_43 : decode (mb 61) 43 = .ok (.aload_n 0, 1) := by decide +kernel
theorem s61_43 (d : Nat) (a0 : Nat) (l1 : Value) (l2 : Value) (σ : Hs) : ru d 61 43 [.ref a0, l1, l2] [] σ = ru d 61 44 [.ref a0, l1, l2] [.ref a0] σ := q_aload_n t61_43 rfl
theorem t61_44 : decode (mb 61) 44 = .ok (.getfield 10, 3) := by decide +kernel
theorem s61_44_o0 (d : Nat) (l0 : Value) (l1 : Value) (l2 : Value) (σ : Hs) : ru d 61 44 [l0, l1, l2] [.ref 0] σ = ru d 61 47 [l0, l1, l2] [.ref 1] σ := q_getf t61_44 mo61 F7_10 rfl rfl
theorem t61_47 : decode (mb 61) 47 = .ok (.getfield 58, 3) := by decide +kernel
theorem s61_47_o1 (d : Nat) (l0 : Value) (l1 : Value) (l2 : Value) (σ : Hs) : ru d 61 47 [l0, l1, l2] [.ref 1] σ = ru d 61 50 [l0, l1, l2] [.ref 2] σ := q_getf t61_47 mo61 F7_58 rfl rfl
theorem t61_50 : decode (mb 61) 50 = .ok (.iload_n 1, 1) := by decide +kernel
theorem s61_50 (d : Nat) (l0 : Value) (i1 : Int32) (l2 : Value) (w0 : Value) (σ : Hs) : ru d 61 50 [l0, .int i1, l2] [w0] σ = ru d 61 51 [l0, .int i1, l2] [.int i1, w0] σ := q_iload_n t61_50 rfl
theorem t61_51 : decode (mb 61) 51 = .ok (.iload_n 2, 1) := by decide +kernel
theorem s61_51 (d : Nat) (l0 : Value) (l1 : Value) (i2 : Int32) (w0 w1 : Value) (σ : Hs) : ru d 61 51 [l0, l1, .int i2] [w0, w1] σ = ru d 61 52 [l0, l1, .int i2] [.int i2, w0, w1] σ := q_iload_n t61_51 rfl
theorem t61_52 : decode (mb 61) 52 = .ok (.invokevirtual 87, 3) := by decide +kernel
theorem s61_52_o2 (d : Nat) (l0 : Value) (l1 : Value) (l2 : Value) (v1 v2 : Value) (σ : Hs) : ru d 61 52 [l0, l1, l2] [v2, v1, .ref 2] σ = kont (callD d 26 [.ref 2, v1, v2] σ) d 61 55 [l0, l1, l2] [] := q_invv t61_52 mo61 K7_87 mj26 rfl rfl rfl rfl (Nat.le_of_ble_eq_true rfl)
theorem t61_55 : decode (mb 61) 55 = .ok (.ireturn, 1) := by decide +kernel
theorem s61_55 (d : Nat) (l0 : Value) (l1 : Value) (l2 : Value) (x : Int32) (σ : Hs) : ru d 61 55 [l0, l1, l2] [.int x] σ = some (some (.int x), σ) := q_ireti t61_55 mr61
theorem c61 (d : Nat) (x0 : Nat) (x1 : Int32) (x2 : Int32) (σ : Hs) : callD (d + 1) 61 [.ref x0, .int x1, .int x2] σ = ru d 61 0 [.ref x0, .int x1, .int x2] [] σ := callD_ru ml61 rfl rfl (Nat.le_of_ble_eq_true rfl)
-- 62: SmokyHeap.as(II)I
theorem t62_0 : decode (mb 62) 0 = .ok (.iload_n 1, 1) := by decide +kernel
theorem s62_0 (d : Nat) (l0 : Value) (i1 : Int32) (l2 : Value) (σ : Hs) : ru d 62 0 [l0, .int i1, l2] [] σ = ru d 62 1 [l0, .int i1, l2] [.int i1] σ := q_iload_n t62_0 rfl
theorem t62_1 : decode (mb 62) 1 = .ok (.invokestatic 69, 3) := by decide +kernel
theorem s62_1 (d : Nat) (l0 : Value) (l1 : Value) (l2 : Value) (v0 : Value) (σ : Hs) : ru d 62 1 [l0, l1, l2] [v0] σ = kont (callD d 104 [v0] σ) d 62 4 [l0, l1, l2] [] := q_invs t62_1 mo62 (by decide +kernel) K7_69 mj104 (Nat.le_of_ble_eq_true rfl) rfl rfl (Nat.le_of_ble_eq_true rfl)
theorem t62_4 : decode (mb 62) 4 = .ok (.ifCond .eq 10, 3) := by decide +kernel
theorem s62_4 (d : Nat) (l0 : Value) (l1 : Value) (l2 : Value) (x : Int32) (σ : Hs) : ru d 62 4 [l0, l1, l2] [.int x] σ = if x = 0 then ru d 62 14 [l0, l1, l2] [] σ else ru d 62 7 [l0, l1, l2] [] σ := q_if_eq t62_4 (by decide +kernel)
theorem t62_7 : decode (mb 62) 7 = .ok (.iload_n 2, 1) := by decide +kernel
theorem s62_7 (d : Nat) (l0 : Value) (l1 : Value) (i2 : Int32) (σ : Hs) : ru d 62 7 [l0, l1, .int i2] [] σ = ru d 62 8 [l0, l1, .int i2] [.int i2] σ := q_iload_n t62_7 rfl
theorem t62_8 : decode (mb 62) 8 = .ok (.invokestatic 91, 3) := by decide +kernel
theorem s62_8 (d : Nat) (l0 : Value) (l1 : Value) (l2 : Value) (v0 : Value) (σ : Hs) : ru d 62 8 [l0, l1, l2] [v0] σ = kont (callD d 105 [v0] σ) d 62 11 [l0, l1, l2] [] := q_invs t62_8 mo62 (by decide +kernel) K7_91 mj105 (Nat.le_of_ble_eq_true rfl) rfl rfl (Nat.le_of_ble_eq_true rfl)
theorem t62_11 : decode (mb 62) 11 = .ok (.ifCond .ne 9, 3) := by decide +kernel
theorem s62_11 (d : Nat) (l0 : Value) (l1 : Value) (l2 : Value) (x : Int32) (σ : Hs) : ru d 62 11 [l0, l1, l2] [.int x] σ = if x = 0 then ru d 62 14 [l0, l1, l2] [] σ else ru d 62 20 [l0, l1, l2] [] σ := q_if_ne t62_11 (by decide +kernel)
theorem t62_14 : decode (mb 62) 14 = .ok (.aload_n 0, 1) := by decide +kernel
theorem s62_14 (d : Nat) (a0 : Nat) (l1 : Value) (l2 : Value) (σ : Hs) : ru d 62 14 [.ref a0, l1, l2] [] σ = ru d 62 15 [.ref a0, l1, l2] [.ref a0] σ := q_aload_n t62_14 rfl
theorem t62_15 : decode (mb 62) 15 = .ok (.iconst 1, 1) := by decide +kernel
theorem s62_15 (d : Nat) (l0 : Value) (l1 : Value) (l2 : Value) (w0 : Value) (σ : Hs) : ru d 62 15 [l0, l1, l2] [w0] σ = ru d 62 16 [l0, l1, l2] [.int 1, w0] σ := q_iconst t62_15 (by decide +kernel)
theorem t62_16 : decode (mb 62) 16 = .ok (.invokevirtual 65, 3) := by decide +kernel
theorem s62_16_o0 (d : Nat) (l0 : Value) (l1 : Value) (l2 : Value) (v1 : Value) (σ : Hs) : ru d 62 16 [l0, l1, l2] [v1, .ref 0] σ = kont (callD d 100 [.ref 0, v1] σ) d 62 19 [l0, l1, l2] [] := q_invv t62_16 mo62 K7_65 mj100 rfl rfl rfl rfl (Nat.le_of_ble_eq_true rfl)
theorem t62_19 : decode (mb 62) 19 = .ok (.ireturn, 1) := by decide +kernel
theorem s62_19 (d : Nat) (l0 : Value) (l1 : Value) (l2 : Value) (x : Int32) (σ : Hs) : ru d 62 19 [l0, l1, l2] [.int x] σ = some (some (.int x), σ) := q_ireti t62_19 mr62
theorem t62_20 : decode (mb 62) 20 = .ok (.aload_n 0, 1) := by decide +kernel
theorem s62_20 (d : Nat) (a0 : Nat) (l1 : Value) (l2 : Value) (σ : Hs) : ru d 62 20 [.ref a0, l1, l2] [] σ = ru d 62 21 [.ref a0, l1, l2] [.ref a0] σ := q_aload_n t62_20 rfl
theorem t62_21 : decode (mb 62) 21 = .ok (.getfield 10, 3) := by decide +kernel
theorem s62_21_o0 (d : Nat) (l0 : Value) (l1 : Value) (l2 : Value) (σ : Hs) : ru d 62 21 [l0, l1, l2] [.ref 0] σ = ru d 62 24 [l0, l1, l2] [.ref 1] σ := q_getf t62_21 mo62 F7_10 rfl rfl
theorem t62_24 : decode (mb 62) 24 = .ok (.getfield 58, 3) := by decide +kernel
theorem s62_24_o1 (d : Nat) (l0 : Value) (l1 : Value) (l2 : Value) (σ : Hs) : ru d 62 24 [l0, l1, l2] [.ref 1] σ = ru d 62 27 [l0, l1, l2] [.ref 2] σ := q_getf t62_24 mo62 F7_58 rfl rfl
theorem t62_27 : decode (mb 62) 27 = .ok (.iload_n 1, 1) := by decide +kernel
theorem s62_27 (d : Nat) (l0 : Value) (i1 : Int32) (l2 : Value) (w0 : Value) (σ : Hs) : ru d 62 27 [l0, .int i1, l2] [w0] σ = ru d 62 28 [l0, .int i1, l2] [.int i1, w0] σ := q_iload_n t62_27 rfl
theorem t62_28 : decode (mb 62) 28 = .ok (.invokevirtual 73, 3) := by decide +kernel
theorem s62_28_o2 (d : Nat) (l0 : Value) (l1 : Value) (l2 : Value) (v1 : Value) (σ : Hs) : ru d 62 28 [l0, l1, l2] [v1, .ref 2] σ = kont (callD d 1 [.ref 2, v1] σ) d 62 31 [l0, l1, l2] [] := q_invv t62_28 mo62 K7_73 mj1 rfl rfl rfl rfl (Nat.le_of_ble_eq_true rfl)
theorem t62_31 : decode (mb 62) 31 = .ok (.ifCond .ne 9, 3) := by decide +kernel
theorem s62_31 (d : Nat) (l0 : Value) (l1 : Value) (l2 : Value) (x : Int32) (σ : Hs) : ru d 62 31 [l0, l1, l2] [.int x] σ = if x = 0 then ru d 62 34 [l0, l1, l2] [] σ else ru d 62 40 [l0, l1, l2] [] σ := q_if_ne t62_31 (by decide +kernel)
theorem t62_34 : decode (mb 62) 34 = .ok (.aload_n 0, 1) := by decide +kernel
theorem s62_34 (d : Nat) (a0 : Nat) (l1 : Value) (l2 : Value) (σ : Hs) : ru d 62 34 [.ref a0, l1, l2] [] σ = ru d 62 35 [.ref a0, l1, l2] [.ref a0] σ := q_aload_n t62_34 rfl
theorem t62_35 : decode (mb 62) 35 = .ok (.iconst 2, 1) := by decide +kernel
theorem s62_35 (d : Nat) (l0 : Value) (l1 : Value) (l2 : Value) (w0 : Value) (σ : Hs) : ru d 62 35 [l0, l1, l2] [w0] σ = ru d 62 36 [l0, l1, l2] [.int 2, w0] σ := q_iconst t62_35 (by decide +kernel)
theorem t62_36 : decode (mb 62) 36 = .ok (.invokevirtual 65, 3) := by decide +kernel
theorem s62_36_o0 (d : Nat) (l0 : Value) (l1 : Value) (l2 : Value) (v1 : Value) (σ : Hs) : ru d 62 36 [l0, l1, l2] [v1, .ref 0] σ = kont (callD d 100 [.ref 0, v1] σ) d 62 39 [l0, l1, l2] [] := q_invv t62_36 mo62 K7_65 mj100 rfl rfl rfl rfl (Nat.le_of_ble_eq_true rfl)
theorem t62_39 : decode (mb 62) 39 = .ok (.ireturn, 1) := by decide +kernel
theorem s62_39 (d : Nat) (l0 : Value) (l1 : Value) (l2 : Value) (x : Int32) (σ : Hs) : ru d 62 39 [l0, l1, l2] [.int x] σ = some (some (.int x), σ) := q_ireti t62_39 mr62
theorem t62_40 : decode (mb 62) 40 = .ok (.aload_n 0, 1) := by decide +kernel
theorem s62_40 (d : Nat) (a0 : Nat) (l1 : Value) (l2 : Value) (σ : Hs) : ru d 62 40 [.ref a0, l1, l2] [] σ = ru d 62 41 [.ref a0, l1, l2] [.ref a0] σ := q_aload_n t62_40 rfl
theorem t62_41 : decode (mb 62) 41 = .ok (.getfield 10, 3) := by decide +kernel
theorem s62_41_o0 (d : Nat) (l0 : Value) (l1 : Value) (l2 : Value) (σ : Hs) : ru d 62 41 [l0, l1, l2] [.ref 0] σ = ru d 62 44 [l0, l1, l2] [.ref 1] σ := q_getf t62_41 mo62 F7_10 rfl rfl
theorem t62_44 : decode (mb 62) 44 = .ok (.getfield 58, 3) := by decide +kernel
theorem s62_44_o1 (d : Nat) (l0 : Value) (l1 : Value) (l2 : Value) (σ : Hs) : ru d 62 44 [l0, l1, l2] [.ref 1] σ = ru d 62 47 [l0, l1, l2] [.ref 2] σ := q_getf t62_44 mo62 F7_58 rfl rfl
theorem t62_47 : decode (mb 62) 47 = .ok (.getfield 94, 3) := by decide +kernel
theorem s62_47_o2 (d : Nat) (l0 : Value) (l1 : Value) (l2 : Value) (σ : Hs) : ru d 62 47 [l0, l1, l2] [.ref 2] σ = ru d 62 50 [l0, l1, l2] [.ref 3] σ := q_getf t62_47 mo62 F7_94 rfl rfl
theorem t62_50 : decode (mb 62) 50 = .ok (.iload_n 1, 1) := by decide +kernel
theorem s62_50 (d : Nat) (l0 : Value) (i1 : Int32) (l2 : Value) (w0 : Value) (σ : Hs) : ru d 62 50 [l0, .int i1, l2] [w0] σ = ru d 62 51 [l0, .int i1, l2] [.int i1, w0] σ := q_iload_n t62_50 rfl
theorem t62_51 : decode (mb 62) 51 = .ok (.iaload, 1) := by decide +kernel
theorem s62_51_o3 (d : Nat) (l0 : Value) (l1 : Value) (l2 : Value) (i : Int32) (σ : Hs) : ru d 62 51 [l0, l1, l2] [.int i, .ref 3] σ = gd (vp_in i 30) (ru d 62 52 [l0, l1, l2] [.int (σ 3 i.toNatClampNeg)] σ) := q_iald t62_51 rfl (by decide +kernel) rfl
theorem t62_52 : decode (mb 62) 52 = .ok (.iload_n 2, 1) := by decide +kernel
theorem s62_52 (d : Nat) (l0 : Value) (l1 : Value) (i2 : Int32) (w0 : Value) (σ : Hs) : ru d 62 52 [l0, l1, .int i2] [w0] σ = ru d 62 53 [l0, l1, .int i2] [.int i2, w0] σ := q_iload_n t62_52 rfl
theorem t62_53 : decode (mb 62) 53 = .ok (.invokestatic 97, 3) := by decide +kernel
theorem s62_53 (d : Nat) (l0 : Value) (l1 : Value) (l2 : Value) (v0 v1 : Value) (σ : Hs) : ru d 62 53 [l0, l1, l2] [v1, v0] σ = kont (callD d 110 [v0, v1] σ) d 62 56 [l0, l1, l2] [] := q_invs t62_53 mo62 (by decide +kernel) K7_97 mj110 (Nat.le_of_ble_eq_true rfl) rfl rfl (Nat.le_of_ble_eq_true rfl)
theorem t62_56 : decode (mb 62) 56 = .ok (.ifCond .ne 9, 3) := by decide +kernel
theorem s62_56 (d : Nat) (l0 : Value) (l1 : Value) (l2 : Value) (x : Int32) (σ : Hs) : ru d 62 56 [l0, l1, l2] [.int x] σ = if x = 0 then ru d 62 59 [l0, l1, l2] [] σ else ru d 62 65 [l0, l1, l2] [] σ := q_if_ne t62_56 (by decide +kernel)
theorem t62_59 : decode (mb 62) 59 = .ok (.aload_n 0, 1) := by decide +kernel
theorem s62_59 (d : Nat) (a0 : Nat) (l1 : Value) (l2 : Value) (σ : Hs) : ru d 62 59 [.ref a0, l1, l2] [] σ = ru d 62 60 [.ref a0, l1, l2] [.ref a0] σ := q_aload_n t62_59 rfl
theorem t62_60 : decode (mb 62) 60 = .ok (.iconst 5, 1) := by decide +kernel
theorem s62_60 (d : Nat) (l0 : Value) (l1 : Value) (l2 : Value) (w0 : Value) (σ : Hs) : ru d 62 60 [l0, l1, l2] [w0] σ = ru d 62 61 [l0, l1, l2] [.int 5, w0] σ := q_iconst t62_60 (by decide +kernel)
theorem t62_61 : decode (mb 62) 61 = .ok (.invokevirtual 65, 3) := by decide +kernel
theorem s62_61_o0 (d : Nat) (l0 : Value) (l1 : Value) (l2 : Value) (v1 : Value) (σ : Hs) : ru d 62 61 [l0, l1, l2] [v1, .ref 0] σ = kont (callD d 100 [.ref 0, v1] σ) d 62 64 [l0, l1, l2] [] := q_invv t62_61 mo62 K7_65 mj100 rfl rfl rfl rfl (Nat.le_of_ble_eq_true rfl)
theorem t62_64 : decode (mb 62) 64 = .ok (.ireturn, 1) := by decide +kernel
theorem s62_64 (d : Nat) (l0 : Value) (l1 : Value) (l2 : Value) (x : Int32) (σ : Hs) : ru d 62 64 [l0, l1, l2] [.int x] σ = some (some (.int x), σ) := q_ireti t62_64 mr62
theorem t62_65 : decode (mb 62) 65 = .ok (.aload_n 0, 1) := by decide +kernel
theorem s62_65 (d : Nat) (a0 : Nat) (l1 : Value) (l2 : Value) (σ : Hs) : ru d 62 65 [.ref a0, l1, l2] [] σ = ru d 62 66 [.ref a0, l1, l2] [.ref a0] σ := q_aload_n t62_65 rfl
theorem t62_66 : decode (mb 62) 66 = .ok (.getfield 10, 3) := by decide +kernel
theorem s62_66_o0 (d : Nat) (l0 : Value) (l1 : Value) (l2 : Value) (σ : Hs) : ru d 62 66 [l0, l1, l2] [.ref 0] σ = ru d 62 69 [l0, l1, l2] [.ref 1] σ := q_getf t62_66 mo62 F7_10 rfl rfl
theorem t62_69 : decode (mb 62) 69 = .ok (.getfield 58, 3) := by decide +kernel
theorem s62_69_o1 (d : Nat) (l0 : Value) (l1 : Value) (l2 : Value) (σ : Hs) : ru d 62 69 [l0, l1, l2] [.ref 1] σ = ru d 62 72 [l0, l1, l2] [.ref 2] σ := q_getf t62_69 mo62 F7_58 rfl rfl
theorem t62_72 : decode (mb 62) 72 = .ok (.getfield 76, 3) := by decide +kernel
theorem s62_72_o2 (d : Nat) (l0 : Value) (l1 : Value) (l2 : Value) (σ : Hs) : ru d 62 72 [l0, l1, l2] [.ref 2] σ = ru d 62 75 [l0, l1, l2] [.ref 4] σ := q_getf t62_72 mo62 F7_76 rfl rfl
theorem t62_75 : decode (mb 62) 75 = .ok (.iload_n 1, 1) := by decide +kernel
theorem s62_75 (d : Nat) (l0 : Value) (i1 : Int32) (l2 : Value) (w0 : Value) (σ : Hs) : ru d 62 75 [l0, .int i1, l2] [w0] σ = ru d 62 76 [l0, .int i1, l2] [.int i1, w0] σ := q_iload_n t62_75 rfl
theorem t62_76 : decode (mb 62) 76 = .ok (.iaload, 1) := by decide +kernel
theorem s62_76_o4 (d : Nat) (l0 : Value) (l1 : Value) (l2 : Value) (i : Int32) (σ : Hs) : ru d 62 76 [l0, l1, l2] [.int i, .ref 4] σ = gd (vp_in i 30) (ru d 62 77 [l0, l1, l2] [.int (σ 4 i.toNatClampNeg)] σ) := q_iald t62_76 rfl (by decide +kernel) rfl
theorem t62_77 : decode (mb 62) 77 = .ok (.ireturn, 1) := by decide +kernel
theorem s62_77 (d : Nat) (l0 : Value) (l1 : Value) (l2 : Value) (x : Int32) (σ : Hs) : ru d 62 77 [l0, l1, l2] [.int x] σ = some (some (.int x), σ) := q_ireti t62_77 mr62
theorem c62 (d : Nat) (x0 : Nat) (x1 : Int32) (x2 : Int32) (σ : Hs) : callD (d + 1) 62 [.ref x0, .int x1, .int x2] σ = ru d 62 0 [.ref x0, .int x1, .int x2] [] σ := callD_ru ml62 rfl rfl (Nat.le_of_ble_eq_true rfl)
-- 63: SmokyHeap.become(II)I
theorem t63_0 : decode (mb 63) 0 = .ok (.iload_n 1, 1) := by decide +kernel
theorem s63_0 (d : Nat) (l0 : Value) (i1 : Int32) (l2 : Value) (l3 : Value) (σ : Hs) : ru d 63 0 [l0, .int i1, l2, l3] [] σ = ru d 63 1 [l0, .int i1, l2, l3] [.int i1] σ := q_iload_n t63_0 rfl
theorem t63_1 : decode (mb 63) 1 = .ok (.invokestatic 69, 3) := by decide +kernel
theorem s63_1 (d : Nat) (l0 : Value) (l1 : Value) (l2 : Value) (l3 : Value) (v0 : Value) (σ : Hs) : ru d 63 1 [l0, l1, l2, l3] [v0] σ = kont (callD d 104 [v0] σ) d 63 4 [l0, l1, l2, l3] [] := q_invs t63_1 mo63 (by decide +kernel) K7_69 mj104 (Nat.le_of_ble_eq_true rfl) rfl rfl (Nat.le_of_ble_eq_true rfl)
theorem t63_4 : decode (mb 63) 4 = .ok (.ifCond .eq 10, 3) := by decide +kernel
theorem s63_4 (d : Nat) (l0 : Value) (l1 : Value) (l2 : Value) (l3 : Value) (x : Int32) (σ : Hs) : ru d 63 4 [l0, l1, l2, l3] [.int x] σ = if x = 0 then ru d 63 14 [l0, l1, l2, l3] [] σ else ru d 63 7 [l0, l1, l2, l3] [] σ := q_if_eq t63_4 (by decide +kernel)
theorem t63_7 : decode (mb 63) 7 = .ok (.iload_n 2, 1) := by decide +kernel
theorem s63_7 (d : Nat) (l0 : Value) (l1 : Value) (i2 : Int32) (l3 : Value) (σ : Hs) : ru d 63 7 [l0, l1, .int i2, l3] [] σ = ru d 63 8 [l0, l1, .int i2, l3] [.int i2] σ := q_iload_n t63_7 rfl
theorem t63_8 : decode (mb 63) 8 = .ok (.invokestatic 91, 3) := by decide +kernel
theorem s63_8 (d : Nat) (l0 : Value) (l1 : Value) (l2 : Value) (l3 : Value) (v0 : Value) (σ : Hs) : ru d 63 8 [l0, l1, l2, l3] [v0] σ = kont (callD d 105 [v0] σ) d 63 11 [l0, l1, l2, l3] [] := q_invs t63_8 mo63 (by decide +kernel) K7_91 mj105 (Nat.le_of_ble_eq_true rfl) rfl rfl (Nat.le_of_ble_eq_true rfl)
theorem t63_11 : decode (mb 63) 11 = .ok (.ifCond .ne 9, 3) := by decide +kernel
theorem s63_11 (d : Nat) (l0 : Value) (l1 : Value) (l2 : Value) (l3 : Value) (x : Int32) (σ : Hs) : ru d 63 11 [l0, l1, l2, l3] [.int x] σ = if x = 0 then ru d 63 14 [l0, l1, l2, l3] [] σ else ru d 63 20 [l0, l1, l2, l3] [] σ := q_if_ne t63_11 (by decide +kernel)
theorem t63_14 : decode (mb 63) 14 = .ok (.aload_n 0, 1) := by decide +kernel
theorem s63_14 (d : Nat) (a0 : Nat) (l1 : Value) (l2 : Value) (l3 : Value) (σ : Hs) : ru d 63 14 [.ref a0, l1, l2, l3] [] σ = ru d 63 15 [.ref a0, l1, l2, l3] [.ref a0] σ := q_aload_n t63_14 rfl
theorem t63_15 : decode (mb 63) 15 = .ok (.iconst 1, 1) := by decide +kernel
theorem s63_15 (d : Nat) (l0 : Value) (l1 : Value) (l2 : Value) (l3 : Value) (w0 : Value) (σ : Hs) : ru d 63 15 [l0, l1, l2, l3] [w0] σ = ru d 63 16 [l0, l1, l2, l3] [.int 1, w0] σ := q_iconst t63_15 (by decide +kernel)
theorem t63_16 : decode (mb 63) 16 = .ok (.invokevirtual 65, 3) := by decide +kernel
theorem s63_16_o0 (d : Nat) (l0 : Value) (l1 : Value) (l2 : Value) (l3 : Value) (v1 : Value) (σ : Hs) : ru d 63 16 [l0, l1, l2, l3] [v1, .ref 0] σ = kont (callD d 100 [.ref 0, v1] σ) d 63 19 [l0, l1, l2, l3] [] := q_invv t63_16 mo63 K7_65 mj100 rfl rfl rfl rfl (Nat.le_of_ble_eq_true rfl)
theorem t63_19 : decode (mb 63) 19 = .ok (.ireturn, 1) := by decide +kernel
theorem s63_19 (d : Nat) (l0 : Value) (l1 : Value) (l2 : Value) (l3 : Value) (x : Int32) (σ : Hs) : ru d 63 19 [l0, l1, l2, l3] [.int x] σ = some (some (.int x), σ) := q_ireti t63_19 mr63
theorem t63_20 : decode (mb 63) 20 = .ok (.aload_n 0, 1) := by decide +kernel
theorem s63_20 (d : Nat) (a0 : Nat) (l1 : Value) (l2 : Value) (l3 : Value) (σ : Hs) : ru d 63 20 [.ref a0, l1, l2, l3] [] σ = ru d 63 21 [.ref a0, l1, l2, l3] [.ref a0] σ := q_aload_n t63_20 rfl
theorem t63_21 : decode (mb 63) 21 = .ok (.getfield 10, 3) := by decide +kernel
theorem s63_21_o0 (d : Nat) (l0 : Value) (l1 : Value) (l2 : Value) (l3 : Value) (σ : Hs) : ru d 63 21 [l0, l1, l2, l3] [.ref 0] σ = ru d 63 24 [l0, l1, l2, l3] [.ref 1] σ := q_getf t63_21 mo63 F7_10 rfl rfl
theorem t63_24 : decode (mb 63) 24 = .ok (.getfield 58, 3) := by decide +kernel
theorem s63_24_o1 (d : Nat) (l0 : Value) (l1 : Value) (l2 : Value) (l3 : Value) (σ : Hs) : ru d 63 24 [l0, l1, l2, l3] [.ref 1] σ = ru d 63 27 [l0, l1, l2, l3] [.ref 2] σ := q_getf t63_24 mo63 F7_58 rfl rfl
theorem t63_27 : decode (mb 63) 27 = .ok (.iload_n 1, 1) := by decide +kernel
theorem s63_27 (d : Nat) (l0 : Value) (i1 : Int32) (l2 : Value) (l3 : Value) (w0 : Value) (σ : Hs) : ru d 63 27 [l0, .int i1, l2, l3] [w0] σ = ru d 63 28 [l0, .int i1, l2, l3] [.int i1, w0] σ := q_iload_n t63_27 rfl
theorem t63_28 : decode (mb 63) 28 = .ok (.invokevirtual 73, 3) := by decide +kernel
theorem s63_28_o2 (d : Nat) (l0 : Value) (l1 : Value) (l2 : Value) (l3 : Value) (v1 : Value) (σ : Hs) : ru d 63 28 [l0, l1, l2, l3] [v1, .ref 2] σ = kont (callD d 1 [.ref 2, v1] σ) d 63 31 [l0, l1, l2, l3] [] := q_invv t63_28 mo63 K7_73 mj1 rfl rfl rfl rfl (Nat.le_of_ble_eq_true rfl)
theorem t63_31 : decode (mb 63) 31 = .ok (.ifCond .ne 9, 3) := by decide +kernel
theorem s63_31 (d : Nat) (l0 : Value) (l1 : Value) (l2 : Value) (l3 : Value) (x : Int32) (σ : Hs) : ru d 63 31 [l0, l1, l2, l3] [.int x] σ = if x = 0 then ru d 63 34 [l0, l1, l2, l3] [] σ else ru d 63 40 [l0, l1, l2, l3] [] σ := q_if_ne t63_31 (by decide +kernel)
theorem t63_34 : decode (mb 63) 34 = .ok (.aload_n 0, 1) := by decide +kernel
theorem s63_34 (d : Nat) (a0 : Nat) (l1 : Value) (l2 : Value) (l3 : Value) (σ : Hs) : ru d 63 34 [.ref a0, l1, l2, l3] [] σ = ru d 63 35 [.ref a0, l1, l2, l3] [.ref a0] σ := q_aload_n t63_34 rfl
theorem t63_35 : decode (mb 63) 35 = .ok (.iconst 2, 1) := by decide +kernel
theorem s63_35 (d : Nat) (l0 : Value) (l1 : Value) (l2 : Value) (l3 : Value) (w0 : Value) (σ : Hs) : ru d 63 35 [l0, l1, l2, l3] [w0] σ = ru d 63 36 [l0, l1, l2, l3] [.int 2, w0] σ := q_iconst t63_35 (by decide +kernel)
theorem t63_36 : decode (mb 63) 36 = .ok (.invokevirtual 65, 3) := by decide +kernel
theorem s63_36_o0 (d : Nat) (l0 : Value) (l1 : Value) (l2 : Value) (l3 : Value) (v1 : Value) (σ : Hs) : ru d 63 36 [l0, l1, l2, l3] [v1, .ref 0] σ = kont (callD d 100 [.ref 0, v1] σ) d 63 39 [l0, l1, l2, l3] [] := q_invv t63_36 mo63 K7_65 mj100 rfl rfl rfl rfl (Nat.le_of_ble_eq_true rfl)
theorem t63_39 : decode (mb 63) 39 = .ok (.ireturn, 1) := by decide +kernel
theorem s63_39 (d : Nat) (l0 : Value) (l1 : Value) (l2 : Value) (l3 : Value) (x : Int32) (σ : Hs) : ru d 63 39 [l0, l1, l2, l3] [.int x] σ = some (some (.int x), σ) := q_ireti t63_39 mr63
theorem t63_40 : decode (mb 63) 40 = .ok (.aload_n 0, 1) := by decide +kernel
theorem s63_40 (d : Nat) (a0 : Nat) (l1 : Value) (l2 : Value) (l3 : Value) (σ : Hs) : ru d 63 40 [.ref a0, l1, l2, l3] [] σ = ru d 63 41 [.ref a0, l1, l2, l3] [.ref a0] σ := q_aload_n t63_40 rfl
theorem t63_41 : decode (mb 63) 41 = .ok (.getfield 10, 3) := by decide +kernel
theorem s63_41_o0 (d : Nat) (l0 : Value) (l1 : Value) (l2 : Value) (l3 : Value) (σ : Hs) : ru d 63 41 [l0, l1, l2, l3] [.ref 0] σ = ru d 63 44 [l0, l1, l2, l3] [.ref 1] σ := q_getf t63_41 mo63 F7_10 rfl rfl
theorem t63_44 : decode (mb 63) 44 = .ok (.getfield 58, 3) := by decide +kernel
theorem s63_44_o1 (d : Nat) (l0 : Value) (l1 : Value) (l2 : Value) (l3 : Value) (σ : Hs) : ru d 63 44 [l0, l1, l2, l3] [.ref 1] σ = ru d 63 47 [l0, l1, l2, l3] [.ref 2] σ := q_getf t63_44 mo63 F7_58 rfl rfl
theorem t63_47 : decode (mb 63) 47 = .ok (.getfield 94, 3) := by decide +kernel
theorem s63_47_o2 (d : Nat) (l0 : Value) (l1 : Value) (l2 : Value) (l3 : Value) (σ : Hs) : ru d 63 47 [l0, l1, l2, l3] [.ref 2] σ = ru d 63 50 [l0, l1, l2, l3] [.ref 3] σ := q_getf t63_47 mo63 F7_94 rfl rfl
theorem t63_50 : decode (mb 63) 50 = .ok (.iload_n 1, 1) := by decide +kernel
theorem s63_50 (d : Nat) (l0 : Value) (i1 : Int32) (l2 : Value) (l3 : Value) (w0 : Value) (σ : Hs) : ru d 63 50 [l0, .int i1, l2, l3] [w0] σ = ru d 63 51 [l0, .int i1, l2, l3] [.int i1, w0] σ := q_iload_n t63_50 rfl
theorem t63_51 : decode (mb 63) 51 = .ok (.iaload, 1) := by decide +kernel
theorem s63_51_o3 (d : Nat) (l0 : Value) (l1 : Value) (l2 : Value) (l3 : Value) (i : Int32) (σ : Hs) : ru d 63 51 [l0, l1, l2, l3] [.int i, .ref 3] σ = gd (vp_in i 30) (ru d 63 52 [l0, l1, l2, l3] [.int (σ 3 i.toNatClampNeg)] σ) := q_iald t63_51 rfl (by decide +kernel) rfl
theorem t63_52 : decode (mb 63) 52 = .ok (.istore_n 3, 1) := by decide +kernel
theorem s63_52 (d : Nat) (l0 : Value) (l1 : Value) (i2 : Int32) (l3 : Value) (x : Int32) (σ : Hs) : ru d 63 52 [l0, l1, .int i2, l3] [.int x] σ = ru d 63 53 [l0, l1, .int i2, .int x] [] σ := q_istore_n t63_52 ⟨Nat.le_of_ble_eq_true rfl, rfl⟩ rfl
theorem t63_53 : decode (mb 63) 53 = .ok (.aload_n 0, 1) := by decide +kernel
theorem s63_53 (d : Nat) (a0 : Nat) (l1 : Value) (l2 : Value) (l3 : Value) (σ : Hs) : ru d 63 53 [.ref a0, l1, l2, l3] [] σ = ru d 63 54 [.ref a0, l1, l2, l3] [.ref a0] σ := q_aload_n t63_53 rfl
theorem t63_54 : decode (mb 63) 54 = .ok (.getfield 10, 3) := by decide +kernel
theorem s63_54_o0 (d : Nat) (l0 : Value) (l1 : Value) (l2 : Value) (l3 : Value) (σ : Hs) : ru d 63 54 [l0, l1, l2, l3] [.ref 0] σ = ru d 63 57 [l0, l1, l2, l3] [.ref 1] σ := q_getf t63_54 mo63 F7_10 rfl rfl
theorem t63_57 : decode (mb 63) 57 = .ok (.getfield 58, 3) := by decide +kernel
theorem s63_57_o1 (d : Nat) (l0 : Value) (l1 : Value) (l2 : Value) (l3 : Value) (σ : Hs) : ru d 63 57 [l0, l1, l2, l3] [.ref 1] σ = ru d 63 60 [l0, l1, l2, l3] [.ref 2] σ := q_getf t63_57 mo63 F7_58 rfl rfl
theorem t63_60 : decode (mb 63) 60 = .ok (.getfield 94, 3) := by decide +kernel
theorem s63_60_o2 (d : Nat) (l0 : Value) (l1 : Value) (l2 : Value) (l3 : Value) (σ : Hs) : ru d 63 60 [l0, l1, l2, l3] [.ref 2] σ = ru d 63 63 [l0, l1, l2, l3] [.ref 3] σ := q_getf t63_60 mo63 F7_94 rfl rfl
theorem t63_63 : decode (mb 63) 63 = .ok (.iload_n 1, 1) := by decide +kernel
theorem s63_63 (d : Nat) (l0 : Value) (i1 : Int32) (l2 : Value) (l3 : Value) (w0 : Value) (σ : Hs) : ru d 63 63 [l0, .int i1, l2, l3] [w0] σ = ru d 63 64 [l0, .int i1, l2, l3] [.int i1, w0] σ := q_iload_n t63_63 rfl
theorem t63_64 : decode (mb 63) 64 = .ok (.iload_n 2, 1) := by decide +kernel
theorem s63_64 (d : Nat) (l0 : Value) (l1 : Value) (i2 : Int32) (l3 : Value) (w0 w1 : Value) (σ : Hs) : ru d 63 64 [l0, l1, .int i2, l3] [w0, w1] σ = ru d 63 65 [l0, l1, .int i2, l3] [.int i2, w0, w1] σ := q_iload_n t63_64 rfl
theorem t63_65 : decode (mb 63) 65 = .ok (.iastore, 1) := by decide +kernel
theorem s63_65_o3 (d : Nat) (l0 : Value) (l1 : Value) (l2 : Value) (l3 : Value) (i x : Int32) (σ : Hs) : ru d 63 65 [l0, l1, l2, l3] [.int x, .int i, .ref 3] σ = gd (vp_in i 30) (ru d 63 66 [l0, l1, l2, l3] [] (up2 σ 3 i.toNatClampNeg x)) := q_iast t63_65 (by decide +kernel) rfl rfl
theorem t63_66 : decode (mb 63) 66 = .ok (.iload_n 3, 1) := by decide +kernel
theorem s63_66 (d : Nat) (l0 : Value) (l1 : Value) (l2 : Value) (i3 : Int32) (σ : Hs) : ru d 63 66 [l0, l1, l2, .int i3] [] σ = ru d 63 67 [l0, l1, l2, .int i3] [.int i3] σ := q_iload_n t63_66 rfl
theorem t63_67 : decode (mb 63) 67 = .ok (.ireturn, 1) := by decide +kernel
theorem s63_67 (d : Nat) (l0 : Value) (l1 : Value) (l2 : Value) (l3 : Value) (x : Int32) (σ : Hs) : ru d 63 67 [l0, l1, l2, l3] [.int x] σ = some (some (.int x), σ) := q_ireti t63_67 mr63
theorem c63 (d : Nat) (x0 : Nat) (x1 : Int32) (x2 : Int32) (σ : Hs) : callD (d + 1) 63 [.ref x0, .int x1, .int x2] σ = ru d 63 0 [.ref x0, .int x1, .int x2, uu] [] σ := callD_ru ml63 rfl rfl (Nat.le_of_ble_eq_true rfl)
-- 64: SmokyHeap.light(I)I
theorem t64_0 : decode (mb 64) 0 = .ok (.iload_n 1, 1) := by decide +kernel
theorem s64_0 (d : Nat) (l0 : Value) (i1 : Int32) (σ : Hs) : ru d 64 0 [l0, .int i1] [] σ = ru d 64 1 [l0, .int i1] [.int i1] σ := q_iload_n t64_0 rfl
theorem t64_1 : decode (mb 64) 1 = .ok (.invokestatic 69, 3) := by decide +kernel
theorem s64_1 (d : Nat) (l0 : Value) (l1 : Value) (v0 : Value) (σ : Hs) : ru d 64 1 [l0, l1] [v0] σ = kont (callD d 104 [v0] σ) d 64 4 [l0, l1] [] := q_invs t64_1 mo64 (by decide +kernel) K7_69 mj104 (Nat.le_of_ble_eq_true rfl) rfl rfl (Nat.le_of_ble_eq_true rfl)
theorem t64_4 : decode (mb 64) 4 = .ok (.ifCond .ne 9, 3) := by decide +kernel
theorem s64_4 (d : Nat) (l0 : Value) (l1 : Value) (x : Int32) (σ : Hs) : ru d 64 4 [l0, l1] [.int x] σ = if x = 0 then ru d 64 7 [l0, l1] [] σ else ru d 64 13 [l0, l1] [] σ := q_if_ne t64_4 (by decide +kernel)
theorem t64_7 : decode (mb 64) 7 = .ok (.aload_n 0, 1) := by decide +kernel
theorem s64_7 (d : Nat) (a0 : Nat) (l1 : Value) (σ : Hs) : ru d 64 7 [.ref a0, l1] [] σ = ru d 64 8 [.ref a0, l1] [.ref a0] σ := q_aload_n t64_7 rfl
theorem t64_8 : decode (mb 64) 8 = .ok (.iconst 1, 1) := by decide +kernel
theorem s64_8 (d : Nat) (l0 : Value) (l1 : Value) (w0 : Value) (σ : Hs) : ru d 64 8 [l0, l1] [w0] σ = ru d 64 9 [l0, l1] [.int 1, w0] σ := q_iconst t64_8 (by decide +kernel)
theorem t64_9 : decode (mb 64) 9 = .ok (.invokevirtual 65, 3) := by decide +kernel
theorem s64_9_o0 (d : Nat) (l0 : Value) (l1 : Value) (v1 : Value) (σ : Hs) : ru d 64 9 [l0, l1] [v1, .ref 0] σ = kont (callD d 100 [.ref 0, v1] σ) d 64 12 [l0, l1] [] := q_invv t64_9 mo64 K7_65 mj100 rfl rfl rfl rfl (Nat.le_of_ble_eq_true rfl)
theorem t64_12 : decode (mb 64) 12 = .ok (.ireturn, 1) := by decide +kernel
theorem s64_12 (d : Nat) (l0 : Value) (l1 : Value) (x : Int32) (σ : Hs) : ru d 64 12 [l0, l1] [.int x] σ = some (some (.int x), σ) := q_ireti t64_12 mr64
theorem t64_13 : decode (mb 64) 13 = .ok (.aload_n 0, 1) := by decide +kernel
theorem s64_13 (d : Nat) (a0 : Nat) (l1 : Value) (σ : Hs) : ru d 64 13 [.ref a0, l1] [] σ = ru d 64 14 [.ref a0, l1] [.ref a0] σ := q_aload_n t64_13 rfl
theorem t64_14 : decode (mb 64) 14 = .ok (.getfield 10, 3) := by decide +kernel
theorem s64_14_o0 (d : Nat) (l0 : Value) (l1 : Value) (σ : Hs) : ru d 64 14 [l0, l1] [.ref 0] σ = ru d 64 17 [l0, l1] [.ref 1] σ := q_getf t64_14 mo64 F7_10 rfl rfl
theorem t64_17 : decode (mb 64) 17 = .ok (.getfield 58, 3) := by decide +kernel
theorem s64_17_o1 (d : Nat) (l0 : Value) (l1 : Value) (σ : Hs) : ru d 64 17 [l0, l1] [.ref 1] σ = ru d 64 20 [l0, l1] [.ref 2] σ := q_getf t64_17 mo64 F7_58 rfl rfl
theorem t64_20 : decode (mb 64) 20 = .ok (.iload_n 1, 1) := by decide +kernel
theorem s64_20 (d : Nat) (l0 : Value) (i1 : Int32) (w0 : Value) (σ : Hs) : ru d 64 20 [l0, .int i1] [w0] σ = ru d 64 21 [l0, .int i1] [.int i1, w0] σ := q_iload_n t64_20 rfl
theorem t64_21 : decode (mb 64) 21 = .ok (.invokevirtual 73, 3) := by decide +kernel
theorem s64_21_o2 (d : Nat) (l0 : Value) (l1 : Value) (v1 : Value) (σ : Hs) : ru d 64 21 [l0, l1] [v1, .ref 2] σ = kont (callD d 1 [.ref 2, v1] σ) d 64 24 [l0, l1] [] := q_invv t64_21 mo64 K7_73 mj1 rfl rfl rfl rfl (Nat.le_of_ble_eq_true rfl)
theorem t64_24 : decode (mb 64) 24 = .ok (.ifCond .ne 9, 3) := by decide +kernel
theorem s64_24 (d : Nat) (l0 : Value) (l1 : Value) (x : Int32) (σ : Hs) : ru d 64 24 [l0, l1] [.int x] σ = if x = 0 then ru d 64 27 [l0, l1] [] σ else ru d 64 33 [l0, l1] [] σ := q_if_ne t64_24 (by decide +kernel)
theorem t64_27 : decode (mb 64) 27 = .ok (.aload_n 0, 1) := by decide +kernel
theorem s64_27 (d : Nat) (a0 : Nat) (l1 : Value) (σ : Hs) : ru d 64 27 [.ref a0, l1] [] σ = ru d 64 28 [.ref a0, l1] [.ref a0] σ := q_aload_n t64_27 rfl
theorem t64_28 : decode (mb 64) 28 = .ok (.iconst 2, 1) := by decide +kernel
theorem s64_28 (d : Nat) (l0 : Value) (l1 : Value) (w0 : Value) (σ : Hs) : ru d 64 28 [l0, l1] [w0] σ = ru d 64 29 [l0, l1] [.int 2, w0] σ := q_iconst t64_28 (by decide +kernel)
theorem t64_29 : decode (mb 64) 29 = .ok (.invokevirtual 65, 3) := by decide +kernel
theorem s64_29_o0 (d : Nat) (l0 : Value) (l1 : Value) (v1 : Value) (σ : Hs) : ru d 64 29 [l0, l1] [v1, .ref 0] σ = kont (callD d 100 [.ref 0, v1] σ) d 64 32 [l0, l1] [] := q_invv t64_29 mo64 K7_65 mj100 rfl rfl rfl rfl (Nat.le_of_ble_eq_true rfl)
theorem t64_32 : decode (mb 64) 32 = .ok (.ireturn, 1) := by decide +kernel
theorem s64_32 (d : Nat) (l0 : Value) (l1 : Value) (x : Int32) (σ : Hs) : ru d 64 32 [l0, l1] [.int x] σ = some (some (.int x), σ) := q_ireti t64_32 mr64
theorem t64_33 : decode (mb 64) 33 = .ok (.aload_n 0, 1) := by decide +kernel
theorem s64_33 (d : Nat) (a0 : Nat) (l1 : Value) (σ : Hs) : ru d 64 33 [.ref a0, l1] [] σ = ru d 64 34 [.ref a0, l1] [.ref a0] σ := q_aload_n t64_33 rfl
theorem t64_34 : decode (mb 64) 34 = .ok (.getfield 10, 3) := by decide +kernel
theorem s64_34_o0 (d : Nat) (l0 : Value) (l1 : Value) (σ : Hs) : ru d 64 34 [l0, l1] [.ref 0] σ = ru d 64 37 [l0, l1] [.ref 1] σ := q_getf t64_34 mo64 F7_10 rfl rfl
theorem t64_37 : decode (mb 64) 37 = .ok (.getfield 58, 3) := by decide +kernel
theorem s64_37_o1 (d : Nat) (l0 : Value) (l1 : Value) (σ : Hs) : ru d 64 37 [l0, l1] [.ref 1] σ = ru d 64 40 [l0, l1] [.ref 2] σ := q_getf t64_37 mo64 F7_58 rfl rfl
theorem t64_40 : decode (mb 64) 40 = .ok (.iload_n 1, 1) := by decide +kernel
theorem s64_40 (d : Nat) (l0 : Value) (i1 : Int32) (w0 : Value) (σ : Hs) : ru d 64 40 [l0, .int i1] [w0] σ = ru d 64 41 [l0, .int i1] [.int i1, w0] σ := q_iload_n t64_40 rfl
theorem t64_41 : decode (mb 64) 41 = .ok (.invokevirtual 101, 3) := by decide +kernel
theorem s64_41_o2 (d : Nat) (l0 : Value) (l1 : Value) (v1 : Value) (σ : Hs) : ru d 64 41 [l0, l1] [v1, .ref 2] σ = kont (callD d 8 [.ref 2, v1] σ) d 64 44 [l0, l1] [] := q_invv t64_41 mo64 K7_101 mj8 rfl rfl rfl rfl (Nat.le_of_ble_eq_true rfl)
theorem t64_44 : decode (mb 64) 44 = .ok (.ifCond .eq 10, 3) := by decide +kernel
theorem s64_44 (d : Nat) (l0 : Value) (l1 : Value) (x : Int32) (σ : Hs) : ru d 64 44 [l0, l1] [.int x] σ = if x = 0 then ru d 64 54 [l0, l1] [] σ else ru d 64 47 [l0, l1] [] σ := q_if_eq t64_44 (by decide +kernel)
theorem t64_47 : decode (mb 64) 47 = .ok (.aload_n 0, 1) := by decide +kernel
theorem s64_47 (d : Nat) (a0 : Nat) (l1 : Value) (σ : Hs) : ru d 64 47 [.ref a0, l1] [] σ = ru d 64 48 [.ref a0, l1] [.ref a0] σ := q_aload_n t64_47 rfl
theorem t64_48 : decode (mb 64) 48 = .ok (.invokevirtual 104, 3) := by decide +kernel
theorem s64_48_o0 (d : Nat) (l0 : Value) (l1 : Value) (σ : Hs) : ru d 64 48 [l0, l1] [.ref 0] σ = kont (callD d 101 [.ref 0] σ) d 64 51 [l0, l1] [] := q_invv t64_48 mo64 K7_104 mj101 rfl rfl rfl rfl (Nat.le_of_ble_eq_true rfl)
theorem t64_51 : decode (mb 64) 51 = .ok (.ifCond .ne 9, 3) := by decide +kernel
theorem s64_51 (d : Nat) (l0 : Value) (l1 : Value) (x : Int32) (σ : Hs) : ru d 64 51 [l0, l1] [.int x] σ = if x = 0 then ru d 64 54 [l0, l1] [] σ else ru d 64 60 [l0, l1] [] σ := q_if_ne t64_51 (by decide +kernel)
theorem t64_54 : decode (mb 64) 54 = .ok (.aload_n 0, 1) := by decide +kernel
theorem s64_54 (d : Nat) (a0 : Nat) (l1 : Value) (σ : Hs) : ru d 64 54 [.ref a0, l1] [] σ = ru d 64 55 [.ref a0, l1] [.ref a0] σ := q_aload_n t64_54 rfl
theorem t64_55 : decode (mb 64) 55 = .ok (.iconst 3, 1) := by decide +kernel
theorem s64_55 (d : Nat) (l0 : Value) (l1 : Value) (w0 : Value) (σ : Hs) : ru d 64 55 [l0, l1] [w0] σ = ru d 64 56 [l0, l1] [.int 3, w0] σ := q_iconst t64_55 (by decide +kernel)
theorem t64_56 : decode (mb 64) 56 = .ok (.invokevirtual 65, 3) := by decide +kernel
theorem s64_56_o0 (d : Nat) (l0 : Value) (l1 : Value) (v1 : Value) (σ : Hs) : ru d 64 56 [l0, l1] [v1, .ref 0] σ = kont (callD d 100 [.ref 0, v1] σ) d 64 59 [l0, l1] [] := q_invv t64_56 mo64 K7_65 mj100 rfl rfl rfl rfl (Nat.le_of_ble_eq_true rfl)
theorem t64_59 : decode (mb 64) 59 = .ok (.ireturn, 1) := by decide +kernel
theorem s64_59 (d : Nat) (l0 : Value) (l1 : Value) (x : Int32) (σ : Hs) : ru d 64 59 [l0, l1] [.int x] σ = some (some (.int x), σ) := q_ireti t64_59 mr64
theorem t64_60 : decode (mb 64) 60 = .ok (.aload_n 0, 1) := by decide +kernel
theorem s64_60 (d : Nat) (a0 : Nat) (l1 : Value) (σ : Hs) : ru d 64 60 [.ref a0, l1] [] σ = ru d 64 61 [.ref a0, l1] [.ref a0] σ := q_aload_n t64_60 rfl
theorem t64_61 : decode (mb 64) 61 = .ok (.getfield 10, 3) := by decide +kernel
theorem s64_61_o0 (d : Nat) (l0 : Value) (l1 : Value) (σ : Hs) : ru d 64 61 [l0, l1] [.ref 0] σ = ru d 64 64 [l0, l1] [.ref 1] σ := q_getf t64_61 mo64 F7_10 rfl rfl
theorem t64_64 : decode (mb 64) 64 = .ok (.getfield 58, 3) := by decide +kernel
theorem s64_64_o1 (d : Nat) (l0 : Value) (l1 : Value) (σ : Hs) : ru d 64 64 [l0, l1] [.ref 1] σ = ru d 64 67 [l0, l1] [.ref 2] σ := q_getf t64_64 mo64 F7_58 rfl rfl
theorem t64_67 : decode (mb 64) 67 = .ok (.iload_n 1, 1) := by decide +kernel
theorem s64_67 (d : Nat) (l0 : Value) (i1 : Int32) (w0 : Value) (σ : Hs) : ru d 64 67 [l0, .int i1] [w0] σ = ru d 64 68 [l0, .int i1] [.int i1, w0] σ := q_iload_n t64_67 rfl
theorem t64_68 : decode (mb 64) 68 = .ok (.invokevirtual 108, 3) := by decide +kernel
theorem s64_68_o2 (d : Nat) (l0 : Value) (l1 : Value) (v1 : Value) (σ : Hs) : ru d 64 68 [l0, l1] [v1, .ref 2] σ = kont (callD d 9 [.ref 2, v1] σ) d 64 71 [l0, l1] [] := q_invv t64_68 mo64 K7_108 mj9 rfl rfl rfl rfl (Nat.le_of_ble_eq_true rfl)
theorem t64_71 : decode (mb 64) 71 = .ok (.iconst 1, 1) := by decide +kernel
theorem s64_71 (d : Nat) (l0 : Value) (l1 : Value) (σ : Hs) : ru d 64 71 [l0, l1] [] σ = ru d 64 72 [l0, l1] [.int 1] σ := q_iconst t64_71 (by decide +kernel)
theorem t64_72 : decode (mb 64) 72 = .ok (.ireturn, 1) := by decide +kernel
theorem s64_72 (d : Nat) (l0 : Value) (l1 : Value) (x : Int32) (σ : Hs) : ru d 64 72 [l0, l1] [.int x] σ = some (some (.int x), σ) := q_ireti t64_72 mr64
theorem c64 (d : Nat) (x0 : Nat) (x1 : Int32) (σ : Hs) : callD (d + 1) 64 [.ref x0, .int x1] σ = ru d 64 0 [.ref x0, .int x1] [] σ := callD_ru ml64 rfl rfl (Nat.le_of_ble_eq_true rfl)
-- 65: SmokyHeap.fork(II)I
theorem t65_0 : decode (mb 65) 0 = .ok (.iload_n 1, 1) := by decide +kernel
theorem s65_0 (d : Nat) (l0 : Value) (i1 : Int32) (l2 : Value) (l3 : Value) (σ : Hs) : ru d 65 0 [l0, .int i1, l2, l3] [] σ = ru d 65 1 [l0, .int i1, l2, l3] [.int i1] σ := q_iload_n t65_0 rfl
theorem t65_1 : decode (mb 65) 1 = .ok (.invokestatic 69, 3) := by decide +kernel
theorem s65_1 (d : Nat) (l0 : Value) (l1 : Value) (l2 : Value) (l3 : Value) (v0 : Value) (σ : Hs) : ru d 65 1 [l0, l1, l2, l3] [v0] σ = kont (callD d 104 [v0] σ) d 65 4 [l0, l1, l2, l3] [] := q_invs t65_1 mo65 (by decide +kernel) K7_69 mj104 (Nat.le_of_ble_eq_true rfl) rfl rfl (Nat.le_of_ble_eq_true rfl)
theorem t65_4 : decode (mb 65) 4 = .ok (.ifCond .eq 13, 3) := by decide +kernel
theorem s65_4 (d : Nat) (l0 : Value) (l1 : Value) (l2 : Value) (l3 : Value) (x : Int32) (σ : Hs) : ru d 65 4 [l0, l1, l2, l3] [.int x] σ = if x = 0 then ru d 65 17 [l0, l1, l2, l3] [] σ else ru d 65 7 [l0, l1, l2, l3] [] σ := q_if_eq t65_4 (by decide +kernel)
theorem t65_7 : decode (mb 65) 7 = .ok (.iload_n 2, 1) := by decide +kernel
theorem s65_7 (d : Nat) (l0 : Value) (l1 : Value) (i2 : Int32) (l3 : Value) (σ : Hs) : ru d 65 7 [l0, l1, .int i2, l3] [] σ = ru d 65 8 [l0, l1, .int i2, l3] [.int i2] σ := q_iload_n t65_7 rfl
theorem t65_8 : decode (mb 65) 8 = .ok (.iconst 0, 1) := by decide +kernel
theorem s65_8 (d : Nat) (l0 : Value) (l1 : Value) (l2 : Value) (l3 : Value) (w0 : Value) (σ : Hs) : ru d 65 8 [l0, l1, l2, l3] [w0] σ = ru d 65 9 [l0, l1, l2, l3] [.int 0, w0] σ := q_iconst t65_8 (by decide +kernel)
theorem t65_9 : decode (mb 65) 9 = .ok (.bipush 9, 2) := by decide +kernel
theorem s65_9 (d : Nat) (l0 : Value) (l1 : Value) (l2 : Value) (l3 : Value) (w0 w1 : Value) (σ : Hs) : ru d 65 9 [l0, l1, l2, l3] [w0, w1] σ = ru d 65 11 [l0, l1, l2, l3] [.int 9, w0, w1] σ := q_bipush t65_9 (by decide +kernel)
theorem t65_11 : decode (mb 65) 11 = .ok (.invokestatic 83, 3) := by decide +kernel
theorem s65_11 (d : Nat) (l0 : Value) (l1 : Value) (l2 : Value) (l3 : Value) (v0 v1 v2 : Value) (σ : Hs) : ru d 65 11 [l0, l1, l2, l3] [v2, v1, v0] σ = kont (callD d 103 [v0, v1, v2] σ) d 65 14 [l0, l1, l2, l3] [] := q_invs t65_11 mo65 (by decide +kernel) K7_83 mj103 (Nat.le_of_ble_eq_true rfl) rfl rfl (Nat.le_of_ble_eq_true rfl)
theorem t65_14 : decode (mb 65) 14 = .ok (.ifCond .ne 9, 3) := by decide +kernel
theorem s65_14 (d : Nat) (l0 : Value) (l1 : Value) (l2 : Value) (l3 : Value) (x : Int32) (σ : Hs) : ru d 65 14 [l0, l1, l2, l3] [.int x] σ = if x = 0 then ru d 65 17 [l0, l1, l2, l3] [] σ else ru d 65 23 [l0, l1, l2, l3] [] σ := q_if_ne t65_14 (by decide +kernel)
theorem t65_17 : decode (mb 65) 17 = .ok (.aload_n 0, 1) := by decide +kernel
theorem s65_17 (d : Nat) (a0 : Nat) (l1 : Value) (l2 : Value) (l3 : Value) (σ : Hs) : ru d 65 17 [.ref a0, l1, l2, l3] [] σ = ru d 65 18 [.ref a0, l1, l2, l3] [.ref a0] σ := q_aload_n t65_17 rfl
theorem t65_18 : decode (mb 65) 18 = .ok (.iconst 1, 1) := by decide +kernel
theorem s65_18 (d : Nat) (l0 : Value) (l1 : Value) (l2 : Value) (l3 : Value) (w0 : Value) (σ : Hs) : ru d 65 18 [l0, l1, l2, l3] [w0] σ = ru d 65 19 [l0, l1, l2, l3] [.int 1, w0] σ := q_iconst t65_18 (by decide +kernel)
theorem t65_19 : decode (mb 65) 19 = .ok (.invokevirtual 65, 3) := by decide +kernel
theorem s65_19_o0 (d : Nat) (l0 : Value) (l1 : Value) (l2 : Value) (l3 : Value) (v1 : Value) (σ : Hs) : ru d 65 19 [l0, l1, l2, l3] [v1, .ref 0] σ = kont (callD d 100 [.ref 0, v1] σ) d 65 22 [l0, l1, l2, l3] [] := q_invv t65_19 mo65 K7_65 mj100 rfl rfl rfl rfl (Nat.le_of_ble_eq_true rfl)
theorem t65_22 : decode (mb 65) 22 = .ok (.ireturn, 1) := by decide +kernel
theorem s65_22 (d : Nat) (l0 : Value) (l1 : Value) (l2 : Value) (l3 : Value) (x : Int32) (σ : Hs) : ru d 65 22 [l0, l1, l2, l3] [.int x] σ = some (some (.int x), σ) := q_ireti t65_22 mr65
theorem t65_23 : decode (mb 65) 23 = .ok (.aload_n 0, 1) := by decide +kernel
theorem s65_23 (d : Nat) (a0 : Nat) (l1 : Value) (l2 : Value) (l3 : Value) (σ : Hs) : ru d 65 23 [.ref a0, l1, l2, l3] [] σ = ru d 65 24 [.ref a0, l1, l2, l3] [.ref a0] σ := q_aload_n t65_23 rfl
theorem t65_24 : decode (mb 65) 24 = .ok (.getfield 10, 3) := by decide +kernel
theorem s65_24_o0 (d : Nat) (l0 : Value) (l1 : Value) (l2 : Value) (l3 : Value) (σ : Hs) : ru d 65 24 [l0, l1, l2, l3] [.ref 0] σ = ru d 65 27 [l0, l1, l2, l3] [.ref 1] σ := q_getf t65_24 mo65 F7_10 rfl rfl
theorem t65_27 : decode (mb 65) 27 = .ok (.getfield 58, 3) := by decide +kernel
theorem s65_27_o1 (d : Nat) (l0 : Value) (l1 : Value) (l2 : Value) (l3 : Value) (σ : Hs) : ru d 65 27 [l0, l1, l2, l3] [.ref 1] σ = ru d 65 30 [l0, l1, l2, l3] [.ref 2] σ := q_getf t65_27 mo65 F7_58 rfl rfl
theorem t65_30 : decode (mb 65) 30 = .ok (.iload_n 1, 1) := by decide +kernel
theorem s65_30 (d : Nat) (l0 : Value) (i1 : Int32) (l2 : Value) (l3 : Value) (w0 : Value) (σ : Hs) : ru d 65 30 [l0, .int i1, l2, l3] [w0] σ = ru d 65 31 [l0, .int i1, l2, l3] [.int i1, w0] σ := q_iload_n t65_30 rfl
theorem t65_31 : decode (mb 65) 31 = .ok (.invokevirtual 73, 3) := by decide +kernel
theorem s65_31_o2 (d : Nat) (l0 : Value) (l1 : Value) (l2 : Value) (l3 : Value) (v1 : Value) (σ : Hs) : ru d 65 31 [l0, l1, l2, l3] [v1, .ref 2] σ = kont (callD d 1 [.ref 2, v1] σ) d 65 34 [l0, l1, l2, l3] [] := q_invv t65_31 mo65 K7_73 mj1 rfl rfl rfl rfl (Nat.le_of_ble_eq_true rfl)
theorem t65_34 : decode (mb 65) 34 = .ok (.ifCond .ne 9, 3) := by decide +kernel
theorem s65_34 (d : Nat) (l0 : Value) (l1 : Value) (l2 : Value) (l3 : Value) (x : Int32) (σ : Hs) : ru d 65 34 [l0, l1, l2, l3] [.int x] σ = if x = 0 then ru d 65 37 [l0, l1, l2, l3] [] σ else ru d 65 43 [l0, l1, l2, l3] [] σ := q_if_ne t65_34 (by decide +kernel)
theorem t65_37 : decode (mb 65) 37 = .ok (.aload_n 0, 1) := by decide +kernel
theorem s65_37 (d : Nat) (a0 : Nat) (l1 : Value) (l2 : Value) (l3 : Value) (σ : Hs) : ru d 65 37 [.ref a0, l1, l2, l3] [] σ = ru d 65 38 [.ref a0, l1, l2, l3] [.ref a0] σ := q_aload_n t65_37 rfl
theorem t65_38 : decode (mb 65) 38 = .ok (.iconst 2, 1) := by decide +kernel
theorem s65_38 (d : Nat) (l0 : Value) (l1 : Value) (l2 : Value) (l3 : Value) (w0 : Value) (σ : Hs) : ru d 65 38 [l0, l1, l2, l3] [w0] σ = ru d 65 39 [l0, l1, l2, l3] [.int 2, w0] σ := q_iconst t65_38 (by decide +kernel)
theorem t65_39 : decode (mb 65) 39 = .ok (.invokevirtual 65, 3) := by decide +kernel
theorem s65_39_o0 (d : Nat) (l0 : Value) (l1 : Value) (l2 : Value) (l3 : Value) (v1 : Value) (σ : Hs) : ru d 65 39 [l0, l1, l2, l3] [v1, .ref 0] σ = kont (callD d 100 [.ref 0, v1] σ) d 65 42 [l0, l1, l2, l3] [] := q_invv t65_39 mo65 K7_65 mj100 rfl rfl rfl rfl (Nat.le_of_ble_eq_true rfl)
theorem t65_42 : decode (mb 65) 42 = .ok (.ireturn, 1) := by decide +kernel
theorem s65_42 (d : Nat) (l0 : Value) (l1 : Value) (l2 : Value) (l3 : Value) (x : Int32) (σ : Hs) : ru d 65 42 [l0, l1, l2, l3] [.int x] σ = some (some (.int x), σ) := q_ireti t65_42 mr65
theorem t65_43 : decode (mb 65) 43 = .ok (.aload_n 0, 1) := by decide +kernel
theorem s65_43 (d : Nat) (a0 : Nat) (l1 : Value) (l2 : Value) (l3 : Value) (σ : Hs) : ru d 65 43 [.ref a0, l1, l2, l3] [] σ = ru d 65 44 [.ref a0, l1, l2, l3] [.ref a0] σ := q_aload_n t65_43 rfl
theorem t65_44 : decode (mb 65) 44 = .ok (.getfield 10, 3) := by decide +kernel
theorem s65_44_o0 (d : Nat) (l0 : Value) (l1 : Value) (l2 : Value) (l3 : Value) (σ : Hs) : ru d 65 44 [l0, l1, l2, l3] [.ref 0] σ = ru d 65 47 [l0, l1, l2, l3] [.ref 1] σ := q_getf t65_44 mo65 F7_10 rfl rfl
theorem t65_47 : decode (mb 65) 47 = .ok (.getfield 58, 3) := by decide +kernel
theorem s65_47_o1 (d : Nat) (l0 : Value) (l1 : Value) (l2 : Value) (l3 : Value) (σ : Hs) : ru d 65 47 [l0, l1, l2, l3] [.ref 1] σ = ru d 65 50 [l0, l1, l2, l3] [.ref 2] σ := q_getf t65_47 mo65 F7_58 rfl rfl
theorem t65_50 : decode (mb 65) 50 = .ok (.getfield 111, 3) := by decide +kernel
theorem s65_50_o2 (d : Nat) (l0 : Value) (l1 : Value) (l2 : Value) (l3 : Value) (σ : Hs) : ru d 65 50 [l0, l1, l2, l3] [.ref 2] σ = ru d 65 53 [l0, l1, l2, l3] [.ref 6] σ := q_getf t65_50 mo65 F7_111 rfl rfl
theorem t65_53 : decode (mb 65) 53 = .ok (.iload_n 1, 1) := by decide +kernel
theorem s65_53 (d : Nat) (l0 : Value) (i1 : Int32) (l2 : Value) (l3 : Value) (w0 : Value) (σ : Hs) : ru d 65 53 [l0, .int i1, l2, l3] [w0] σ = ru d 65 54 [l0, .int i1, l2, l3] [.int i1, w0] σ := q_iload_n t65_53 rfl
theorem t65_54 : decode (mb 65) 54 = .ok (.iaload, 1) := by decide +kernel
theorem s65_54_o6 (d : Nat) (l0 : Value) (l1 : Value) (l2 : Value) (l3 : Value) (i : Int32) (σ : Hs) : ru d 65 54 [l0, l1, l2, l3] [.int i, .ref 6] σ = gd (vp_in i 30) (ru d 65 55 [l0, l1, l2, l3] [.int (σ 6 i.toNatClampNeg)] σ) := q_iald t65_54 rfl (by decide +kernel) rfl
theorem t65_55 : decode (mb 65) 55 = .ok (.istore_n 3, 1) := by decide +kernel
theorem s65_55 (d : Nat) (l0 : Value) (l1 : Value) (i2 : Int32) (l3 : Value) (x : Int32) (σ : Hs) : ru d 65 55 [l0, l1, .int i2, l3] [.int x] σ = ru d 65 56 [l0, l1, .int i2, .int x] [] σ := q_istore_n t65_55 ⟨Nat.le_of_ble_eq_true rfl, rfl⟩ rfl
theorem t65_56 : decode (mb 65) 56 = .ok (.aload_n 0, 1) := by decide +kernel
theorem s65_56 (d : Nat) (a0 : Nat) (l1 : Value) (l2 : Value) (l3 : Value) (σ : Hs) : ru d 65 56 [.ref a0, l1, l2, l3] [] σ = ru d 65 57 [.ref a0, l1, l2, l3] [.ref a0] σ := q_aload_n t65_56 rfl
theorem t65_57 : decode (mb 65) 57 = .ok (.getfield 10, 3) := by decide +kernel
theorem s65_57_o0 (d : Nat) (l0 : Value) (l1 : Value) (l2 : Value) (l3 : Value) (σ : Hs) : ru d 65 57 [l0, l1, l2, l3] [.ref 0] σ = ru d 65 60 [l0, l1, l2, l3] [.ref 1] σ := q_getf t65_57 mo65 F7_10 rfl rfl
theorem t65_60 : decode (mb 65) 60 = .ok (.getfield 58, 3) := by decide +kernel
theorem s65_60_o1 (d : Nat) (l0 : Value) (l1 : Value) (l2 : Value) (l3 : Value) (σ : Hs) : ru d 65 60 [l0, l1, l2, l3] [.ref 1] σ = ru d 65 63 [l0, l1, l2, l3] [.ref 2] σ := q_getf t65_60 mo65 F7_58 rfl rfl
theorem t65_63 : decode (mb 65) 63 = .ok (.getfield 111, 3) := by decide +kernel
theorem s65_63_o2 (d : Nat) (l0 : Value) (l1 : Value) (l2 : Value) (l3 : Value) (σ : Hs) : ru d 65 63 [l0, l1, l2, l3] [.ref 2] σ = ru d 65 66 [l0, l1, l2, l3] [.ref 6] σ := q_getf t65_63 mo65 F7_111 rfl rfl
theorem t65_66 : decode (mb 65) 66 = .ok (.iload_n 1, 1) := by decide +kernel
theorem s65_66 (d : Nat) (l0 : Value) (i1 : Int32) (l2 : Value) (l3 : Value) (w0 : Value) (σ : Hs) : ru d 65 66 [l0, .int i1, l2, l3] [w0] σ = ru d 65 67 [l0, .int i1, l2, l3] [.int i1, w0] σ := q_iload_n t65_66 rfl
theorem t65_67 : decode (mb 65) 67 = .ok (.iload_n 2, 1) := by decide +kernel
theorem s65_67 (d : Nat) (l0 : Value) (l1 : Value) (i2 : Int32) (l3 : Value) (w0 w1 : Value) (σ : Hs) : ru d 65 67 [l0, l1, .int i2, l3] [w0, w1] σ = ru d 65 68 [l0, l1, .int i2, l3] [.int i2, w0, w1] σ := q_iload_n t65_67 rfl
theorem t65_68 : decode (mb 65) 68 = .ok (.iastore, 1) := by decide +kernel
theorem s65_68_o6 (d : Nat) (l0 : Value) (l1 : Value) (l2 : Value) (l3 : Value) (i x : Int32) (σ : Hs) : ru d 65 68 [l0, l1, l2, l3] [.int x, .int i, .ref 6] σ = gd (vp_in i 30) (ru d 65 69 [l0, l1, l2, l3] [] (up2 σ 6 i.toNatClampNeg x)) := q_iast t65_68 (by decide +kernel) rfl rfl
theorem t65_69 : decode (mb 65) 69 = .ok (.iload_n 3, 1) := by decide +kernel
theorem s65_69 (d : Nat) (l0 : Value) (l1 : Value) (l2 : Value) (i3 : Int32) (σ : Hs) : ru d 65 69 [l0, l1, l2, .int i3] [] σ = ru d 65 70 [l0, l1, l2, .int i3] [.int i3] σ := q_iload_n t65_69 rfl
theorem t65_70 : decode (mb 65) 70 = .ok (.ireturn, 1) := by decide +kernel
theorem s65_70 (d : Nat) (l0 : Value) (l1 : Value) (l2 : Value) (l3 : Value) (x : Int32) (σ : Hs) : ru d 65 70 [l0, l1, l2, l3] [.int x] σ = some (some (.int x), σ) := q_ireti t65_70 mr65
theorem c65 (d : Nat) (x0 : Nat) (x1 : Int32) (x2 : Int32) (σ : Hs) : callD (d + 1) 65 [.ref x0, .int x1, .int x2] σ = ru d 65 0 [.ref x0, .int x1, .int x2, uu] [] σ := callD_ru ml65 rfl rfl (Nat.le_of_ble_eq_true rfl)
-- 66: SmokyHeap.pour(II)I
theorem t66_0 : decode (mb 66) 0 = .ok (.iload_n 1, 1) := by decide +kernel
theorem s66_0 (d : Nat) (l0 : Value) (i1 : Int32) (l2 : Value) (σ : Hs) : ru d 66 0 [l0, .int i1, l2] [] σ = ru d 66 1 [l0, .int i1, l2] [.int i1] σ := q_iload_n t66_0 rfl
theorem t66_1 : decode (mb 66) 1 = .ok (.invokestatic 69, 3) := by decide +kernel
theorem s66_1 (d : Nat) (l0 : Value) (l1 : Value) (l2 : Value) (v0 : Value) (σ : Hs) : ru d 66 1 [l0, l1, l2] [v0] σ = kont (callD d 104 [v0] σ) d 66 4 [l0, l1, l2] [] := q_invs t66_1 mo66 (by decide +kernel) K7_69 mj104 (Nat.le_of_ble_eq_true rfl) rfl rfl (Nat.le_of_ble_eq_true rfl)
theorem t66_4 : decode (mb 66) 4 = .ok (.ifCond .eq 14, 3) := by decide +kernel
theorem s66_4 (d : Nat) (l0 : Value) (l1 : Value) (l2 : Value) (x : Int32) (σ : Hs) : ru d 66 4 [l0, l1, l2] [.int x] σ = if x = 0 then ru d 66 18 [l0, l1, l2] [] σ else ru d 66 7 [l0, l1, l2] [] σ := q_if_eq t66_4 (by decide +kernel)
theorem t66_7 : decode (mb 66) 7 = .ok (.iload_n 2, 1) := by decide +kernel
theorem s66_7 (d : Nat) (l0 : Value) (l1 : Value) (i2 : Int32) (σ : Hs) : ru d 66 7 [l0, l1, .int i2] [] σ = ru d 66 8 [l0, l1, .int i2] [.int i2] σ := q_iload_n t66_7 rfl
theorem t66_8 : decode (mb 66) 8 = .ok (.iconst 0, 1) := by decide +kernel
theorem s66_8 (d : Nat) (l0 : Value) (l1 : Value) (l2 : Value) (w0 : Value) (σ : Hs) : ru d 66 8 [l0, l1, l2] [w0] σ = ru d 66 9 [l0, l1, l2] [.int 0, w0] σ := q_iconst t66_8 (by decide +kernel)
theorem t66_9 : decode (mb 66) 9 = .ok (.sipush 999, 3) := by decide +kernel
theorem s66_9 (d : Nat) (l0 : Value) (l1 : Value) (l2 : Value) (w0 w1 : Value) (σ : Hs) : ru d 66 9 [l0, l1, l2] [w0, w1] σ = ru d 66 12 [l0, l1, l2] [.int 999, w0, w1] σ := q_sipush t66_9 (by decide +kernel)
theorem t66_12 : decode (mb 66) 12 = .ok (.invokestatic 83, 3) := by decide +kernel
theorem s66_12 (d : Nat) (l0 : Value) (l1 : Value) (l2 : Value) (v0 v1 v2 : Value) (σ : Hs) : ru d 66 12 [l0, l1, l2] [v2, v1, v0] σ = kont (callD d 103 [v0, v1, v2] σ) d 66 15 [l0, l1, l2] [] := q_invs t66_12 mo66 (by decide +kernel) K7_83 mj103 (Nat.le_of_ble_eq_true rfl) rfl rfl (Nat.le_of_ble_eq_true rfl)
theorem t66_15 : decode (mb 66) 15 = .ok (.ifCond .ne 9, 3) := by decide +kernel
theorem s66_15 (d : Nat) (l0 : Value) (l1 : Value) (l2 : Value) (x : Int32) (σ : Hs) : ru d 66 15 [l0, l1, l2] [.int x] σ = if x = 0 then ru d 66 18 [l0, l1, l2] [] σ else ru d 66 24 [l0, l1, l2] [] σ := q_if_ne t66_15 (by decide +kernel)
theorem t66_18 : decode (mb 66) 18 = .ok (.aload_n 0, 1) := by decide +kernel
theorem s66_18 (d : Nat) (a0 : Nat) (l1 : Value) (l2 : Value) (σ : Hs) : ru d 66 18 [.ref a0, l1, l2] [] σ = ru d 66 19 [.ref a0, l1, l2] [.ref a0] σ := q_aload_n t66_18 rfl
theorem t66_19 : decode (mb 66) 19 = .ok (.iconst 1, 1) := by decide +kernel
theorem s66_19 (d : Nat) (l0 : Value) (l1 : Value) (l2 : Value) (w0 : Value) (σ : Hs) : ru d 66 19 [l0, l1, l2] [w0] σ = ru d 66 20 [l0, l1, l2] [.int 1, w0] σ := q_iconst t66_19 (by decide +kernel)
theorem t66_20 : decode (mb 66) 20 = .ok (.invokevirtual 65, 3) := by decide +kernel
theorem s66_20_o0 (d : Nat) (l0 : Value) (l1 : Value) (l2 : Value) (v1 : Value) (σ : Hs) : ru d 66 20 [l0, l1, l2] [v1, .ref 0] σ = kont (callD d 100 [.ref 0, v1] σ) d 66 23 [l0, l1, l2] [] := q_invv t66_20 mo66 K7_65 mj100 rfl rfl rfl rfl (Nat.le_of_ble_eq_true rfl)
theorem t66_23 : decode (mb 66) 23 = .ok (.ireturn, 1) := by decide +kernel
theorem s66_23 (d : Nat) (l0 : Value) (l1 : Value) (l2 : Value) (x : Int32) (σ : Hs) : ru d 66 23 [l0, l1, l2] [.int x] σ = some (some (.int x), σ) := q_ireti t66_23 mr66
theorem t66_24 : decode (mb 66) 24 = .ok (.aload_n 0, 1) := by decide +kernel
theorem s66_24 (d : Nat) (a0 : Nat) (l1 : Value) (l2 : Value) (σ : Hs) : ru d 66 24 [.ref a0, l1, l2] [] σ = ru d 66 25 [.ref a0, l1, l2] [.ref a0] σ := q_aload_n t66_24 rfl
theorem t66_25 : decode (mb 66) 25 = .ok (.getfield 10, 3) := by decide +kernel
theorem s66_25_o0 (d : Nat) (l0 : Value) (l1 : Value) (l2 : Value) (σ : Hs) : ru d 66 25 [l0, l1, l2] [.ref 0] σ = ru d 66 28 [l0, l1, l2] [.ref 1] σ := q_getf t66_25 mo66 F7_10 rfl rfl
theorem t66_28 : decode (mb 66) 28 = .ok (.getfield 58, 3) := by decide +kernel
theorem s66_28_o1 (d : Nat) (l0 : Value) (l1 : Value) (l2 : Value) (σ : Hs) : ru d 66 28 [l0, l1, l2] [.ref 1] σ = ru d 66 31 [l0, l1, l2] [.ref 2] σ := q_getf t66_28 mo66 F7_58 rfl rfl
theorem t66_31 : decode (mb 66) 31 = .ok (.iload_n 1, 1) := by decide +kernel
theorem s66_31 (d : Nat) (l0 : Value) (i1 : Int32) (l2 : Value) (w0 : Value) (σ : Hs) : ru d 66 31 [l0, .int i1, l2] [w0] σ = ru d 66 32 [l0, .int i1, l2] [.int i1, w0] σ := q_iload_n t66_31 rfl
theorem t66_32 : decode (mb 66) 32 = .ok (.invokevirtual 73, 3) := by decide +kernel
theorem s66_32_o2 (d : Nat) (l0 : Value) (l1 : Value) (l2 : Value) (v1 : Value) (σ : Hs) : ru d 66 32 [l0, l1, l2] [v1, .ref 2] σ = kont (callD d 1 [.ref 2, v1] σ) d 66 35 [l0, l1, l2] [] := q_invv t66_32 mo66 K7_73 mj1 rfl rfl rfl rfl (Nat.le_of_ble_eq_true rfl)
theorem t66_35 : decode (mb 66) 35 = .ok (.ifCond .ne 9, 3) := by decide +kernel
theorem s66_35 (d : Nat) (l0 : Value) (l1 : Value) (l2 : Value) (x : Int32) (σ : Hs) : ru d 66 35 [l0, l1, l2] [.int x] σ = if x = 0 then ru d 66 38 [l0, l1, l2] [] σ else ru d 66 44 [l0, l1, l2] [] σ := q_if_ne t66_35 (by decide +kernel)
theorem t66_38 : decode (mb 66) 38 = .ok (.aload_n 0, 1) := by decide +kernel
theorem s66_38 (d : Nat) (a0 : Nat) (l1 : Value) (l2 : Value) (σ : Hs) : ru d 66 38 [.ref a0, l1, l2] [] σ = ru d 66 39 [.ref a0, l1, l2] [.ref a0] σ := q_aload_n t66_38 rfl
theorem t66_39 : decode (mb 66) 39 = .ok (.iconst 2, 1) := by decide +kernel
theorem s66_39 (d : Nat) (l0 : Value) (l1 : Value) (l2 : Value) (w0 : Value) (σ : Hs) : ru d 66 39 [l0, l1, l2] [w0] σ = ru d 66 40 [l0, l1, l2] [.int 2, w0] σ := q_iconst t66_39 (by decide +kernel)
theorem t66_40 : decode (mb 66) 40 = .ok (.invokevirtual 65, 3) := by decide +kernel
theorem s66_40_o0 (d : Nat) (l0 : Value) (l1 : Value) (l2 : Value) (v1 : Value) (σ : Hs) : ru d 66 40 [l0, l1, l2] [v1, .ref 0] σ = kont (callD d 100 [.ref 0, v1] σ) d 66 43 [l0, l1, l2] [] := q_invv t66_40 mo66 K7_65 mj100 rfl rfl rfl rfl (Nat.le_of_ble_eq_true rfl)
theorem t66_43 : decode (mb 66) 43 = .ok (.ireturn, 1) := by decide +kernel
theorem s66_43 (d : Nat) (l0 : Value) (l1 : Value) (l2 : Value) (x : Int32) (σ : Hs) : ru d 66 43 [l0, l1, l2] [.int x] σ = some (some (.int x), σ) := q_ireti t66_43 mr66
theorem t66_44 : decode (mb 66) 44 = .ok (.aload_n 0, 1) := by decide +kernel
theorem s66_44 (d : Nat) (a0 : Nat) (l1 : Value) (l2 : Value) (σ : Hs) : ru d 66 44 [.ref a0, l1, l2] [] σ = ru d 66 45 [.ref a0, l1, l2] [.ref a0] σ := q_aload_n t66_44 rfl
theorem t66_45 : decode (mb 66) 45 = .ok (.getfield 10, 3) := by decide +kernel
theorem s66_45_o0 (d : Nat) (l0 : Value) (l1 : Value) (l2 : Value) (σ : Hs) : ru d 66 45 [l0, l1, l2] [.ref 0] σ = ru d 66 48 [l0, l1, l2] [.ref 1] σ := q_getf t66_45 mo66 F7_10 rfl rfl
theorem t66_48 : decode (mb 66) 48 = .ok (.getfield 58, 3) := by decide +kernel
theorem s66_48_o1 (d : Nat) (l0 : Value) (l1 : Value) (l2 : Value) (σ : Hs) : ru d 66 48 [l0, l1, l2] [.ref 1] σ = ru d 66 51 [l0, l1, l2] [.ref 2] σ := q_getf t66_48 mo66 F7_58 rfl rfl
theorem t66_51 : decode (mb 66) 51 = .ok (.iload_n 1, 1) := by decide +kernel
theorem s66_51 (d : Nat) (l0 : Value) (i1 : Int32) (l2 : Value) (w0 : Value) (σ : Hs) : ru d 66 51 [l0, .int i1, l2] [w0] σ = ru d 66 52 [l0, .int i1, l2] [.int i1, w0] σ := q_iload_n t66_51 rfl
theorem t66_52 : decode (mb 66) 52 = .ok (.iload_n 2, 1) := by decide +kernel
theorem s66_52 (d : Nat) (l0 : Value) (l1 : Value) (i2 : Int32) (w0 w1 : Value) (σ : Hs) : ru d 66 52 [l0, l1, .int i2] [w0, w1] σ = ru d 66 53 [l0, l1, .int i2] [.int i2, w0, w1] σ := q_iload_n t66_52 rfl
theorem t66_53 : decode (mb 66) 53 = .ok (.invokevirtual 114, 3) := by decide +kernel
theorem s66_53_o2 (d : Nat) (l0 : Value) (l1 : Value) (l2 : Value) (v1 v2 : Value) (σ : Hs) : ru d 66 53 [l0, l1, l2] [v2, v1, .ref 2] σ = kont (callD d 10 [.ref 2, v1, v2] σ) d 66 56 [l0, l1, l2] [] := q_invv t66_53 mo66 K7_114 mj10 rfl rfl rfl rfl (Nat.le_of_ble_eq_true rfl)
theorem t66_56 : decode (mb 66) 56 = .ok (.aload_n 0, 1) := by decide +kernel
theorem s66_56 (d : Nat) (a0 : Nat) (l1 : Value) (l2 : Value) (σ : Hs) : ru d 66 56 [.ref a0, l1, l2] [] σ = ru d 66 57 [.ref a0, l1, l2] [.ref a0] σ := q_aload_n t66_56 rfl
theorem t66_57 : decode (mb 66) 57 = .ok (.getfield 10, 3) := by decide +kernel
theorem s66_57_o0 (d : Nat) (l0 : Value) (l1 : Value) (l2 : Value) (σ : Hs) : ru d 66 57 [l0, l1, l2] [.ref 0] σ = ru d 66 60 [l0, l1, l2] [.ref 1] σ := q_getf t66_57 mo66 F7_10 rfl rfl
theorem t66_60 : decode (mb 66) 60 = .ok (.getfield 58, 3) := by decide +kernel
theorem s66_60_o1 (d : Nat) (l0 : Value) (l1 : Value) (l2 : Value) (σ : Hs) : ru d 66 60 [l0, l1, l2] [.ref 1] σ = ru d 66 63 [l0, l1, l2] [.ref 2] σ := q_getf t66_60 mo66 F7_58 rfl rfl
theorem t66_63 : decode (mb 66) 63 = .ok (.getfield 118, 3) := by decide +kernel
theorem s66_63_o2 (d : Nat) (l0 : Value) (l1 : Value) (l2 : Value) (σ : Hs) : ru d 66 63 [l0, l1, l2] [.ref 2] σ = ru d 66 66 [l0, l1, l2] [.ref 5] σ := q_getf t66_63 mo66 F7_118 rfl rfl
theorem t66_66 : decode (mb 66) 66 = .ok (.iload_n 1, 1) := by decide +kernel
theorem s66_66 (d : Nat) (l0 : Value) (i1 : Int32) (l2 : Value) (w0 : Value) (σ : Hs) : ru d 66 66 [l0, .int i1, l2] [w0] σ = ru d 66 67 [l0, .int i1, l2] [.int i1, w0] σ := q_iload_n t66_66 rfl
theorem t66_67 : decode (mb 66) 67 = .ok (.iaload, 1) := by decide +kernel
theorem s66_67_o5 (d : Nat) (l0 : Value) (l1 : Value) (l2 : Value) (i : Int32) (σ : Hs) : ru d 66 67 [l0, l1, l2] [.int i, .ref 5] σ = gd (vp_in i 30) (ru d 66 68 [l0, l1, l2] [.int (σ 5 i.toNatClampNeg)] σ) := q_iald t66_67 rfl (by decide +kernel) rfl
theorem t66_68 : decode (mb 66) 68 = .ok (.ireturn, 1) := by decide +kernel
theorem s66_68 (d : Nat) (l0 : Value) (l1 : Value) (l2 : Value) (x : Int32) (σ : Hs) : ru d 66 68 [l0, l1, l2] [.int x] σ = some (some (.int x), σ) := q_ireti t66_68 mr66
theorem c66 (d : Nat) (x0 : Nat) (x1 : Int32) (x2 : Int32) (σ : Hs) : callD (d + 1) 66 [.ref x0, .int x1, .int x2] σ = ru d 66 0 [.ref x0, .int x1, .int x2] [] σ := callD_ru ml66 rfl rfl (Nat.le_of_ble_eq_true rfl)
-- 67: SmokyHeap.set(II)I
theorem t67_0 : decode (mb 67) 0 = .ok (.iload_n 1, 1) := by decide +kernel
theorem s67_0 (d : Nat) (l0 : Value) (i1 : Int32) (l2 : Value) (l3 : Value) (σ : Hs) : ru d 67 0 [l0, .int i1, l2, l3] [] σ = ru d 67 1 [l0, .int i1, l2, l3] [.int i1] σ := q_iload_n t67_0 rfl
theorem t67_1 : decode (mb 67) 1 = .ok (.iconst 0, 1) := by decide +kernel
theorem s67_1 (d : Nat) (l0 : Value) (l1 : Value) (l2 : Value) (l3 : Value) (w0 : Value) (σ : Hs) : ru d 67 1 [l0, l1, l2, l3] [w0] σ = ru d 67 2 [l0, l1, l2, l3] [.int 0, w0] σ := q_iconst t67_1 (by decide +kernel)
theorem t67_2 : decode (mb 67) 2 = .ok (.iconst 4, 1) := by decide +kernel
theorem s67_2 (d : Nat) (l0 : Value) (l1 : Value) (l2 : Value) (l3 : Value) (w0 w1 : Value) (σ : Hs) : ru d 67 2 [l0, l1, l2, l3] [w0, w1] σ = ru d 67 3 [l0, l1, l2, l3] [.int 4, w0, w1] σ := q_iconst t67_2 (by decide +kernel)
theorem t67_3 : decode (mb 67) 3 = .ok (.invokestatic 83, 3) := by decide +kernel
theorem s67_3 (d : Nat) (l0 : Value) (l1 : Value) (l2 : Value) (l3 : Value) (v0 v1 v2 : Value) (σ : Hs) : ru d 67 3 [l0, l1, l2, l3] [v2, v1, v0] σ = kont (callD d 103 [v0, v1, v2] σ) d 67 6 [l0, l1, l2, l3] [] := q_invs t67_3 mo67 (by decide +kernel) K7_83 mj103 (Nat.le_of_ble_eq_true rfl) rfl rfl (Nat.le_of_ble_eq_true rfl)
theorem t67_6 : decode (mb 67) 6 = .ok (.ifCond .eq 16, 3) := by decide +kernel
theorem s67_6 (d : Nat) (l0 : Value) (l1 : Value) (l2 : Value) (l3 : Value) (x : Int32) (σ : Hs) : ru d 67 6 [l0, l1, l2, l3] [.int x] σ = if x = 0 then ru d 67 22 [l0, l1, l2, l3] [] σ else ru d 67 9 [l0, l1, l2, l3] [] σ := q_if_eq t67_6 (by decide +kernel)
theorem t67_9 : decode (mb 67) 9 = .ok (.iload_n 2, 1) := by decide +kernel
theorem s67_9 (d : Nat) (l0 : Value) (l1 : Value) (i2 : Int32) (l3 : Value) (σ : Hs) : ru d 67 9 [l0, l1, .int i2, l3] [] σ = ru d 67 10 [l0, l1, .int i2, l3] [.int i2] σ := q_iload_n t67_9 rfl
theorem t67_10 : decode (mb 67) 10 = .ok (.iconst 0, 1) := by decide +kernel
theorem s67_10 (d : Nat) (l0 : Value) (l1 : Value) (l2 : Value) (l3 : Value) (w0 : Value) (σ : Hs) : ru d 67 10 [l0, l1, l2, l3] [w0] σ = ru d 67 11 [l0, l1, l2, l3] [.int 0, w0] σ := q_iconst t67_10 (by decide +kernel)
theorem t67_11 : decode (mb 67) 11 = .ok (.getstatic 121, 3) := by decide +kernel
theorem s67_11 (d : Nat) (l0 : Value) (l1 : Value) (l2 : Value) (l3 : Value) (w0 w1 : Value) (σ : Hs) : ru d 67 11 [l0, l1, l2, l3] [w0, w1] σ = ru d 67 14 [l0, l1, l2, l3] [.ref 107, w0, w1] σ := q_gets t67_11 mo67 S7_121 rfl
theorem t67_14 : decode (mb 67) 14 = .ok (.iload_n 1, 1) := by decide +kernel
theorem s67_14 (d : Nat) (l0 : Value) (i1 : Int32) (l2 : Value) (l3 : Value) (w0 w1 w2 : Value) (σ : Hs) : ru d 67 14 [l0, .int i1, l2, l3] [w0, w1, w2] σ = ru d 67 15 [l0, .int i1, l2, l3] [.int i1, w0, w1, w2] σ := q_iload_n t67_14 rfl
theorem t67_15 : decode (mb 67) 15 = .ok (.iaload, 1) := by decide +kernel
theorem s67_15_o107 (d : Nat) (l0 : Value) (l1 : Value) (l2 : Value) (l3 : Value) (i : Int32) (w0 w1 : Value) (σ : Hs) : ru d 67 15 [l0, l1, l2, l3] [.int i, .ref 107, w0, w1] σ = gd (vp_in i 5) (ru d 67 16 [l0, l1, l2, l3] [.int (([1439, 99, 3, 999, 8] : List Int32).getD i.toNatClampNeg 0), w0, w1] σ) := q_ials t67_15 rfl (by decide +kernel) rfl rfl
theorem t67_16 : decode (mb 67) 16 = .ok (.invokestatic 83, 3) := by decide +kernel
theorem s67_16 (d : Nat) (l0 : Value) (l1 : Value) (l2 : Value) (l3 : Value) (v0 v1 v2 : Value) (σ : Hs) : ru d 67 16 [l0, l1, l2, l3] [v2, v1, v0] σ = kont (callD d 103 [v0, v1, v2] σ) d 67 19 [l0, l1, l2, l3] [] := q_invs t67_16 mo67 (by decide +kernel) K7_83 mj103 (Nat.le_of_ble_eq_true rfl) rfl rfl (Nat.le_of_ble_eq_true rfl)
theorem t67_19 : decode (mb 67) 19 = .ok (.ifCond .ne 9, 3) := by decide +kernel
theorem s67_19 (d : Nat) (l0 : Value) (l1 : Value) (l2 : Value) (l3 : Value) (x : Int32) (σ : Hs) : ru d 67 19 [l0, l1, l2, l3] [.int x] σ = if x = 0 then ru d 67 22 [l0, l1, l2, l3] [] σ else ru d 67 28 [l0, l1, l2, l3] [] σ := q_if_ne t67_19 (by decide +kernel)
theorem t67_22 : decode (mb 67) 22 = .ok (.aload_n 0, 1) := by decide +kernel
theorem s67_22 (d : Nat) (a0 : Nat) (l1 : Value) (l2 : Value) (l3 : Value) (σ : Hs) : ru d 67 22 [.ref a0, l1, l2, l3] [] σ = ru d 67 23 [.ref a0, l1, l2, l3] [.ref a0] σ := q_aload_n t67_22 rfl
theorem t67_23 : decode (mb 67) 23 = .ok (.iconst 1, 1) := by decide +kernel
theorem s67_23 (d : Nat) (l0 : Value) (l1 : Value) (l2 : Value) (l3 : Value) (w0 : Value) (σ : Hs) : ru d 67 23 [l0, l1, l2, l3] [w0] σ = ru d 67 24 [l0, l1, l2, l3] [.int 1, w0] σ := q_iconst t67_23 (by decide +kernel)
theorem t67_24 : decode (mb 67) 24 = .ok (.invokevirtual 65, 3) := by decide +kernel
theorem s67_24_o0 (d : Nat) (l0 : Value) (l1 : Value) (l2 : Value) (l3 : Value) (v1 : Value) (σ : Hs) : ru d 67 24 [l0, l1, l2, l3] [v1, .ref 0] σ = kont (callD d 100 [.ref 0, v1] σ) d 67 27 [l0, l1, l2, l3] [] := q_invv t67_24 mo67 K7_65 mj100 rfl rfl rfl rfl (Nat.le_of_ble_eq_true rfl)
theorem t67_27 : decode (mb 67) 27 = .ok (.ireturn, 1) := by decide +kernel
theorem s67_27 (d : Nat) (l0 : Value) (l1 : Value) (l2 : Value) (l3 : Value) (x : Int32) (σ : Hs) : ru d 67 27 [l0, l1, l2, l3] [.int x] σ = some (some (.int x), σ) := q_ireti t67_27 mr67
theorem t67_28 : decode (mb 67) 28 = .ok (.aload_n 0, 1) := by decide +kernel
theorem s67_28 (d : Nat) (a0 : Nat) (l1 : Value) (l2 : Value) (l3 : Value) (σ : Hs) : ru d 67 28 [.ref a0, l1, l2, l3] [] σ = ru d 67 29 [.ref a0, l1, l2, l3] [.ref a0] σ := q_aload_n t67_28 rfl
theorem t67_29 : decode (mb 67) 29 = .ok (.getfield 10, 3) := by decide +kernel
theorem s67_29_o0 (d : Nat) (l0 : Value) (l1 : Value) (l2 : Value) (l3 : Value) (σ : Hs) : ru d 67 29 [l0, l1, l2, l3] [.ref 0] σ = ru d 67 32 [l0, l1, l2, l3] [.ref 1] σ := q_getf t67_29 mo67 F7_10 rfl rfl
theorem t67_32 : decode (mb 67) 32 = .ok (.getfield 58, 3) := by decide +kernel
theorem s67_32_o1 (d : Nat) (l0 : Value) (l1 : Value) (l2 : Value) (l3 : Value) (σ : Hs) : ru d 67 32 [l0, l1, l2, l3] [.ref 1] σ = ru d 67 35 [l0, l1, l2, l3] [.ref 2] σ := q_getf t67_32 mo67 F7_58 rfl rfl
theorem t67_35 : decode (mb 67) 35 = .ok (.getfield 124, 3) := by decide +kernel
theorem s67_35_o2 (d : Nat) (l0 : Value) (l1 : Value) (l2 : Value) (l3 : Value) (σ : Hs) : ru d 67 35 [l0, l1, l2, l3] [.ref 2] σ = ru d 67 38 [l0, l1, l2, l3] [.ref 9] σ := q_getf t67_35 mo67 F7_124 rfl rfl
theorem t67_38 : decode (mb 67) 38 = .ok (.iload_n 1, 1) := by decide +kernel
theorem s67_38 (d : Nat) (l0 : Value) (i1 : Int32) (l2 : Value) (l3 : Value) (w0 : Value) (σ : Hs) : ru d 67 38 [l0, .int i1, l2, l3] [w0] σ = ru d 67 39 [l0, .int i1, l2, l3] [.int i1, w0] σ := q_iload_n t67_38 rfl
theorem t67_39 : decode (mb 67) 39 = .ok (.iaload, 1) := by decide +kernel
theorem s67_39_o9 (d : Nat) (l0 : Value) (l1 : Value) (l2 : Value) (l3 : Value) (i : Int32) (σ : Hs) : ru d 67 39 [l0, l1, l2, l3] [.int i, .ref 9] σ = gd (vp_in i 5) (ru d 67 40 [l0, l1, l2, l3] [.int (σ 9 i.toNatClampNeg)] σ) := q_iald t67_39 rfl (by decide +kernel) rfl
theorem t67_40 : decode (mb 67) 40 = .ok (.istore_n 3, 1) := by decide +kernel
theorem s67_40 (d : Nat) (l0 : Value) (l1 : Value) (i2 : Int32) (l3 : Value) (x : Int32) (σ : Hs) : ru d 67 40 [l0, l1, .int i2, l3] [.int x] σ = ru d 67 41 [l0, l1, .int i2, .int x] [] σ := q_istore_n t67_40 ⟨Nat.le_of_ble_eq_true rfl, rfl⟩ rfl
theorem t67_41 : decode (mb 67) 41 = .ok (.aload_n 0, 1) := by decide +kernel
theorem s67_41 (d : Nat) (a0 : Nat) (l1 : Value) (l2 : Value) (l3 : Value) (σ : Hs) : ru d 67 41 [.ref a0, l1, l2, l3] [] σ = ru d 67 42 [.ref a0, l1, l2, l3] [.ref a0] σ := q_aload_n t67_41 rfl
theorem t67_42 : decode (mb 67) 42 = .ok (.getfield 10, 3) := by decide +kernel
theorem s67_42_o0 (d : Nat) (l0 : Value) (l1 : Value) (l2 : Value) (l3 : Value) (σ : Hs) : ru d 67 42 [l0, l1, l2, l3] [.ref 0] σ = ru d 67 45 [l0, l1, l2, l3] [.ref 1] σ := q_getf t67_42 mo67 F7_10 rfl rfl
theorem t67_45 : decode (mb 67) 45 = .ok (.getfield 58, 3) := by decide +kernel
theorem s67_45_o1 (d : Nat) (l0 : Value) (l1 : Value) (l2 : Value) (l3 : Value) (σ : Hs) : ru d 67 45 [l0, l1, l2, l3] [.ref 1] σ = ru d 67 48 [l0, l1, l2, l3] [.ref 2] σ := q_getf t67_45 mo67 F7_58 rfl rfl
theorem t67_48 : decode (mb 67) 48 = .ok (.getfield 124, 3) := by decide +kernel
theorem s67_48_o2 (d : Nat) (l0 : Value) (l1 : Value) (l2 : Value) (l3 : Value) (σ : Hs) : ru d 67 48 [l0, l1, l2, l3] [.ref 2] σ = ru d 67 51 [l0, l1, l2, l3] [.ref 9] σ := q_getf t67_48 mo67 F7_124 rfl rfl
theorem t67_51 : decode (mb 67) 51 = .ok (.iload_n 1, 1) := by decide +kernel
theorem s67_51 (d : Nat) (l0 : Value) (i1 : Int32) (l2 : Value) (l3 : Value) (w0 : Value) (σ : Hs) : ru d 67 51 [l0, .int i1, l2, l3] [w0] σ = ru d 67 52 [l0, .int i1, l2, l3] [.int i1, w0] σ := q_iload_n t67_51 rfl
theorem t67_52 : decode (mb 67) 52 = .ok (.iload_n 2, 1) := by decide +kernel
theorem s67_52 (d : Nat) (l0 : Value) (l1 : Value) (i2 : Int32) (l3 : Value) (w0 w1 : Value) (σ : Hs) : ru d 67 52 [l0, l1, .int i2, l3] [w0, w1] σ = ru d 67 53 [l0, l1, .int i2, l3] [.int i2, w0, w1] σ := q_iload_n t67_52 rfl
theorem t67_53 : decode (mb 67) 53 = .ok (.iastore, 1) := by decide +kernel
theorem s67_53_o9 (d : Nat) (l0 : Value) (l1 : Value) (l2 : Value) (l3 : Value) (i x : Int32) (σ : Hs) : ru d 67 53 [l0, l1, l2, l3] [.int x, .int i, .ref 9] σ = gd (vp_in i 5) (ru d 67 54 [l0, l1, l2, l3] [] (up2 σ 9 i.toNatClampNeg x)) := q_iast t67_53 (by decide +kernel) rfl rfl
theorem t67_54 : decode (mb 67) 54 = .ok (.iload_n 3, 1) := by decide +kernel
theorem s67_54 (d : Nat) (l0 : Value) (l1 : Value) (l2 : Value) (i3 : Int32) (σ : Hs) : ru d 67 54 [l0, l1, l2, .int i3] [] σ = ru d 67 55 [l0, l1, l2, .int i3] [.int i3] σ := q_iload_n t67_54 rfl
theorem t67_55 : decode (mb 67) 55 = .ok (.ireturn, 1) := by decide +kernel
theorem s67_55 (d : Nat) (l0 : Value) (l1 : Value) (l2 : Value) (l3 : Value) (x : Int32) (σ : Hs) : ru d 67 55 [l0, l1, l2, l3] [.int x] σ = some (some (.int x), σ) := q_ireti t67_55 mr67
theorem c67 (d : Nat) (x0 : Nat) (x1 : Int32) (x2 : Int32) (σ : Hs) : callD (d + 1) 67 [.ref x0, .int x1, .int x2] σ = ru d 67 0 [.ref x0, .int x1, .int x2, uu] [] σ := callD_ru ml67 rfl rfl (Nat.le_of_ble_eq_true rfl)
-- 68: SmokyHeap.feed(JI)I
theorem t68_0 : decode (mb 68) 0 = .ok (.iload_n 3, 1) := by decide +kernel
theorem s68_0 (d : Nat) (l0 : Value) (l1 : Value) (l2 : Value) (i3 : Int32) (l4 : Value) (σ : Hs) : ru d 68 0 [l0, l1, l2, .int i3, l4] [] σ = ru d 68 1 [l0, l1, l2, .int i3, l4] [.int i3] σ := q_iload_n t68_0 rfl
theorem t68_1 : decode (mb 68) 1 = .ok (.iconst 1, 1) := by decide +kernel
theorem s68_1 (d : Nat) (l0 : Value) (l1 : Value) (l2 : Value) (l3 : Value) (l4 : Value) (w0 : Value) (σ : Hs) : ru d 68 1 [l0, l1, l2, l3, l4] [w0] σ = ru d 68 2 [l0, l1, l2, l3, l4] [.int 1, w0] σ := q_iconst t68_1 (by decide +kernel)
theorem t68_2 : decode (mb 68) 2 = .ok (.bipush 8, 2) := by decide +kernel
theorem s68_2 (d : Nat) (l0 : Value) (l1 : Value) (l2 : Value) (l3 : Value) (l4 : Value) (w0 w1 : Value) (σ : Hs) : ru d 68 2 [l0, l1, l2, l3, l4] [w0, w1] σ = ru d 68 4 [l0, l1, l2, l3, l4] [.int 8, w0, w1] σ := q_bipush t68_2 (by decide +kernel)
theorem t68_4 : decode (mb 68) 4 = .ok (.invokestatic 83, 3) := by decide +kernel
theorem s68_4 (d : Nat) (l0 : Value) (l1 : Value) (l2 : Value) (l3 : Value) (l4 : Value) (v0 v1 v2 : Value) (σ : Hs) : ru d 68 4 [l0, l1, l2, l3, l4] [v2, v1, v0] σ = kont (callD d 103 [v0, v1, v2] σ) d 68 7 [l0, l1, l2, l3, l4] [] := q_invs t68_4 mo68 (by decide +kernel) K7_83 mj103 (Nat.le_of_ble_eq_true rfl) rfl rfl (Nat.le_of_ble_eq_true rfl)
theorem t68_7 : decode (mb 68) 7 = .ok (.ifCond .ne 9, 3) := by decide +kernel
theorem s68_7 (d : Nat) (l0 : Value) (l1 : Value) (l2 : Value) (l3 : Value) (l4 : Value) (x : Int32) (σ : Hs) : ru d 68 7 [l0, l1, l2, l3, l4] [.int x] σ = if x = 0 then ru d 68 10 [l0, l1, l2, l3, l4] [] σ else ru d 68 16 [l0, l1, l2, l3, l4] [] σ := q_if_ne t68_7 (by decide +kernel)
theorem t68_10 : decode (mb 68) 10 = .ok (.aload_n 0, 1) := by decide +kernel
theorem s68_10 (d : Nat) (a0 : Nat) (l1 : Value) (l2 : Value) (l3 : Value) (l4 : Value) (σ : Hs) : ru d 68 10 [.ref a0, l1, l2, l3, l4] [] σ = ru d 68 11 [.ref a0, l1, l2, l3, l4] [.ref a0] σ := q_aload_n t68_10 rfl
theorem t68_11 : decode (mb 68) 11 = .ok (.iconst 1, 1) := by decide +kernel
theorem s68_11 (d : Nat) (l0 : Value) (l1 : Value) (l2 : Value) (l3 : Value) (l4 : Value) (w0 : Value) (σ : Hs) : ru d 68 11 [l0, l1, l2, l3, l4] [w0] σ = ru d 68 12 [l0, l1, l2, l3, l4] [.int 1, w0] σ := q_iconst t68_11 (by decide +kernel)
theorem t68_12 : decode (mb 68) 12 = .ok (.invokevirtual 65, 3) := by decide +kernel
theorem s68_12_o0 (d : Nat) (l0 : Value) (l1 : Value) (l2 : Value) (l3 : Value) (l4 : Value) (v1 : Value) (σ : Hs) : ru d 68 12 [l0, l1, l2, l3, l4] [v1, .ref 0] σ = kont (callD d 100 [.ref 0, v1] σ) d 68 15 [l0, l1, l2, l3, l4] [] := q_invv t68_12 mo68 K7_65 mj100 rfl rfl rfl rfl (Nat.le_of_ble_eq_true rfl)
theorem t68_15 : decode (mb 68) 15 = .ok (.ireturn, 1) := by decide +kernel
theorem s68_15 (d : Nat) (l0 : Value) (l1 : Value) (l2 : Value) (l3 : Value) (l4 : Value) (x : Int32) (σ : Hs) : ru d 68 15 [l0, l1, l2, l3, l4] [.int x] σ = some (some (.int x), σ) := q_ireti t68_15 mr68
theorem t68_16 : decode (mb 68) 16 = .ok (.aload_n 0, 1) := by decide +kernel
theorem s68_16 (d : Nat) (a0 : Nat) (l1 : Value) (l2 : Value) (l3 : Value) (l4 : Value) (σ : Hs) : ru d 68 16 [.ref a0, l1, l2, l3, l4] [] σ = ru d 68 17 [.ref a0, l1, l2, l3, l4] [.ref a0] σ := q_aload_n t68_16 rfl
theorem t68_17 : decode (mb 68) 17 = .ok (.getfield 10, 3) := by decide +kernel
theorem s68_17_o0 (d : Nat) (l0 : Value) (l1 : Value) (l2 : Value) (l3 : Value) (l4 : Value) (σ : Hs) : ru d 68 17 [l0, l1, l2, l3, l4] [.ref 0] σ = ru d 68 20 [l0, l1, l2, l3, l4] [.ref 1] σ := q_getf t68_17 mo68 F7_10 rfl rfl
theorem t68_20 : decode (mb 68) 20 = .ok (.getfield 127, 3) := by decide +kernel
theorem s68_20_o1 (d : Nat) (l0 : Value) (l1 : Value) (l2 : Value) (l3 : Value) (l4 : Value) (σ : Hs) : ru d 68 20 [l0, l1, l2, l3, l4] [.ref 1] σ = ru d 68 23 [l0, l1, l2, l3, l4] [.ref 22] σ := q_getf t68_20 mo68 F7_127 rfl rfl
theorem t68_23 : decode (mb 68) 23 = .ok (.getfield 131, 3) := by decide +kernel
theorem s68_23_o22 (d : Nat) (l0 : Value) (l1 : Value) (l2 : Value) (l3 : Value) (l4 : Value) (σ : Hs) : ru d 68 23 [l0, l1, l2, l3, l4] [.ref 22] σ = ru d 68 26 [l0, l1, l2, l3, l4] [.int (σ 22 1)] σ := q_getf t68_23 mo68 F7_131 rfl rfl
theorem t68_26 : decode (mb 68) 26 = .ok (.iload_n 3, 1) := by decide +kernel
theorem s68_26 (d : Nat) (l0 : Value) (l1 : Value) (l2 : Value) (i3 : Int32) (l4 : Value) (w0 : Value) (σ : Hs) : ru d 68 26 [l0, l1, l2, .int i3, l4] [w0] σ = ru d 68 27 [l0, l1, l2, .int i3, l4] [.int i3, w0] σ := q_iload_n t68_26 rfl
theorem t68_27 : decode (mb 68) 27 = .ok (.iadd, 1) := by decide +kernel
theorem s68_27 (d : Nat) (l0 : Value) (l1 : Value) (l2 : Value) (l3 : Value) (l4 : Value) (x y : Int32) (σ : Hs) : ru d 68 27 [l0, l1, l2, l3, l4] [.int y, .int x] σ = ru d 68 28 [l0, l1, l2, l3, l4] [.int (x + y)] σ := q_iadd t68_27
theorem t68_28 : decode (mb 68) 28 = .ok (.bipush 60, 2) := by decide +kernel
theorem s68_28 (d : Nat) (l0 : Value) (l1 : Value) (l2 : Value) (l3 : Value) (l4 : Value) (w0 : Value) (σ : Hs) : ru d 68 28 [l0, l1, l2, l3, l4] [w0] σ = ru d 68 30 [l0, l1, l2, l3, l4] [.int 60, w0] σ := q_bipush t68_28 (by decide +kernel)
theorem t68_30 : decode (mb 68) 30 = .ok (.if_icmp .le 9, 3) := by decide +kernel
theorem s68_30 (d : Nat) (l0 : Value) (l1 : Value) (l2 : Value) (l3 : Value) (l4 : Value) (x y : Int32) (σ : Hs) : ru d 68 30 [l0, l1, l2, l3, l4] [.int y, .int x] σ = if x ≤ y then ru d 68 39 [l0, l1, l2, l3, l4] [] σ else ru d 68 33 [l0, l1, l2, l3, l4] [] σ := q_ic_le t68_30 (by decide +kernel)
theorem t68_33 : decode (mb 68) 33 = .ok (.aload_n 0, 1) := by decide +kernel
theorem s68_33 (d : Nat) (a0 : Nat) (l1 : Value) (l2 : Value) (l3 : Value) (l4 : Value) (σ : Hs) : ru d 68 33 [.ref a0, l1, l2, l3, l4] [] σ = ru d 68 34 [.ref a0, l1, l2, l3, l4] [.ref a0] σ := q_aload_n t68_33 rfl
theorem t68_34 : decode (mb 68) 34 = .ok (.iconst 4, 1) := by decide +kernel
theorem s68_34 (d : Nat) (l0 : Value) (l1 : Value) (l2 : Value) (l3 : Value) (l4 : Value) (w0 : Value) (σ : Hs) : ru d 68 34 [l0, l1, l2, l3, l4] [w0] σ = ru d 68 35 [l0, l1, l2, l3, l4] [.int 4, w0] σ := q_iconst t68_34 (by decide +kernel)
theorem t68_35 : decode (mb 68) 35 = .ok (.invokevirtual 65, 3) := by decide +kernel
theorem s68_35_o0 (d : Nat) (l0 : Value) (l1 : Value) (l2 : Value) (l3 : Value) (l4 : Value) (v1 : Value) (σ : Hs) : ru d 68 35 [l0, l1, l2, l3, l4] [v1, .ref 0] σ = kont (callD d 100 [.ref 0, v1] σ) d 68 38 [l0, l1, l2, l3, l4] [] := q_invv t68_35 mo68 K7_65 mj100 rfl rfl rfl rfl (Nat.le_of_ble_eq_true rfl)
theorem t68_38 : decode (mb 68) 38 = .ok (.ireturn, 1) := by decide +kernel
theorem s68_38 (d : Nat) (l0 : Value) (l1 : Value) (l2 : Value) (l3 : Value) (l4 : Value) (x : Int32) (σ : Hs) : ru d 68 38 [l0, l1, l2, l3, l4] [.int x] σ = some (some (.int x), σ) := q_ireti t68_38 mr68
theorem t68_39 : decode (mb 68) 39 = .ok (.iconst 0, 1) := by decide +kernel
theorem s68_39 (d : Nat) (l0 : Value) (l1 : Value) (l2 : Value) (l3 : Value) (l4 : Value) (σ : Hs) : ru d 68 39 [l0, l1, l2, l3, l4] [] σ = ru d 68 40 [l0, l1, l2, l3, l4] [.int 0] σ := q_iconst t68_39 (by decide +kernel)
theorem t68_40 : decode (mb 68) 40 = .ok (.istore 4, 2) := by decide +kernel
theorem s68_40 (d : Nat) (l0 : Value) (l1 : Value) (l2 : Value) (i3 : Int32) (l4 : Value) (x : Int32) (σ : Hs) : ru d 68 40 [l0, l1, l2, .int i3, l4] [.int x] σ = ru d 68 42 [l0, l1, l2, .int i3, .int x] [] σ := q_istore t68_40 ⟨Nat.le_of_ble_eq_true rfl, rfl⟩ rfl
theorem t68_42 : decode (mb 68) 42 = .ok (.iload 4, 2) := by decide +kernel
theorem s68_42 (d : Nat) (l0 : Value) (l1 : Value) (l2 : Value) (l3 : Value) (i4 : Int32) (σ : Hs) : ru d 68 42 [l0, l1, l2, l3, .int i4] [] σ = ru d 68 44 [l0, l1, l2, l3, .int i4] [.int i4] σ := q_iload t68_42 rfl
theorem t68_44 : decode (mb 68) 44 = .ok (.iload_n 3, 1) := by decide +kernel
theorem s68_44 (d : Nat) (l0 : Value) (l1 : Value) (l2 : Value) (i3 : Int32) (l4 : Value) (w0 : Value) (σ : Hs) : ru d 68 44 [l0, l1, l2, .int i3, l4] [w0] σ = ru d 68 45 [l0, l1, l2, .int i3, l4] [.int i3, w0] σ := q_iload_n t68_44 rfl
theorem t68_45 : decode (mb 68) 45 = .ok (.if_icmp .ge 32, 3) := by decide +kernel
theorem s68_45 (d : Nat) (l0 : Value) (l1 : Value) (l2 : Value) (l3 : Value) (l4 : Value) (x y : Int32) (σ : Hs) : ru d 68 45 [l0, l1, l2, l3, l4] [.int y, .int x] σ = if y ≤ x then ru d 68 77 [l0, l1, l2, l3, l4] [] σ else ru d 68 48 [l0, l1, l2, l3, l4] [] σ := q_ic_ge t68_45 (by decide +kernel)
theorem t68_48 : decode (mb 68) 48 = .ok (.aload_n 0, 1) := by decide +kernel
theorem s68_48 (d : Nat) (a0 : Nat) (l1 : Value) (l2 : Value) (l3 : Value) (l4 : Value) (σ : Hs) : ru d 68 48 [.ref a0, l1, l2, l3, l4] [] σ = ru d 68 49 [.ref a0, l1, l2, l3, l4] [.ref a0] σ := q_aload_n t68_48 rfl
theorem t68_49 : decode (mb 68) 49 = .ok (.getfield 10, 3) := by decide +kernel
theorem s68_49_o0 (d : Nat) (l0 : Value) (l1 : Value) (l2 : Value) (l3 : Value) (l4 : Value) (σ : Hs) : ru d 68 49 [l0, l1, l2, l3, l4] [.ref 0] σ = ru d 68 52 [l0, l1, l2, l3, l4] [.ref 1] σ := q_getf t68_49 mo68 F7_10 rfl rfl
theorem t68_52 : decode (mb 68) 52 = .ok (.getfield 127, 3) := by decide +kernel
theorem s68_52_o1 (d : Nat) (l0 : Value) (l1 : Value) (l2 : Value) (l3 : Value) (l4 : Value) (σ : Hs) : ru d 68 52 [l0, l1, l2, l3, l4] [.ref 1] σ = ru d 68 55 [l0, l1, l2, l3, l4] [.ref 22] σ := q_getf t68_52 mo68 F7_127 rfl rfl
theorem t68_55 : decode (mb 68) 55 = .ok (.lload_n 1, 1) := by decide +kernel
theorem s68_55 (d : Nat) (l0 : Value) (j1 : Int64) (l2 : Value) (l3 : Value) (l4 : Value) (w0 : Value) (σ : Hs) : ru d 68 55 [l0, .long j1, l2, l3, l4] [w0] σ = ru d 68 56 [l0, .long j1, l2, l3, l4] [.long j1, w0] σ := q_lload_n t68_55 rfl
theorem t68_56 : decode (mb 68) 56 = .ok (.bipush 8, 2) := by decide +kernel
theorem s68_56 (d : Nat) (l0 : Value) (l1 : Value) (l2 : Value) (l3 : Value) (l4 : Value) (w0 w1 : Value) (σ : Hs) : ru d 68 56 [l0, l1, l2, l3, l4] [w0, w1] σ = ru d 68 58 [l0, l1, l2, l3, l4] [.int 8, w0, w1] σ := q_bipush t68_56 (by decide +kernel)
theorem t68_58 : decode (mb 68) 58 = .ok (.iload 4, 2) := by decide +kernel
theorem s68_58 (d : Nat) (l0 : Value) (l1 : Value) (l2 : Value) (l3 : Value) (i4 : Int32) (w0 w1 w2 : Value) (σ : Hs) : ru d 68 58 [l0, l1, l2, l3, .int i4] [w0, w1, w2] σ = ru d 68 60 [l0, l1, l2, l3, .int i4] [.int i4, w0, w1, w2] σ := q_iload t68_58 rfl
theorem t68_60 : decode (mb 68) 60 = .ok (.imul, 1) := by decide +kernel
theorem s68_60 (d : Nat) (l0 : Value) (l1 : Value) (l2 : Value) (l3 : Value) (l4 : Value) (x y : Int32) (w0 w1 : Value) (σ : Hs) : ru d 68 60 [l0, l1, l2, l3, l4] [.int y, .int x, w0, w1] σ = ru d 68 61 [l0, l1, l2, l3, l4] [.int (x * y), w0, w1] σ := q_imul t68_60
theorem t68_61 : decode (mb 68) 61 = .ok (.lushr, 1) := by decide +kernel
theorem s68_61 (d : Nat) (l0 : Value) (l1 : Value) (l2 : Value) (l3 : Value) (l4 : Value) (x : Int64) (y : Int32) (w0 : Value) (σ : Hs) : ru d 68 61 [l0, l1, l2, l3, l4] [.int y, .long x, w0] σ = ru d 68 62 [l0, l1, l2, l3, l4] [.long ((x.toUInt64 >>> (y.toInt64.toUInt64 &&& Int64.toUInt64 63)).toInt64), w0] σ := q_lushr t68_61
theorem t68_62 : decode (mb 68) 62 = .ok (.l2i, 1) := by decide +kernel
theorem s68_62 (d : Nat) (l0 : Value) (l1 : Value) (l2 : Value) (l3 : Value) (l4 : Value) (x : Int64) (w0 : Value) (σ : Hs) : ru d 68 62 [l0, l1, l2, l3, l4] [.long x, w0] σ = ru d 68 63 [l0, l1, l2, l3, l4] [.int x.toInt32, w0] σ := q_l2i t68_62
theorem t68_63 : decode (mb 68) 63 = .ok (.sipush 255, 3) := by decide +kernel
theorem s68_63 (d : Nat) (l0 : Value) (l1 : Value) (l2 : Value) (l3 : Value) (l4 : Value) (w0 w1 : Value) (σ : Hs) : ru d 68 63 [l0, l1, l2, l3, l4] [w0, w1] σ = ru d 68 66 [l0, l1, l2, l3, l4] [.int 255, w0, w1] σ := q_sipush t68_63 (by decide +kernel)
theorem t68_66 : decode (mb 68) 66 = .ok (.iand, 1) := by decide +kernel
theorem s68_66 (d : Nat) (l0 : Value) (l1 : Value) (l2 : Value) (l3 : Value) (l4 : Value) (x y : Int32) (w0 : Value) (σ : Hs) : ru d 68 66 [l0, l1, l2, l3, l4] [.int y, .int x, w0] σ = ru d 68 67 [l0, l1, l2, l3, l4] [.int (x &&& y), w0] σ := q_iand t68_66
theorem t68_67 : decode (mb 68) 67 = .ok (.invokevirtual 136, 3) := by decide +kernel
theorem s68_67_o22 (d : Nat) (l0 : Value) (l1 : Value) (l2 : Value) (l3 : Value) (l4 : Value) (v1 : Value) (σ : Hs) : ru d 68 67 [l0, l1, l2, l3, l4] [v1, .ref 22] σ = kont (callD d 45 [.ref 22, v1] σ) d 68 70 [l0, l1, l2, l3, l4] [] := q_invv t68_67 mo68 K7_136 mj45 rfl rfl rfl rfl (Nat.le_of_ble_eq_true rfl)
theorem t68_70 : decode (mb 68) 70 = .ok (.pop, 1) := by decide +kernel
theorem s68_70 (d : Nat) (l0 : Value) (l1 : Value) (l2 : Value) (l3 : Value) (l4 : Value) (x : Int32) (σ : Hs) : ru d 68 70 [l0, l1, l2, l3, l4] [.int x] σ = ru d 68 71 [l0, l1, l2, l3, l4] [] σ := q_pop t68_70 rfl
theorem t68_71 : decode (mb 68) 71 = .ok (.iinc 4 1, 3) := by decide +kernel
theorem s68_71 (d : Nat) (l0 : Value) (l1 : Value) (l2 : Value) (i3 : Int32) (i4 : Int32) (σ : Hs) : ru d 68 71 [l0, l1, l2, .int i3, .int i4] [] σ = ru d 68 74 [l0, l1, l2, .int i3, .int (i4 + 1)] [] σ := q_iinc t68_71 ⟨Nat.le_of_ble_eq_true rfl, rfl⟩ rfl (by decide +kernel) rfl
theorem t68_74 : decode (mb 68) 74 = .ok (.goto (-32), 3) := by decide +kernel
theorem s68_74 (d : Nat) (l0 : Value) (l1 : Value) (l2 : Value) (l3 : Value) (l4 : Value) (σ : Hs) : ru d 68 74 [l0, l1, l2, l3, l4] [] σ = ru d 68 42 [l0, l1, l2, l3, l4] [] σ := q_goto t68_74 (by decide +kernel)
theorem t68_77 : decode (mb 68) 77 = .ok (.aload_n 0, 1) := by decide +kernel
theorem s68_77 (d : Nat) (a0 : Nat) (l1 : Value) (l2 : Value) (l3 : Value) (l4 : Value) (σ : Hs) : ru d 68 77 [.ref a0, l1, l2, l3, l4] [] σ = ru d 68 78 [.ref a0, l1, l2, l3, l4] [.ref a0] σ := q_aload_n t68_77 rfl
theorem t68_78 : decode (mb 68) 78 = .ok (.getfield 10, 3) := by decide +kernel
theorem s68_78_o0 (d : Nat) (l0 : Value) (l1 : Value) (l2 : Value) (l3 : Value) (l4 : Value) (σ : Hs) : ru d 68 78 [l0, l1, l2, l3, l4] [.ref 0] σ = ru d 68 81 [l0, l1, l2, l3, l4] [.ref 1] σ := q_getf t68_78 mo68 F7_10 rfl rfl
theorem t68_81 : decode (mb 68) 81 = .ok (.getfield 127, 3) := by decide +kernel
theorem s68_81_o1 (d : Nat) (l0 : Value) (l1 : Value) (l2 : Value) (l3 : Value) (l4 : Value) (σ : Hs) : ru d 68 81 [l0, l1, l2, l3, l4] [.ref 1] σ = ru d 68 84 [l0, l1, l2, l3, l4] [.ref 22] σ := q_getf t68_81 mo68 F7_127 rfl rfl
theorem t68_84 : decode (mb 68) 84 = .ok (.getfield 131, 3) := by decide +kernel
theorem s68_84_o22 (d : Nat) (l0 : Value) (l1 : Value) (l2 : Value) (l3 : Value) (l4 : Value) (σ : Hs) : ru d 68 84 [l0, l1, l2, l3, l4] [.ref 22] σ = ru d 68 87 [l0, l1, l2, l3, l4] [.int (σ 22 1)] σ := q_getf t68_84 mo68 F7_131 rfl rfl
theorem t68_87 : decode (mb 68) 87 = .ok (.ireturn, 1) := by decide +kernel
theorem s68_87 (d : Nat) (l0 : Value) (l1 : Value) (l2 : Value) (l3 : Value) (l4 : Value) (x : Int32) (σ : Hs) : ru d 68 87 [l0, l1, l2, l3, l4] [.int x] σ = some (some (.int x), σ) := q_ireti t68_87 mr68
theorem c68 (d : Nat) (x0 : Nat) (x1 : Int64) (x2 : Int32) (σ : Hs) : callD (d + 1) 68 [.ref x0, .long x1, .int x2] σ = ru d 68 0 [.ref x0, .long x1, uu, .int x2, uu] [] σ := callD_ru ml68 rfl rfl (Nat.le_of_ble_eq_true rfl)
-- 69: SmokyHeap.text(I)I
theorem t69_0 : decode (mb 69) 0 = .ok (.iload_n 1, 1) := by decide +kernel
theorem s69_0 (d : Nat) (l0 : Value) (i1 : Int32) (l2 : Value) (σ : Hs) : ru d 69 0 [l0, .int i1, l2] [] σ = ru d 69 1 [l0, .int i1, l2] [.int i1] σ := q_iload_n t69_0 rfl
theorem t69_1 : decode (mb 69) 1 = .ok (.invokestatic 139, 3) := by decide +kernel
theorem s69_1 (d : Nat) (l0 : Value) (l1 : Value) (l2 : Value) (v0 : Value) (σ : Hs) : ru d 69 1 [l0, l1, l2] [v0] σ = kont (callD d 106 [v0] σ) d 69 4 [l0, l1, l2] [] := q_invs t69_1 mo69 (by decide +kernel) K7_139 mj106 (Nat.le_of_ble_eq_true rfl) rfl rfl (Nat.le_of_ble_eq_true rfl)
theorem t69_4 : decode (mb 69) 4 = .ok (.ifCond .ne 9, 3) := by decide +kernel
theorem s69_4 (d : Nat) (l0 : Value) (l1 : Value) (l2 : Value) (x : Int32) (σ : Hs) : ru d 69 4 [l0, l1, l2] [.int x] σ = if x = 0 then ru d 69 7 [l0, l1, l2] [] σ else ru d 69 13 [l0, l1, l2] [] σ := q_if_ne t69_4 (by decide +kernel)
theorem t69_7 : decode (mb 69) 7 = .ok (.aload_n 0, 1) := by decide +kernel
theorem s69_7 (d : Nat) (a0 : Nat) (l1 : Value) (l2 : Value) (σ : Hs) : ru d 69 7 [.ref a0, l1, l2] [] σ = ru d 69 8 [.ref a0, l1, l2] [.ref a0] σ := q_aload_n t69_7 rfl
theorem t69_8 : decode (mb 69) 8 = .ok (.iconst 1, 1) := by decide +kernel
theorem s69_8 (d : Nat) (l0 : Value) (l1 : Value) (l2 : Value) (w0 : Value) (σ : Hs) : ru d 69 8 [l0, l1, l2] [w0] σ = ru d 69 9 [l0, l1, l2] [.int 1, w0] σ := q_iconst t69_8 (by decide +kernel)
theorem t69_9 : decode (mb 69) 9 = .ok (.invokevirtual 65, 3) := by decide +kernel
theorem s69_9_o0 (d : Nat) (l0 : Value) (l1 : Value) (l2 : Value) (v1 : Value) (σ : Hs) : ru d 69 9 [l0, l1, l2] [v1, .ref 0] σ = kont (callD d 100 [.ref 0, v1] σ) d 69 12 [l0, l1, l2] [] := q_invv t69_9 mo69 K7_65 mj100 rfl rfl rfl rfl (Nat.le_of_ble_eq_true rfl)
theorem t69_12 : decode (mb 69) 12 = .ok (.ireturn, 1) := by decide +kernel
theorem s69_12 (d : Nat) (l0 : Value) (l1 : Value) (l2 : Value) (x : Int32) (σ : Hs) : ru d 69 12 [l0, l1, l2] [.int x] σ = some (some (.int x), σ) := q_ireti t69_12 mr69
theorem t69_13 : decode (mb 69) 13 = .ok (.aload_n 0, 1) := by decide +kernel
theorem s69_13 (d : Nat) (a0 : Nat) (l1 : Value) (l2 : Value) (σ : Hs) : ru d 69 13 [.ref a0, l1, l2] [] σ = ru d 69 14 [.ref a0, l1, l2] [.ref a0] σ := q_aload_n t69_13 rfl
theorem t69_14 : decode (mb 69) 14 = .ok (.getfield 29, 3) := by decide +kernel
theorem s69_14_o0 (d : Nat) (l0 : Value) (l1 : Value) (l2 : Value) (σ : Hs) : ru d 69 14 [l0, l1, l2] [.ref 0] σ = ru d 69 17 [l0, l1, l2] [.ref 70] σ := q_getf t69_14 mo69 F7_29 rfl rfl
theorem t69_17 : decode (mb 69) 17 = .ok (.aload_n 0, 1) := by decide +kernel
theorem s69_17 (d : Nat) (a0 : Nat) (l1 : Value) (l2 : Value) (w0 : Value) (σ : Hs) : ru d 69 17 [.ref a0, l1, l2] [w0] σ = ru d 69 18 [.ref a0, l1, l2] [.ref a0, w0] σ := q_aload_n t69_17 rfl
theorem t69_18 : decode (mb 69) 18 = .ok (.getfield 10, 3) := by decide +kernel
theorem s69_18_o0 (d : Nat) (l0 : Value) (l1 : Value) (l2 : Value) (w0 : Value) (σ : Hs) : ru d 69 18 [l0, l1, l2] [.ref 0, w0] σ = ru d 69 21 [l0, l1, l2] [.ref 1, w0] σ := q_getf t69_18 mo69 F7_10 rfl rfl
theorem t69_21 : decode (mb 69) 21 = .ok (.getfield 127, 3) := by decide +kernel
theorem s69_21_o1 (d : Nat) (l0 : Value) (l1 : Value) (l2 : Value) (w0 : Value) (σ : Hs) : ru d 69 21 [l0, l1, l2] [.ref 1, w0] σ = ru d 69 24 [l0, l1, l2] [.ref 22, w0] σ := q_getf t69_21 mo69 F7_127 rfl rfl
theorem t69_24 : decode (mb 69) 24 = .ok (.iload_n 1, 1) := by decide +kernel
theorem s69_24 (d : Nat) (l0 : Value) (i1 : Int32) (l2 : Value) (w0 w1 : Value) (σ : Hs) : ru d 69 24 [l0, .int i1, l2] [w0, w1] σ = ru d 69 25 [l0, .int i1, l2] [.int i1, w0, w1] σ := q_iload_n t69_24 rfl
theorem t69_25 : decode (mb 69) 25 = .ok (.invokevirtual 142, 3) := by decide +kernel
theorem s69_25_o70 (d : Nat) (l0 : Value) (l1 : Value) (l2 : Value) (v1 v2 : Value) (σ : Hs) : ru d 69 25 [l0, l1, l2] [v2, v1, .ref 70] σ = kont (callD d 35 [.ref 70, v1, v2] σ) d 69 28 [l0, l1, l2] [] := q_invv t69_25 mo69 K7_142 mj35 rfl rfl rfl rfl (Nat.le_of_ble_eq_true rfl)
theorem t69_28 : decode (mb 69) 28 = .ok (.istore_n 2, 1) := by decide +kernel
theorem s69_28 (d : Nat) (l0 : Value) (i1 : Int32) (l2 : Value) (x : Int32) (σ : Hs) : ru d 69 28 [l0, .int i1, l2] [.int x] σ = ru d 69 29 [l0, .int i1, .int x] [] σ := q_istore_n t69_28 ⟨Nat.le_of_ble_eq_true rfl, rfl⟩ rfl
theorem t69_29 : decode (mb 69) 29 = .ok (.aload_n 0, 1) := by decide +kernel
theorem s69_29 (d : Nat) (a0 : Nat) (l1 : Value) (l2 : Value) (σ : Hs) : ru d 69 29 [.ref a0, l1, l2] [] σ = ru d 69 30 [.ref a0, l1, l2] [.ref a0] σ := q_aload_n t69_29 rfl
theorem t69_30 : decode (mb 69) 30 = .ok (.getfield 10, 3) := by decide +kernel
theorem s69_30_o0 (d : Nat) (l0 : Value) (l1 : Value) (l2 : Value) (σ : Hs) : ru d 69 30 [l0, l1, l2] [.ref 0] σ = ru d 69 33 [l0, l1, l2] [.ref 1] σ := q_getf t69_30 mo69 F7_10 rfl rfl
theorem t69_33 : decode (mb 69) 33 = .ok (.getfield 127, 3) := by decide +kernel
theorem s69_33_o1 (d : Nat) (l0 : Value) (l1 : Value) (l2 : Value) (σ : Hs) : ru d 69 33 [l0, l1, l2] [.ref 1] σ = ru d 69 36 [l0, l1, l2] [.ref 22] σ := q_getf t69_33 mo69 F7_127 rfl rfl
theorem t69_36 : decode (mb 69) 36 = .ok (.iconst 0, 1) := by decide +kernel
theorem s69_36 (d : Nat) (l0 : Value) (l1 : Value) (l2 : Value) (w0 : Value) (σ : Hs) : ru d 69 36 [l0, l1, l2] [w0] σ = ru d 69 37 [l0, l1, l2] [.int 0, w0] σ := q_iconst t69_36 (by decide +kernel)
theorem t69_37 : decode (mb 69) 37 = .ok (.putfield 131, 3) := by decide +kernel
theorem s69_37_o22 (d : Nat) (l0 : Value) (l1 : Value) (l2 : Value) (x : Int32) (σ : Hs) : ru d 69 37 [l0, l1, l2] [.int x, .ref 22] σ = ru d 69 40 [l0, l1, l2] [] (up2 σ 22 1 x) := q_puti t69_37 mo69 F7_131 (by decide +kernel) rfl rfl
theorem t69_40 : decode (mb 69) 40 = .ok (.iload_n 2, 1) := by decide +kernel
theorem s69_40 (d : Nat) (l0 : Value) (l1 : Value) (i2 : Int32) (σ : Hs) : ru d 69 40 [l0, l1, .int i2] [] σ = ru d 69 41 [l0, l1, .int i2] [.int i2] σ := q_iload_n t69_40 rfl
theorem t69_41 : decode (mb 69) 41 = .ok (.iconst (-1), 1) := by decide +kernel
theorem s69_41 (d : Nat) (l0 : Value) (l1 : Value) (l2 : Value) (w0 : Value) (σ : Hs) : ru d 69 41 [l0, l1, l2] [w0] σ = ru d 69 42 [l0, l1, l2] [.int (-1), w0] σ := q_iconst t69_41 (by decide +kernel)
theorem t69_42 : decode (mb 69) 42 = .ok (.if_icmp .eq 8, 3) := by decide +kernel
theorem s69_42 (d : Nat) (l0 : Value) (l1 : Value) (l2 : Value) (x y : Int32) (σ : Hs) : ru d 69 42 [l0, l1, l2] [.int y, .int x] σ = if x = y then ru d 69 50 [l0, l1, l2] [] σ else ru d 69 45 [l0, l1, l2] [] σ := q_ic_eq t69_42 (by decide +kernel)
theorem t69_45 : decode (mb 69) 45 = .ok (.bipush (-10), 2) := by decide +kernel
theorem s69_45 (d : Nat) (l0 : Value) (l1 : Value) (l2 : Value) (σ : Hs) : ru d 69 45 [l0, l1, l2] [] σ = ru d 69 47 [l0, l1, l2] [.int (-10)] σ := q_bipush t69_45 (by decide +kernel)
theorem t69_47 : decode (mb 69) 47 = .ok (.iload_n 2, 1) := by decide +kernel
theorem s69_47 (d : Nat) (l0 : Value) (l1 : Value) (i2 : Int32) (w0 : Value) (σ : Hs) : ru d 69 47 [l0, l1, .int i2] [w0] σ = ru d 69 48 [l0, l1, .int i2] [.int i2, w0] σ := q_iload_n t69_47 rfl
theorem t69_48 : decode (mb 69) 48 = .ok (.isub, 1) := by decide +kernel
theorem s69_48 (d : Nat) (l0 : Value) (l1 : Value) (l2 : Value) (x y : Int32) (σ : Hs) : ru d 69 48 [l0, l1, l2] [.int y, .int x] σ = ru d 69 49 [l0, l1, l2] [.int (x - y)] σ := q_isub t69_48
theorem t69_49 : decode (mb 69) 49 = .ok (.ireturn, 1) := by decide +kernel
theorem s69_49 (d : Nat) (l0 : Value) (l1 : Value) (l2 : Value) (x : Int32) (σ : Hs) : ru d 69 49 [l0, l1, l2] [.int x] σ = some (some (.int x), σ) := q_ireti t69_49 mr69
theorem t69_50 : decode (mb 69) 50 = .ok (.aload_n 0, 1) := by decide +kernel
theorem s69_50 (d : Nat) (a0 : Nat) (l1 : Value) (l2 : Value) (σ : Hs) : ru d 69 50 [.ref a0, l1, l2] [] σ = ru d 69 51 [.ref a0, l1, l2] [.ref a0] σ := q_aload_n t69_50 rfl
theorem t69_51 : decode (mb 69) 51 = .ok (.getfield 10, 3) := by decide +kernel
theorem s69_51_o0 (d : Nat) (l0 : Value) (l1 : Value) (l2 : Value) (σ : Hs) : ru d 69 51 [l0, l1, l2] [.ref 0] σ = ru d 69 54 [l0, l1, l2] [.ref 1] σ := q_getf t69_51 mo69 F7_10 rfl rfl
theorem t69_54 : decode (mb 69) 54 = .ok (.getfield 146, 3) := by decide +kernel
theorem s69_54_o1 (d : Nat) (l0 : Value) (l1 : Value) (l2 : Value) (σ : Hs) : ru d 69 54 [l0, l1, l2] [.ref 1] σ = ru d 69 57 [l0, l1, l2] [.ref 13] σ := q_getf t69_54 mo69 F7_146 rfl rfl
theorem t69_57 : decode (mb 69) 57 = .ok (.getfield 150, 3) := by decide +kernel
theorem s69_57_o13 (d : Nat) (l0 : Value) (l1 : Value) (l2 : Value) (σ : Hs) : ru d 69 57 [l0, l1, l2] [.ref 13] σ = ru d 69 60 [l0, l1, l2] [.ref 14] σ := q_getf t69_57 mo69 F7_150 rfl rfl
theorem t69_60 : decode (mb 69) 60 = .ok (.iload_n 1, 1) := by decide +kernel
theorem s69_60 (d : Nat) (l0 : Value) (i1 : Int32) (l2 : Value) (w0 : Value) (σ : Hs) : ru d 69 60 [l0, .int i1, l2] [w0] σ = ru d 69 61 [l0, .int i1, l2] [.int i1, w0] σ := q_iload_n t69_60 rfl
theorem t69_61 : decode (mb 69) 61 = .ok (.aaload, 1) := by decide +kernel
theorem s69_61_o14 (d : Nat) (l0 : Value) (l1 : Value) (l2 : Value) (i : Int32) (σ : Hs) : ru d 69 61 [l0, l1, l2] [.int i, .ref 14] σ = gd (vp_in i 3) (ru d 69 62 [l0, l1, l2] [.ref (cr 14 i.toNatClampNeg)] σ) := q_aald t69_61 (by decide +kernel) (by decide +kernel) rfl
theorem t69_62 : decode (mb 69) 62 = .ok (.aload_n 0, 1) := by decide +kernel
theorem s69_62 (d : Nat) (a0 : Nat) (l1 : Value) (l2 : Value) (w0 : Value) (σ : Hs) : ru d 69 62 [.ref a0, l1, l2] [w0] σ = ru d 69 63 [.ref a0, l1, l2] [.ref a0, w0] σ := q_aload_n t69_62 rfl
theorem t69_63 : decode (mb 69) 63 = .ok (.getfield 29, 3) := by decide +kernel
theorem s69_63_o0 (d : Nat) (l0 : Value) (l1 : Value) (l2 : Value) (w0 : Value) (σ : Hs) : ru d 69 63 [l0, l1, l2] [.ref 0, w0] σ = ru d 69 66 [l0, l1, l2] [.ref 70, w0] σ := q_getf t69_63 mo69 F7_29 rfl rfl
theorem t69_66 : decode (mb 69) 66 = .ok (.getfield 156, 3) := by decide +kernel
theorem s69_66_o70 (d : Nat) (l0 : Value) (l1 : Value) (l2 : Value) (w0 : Value) (σ : Hs) : ru d 69 66 [l0, l1, l2] [.ref 70, w0] σ = ru d 69 69 [l0, l1, l2] [.ref 71, w0] σ := q_getf t69_66 mo69 F7_156 rfl rfl
theorem t69_69 : decode (mb 69) 69 = .ok (.invokevirtual 159, 3) := by decide +kernel
theorem s69_69_o16 (d : Nat) (l0 : Value) (l1 : Value) (l2 : Value) (v1 : Value) (σ : Hs) : ru d 69 69 [l0, l1, l2] [v1, .ref 16] σ = kont (callD d 46 [.ref 16, v1] σ) d 69 72 [l0, l1, l2] [] := q_invv t69_69 mo69 K7_159 mj46 rfl rfl rfl rfl (Nat.le_of_ble_eq_true rfl)
theorem s69_69_o18 (d : Nat) (l0 : Value) (l1 : Value) (l2 : Value) (v1 : Value) (σ : Hs) : ru d 69 69 [l0, l1, l2] [v1, .ref 18] σ = kont (callD d 46 [.ref 18, v1] σ) d 69 72 [l0, l1, l2] [] := q_invv t69_69 mo69 K7_159 mj46 rfl rfl rfl rfl (Nat.le_of_ble_eq_true rfl)
theorem s69_69_o20 (d : Nat) (l0 : Value) (l1 : Value) (l2 : Value) (v1 : Value) (σ : Hs) : ru d 69 69 [l0, l1, l2] [v1, .ref 20] σ = kont (callD d 46 [.ref 20, v1] σ) d 69 72 [l0, l1, l2] [] := q_invv t69_69 mo69 K7_159 mj46 rfl rfl rfl rfl (Nat.le_of_ble_eq_true rfl)
theorem t69_72 : decode (mb 69) 72 = .ok (.iconst 1, 1) := by decide +kernel
theorem s69_72 (d : Nat) (l0 : Value) (l1 : Value) (l2 : Value) (σ : Hs) : ru d 69 72 [l0, l1, l2] [] σ = ru d 69 73 [l0, l1, l2] [.int 1] σ := q_iconst t69_72 (by decide +kernel)
theorem t69_73 : decode (mb 69) 73 = .ok (.ireturn, 1) := by decide +kernel
theorem s69_73 (d : Nat) (l0 : Value) (l1 : Value) (l2 : Value) (x : Int32) (σ : Hs) : ru d 69 73 [l0, l1, l2] [.int x] σ = some (some (.int x), σ) := q_ireti t69_73 mr69
theorem c69 (d : Nat) (x0 : Nat) (x1 : Int32) (σ : Hs) : callD (d + 1) 69 [.ref x0, .int x1] σ = ru d 69 0 [.ref x0, .int x1, uu] [] σ := callD_ru ml69 rfl rfl (Nat.le_of_ble_eq_true rfl)
