-- 90: SmokyHeap.put(III)I
theorem t90_0 : decode (mb 90) 0 = .ok (.iload_n 1, 1) := by decide +kernel
theorem s90_0 (d : Nat) (l0 : Value) (i1 : Int32) (l2 : Value) (l3 : Value) (σ : Hs) : ru d 90 0 [l0, .int i1, l2, l3] [] σ = ru d 90 1 [l0, .int i1, l2, l3] [.int i1] σ := q_iload_n t90_0 rfl
theorem t90_1 : decode (mb 90) 1 = .ok (.invokestatic 249, 3) := by decide +kernel
theorem s90_1 (d : Nat) (l0 : Value) (l1 : Value) (l2 : Value) (l3 : Value) (v0 : Value) (σ : Hs) : ru d 90 1 [l0, l1, l2, l3] [v0] σ = kont (callD d 107 [v0] σ) d 90 4 [l0, l1, l2, l3] [] := q_invs t90_1 mo90 (by decide +kernel) K7_249 mj107 (Nat.le_of_ble_eq_true rfl) rfl rfl (Nat.le_of_ble_eq_true rfl)
theorem t90_4 : decode (mb 90) 4 = .ok (.ifCond .ne 9, 3) := by decide +kernel
theorem s90_4 (d : Nat) (l0 : Value) (l1 : Value) (l2 : Value) (l3 : Value) (x : Int32) (σ : Hs) : ru d 90 4 [l0, l1, l2, l3] [.int x] σ = if x = 0 then ru d 90 7 [l0, l1, l2, l3] [] σ else ru d 90 13 [l0, l1, l2, l3] [] σ := q_if_ne t90_4 (by decide +kernel)
theorem t90_7 : decode (mb 90) 7 = .ok (.aload_n 0, 1) := by decide +kernel
theorem s90_7 (d : Nat) (a0 : Nat) (l1 : Value) (l2 : Value) (l3 : Value) (σ : Hs) : ru d 90 7 [.ref a0, l1, l2, l3] [] σ = ru d 90 8 [.ref a0, l1, l2, l3] [.ref a0] σ := q_aload_n t90_7 rfl
theorem t90_8 : decode (mb 90) 8 = .ok (.iconst 1, 1) := by decide +kernel
theorem s90_8 (d : Nat) (l0 : Value) (l1 : Value) (l2 : Value) (l3 : Value) (w0 : Value) (σ : Hs) : ru d 90 8 [l0, l1, l2, l3] [w0] σ = ru d 90 9 [l0, l1, l2, l3] [.int 1, w0] σ := q_iconst t90_8 (by decide +kernel)
theorem t90_9 : decode (mb 90) 9 = .ok (.invokevirtual 65, 3) := by decide +kernel
theorem s90_9_o0 (d : Nat) (l0 : Value) (l1 : Value) (l2 : Value) (l3 : Value) (v1 : Value) (σ : Hs) : ru d 90 9 [l0, l1, l2, l3] [v1, .ref 0] σ = kont (callD d 99 [.ref 0, v1] σ) d 90 12 [l0, l1, l2, l3] [] := q_invv t90_9 mo90 K7_65 mj99 rfl rfl rfl rfl (Nat.le_of_ble_eq_true rfl)
theorem t90_12 : decode (mb 90) 12 = .ok (.ireturn, 1) := by decide +kernel
theorem s90_12 (d : Nat) (l0 : Value) (l1 : Value) (l2 : Value) (l3 : Value) (x : Int32) (σ : Hs) : ru d 90 12 [l0, l1, l2, l3] [.int x] σ = some (some (.int x), σ) := q_ireti t90_12 mr90
theorem t90_13 : decode (mb 90) 13 = .ok (.aload_n 0, 1) := by decide +kernel
theorem s90_13 (d : Nat) (a0 : Nat) (l1 : Value) (l2 : Value) (l3 : Value) (σ : Hs) : ru d 90 13 [.ref a0, l1, l2, l3] [] σ = ru d 90 14 [.ref a0, l1, l2, l3] [.ref a0] σ := q_aload_n t90_13 rfl
theorem t90_14 : decode (mb 90) 14 = .ok (.getfield 42, 3) := by decide +kernel
theorem s90_14_o0 (d : Nat) (l0 : Value) (l1 : Value) (l2 : Value) (l3 : Value) (σ : Hs) : ru d 90 14 [l0, l1, l2, l3] [.ref 0] σ = ru d 90 17 [l0, l1, l2, l3] [.ref 76] σ := q_getf t90_14 mo90 F7_42 rfl rfl
theorem t90_17 : decode (mb 90) 17 = .ok (.iload_n 1, 1) := by decide +kernel
theorem s90_17 (d : Nat) (l0 : Value) (i1 : Int32) (l2 : Value) (l3 : Value) (w0 : Value) (σ : Hs) : ru d 90 17 [l0, .int i1, l2, l3] [w0] σ = ru d 90 18 [l0, .int i1, l2, l3] [.int i1, w0] σ := q_iload_n t90_17 rfl
theorem t90_18 : decode (mb 90) 18 = .ok (.aaload, 1) := by decide +kernel
theorem s90_18_o76 (d : Nat) (l0 : Value) (l1 : Value) (l2 : Value) (l3 : Value) (i : Int32) (σ : Hs) : ru d 90 18 [l0, l1, l2, l3] [.int i, .ref 76] σ = gd (vp_in i 4) (ru d 90 19 [l0, l1, l2, l3] [.ref (cr 76 i.toNatClampNeg)] σ) := q_aald t90_18 (by decide +kernel) (by decide +kernel) rfl
theorem t90_19 : decode (mb 90) 19 = .ok (.invokevirtual 255, 3) := by decide +kernel
theorem s90_19_o77 (d : Nat) (l0 : Value) (l1 : Value) (l2 : Value) (l3 : Value) (σ : Hs) : ru d 90 19 [l0, l1, l2, l3] [.ref 77] σ = kont (callD d 46 [.ref 77] σ) d 90 22 [l0, l1, l2, l3] [] := q_invv t90_19 mo90 K7_255 mj46 rfl rfl rfl rfl (Nat.le_of_ble_eq_true rfl)
theorem s90_19_o79 (d : Nat) (l0 : Value) (l1 : Value) (l2 : Value) (l3 : Value) (σ : Hs) : ru d 90 19 [l0, l1, l2, l3] [.ref 79] σ = kont (callD d 46 [.ref 79] σ) d 90 22 [l0, l1, l2, l3] [] := q_invv t90_19 mo90 K7_255 mj46 rfl rfl rfl rfl (Nat.le_of_ble_eq_true rfl)
theorem s90_19_o81 (d : Nat) (l0 : Value) (l1 : Value) (l2 : Value) (l3 : Value) (σ : Hs) : ru d 90 19 [l0, l1, l2, l3] [.ref 81] σ = kont (callD d 46 [.ref 81] σ) d 90 22 [l0, l1, l2, l3] [] := q_invv t90_19 mo90 K7_255 mj46 rfl rfl rfl rfl (Nat.le_of_ble_eq_true rfl)
theorem s90_19_o83 (d : Nat) (l0 : Value) (l1 : Value) (l2 : Value) (l3 : Value) (σ : Hs) : ru d 90 19 [l0, l1, l2, l3] [.ref 83] σ = kont (callD d 46 [.ref 83] σ) d 90 22 [l0, l1, l2, l3] [] := q_invv t90_19 mo90 K7_255 mj46 rfl rfl rfl rfl (Nat.le_of_ble_eq_true rfl)
theorem t90_22 : decode (mb 90) 22 = .ok (.ifCond .eq 9, 3) := by decide +kernel
theorem s90_22 (d : Nat) (l0 : Value) (l1 : Value) (l2 : Value) (l3 : Value) (x : Int32) (σ : Hs) : ru d 90 22 [l0, l1, l2, l3] [.int x] σ = if x = 0 then ru d 90 31 [l0, l1, l2, l3] [] σ else ru d 90 25 [l0, l1, l2, l3] [] σ := q_if_eq t90_22 (by decide +kernel)
theorem t90_25 : decode (mb 90) 25 = .ok (.aload_n 0, 1) := by decide +kernel
theorem s90_25 (d : Nat) (a0 : Nat) (l1 : Value) (l2 : Value) (l3 : Value) (σ : Hs) : ru d 90 25 [.ref a0, l1, l2, l3] [] σ = ru d 90 26 [.ref a0, l1, l2, l3] [.ref a0] σ := q_aload_n t90_25 rfl
theorem t90_26 : decode (mb 90) 26 = .ok (.iconst 2, 1) := by decide +kernel
theorem s90_26 (d : Nat) (l0 : Value) (l1 : Value) (l2 : Value) (l3 : Value) (w0 : Value) (σ : Hs) : ru d 90 26 [l0, l1, l2, l3] [w0] σ = ru d 90 27 [l0, l1, l2, l3] [.int 2, w0] σ := q_iconst t90_26 (by decide +kernel)
theorem t90_27 : decode (mb 90) 27 = .ok (.invokevirtual 65, 3) := by decide +kernel
theorem s90_27_o0 (d : Nat) (l0 : Value) (l1 : Value) (l2 : Value) (l3 : Value) (v1 : Value) (σ : Hs) : ru d 90 27 [l0, l1, l2, l3] [v1, .ref 0] σ = kont (callD d 99 [.ref 0, v1] σ) d 90 30 [l0, l1, l2, l3] [] := q_invv t90_27 mo90 K7_65 mj99 rfl rfl rfl rfl (Nat.le_of_ble_eq_true rfl)
theorem t90_30 : decode (mb 90) 30 = .ok (.ireturn, 1) := by decide +kernel
theorem s90_30 (d : Nat) (l0 : Value) (l1 : Value) (l2 : Value) (l3 : Value) (x : Int32) (σ : Hs) : ru d 90 30 [l0, l1, l2, l3] [.int x] σ = some (some (.int x), σ) := q_ireti t90_30 mr90
theorem t90_31 : decode (mb 90) 31 = .ok (.aload_n 0, 1) := by decide +kernel
theorem s90_31 (d : Nat) (a0 : Nat) (l1 : Value) (l2 : Value) (l3 : Value) (σ : Hs) : ru d 90 31 [.ref a0, l1, l2, l3] [] σ = ru d 90 32 [.ref a0, l1, l2, l3] [.ref a0] σ := q_aload_n t90_31 rfl
theorem t90_32 : decode (mb 90) 32 = .ok (.getfield 42, 3) := by decide +kernel
theorem s90_32_o0 (d : Nat) (l0 : Value) (l1 : Value) (l2 : Value) (l3 : Value) (σ : Hs) : ru d 90 32 [l0, l1, l2, l3] [.ref 0] σ = ru d 90 35 [l0, l1, l2, l3] [.ref 76] σ := q_getf t90_32 mo90 F7_42 rfl rfl
theorem t90_35 : decode (mb 90) 35 = .ok (.iload_n 1, 1) := by decide +kernel
theorem s90_35 (d : Nat) (l0 : Value) (i1 : Int32) (l2 : Value) (l3 : Value) (w0 : Value) (σ : Hs) : ru d 90 35 [l0, .int i1, l2, l3] [w0] σ = ru d 90 36 [l0, .int i1, l2, l3] [.int i1, w0] σ := q_iload_n t90_35 rfl
theorem t90_36 : decode (mb 90) 36 = .ok (.aaload, 1) := by decide +kernel
theorem s90_36_o76 (d : Nat) (l0 : Value) (l1 : Value) (l2 : Value) (l3 : Value) (i : Int32) (σ : Hs) : ru d 90 36 [l0, l1, l2, l3] [.int i, .ref 76] σ = gd (vp_in i 4) (ru d 90 37 [l0, l1, l2, l3] [.ref (cr 76 i.toNatClampNeg)] σ) := q_aald t90_36 (by decide +kernel) (by decide +kernel) rfl
theorem t90_37 : decode (mb 90) 37 = .ok (.iload_n 2, 1) := by decide +kernel
theorem s90_37 (d : Nat) (l0 : Value) (l1 : Value) (i2 : Int32) (l3 : Value) (w0 : Value) (σ : Hs) : ru d 90 37 [l0, l1, .int i2, l3] [w0] σ = ru d 90 38 [l0, l1, .int i2, l3] [.int i2, w0] σ := q_iload_n t90_37 rfl
theorem t90_38 : decode (mb 90) 38 = .ok (.iconst 1, 1) := by decide +kernel
theorem s90_38 (d : Nat) (l0 : Value) (l1 : Value) (l2 : Value) (l3 : Value) (w0 w1 : Value) (σ : Hs) : ru d 90 38 [l0, l1, l2, l3] [w0, w1] σ = ru d 90 39 [l0, l1, l2, l3] [.int 1, w0, w1] σ := q_iconst t90_38 (by decide +kernel)
theorem t90_39 : decode (mb 90) 39 = .ok (.invokevirtual 258, 3) := by decide +kernel
theorem s90_39_o77 (d : Nat) (l0 : Value) (l1 : Value) (l2 : Value) (l3 : Value) (v1 v2 : Value) (σ : Hs) : ru d 90 39 [l0, l1, l2, l3] [v2, v1, .ref 77] σ = kont (callD d 48 [.ref 77, v1, v2] σ) d 90 42 [l0, l1, l2, l3] [] := q_invv t90_39 mo90 K7_258 mj48 rfl rfl rfl rfl (Nat.le_of_ble_eq_true rfl)
theorem s90_39_o79 (d : Nat) (l0 : Value) (l1 : Value) (l2 : Value) (l3 : Value) (v1 v2 : Value) (σ : Hs) : ru d 90 39 [l0, l1, l2, l3] [v2, v1, .ref 79] σ = kont (callD d 48 [.ref 79, v1, v2] σ) d 90 42 [l0, l1, l2, l3] [] := q_invv t90_39 mo90 K7_258 mj48 rfl rfl rfl rfl (Nat.le_of_ble_eq_true rfl)
theorem s90_39_o81 (d : Nat) (l0 : Value) (l1 : Value) (l2 : Value) (l3 : Value) (v1 v2 : Value) (σ : Hs) : ru d 90 39 [l0, l1, l2, l3] [v2, v1, .ref 81] σ = kont (callD d 48 [.ref 81, v1, v2] σ) d 90 42 [l0, l1, l2, l3] [] := q_invv t90_39 mo90 K7_258 mj48 rfl rfl rfl rfl (Nat.le_of_ble_eq_true rfl)
theorem s90_39_o83 (d : Nat) (l0 : Value) (l1 : Value) (l2 : Value) (l3 : Value) (v1 v2 : Value) (σ : Hs) : ru d 90 39 [l0, l1, l2, l3] [v2, v1, .ref 83] σ = kont (callD d 48 [.ref 83, v1, v2] σ) d 90 42 [l0, l1, l2, l3] [] := q_invv t90_39 mo90 K7_258 mj48 rfl rfl rfl rfl (Nat.le_of_ble_eq_true rfl)
theorem t90_42 : decode (mb 90) 42 = .ok (.ifCond .ne 9, 3) := by decide +kernel
theorem s90_42 (d : Nat) (l0 : Value) (l1 : Value) (l2 : Value) (l3 : Value) (x : Int32) (σ : Hs) : ru d 90 42 [l0, l1, l2, l3] [.int x] σ = if x = 0 then ru d 90 45 [l0, l1, l2, l3] [] σ else ru d 90 51 [l0, l1, l2, l3] [] σ := q_if_ne t90_42 (by decide +kernel)
theorem t90_45 : decode (mb 90) 45 = .ok (.aload_n 0, 1) := by decide +kernel
theorem s90_45 (d : Nat) (a0 : Nat) (l1 : Value) (l2 : Value) (l3 : Value) (σ : Hs) : ru d 90 45 [.ref a0, l1, l2, l3] [] σ = ru d 90 46 [.ref a0, l1, l2, l3] [.ref a0] σ := q_aload_n t90_45 rfl
theorem t90_46 : decode (mb 90) 46 = .ok (.iconst 1, 1) := by decide +kernel
theorem s90_46 (d : Nat) (l0 : Value) (l1 : Value) (l2 : Value) (l3 : Value) (w0 : Value) (σ : Hs) : ru d 90 46 [l0, l1, l2, l3] [w0] σ = ru d 90 47 [l0, l1, l2, l3] [.int 1, w0] σ := q_iconst t90_46 (by decide +kernel)
theorem t90_47 : decode (mb 90) 47 = .ok (.invokevirtual 65, 3) := by decide +kernel
theorem s90_47_o0 (d : Nat) (l0 : Value) (l1 : Value) (l2 : Value) (l3 : Value) (v1 : Value) (σ : Hs) : ru d 90 47 [l0, l1, l2, l3] [v1, .ref 0] σ = kont (callD d 99 [.ref 0, v1] σ) d 90 50 [l0, l1, l2, l3] [] := q_invv t90_47 mo90 K7_65 mj99 rfl rfl rfl rfl (Nat.le_of_ble_eq_true rfl)
theorem t90_50 : decode (mb 90) 50 = .ok (.ireturn, 1) := by decide +kernel
theorem s90_50 (d : Nat) (l0 : Value) (l1 : Value) (l2 : Value) (l3 : Value) (x : Int32) (σ : Hs) : ru d 90 50 [l0, l1, l2, l3] [.int x] σ = some (some (.int x), σ) := q_ireti t90_50 mr90
theorem t90_51 : decode (mb 90) 51 = .ok (.aload_n 0, 1) := by decide +kernel
theorem s90_51 (d : Nat) (a0 : Nat) (l1 : Value) (l2 : Value) (l3 : Value) (σ : Hs) : ru d 90 51 [.ref a0, l1, l2, l3] [] σ = ru d 90 52 [.ref a0, l1, l2, l3] [.ref a0] σ := q_aload_n t90_51 rfl
theorem t90_52 : decode (mb 90) 52 = .ok (.getfield 42, 3) := by decide +kernel
theorem s90_52_o0 (d : Nat) (l0 : Value) (l1 : Value) (l2 : Value) (l3 : Value) (σ : Hs) : ru d 90 52 [l0, l1, l2, l3] [.ref 0] σ = ru d 90 55 [l0, l1, l2, l3] [.ref 76] σ := q_getf t90_52 mo90 F7_42 rfl rfl
theorem t90_55 : decode (mb 90) 55 = .ok (.iload_n 1, 1) := by decide +kernel
theorem s90_55 (d : Nat) (l0 : Value) (i1 : Int32) (l2 : Value) (l3 : Value) (w0 : Value) (σ : Hs) : ru d 90 55 [l0, .int i1, l2, l3] [w0] σ = ru d 90 56 [l0, .int i1, l2, l3] [.int i1, w0] σ := q_iload_n t90_55 rfl
theorem t90_56 : decode (mb 90) 56 = .ok (.aaload, 1) := by decide +kernel
theorem s90_56_o76 (d : Nat) (l0 : Value) (l1 : Value) (l2 : Value) (l3 : Value) (i : Int32) (σ : Hs) : ru d 90 56 [l0, l1, l2, l3] [.int i, .ref 76] σ = gd (vp_in i 4) (ru d 90 57 [l0, l1, l2, l3] [.ref (cr 76 i.toNatClampNeg)] σ) := q_aald t90_56 (by decide +kernel) (by decide +kernel) rfl
theorem t90_57 : decode (mb 90) 57 = .ok (.iload_n 2, 1) := by decide +kernel
theorem s90_57 (d : Nat) (l0 : Value) (l1 : Value) (i2 : Int32) (l3 : Value) (w0 : Value) (σ : Hs) : ru d 90 57 [l0, l1, .int i2, l3] [w0] σ = ru d 90 58 [l0, l1, .int i2, l3] [.int i2, w0] σ := q_iload_n t90_57 rfl
theorem t90_58 : decode (mb 90) 58 = .ok (.iload_n 3, 1) := by decide +kernel
theorem s90_58 (d : Nat) (l0 : Value) (l1 : Value) (l2 : Value) (i3 : Int32) (w0 w1 : Value) (σ : Hs) : ru d 90 58 [l0, l1, l2, .int i3] [w0, w1] σ = ru d 90 59 [l0, l1, l2, .int i3] [.int i3, w0, w1] σ := q_iload_n t90_58 rfl
theorem t90_59 : decode (mb 90) 59 = .ok (.invokevirtual 261, 3) := by decide +kernel
theorem s90_59_o77 (d : Nat) (l0 : Value) (l1 : Value) (l2 : Value) (l3 : Value) (v1 v2 : Value) (σ : Hs) : ru d 90 59 [l0, l1, l2, l3] [v2, v1, .ref 77] σ = kont (callD d 49 [.ref 77, v1, v2] σ) d 90 62 [l0, l1, l2, l3] [] := q_invv t90_59 mo90 K7_261 mj49 rfl rfl rfl rfl (Nat.le_of_ble_eq_true rfl)
theorem s90_59_o79 (d : Nat) (l0 : Value) (l1 : Value) (l2 : Value) (l3 : Value) (v1 v2 : Value) (σ : Hs) : ru d 90 59 [l0, l1, l2, l3] [v2, v1, .ref 79] σ = kont (callD d 49 [.ref 79, v1, v2] σ) d 90 62 [l0, l1, l2, l3] [] := q_invv t90_59 mo90 K7_261 mj49 rfl rfl rfl rfl (Nat.le_of_ble_eq_true rfl)
theorem s90_59_o81 (d : Nat) (l0 : Value) (l1 : Value) (l2 : Value) (l3 : Value) (v1 v2 : Value) (σ : Hs) : ru d 90 59 [l0, l1, l2, l3] [v2, v1, .ref 81] σ = kont (callD d 49 [.ref 81, v1, v2] σ) d 90 62 [l0, l1, l2, l3] [] := q_invv t90_59 mo90 K7_261 mj49 rfl rfl rfl rfl (Nat.le_of_ble_eq_true rfl)
theorem s90_59_o83 (d : Nat) (l0 : Value) (l1 : Value) (l2 : Value) (l3 : Value) (v1 v2 : Value) (σ : Hs) : ru d 90 59 [l0, l1, l2, l3] [v2, v1, .ref 83] σ = kont (callD d 49 [.ref 83, v1, v2] σ) d 90 62 [l0, l1, l2, l3] [] := q_invv t90_59 mo90 K7_261 mj49 rfl rfl rfl rfl (Nat.le_of_ble_eq_true rfl)
theorem t90_62 : decode (mb 90) 62 = .ok (.iconst 1, 1) := by decide +kernel
theorem s90_62 (d : Nat) (l0 : Value) (l1 : Value) (l2 : Value) (l3 : Value) (σ : Hs) : ru d 90 62 [l0, l1, l2, l3] [] σ = ru d 90 63 [l0, l1, l2, l3] [.int 1] σ := q_iconst t90_62 (by decide +kernel)
theorem t90_63 : decode (mb 90) 63 = .ok (.ireturn, 1) := by decide +kernel
theorem s90_63 (d : Nat) (l0 : Value) (l1 : Value) (l2 : Value) (l3 : Value) (x : Int32) (σ : Hs) : ru d 90 63 [l0, l1, l2, l3] [.int x] σ = some (some (.int x), σ) := q_ireti t90_63 mr90
theorem c90 (d : Nat) (x0 : Nat) (x1 : Int32) (x2 : Int32) (x3 : Int32) (σ : Hs) : callD (d + 1) 90 [.ref x0, .int x1, .int x2, .int x3] σ = ru d 90 0 [.ref x0, .int x1, .int x2, .int x3] [] σ := callD_ru ml90 rfl rfl (Nat.le_of_ble_eq_true rfl)
-- 91: SmokyHeap.move(IIIII)I
theorem t91_0 : decode (mb 91) 0 = .ok (.iload_n 1, 1) := by decide +kernel
theorem s91_0 (d : Nat) (l0 : Value) (i1 : Int32) (l2 : Value) (l3 : Value) (l4 : Value) (l5 : Value) (l6 : Value) (l7 : Value) (σ : Hs) : ru d 91 0 [l0, .int i1, l2, l3, l4, l5, l6, l7] [] σ = ru d 91 1 [l0, .int i1, l2, l3, l4, l5, l6, l7] [.int i1] σ := q_iload_n t91_0 rfl
theorem t91_1 : decode (mb 91) 1 = .ok (.invokestatic 249, 3) := by decide +kernel
theorem s91_1 (d : Nat) (l0 : Value) (l1 : Value) (l2 : Value) (l3 : Value) (l4 : Value) (l5 : Value) (l6 : Value) (l7 : Value) (v0 : Value) (σ : Hs) : ru d 91 1 [l0, l1, l2, l3, l4, l5, l6, l7] [v0] σ = kont (callD d 107 [v0] σ) d 91 4 [l0, l1, l2, l3, l4, l5, l6, l7] [] := q_invs t91_1 mo91 (by decide +kernel) K7_249 mj107 (Nat.le_of_ble_eq_true rfl) rfl rfl (Nat.le_of_ble_eq_true rfl)
theorem t91_4 : decode (mb 91) 4 = .ok (.ifCond .eq 10, 3) := by decide +kernel
theorem s91_4 (d : Nat) (l0 : Value) (l1 : Value) (l2 : Value) (l3 : Value) (l4 : Value) (l5 : Value) (l6 : Value) (l7 : Value) (x : Int32) (σ : Hs) : ru d 91 4 [l0, l1, l2, l3, l4, l5, l6, l7] [.int x] σ = if x = 0 then ru d 91 14 [l0, l1, l2, l3, l4, l5, l6, l7] [] σ else ru d 91 7 [l0, l1, l2, l3, l4, l5, l6, l7] [] σ := q_if_eq t91_4 (by decide +kernel)
theorem t91_7 : decode (mb 91) 7 = .ok (.iload_n 3, 1) := by decide +kernel
theorem s91_7 (d : Nat) (l0 : Value) (l1 : Value) (l2 : Value) (i3 : Int32) (l4 : Value) (l5 : Value) (l6 : Value) (l7 : Value) (σ : Hs) : ru d 91 7 [l0, l1, l2, .int i3, l4, l5, l6, l7] [] σ = ru d 91 8 [l0, l1, l2, .int i3, l4, l5, l6, l7] [.int i3] σ := q_iload_n t91_7 rfl
theorem t91_8 : decode (mb 91) 8 = .ok (.invokestatic 249, 3) := by decide +kernel
theorem s91_8 (d : Nat) (l0 : Value) (l1 : Value) (l2 : Value) (l3 : Value) (l4 : Value) (l5 : Value) (l6 : Value) (l7 : Value) (v0 : Value) (σ : Hs) : ru d 91 8 [l0, l1, l2, l3, l4, l5, l6, l7] [v0] σ = kont (callD d 107 [v0] σ) d 91 11 [l0, l1, l2, l3, l4, l5, l6, l7] [] := q_invs t91_8 mo91 (by decide +kernel) K7_249 mj107 (Nat.le_of_ble_eq_true rfl) rfl rfl (Nat.le_of_ble_eq_true rfl)
theorem t91_11 : decode (mb 91) 11 = .ok (.ifCond .ne 9, 3) := by decide +kernel
theorem s91_11 (d : Nat) (l0 : Value) (l1 : Value) (l2 : Value) (l3 : Value) (l4 : Value) (l5 : Value) (l6 : Value) (l7 : Value) (x : Int32) (σ : Hs) : ru d 91 11 [l0, l1, l2, l3, l4, l5, l6, l7] [.int x] σ = if x = 0 then ru d 91 14 [l0, l1, l2, l3, l4, l5, l6, l7] [] σ else ru d 91 20 [l0, l1, l2, l3, l4, l5, l6, l7] [] σ := q_if_ne t91_11 (by decide +kernel)
theorem t91_14 : decode (mb 91) 14 = .ok (.aload_n 0, 1) := by decide +kernel
theorem s91_14 (d : Nat) (a0 : Nat) (l1 : Value) (l2 : Value) (l3 : Value) (l4 : Value) (l5 : Value) (l6 : Value) (l7 : Value) (σ : Hs) : ru d 91 14 [.ref a0, l1, l2, l3, l4, l5, l6, l7] [] σ = ru d 91 15 [.ref a0, l1, l2, l3, l4, l5, l6, l7] [.ref a0] σ := q_aload_n t91_14 rfl
theorem t91_15 : decode (mb 91) 15 = .ok (.iconst 1, 1) := by decide +kernel
theorem s91_15 (d : Nat) (l0 : Value) (l1 : Value) (l2 : Value) (l3 : Value) (l4 : Value) (l5 : Value) (l6 : Value) (l7 : Value) (w0 : Value) (σ : Hs) : ru d 91 15 [l0, l1, l2, l3, l4, l5, l6, l7] [w0] σ = ru d 91 16 [l0, l1, l2, l3, l4, l5, l6, l7] [.int 1, w0] σ := q_iconst t91_15 (by decide +kernel)
theorem t91_16 : decode (mb 91) 16 = .ok (.invokevirtual 65, 3) := by decide +kernel
theorem s91_16_o0 (d : Nat) (l0 : Value) (l1 : Value) (l2 : Value) (l3 : Value) (l4 : Value) (l5 : Value) (l6 : Value) (l7 : Value) (v1 : Value) (σ : Hs) : ru d 91 16 [l0, l1, l2, l3, l4, l5, l6, l7] [v1, .ref 0] σ = kont (callD d 99 [.ref 0, v1] σ) d 91 19 [l0, l1, l2, l3, l4, l5, l6, l7] [] := q_invv t91_16 mo91 K7_65 mj99 rfl rfl rfl rfl (Nat.le_of_ble_eq_true rfl)
theorem t91_19 : decode (mb 91) 19 = .ok (.ireturn, 1) := by decide +kernel
theorem s91_19 (d : Nat) (l0 : Value) (l1 : Value) (l2 : Value) (l3 : Value) (l4 : Value) (l5 : Value) (l6 : Value) (l7 : Value) (x : Int32) (σ : Hs) : ru d 91 19 [l0, l1, l2, l3, l4, l5, l6, l7] [.int x] σ = some (some (.int x), σ) := q_ireti t91_19 mr91
theorem t91_20 : decode (mb 91) 20 = .ok (.aload_n 0, 1) := by decide +kernel
theorem s91_20 (d : Nat) (a0 : Nat) (l1 : Value) (l2 : Value) (l3 : Value) (l4 : Value) (l5 : Value) (l6 : Value) (l7 : Value) (σ : Hs) : ru d 91 20 [.ref a0, l1, l2, l3, l4, l5, l6, l7] [] σ = ru d 91 21 [.ref a0, l1, l2, l3, l4, l5, l6, l7] [.ref a0] σ := q_aload_n t91_20 rfl
theorem t91_21 : decode (mb 91) 21 = .ok (.getfield 42, 3) := by decide +kernel
theorem s91_21_o0 (d : Nat) (l0 : Value) (l1 : Value) (l2 : Value) (l3 : Value) (l4 : Value) (l5 : Value) (l6 : Value) (l7 : Value) (σ : Hs) : ru d 91 21 [l0, l1, l2, l3, l4, l5, l6, l7] [.ref 0] σ = ru d 91 24 [l0, l1, l2, l3, l4, l5, l6, l7] [.ref 76] σ := q_getf t91_21 mo91 F7_42 rfl rfl
theorem t91_24 : decode (mb 91) 24 = .ok (.iload_n 1, 1) := by decide +kernel
theorem s91_24 (d : Nat) (l0 : Value) (i1 : Int32) (l2 : Value) (l3 : Value) (l4 : Value) (l5 : Value) (l6 : Value) (l7 : Value) (w0 : Value) (σ : Hs) : ru d 91 24 [l0, .int i1, l2, l3, l4, l5, l6, l7] [w0] σ = ru d 91 25 [l0, .int i1, l2, l3, l4, l5, l6, l7] [.int i1, w0] σ := q_iload_n t91_24 rfl
theorem t91_25 : decode (mb 91) 25 = .ok (.aaload, 1) := by decide +kernel
theorem s91_25_o76 (d : Nat) (l0 : Value) (l1 : Value) (l2 : Value) (l3 : Value) (l4 : Value) (l5 : Value) (l6 : Value) (l7 : Value) (i : Int32) (σ : Hs) : ru d 91 25 [l0, l1, l2, l3, l4, l5, l6, l7] [.int i, .ref 76] σ = gd (vp_in i 4) (ru d 91 26 [l0, l1, l2, l3, l4, l5, l6, l7] [.ref (cr 76 i.toNatClampNeg)] σ) := q_aald t91_25 (by decide +kernel) (by decide +kernel) rfl
theorem t91_26 : decode (mb 91) 26 = .ok (.astore 6, 2) := by decide +kernel
theorem s91_26 (d : Nat) (l0 : Value) (l1 : Value) (l2 : Value) (l3 : Value) (l4 : Value) (i5 : Int32) (l6 : Value) (l7 : Value) (x : Nat) (σ : Hs) : ru d 91 26 [l0, l1, l2, l3, l4, .int i5, l6, l7] [.ref x] σ = ru d 91 28 [l0, l1, l2, l3, l4, .int i5, .ref x, l7] [] σ := q_astore t91_26 ⟨Nat.le_of_ble_eq_true rfl, rfl⟩ rfl
theorem t91_28 : decode (mb 91) 28 = .ok (.aload_n 0, 1) := by decide +kernel
theorem s91_28 (d : Nat) (a0 : Nat) (l1 : Value) (l2 : Value) (l3 : Value) (l4 : Value) (l5 : Value) (l6 : Value) (l7 : Value) (σ : Hs) : ru d 91 28 [.ref a0, l1, l2, l3, l4, l5, l6, l7] [] σ = ru d 91 29 [.ref a0, l1, l2, l3, l4, l5, l6, l7] [.ref a0] σ := q_aload_n t91_28 rfl
theorem t91_29 : decode (mb 91) 29 = .ok (.getfield 42, 3) := by decide +kernel
theorem s91_29_o0 (d : Nat) (l0 : Value) (l1 : Value) (l2 : Value) (l3 : Value) (l4 : Value) (l5 : Value) (l6 : Value) (l7 : Value) (σ : Hs) : ru d 91 29 [l0, l1, l2, l3, l4, l5, l6, l7] [.ref 0] σ = ru d 91 32 [l0, l1, l2, l3, l4, l5, l6, l7] [.ref 76] σ := q_getf t91_29 mo91 F7_42 rfl rfl
theorem t91_32 : decode (mb 91) 32 = .ok (.iload_n 3, 1) := by decide +kernel
theorem s91_32 (d : Nat) (l0 : Value) (l1 : Value) (l2 : Value) (i3 : Int32) (l4 : Value) (l5 : Value) (l6 : Value) (l7 : Value) (w0 : Value) (σ : Hs) : ru d 91 32 [l0, l1, l2, .int i3, l4, l5, l6, l7] [w0] σ = ru d 91 33 [l0, l1, l2, .int i3, l4, l5, l6, l7] [.int i3, w0] σ := q_iload_n t91_32 rfl
theorem t91_33 : decode (mb 91) 33 = .ok (.aaload, 1) := by decide +kernel
theorem s91_33_o76 (d : Nat) (l0 : Value) (l1 : Value) (l2 : Value) (l3 : Value) (l4 : Value) (l5 : Value) (l6 : Value) (l7 : Value) (i : Int32) (σ : Hs) : ru d 91 33 [l0, l1, l2, l3, l4, l5, l6, l7] [.int i, .ref 76] σ = gd (vp_in i 4) (ru d 91 34 [l0, l1, l2, l3, l4, l5, l6, l7] [.ref (cr 76 i.toNatClampNeg)] σ) := q_aald t91_33 (by decide +kernel) (by decide +kernel) rfl
theorem t91_34 : decode (mb 91) 34 = .ok (.astore 7, 2) := by decide +kernel
theorem s91_34 (d : Nat) (l0 : Value) (l1 : Value) (l2 : Value) (l3 : Value) (l4 : Value) (l5 : Value) (a6 : Nat) (l7 : Value) (x : Nat) (σ : Hs) : ru d 91 34 [l0, l1, l2, l3, l4, l5, .ref a6, l7] [.ref x] σ = ru d 91 36 [l0, l1, l2, l3, l4, l5, .ref a6, .ref x] [] σ := q_astore t91_34 ⟨Nat.le_of_ble_eq_true rfl, rfl⟩ rfl
theorem t91_36 : decode (mb 91) 36 = .ok (.aload 6, 2) := by decide +kernel
theorem s91_36 (d : Nat) (l0 : Value) (l1 : Value) (l2 : Value) (l3 : Value) (l4 : Value) (l5 : Value) (a6 : Nat) (l7 : Value) (σ : Hs) : ru d 91 36 [l0, l1, l2, l3, l4, l5, .ref a6, l7] [] σ = ru d 91 38 [l0, l1, l2, l3, l4, l5, .ref a6, l7] [.ref a6] σ := q_aload t91_36 rfl
theorem t91_38 : decode (mb 91) 38 = .ok (.invokevirtual 255, 3) := by decide +kernel
theorem s91_38_o77 (d : Nat) (l0 : Value) (l1 : Value) (l2 : Value) (l3 : Value) (l4 : Value) (l5 : Value) (l6 : Value) (l7 : Value) (σ : Hs) : ru d 91 38 [l0, l1, l2, l3, l4, l5, l6, l7] [.ref 77] σ = kont (callD d 46 [.ref 77] σ) d 91 41 [l0, l1, l2, l3, l4, l5, l6, l7] [] := q_invv t91_38 mo91 K7_255 mj46 rfl rfl rfl rfl (Nat.le_of_ble_eq_true rfl)
theorem s91_38_o79 (d : Nat) (l0 : Value) (l1 : Value) (l2 : Value) (l3 : Value) (l4 : Value) (l5 : Value) (l6 : Value) (l7 : Value) (σ : Hs) : ru d 91 38 [l0, l1, l2, l3, l4, l5, l6, l7] [.ref 79] σ = kont (callD d 46 [.ref 79] σ) d 91 41 [l0, l1, l2, l3, l4, l5, l6, l7] [] := q_invv t91_38 mo91 K7_255 mj46 rfl rfl rfl rfl (Nat.le_of_ble_eq_true rfl)
theorem s91_38_o81 (d : Nat) (l0 : Value) (l1 : Value) (l2 : Value) (l3 : Value) (l4 : Value) (l5 : Value) (l6 : Value) (l7 : Value) (σ : Hs) : ru d 91 38 [l0, l1, l2, l3, l4, l5, l6, l7] [.ref 81] σ = kont (callD d 46 [.ref 81] σ) d 91 41 [l0, l1, l2, l3, l4, l5, l6, l7] [] := q_invv t91_38 mo91 K7_255 mj46 rfl rfl rfl rfl (Nat.le_of_ble_eq_true rfl)
theorem s91_38_o83 (d : Nat) (l0 : Value) (l1 : Value) (l2 : Value) (l3 : Value) (l4 : Value) (l5 : Value) (l6 : Value) (l7 : Value) (σ : Hs) : ru d 91 38 [l0, l1, l2, l3, l4, l5, l6, l7] [.ref 83] σ = kont (callD d 46 [.ref 83] σ) d 91 41 [l0, l1, l2, l3, l4, l5, l6, l7] [] := q_invv t91_38 mo91 K7_255 mj46 rfl rfl rfl rfl (Nat.le_of_ble_eq_true rfl)
theorem t91_41 : decode (mb 91) 41 = .ok (.ifCond .ne 11, 3) := by decide +kernel
theorem s91_41 (d : Nat) (l0 : Value) (l1 : Value) (l2 : Value) (l3 : Value) (l4 : Value) (l5 : Value) (l6 : Value) (l7 : Value) (x : Int32) (σ : Hs) : ru d 91 41 [l0, l1, l2, l3, l4, l5, l6, l7] [.int x] σ = if x = 0 then ru d 91 44 [l0, l1, l2, l3, l4, l5, l6, l7] [] σ else ru d 91 52 [l0, l1, l2, l3, l4, l5, l6, l7] [] σ := q_if_ne t91_41 (by decide +kernel)
theorem t91_44 : decode (mb 91) 44 = .ok (.aload 7, 2) := by decide +kernel
theorem s91_44 (d : Nat) (l0 : Value) (l1 : Value) (l2 : Value) (l3 : Value) (l4 : Value) (l5 : Value) (l6 : Value) (a7 : Nat) (σ : Hs) : ru d 91 44 [l0, l1, l2, l3, l4, l5, l6, .ref a7] [] σ = ru d 91 46 [l0, l1, l2, l3, l4, l5, l6, .ref a7] [.ref a7] σ := q_aload t91_44 rfl
theorem t91_46 : decode (mb 91) 46 = .ok (.invokevirtual 255, 3) := by decide +kernel
theorem s91_46_o77 (d : Nat) (l0 : Value) (l1 : Value) (l2 : Value) (l3 : Value) (l4 : Value) (l5 : Value) (l6 : Value) (l7 : Value) (σ : Hs) : ru d 91 46 [l0, l1, l2, l3, l4, l5, l6, l7] [.ref 77] σ = kont (callD d 46 [.ref 77] σ) d 91 49 [l0, l1, l2, l3, l4, l5, l6, l7] [] := q_invv t91_46 mo91 K7_255 mj46 rfl rfl rfl rfl (Nat.le_of_ble_eq_true rfl)
theorem s91_46_o79 (d : Nat) (l0 : Value) (l1 : Value) (l2 : Value) (l3 : Value) (l4 : Value) (l5 : Value) (l6 : Value) (l7 : Value) (σ : Hs) : ru d 91 46 [l0, l1, l2, l3, l4, l5, l6, l7] [.ref 79] σ = kont (callD d 46 [.ref 79] σ) d 91 49 [l0, l1, l2, l3, l4, l5, l6, l7] [] := q_invv t91_46 mo91 K7_255 mj46 rfl rfl rfl rfl (Nat.le_of_ble_eq_true rfl)
theorem s91_46_o81 (d : Nat) (l0 : Value) (l1 : Value) (l2 : Value) (l3 : Value) (l4 : Value) (l5 : Value) (l6 : Value) (l7 : Value) (σ : Hs) : ru d 91 46 [l0, l1, l2, l3, l4, l5, l6, l7] [.ref 81] σ = kont (callD d 46 [.ref 81] σ) d 91 49 [l0, l1, l2, l3, l4, l5, l6, l7] [] := q_invv t91_46 mo91 K7_255 mj46 rfl rfl rfl rfl (Nat.le_of_ble_eq_true rfl)
theorem s91_46_o83 (d : Nat) (l0 : Value) (l1 : Value) (l2 : Value) (l3 : Value) (l4 : Value) (l5 : Value) (l6 : Value) (l7 : Value) (σ : Hs) : ru d 91 46 [l0, l1, l2, l3, l4, l5, l6, l7] [.ref 83] σ = kont (callD d 46 [.ref 83] σ) d 91 49 [l0, l1, l2, l3, l4, l5, l6, l7] [] := q_invv t91_46 mo91 K7_255 mj46 rfl rfl rfl rfl (Nat.le_of_ble_eq_true rfl)
theorem t91_49 : decode (mb 91) 49 = .ok (.ifCond .eq 9, 3) := by decide +kernel
theorem s91_49 (d : Nat) (l0 : Value) (l1 : Value) (l2 : Value) (l3 : Value) (l4 : Value) (l5 : Value) (l6 : Value) (l7 : Value) (x : Int32) (σ : Hs) : ru d 91 49 [l0, l1, l2, l3, l4, l5, l6, l7] [.int x] σ = if x = 0 then ru d 91 58 [l0, l1, l2, l3, l4, l5, l6, l7] [] σ else ru d 91 52 [l0, l1, l2, l3, l4, l5, l6, l7] [] σ := q_if_eq t91_49 (by decide +kernel)
theorem t91_52 : decode (mb 91) 52 = .ok (.aload_n 0, 1) := by decide +kernel
theorem s91_52 (d : Nat) (a0 : Nat) (l1 : Value) (l2 : Value) (l3 : Value) (l4 : Value) (l5 : Value) (l6 : Value) (l7 : Value) (σ : Hs) : ru d 91 52 [.ref a0, l1, l2, l3, l4, l5, l6, l7] [] σ = ru d 91 53 [.ref a0, l1, l2, l3, l4, l5, l6, l7] [.ref a0] σ := q_aload_n t91_52 rfl
theorem t91_53 : decode (mb 91) 53 = .ok (.iconst 2, 1) := by decide +kernel
theorem s91_53 (d : Nat) (l0 : Value) (l1 : Value) (l2 : Value) (l3 : Value) (l4 : Value) (l5 : Value) (l6 : Value) (l7 : Value) (w0 : Value) (σ : Hs) : ru d 91 53 [l0, l1, l2, l3, l4, l5, l6, l7] [w0] σ = ru d 91 54 [l0, l1, l2, l3, l4, l5, l6, l7] [.int 2, w0] σ := q_iconst t91_53 (by decide +kernel)
theorem t91_54 : decode (mb 91) 54 = .ok (.invokevirtual 65, 3) := by decide +kernel
theorem s91_54_o0 (d : Nat) (l0 : Value) (l1 : Value) (l2 : Value) (l3 : Value) (l4 : Value) (l5 : Value) (l6 : Value) (l7 : Value) (v1 : Value) (σ : Hs) : ru d 91 54 [l0, l1, l2, l3, l4, l5, l6, l7] [v1, .ref 0] σ = kont (callD d 99 [.ref 0, v1] σ) d 91 57 [l0, l1, l2, l3, l4, l5, l6, l7] [] := q_invv t91_54 mo91 K7_65 mj99 rfl rfl rfl rfl (Nat.le_of_ble_eq_true rfl)
theorem t91_57 : decode (mb 91) 57 = .ok (.ireturn, 1) := by decide +kernel
theorem s91_57 (d : Nat) (l0 : Value) (l1 : Value) (l2 : Value) (l3 : Value) (l4 : Value) (l5 : Value) (l6 : Value) (l7 : Value) (x : Int32) (σ : Hs) : ru d 91 57 [l0, l1, l2, l3, l4, l5, l6, l7] [.int x] σ = some (some (.int x), σ) := q_ireti t91_57 mr91
theorem t91_58 : decode (mb 91) 58 = .ok (.aload 6, 2) := by decide +kernel
theorem s91_58 (d : Nat) (l0 : Value) (l1 : Value) (l2 : Value) (l3 : Value) (l4 : Value) (l5 : Value) (a6 : Nat) (l7 : Value) (σ : Hs) : ru d 91 58 [l0, l1, l2, l3, l4, l5, .ref a6, l7] [] σ = ru d 91 60 [l0, l1, l2, l3, l4, l5, .ref a6, l7] [.ref a6] σ := q_aload t91_58 rfl
theorem t91_60 : decode (mb 91) 60 = .ok (.getfield 264, 3) := by decide +kernel
theorem s91_60_o77 (d : Nat) (l0 : Value) (l1 : Value) (l2 : Value) (l3 : Value) (l4 : Value) (l5 : Value) (l6 : Value) (l7 : Value) (σ : Hs) : ru d 91 60 [l0, l1, l2, l3, l4, l5, l6, l7] [.ref 77] σ = ru d 91 63 [l0, l1, l2, l3, l4, l5, l6, l7] [.int (σ 77 1)] σ := q_getf t91_60 mo91 F7_264 rfl rfl
theorem s91_60_o79 (d : Nat) (l0 : Value) (l1 : Value) (l2 : Value) (l3 : Value) (l4 : Value) (l5 : Value) (l6 : Value) (l7 : Value) (σ : Hs) : ru d 91 60 [l0, l1, l2, l3, l4, l5, l6, l7] [.ref 79] σ = ru d 91 63 [l0, l1, l2, l3, l4, l5, l6, l7] [.int (σ 79 1)] σ := q_getf t91_60 mo91 F7_264 rfl rfl
theorem s91_60_o81 (d : Nat) (l0 : Value) (l1 : Value) (l2 : Value) (l3 : Value) (l4 : Value) (l5 : Value) (l6 : Value) (l7 : Value) (σ : Hs) : ru d 91 60 [l0, l1, l2, l3, l4, l5, l6, l7] [.ref 81] σ = ru d 91 63 [l0, l1, l2, l3, l4, l5, l6, l7] [.int (σ 81 1)] σ := q_getf t91_60 mo91 F7_264 rfl rfl
theorem s91_60_o83 (d : Nat) (l0 : Value) (l1 : Value) (l2 : Value) (l3 : Value) (l4 : Value) (l5 : Value) (l6 : Value) (l7 : Value) (σ : Hs) : ru d 91 60 [l0, l1, l2, l3, l4, l5, l6, l7] [.ref 83] σ = ru d 91 63 [l0, l1, l2, l3, l4, l5, l6, l7] [.int (σ 83 1)] σ := q_getf t91_60 mo91 F7_264 rfl rfl
theorem t91_63 : decode (mb 91) 63 = .ok (.aload 7, 2) := by decide +kernel
theorem s91_63 (d : Nat) (l0 : Value) (l1 : Value) (l2 : Value) (l3 : Value) (l4 : Value) (l5 : Value) (l6 : Value) (a7 : Nat) (w0 : Value) (σ : Hs) : ru d 91 63 [l0, l1, l2, l3, l4, l5, l6, .ref a7] [w0] σ = ru d 91 65 [l0, l1, l2, l3, l4, l5, l6, .ref a7] [.ref a7, w0] σ := q_aload t91_63 rfl
theorem t91_65 : decode (mb 91) 65 = .ok (.getfield 264, 3) := by decide +kernel
theorem s91_65_o77 (d : Nat) (l0 : Value) (l1 : Value) (l2 : Value) (l3 : Value) (l4 : Value) (l5 : Value) (l6 : Value) (l7 : Value) (w0 : Value) (σ : Hs) : ru d 91 65 [l0, l1, l2, l3, l4, l5, l6, l7] [.ref 77, w0] σ = ru d 91 68 [l0, l1, l2, l3, l4, l5, l6, l7] [.int (σ 77 1), w0] σ := q_getf t91_65 mo91 F7_264 rfl rfl
theorem s91_65_o79 (d : Nat) (l0 : Value) (l1 : Value) (l2 : Value) (l3 : Value) (l4 : Value) (l5 : Value) (l6 : Value) (l7 : Value) (w0 : Value) (σ : Hs) : ru d 91 65 [l0, l1, l2, l3, l4, l5, l6, l7] [.ref 79, w0] σ = ru d 91 68 [l0, l1, l2, l3, l4, l5, l6, l7] [.int (σ 79 1), w0] σ := q_getf t91_65 mo91 F7_264 rfl rfl
theorem s91_65_o81 (d : Nat) (l0 : Value) (l1 : Value) (l2 : Value) (l3 : Value) (l4 : Value) (l5 : Value) (l6 : Value) (l7 : Value) (w0 : Value) (σ : Hs) : ru d 91 65 [l0, l1, l2, l3, l4, l5, l6, l7] [.ref 81, w0] σ = ru d 91 68 [l0, l1, l2, l3, l4, l5, l6, l7] [.int (σ 81 1), w0] σ := q_getf t91_65 mo91 F7_264 rfl rfl
theorem s91_65_o83 (d : Nat) (l0 : Value) (l1 : Value) (l2 : Value) (l3 : Value) (l4 : Value) (l5 : Value) (l6 : Value) (l7 : Value) (w0 : Value) (σ : Hs) : ru d 91 65 [l0, l1, l2, l3, l4, l5, l6, l7] [.ref 83, w0] σ = ru d 91 68 [l0, l1, l2, l3, l4, l5, l6, l7] [.int (σ 83 1), w0] σ := q_getf t91_65 mo91 F7_264 rfl rfl
theorem t91_68 : decode (mb 91) 68 = .ok (.if_icmp .eq 9, 3) := by decide +kernel
theorem s91_68 (d : Nat) (l0 : Value) (l1 : Value) (l2 : Value) (l3 : Value) (l4 : Value) (l5 : Value) (l6 : Value) (l7 : Value) (x y : Int32) (σ : Hs) : ru d 91 68 [l0, l1, l2, l3, l4, l5, l6, l7] [.int y, .int x] σ = if x = y then ru d 91 77 [l0, l1, l2, l3, l4, l5, l6, l7] [] σ else ru d 91 71 [l0, l1, l2, l3, l4, l5, l6, l7] [] σ := q_ic_eq t91_68 (by decide +kernel)
theorem t91_71 : decode (mb 91) 71 = .ok (.aload_n 0, 1) := by decide +kernel
theorem s91_71 (d : Nat) (a0 : Nat) (l1 : Value) (l2 : Value) (l3 : Value) (l4 : Value) (l5 : Value) (l6 : Value) (l7 : Value) (σ : Hs) : ru d 91 71 [.ref a0, l1, l2, l3, l4, l5, l6, l7] [] σ = ru d 91 72 [.ref a0, l1, l2, l3, l4, l5, l6, l7] [.ref a0] σ := q_aload_n t91_71 rfl
theorem t91_72 : decode (mb 91) 72 = .ok (.iconst 5, 1) := by decide +kernel
theorem s91_72 (d : Nat) (l0 : Value) (l1 : Value) (l2 : Value) (l3 : Value) (l4 : Value) (l5 : Value) (l6 : Value) (l7 : Value) (w0 : Value) (σ : Hs) : ru d 91 72 [l0, l1, l2, l3, l4, l5, l6, l7] [w0] σ = ru d 91 73 [l0, l1, l2, l3, l4, l5, l6, l7] [.int 5, w0] σ := q_iconst t91_72 (by decide +kernel)
theorem t91_73 : decode (mb 91) 73 = .ok (.invokevirtual 65, 3) := by decide +kernel
theorem s91_73_o0 (d : Nat) (l0 : Value) (l1 : Value) (l2 : Value) (l3 : Value) (l4 : Value) (l5 : Value) (l6 : Value) (l7 : Value) (v1 : Value) (σ : Hs) : ru d 91 73 [l0, l1, l2, l3, l4, l5, l6, l7] [v1, .ref 0] σ = kont (callD d 99 [.ref 0, v1] σ) d 91 76 [l0, l1, l2, l3, l4, l5, l6, l7] [] := q_invv t91_73 mo91 K7_65 mj99 rfl rfl rfl rfl (Nat.le_of_ble_eq_true rfl)
theorem t91_76 : decode (mb 91) 76 = .ok (.ireturn, 1) := by decide +kernel
theorem s91_76 (d : Nat) (l0 : Value) (l1 : Value) (l2 : Value) (l3 : Value) (l4 : Value) (l5 : Value) (l6 : Value) (l7 : Value) (x : Int32) (σ : Hs) : ru d 91 76 [l0, l1, l2, l3, l4, l5, l6, l7] [.int x] σ = some (some (.int x), σ) := q_ireti t91_76 mr91
theorem t91_77 : decode (mb 91) 77 = .ok (.aload 6, 2) := by decide +kernel
theorem s91_77 (d : Nat) (l0 : Value) (l1 : Value) (l2 : Value) (l3 : Value) (l4 : Value) (l5 : Value) (a6 : Nat) (l7 : Value) (σ : Hs) : ru d 91 77 [l0, l1, l2, l3, l4, l5, .ref a6, l7] [] σ = ru d 91 79 [l0, l1, l2, l3, l4, l5, .ref a6, l7] [.ref a6] σ := q_aload t91_77 rfl
theorem t91_79 : decode (mb 91) 79 = .ok (.iload_n 2, 1) := by decide +kernel
theorem s91_79 (d : Nat) (l0 : Value) (l1 : Value) (i2 : Int32) (l3 : Value) (l4 : Value) (l5 : Value) (l6 : Value) (l7 : Value) (w0 : Value) (σ : Hs) : ru d 91 79 [l0, l1, .int i2, l3, l4, l5, l6, l7] [w0] σ = ru d 91 80 [l0, l1, .int i2, l3, l4, l5, l6, l7] [.int i2, w0] σ := q_iload_n t91_79 rfl
theorem t91_80 : decode (mb 91) 80 = .ok (.iload 5, 2) := by decide +kernel
theorem s91_80 (d : Nat) (l0 : Value) (l1 : Value) (l2 : Value) (l3 : Value) (l4 : Value) (i5 : Int32) (l6 : Value) (l7 : Value) (w0 w1 : Value) (σ : Hs) : ru d 91 80 [l0, l1, l2, l3, l4, .int i5, l6, l7] [w0, w1] σ = ru d 91 82 [l0, l1, l2, l3, l4, .int i5, l6, l7] [.int i5, w0, w1] σ := q_iload t91_80 rfl
theorem t91_82 : decode (mb 91) 82 = .ok (.invokevirtual 258, 3) := by decide +kernel
theorem s91_82_o77 (d : Nat) (l0 : Value) (l1 : Value) (l2 : Value) (l3 : Value) (l4 : Value) (l5 : Value) (l6 : Value) (l7 : Value) (v1 v2 : Value) (σ : Hs) : ru d 91 82 [l0, l1, l2, l3, l4, l5, l6, l7] [v2, v1, .ref 77] σ = kont (callD d 48 [.ref 77, v1, v2] σ) d 91 85 [l0, l1, l2, l3, l4, l5, l6, l7] [] := q_invv t91_82 mo91 K7_258 mj48 rfl rfl rfl rfl (Nat.le_of_ble_eq_true rfl)
theorem s91_82_o79 (d : Nat) (l0 : Value) (l1 : Value) (l2 : Value) (l3 : Value) (l4 : Value) (l5 : Value) (l6 : Value) (l7 : Value) (v1 v2 : Value) (σ : Hs) : ru d 91 82 [l0, l1, l2, l3, l4, l5, l6, l7] [v2, v1, .ref 79] σ = kont (callD d 48 [.ref 79, v1, v2] σ) d 91 85 [l0, l1, l2, l3, l4, l5, l6, l7] [] := q_invv t91_82 mo91 K7_258 mj48 rfl rfl rfl rfl (Nat.le_of_ble_eq_true rfl)
theorem s91_82_o81 (d : Nat) (l0 : Value) (l1 : Value) (l2 : Value) (l3 : Value) (l4 : Value) (l5 : Value) (l6 : Value) (l7 : Value) (v1 v2 : Value) (σ : Hs) : ru d 91 82 [l0, l1, l2, l3, l4, l5, l6, l7] [v2, v1, .ref 81] σ = kont (callD d 48 [.ref 81, v1, v2] σ) d 91 85 [l0, l1, l2, l3, l4, l5, l6, l7] [] := q_invv t91_82 mo91 K7_258 mj48 rfl rfl rfl rfl (Nat.le_of_ble_eq_true rfl)
theorem s91_82_o83 (d : Nat) (l0 : Value) (l1 : Value) (l2 : Value) (l3 : Value) (l4 : Value) (l5 : Value) (l6 : Value) (l7 : Value) (v1 v2 : Value) (σ : Hs) : ru d 91 82 [l0, l1, l2, l3, l4, l5, l6, l7] [v2, v1, .ref 83] σ = kont (callD d 48 [.ref 83, v1, v2] σ) d 91 85 [l0, l1, l2, l3, l4, l5, l6, l7] [] := q_invv t91_82 mo91 K7_258 mj48 rfl rfl rfl rfl (Nat.le_of_ble_eq_true rfl)
theorem t91_85 : decode (mb 91) 85 = .ok (.ifCond .eq 15, 3) := by decide +kernel
theorem s91_85 (d : Nat) (l0 : Value) (l1 : Value) (l2 : Value) (l3 : Value) (l4 : Value) (l5 : Value) (l6 : Value) (l7 : Value) (x : Int32) (σ : Hs) : ru d 91 85 [l0, l1, l2, l3, l4, l5, l6, l7] [.int x] σ = if x = 0 then ru d 91 100 [l0, l1, l2, l3, l4, l5, l6, l7] [] σ else ru d 91 88 [l0, l1, l2, l3, l4, l5, l6, l7] [] σ := q_if_eq t91_85 (by decide +kernel)
theorem t91_88 : decode (mb 91) 88 = .ok (.aload 7, 2) := by decide +kernel
theorem s91_88 (d : Nat) (l0 : Value) (l1 : Value) (l2 : Value) (l3 : Value) (l4 : Value) (l5 : Value) (l6 : Value) (a7 : Nat) (σ : Hs) : ru d 91 88 [l0, l1, l2, l3, l4, l5, l6, .ref a7] [] σ = ru d 91 90 [l0, l1, l2, l3, l4, l5, l6, .ref a7] [.ref a7] σ := q_aload t91_88 rfl
theorem t91_90 : decode (mb 91) 90 = .ok (.iload 4, 2) := by decide +kernel
theorem s91_90 (d : Nat) (l0 : Value) (l1 : Value) (l2 : Value) (l3 : Value) (i4 : Int32) (l5 : Value) (l6 : Value) (l7 : Value) (w0 : Value) (σ : Hs) : ru d 91 90 [l0, l1, l2, l3, .int i4, l5, l6, l7] [w0] σ = ru d 91 92 [l0, l1, l2, l3, .int i4, l5, l6, l7] [.int i4, w0] σ := q_iload t91_90 rfl
theorem t91_92 : decode (mb 91) 92 = .ok (.iload 5, 2) := by decide +kernel
theorem s91_92 (d : Nat) (l0 : Value) (l1 : Value) (l2 : Value) (l3 : Value) (l4 : Value) (i5 : Int32) (l6 : Value) (l7 : Value) (w0 w1 : Value) (σ : Hs) : ru d 91 92 [l0, l1, l2, l3, l4, .int i5, l6, l7] [w0, w1] σ = ru d 91 94 [l0, l1, l2, l3, l4, .int i5, l6, l7] [.int i5, w0, w1] σ := q_iload t91_92 rfl
theorem t91_94 : decode (mb 91) 94 = .ok (.invokevirtual 258, 3) := by decide +kernel
theorem s91_94_o77 (d : Nat) (l0 : Value) (l1 : Value) (l2 : Value) (l3 : Value) (l4 : Value) (l5 : Value) (l6 : Value) (l7 : Value) (v1 v2 : Value) (σ : Hs) : ru d 91 94 [l0, l1, l2, l3, l4, l5, l6, l7] [v2, v1, .ref 77] σ = kont (callD d 48 [.ref 77, v1, v2] σ) d 91 97 [l0, l1, l2, l3, l4, l5, l6, l7] [] := q_invv t91_94 mo91 K7_258 mj48 rfl rfl rfl rfl (Nat.le_of_ble_eq_true rfl)
theorem s91_94_o79 (d : Nat) (l0 : Value) (l1 : Value) (l2 : Value) (l3 : Value) (l4 : Value) (l5 : Value) (l6 : Value) (l7 : Value) (v1 v2 : Value) (σ : Hs) : ru d 91 94 [l0, l1, l2, l3, l4, l5, l6, l7] [v2, v1, .ref 79] σ = kont (callD d 48 [.ref 79, v1, v2] σ) d 91 97 [l0, l1, l2, l3, l4, l5, l6, l7] [] := q_invv t91_94 mo91 K7_258 mj48 rfl rfl rfl rfl (Nat.le_of_ble_eq_true rfl)
theorem s91_94_o81 (d : Nat) (l0 : Value) (l1 : Value) (l2 : Value) (l3 : Value) (l4 : Value) (l5 : Value) (l6 : Value) (l7 : Value) (v1 v2 : Value) (σ : Hs) : ru d 91 94 [l0, l1, l2, l3, l4, l5, l6, l7] [v2, v1, .ref 81] σ = kont (callD d 48 [.ref 81, v1, v2] σ) d 91 97 [l0, l1, l2, l3, l4, l5, l6, l7] [] := q_invv t91_94 mo91 K7_258 mj48 rfl rfl rfl rfl (Nat.le_of_ble_eq_true rfl)
theorem s91_94_o83 (d : Nat) (l0 : Value) (l1 : Value) (l2 : Value) (l3 : Value) (l4 : Value) (l5 : Value) (l6 : Value) (l7 : Value) (v1 v2 : Value) (σ : Hs) : ru d 91 94 [l0, l1, l2, l3, l4, l5, l6, l7] [v2, v1, .ref 83] σ = kont (callD d 48 [.ref 83, v1, v2] σ) d 91 97 [l0, l1, l2, l3, l4, l5, l6, l7] [] := q_invv t91_94 mo91 K7_258 mj48 rfl rfl rfl rfl (Nat.le_of_ble_eq_true rfl)
theorem t91_97 : decode (mb 91) 97 = .ok (.ifCond .ne 9, 3) := by decide +kernel
theorem s91_97 (d : Nat) (l0 : Value) (l1 : Value) (l2 : Value) (l3 : Value) (l4 : Value) (l5 : Value) (l6 : Value) (l7 : Value) (x : Int32) (σ : Hs) : ru d 91 97 [l0, l1, l2, l3, l4, l5, l6, l7] [.int x] σ = if x = 0 then ru d 91 100 [l0, l1, l2, l3, l4, l5, l6, l7] [] σ else ru d 91 106 [l0, l1, l2, l3, l4, l5, l6, l7] [] σ := q_if_ne t91_97 (by decide +kernel)
theorem t91_100 : decode (mb 91) 100 = .ok (.aload_n 0, 1) := by decide +kernel
theorem s91_100 (d : Nat) (a0 : Nat) (l1 : Value) (l2 : Value) (l3 : Value) (l4 : Value) (l5 : Value) (l6 : Value) (l7 : Value) (σ : Hs) : ru d 91 100 [.ref a0, l1, l2, l3, l4, l5, l6, l7] [] σ = ru d 91 101 [.ref a0, l1, l2, l3, l4, l5, l6, l7] [.ref a0] σ := q_aload_n t91_100 rfl
theorem t91_101 : decode (mb 91) 101 = .ok (.iconst 1, 1) := by decide +kernel
theorem s91_101 (d : Nat) (l0 : Value) (l1 : Value) (l2 : Value) (l3 : Value) (l4 : Value) (l5 : Value) (l6 : Value) (l7 : Value) (w0 : Value) (σ : Hs) : ru d 91 101 [l0, l1, l2, l3, l4, l5, l6, l7] [w0] σ = ru d 91 102 [l0, l1, l2, l3, l4, l5, l6, l7] [.int 1, w0] σ := q_iconst t91_101 (by decide +kernel)
theorem t91_102 : decode (mb 91) 102 = .ok (.invokevirtual 65, 3) := by decide +kernel
theorem s91_102_o0 (d : Nat) (l0 : Value) (l1 : Value) (l2 : Value) (l3 : Value) (l4 : Value) (l5 : Value) (l6 : Value) (l7 : Value) (v1 : Value) (σ : Hs) : ru d 91 102 [l0, l1, l2, l3, l4, l5, l6, l7] [v1, .ref 0] σ = kont (callD d 99 [.ref 0, v1] σ) d 91 105 [l0, l1, l2, l3, l4, l5, l6, l7] [] := q_invv t91_102 mo91 K7_65 mj99 rfl rfl rfl rfl (Nat.le_of_ble_eq_true rfl)
theorem t91_105 : decode (mb 91) 105 = .ok (.ireturn, 1) := by decide +kernel
theorem s91_105 (d : Nat) (l0 : Value) (l1 : Value) (l2 : Value) (l3 : Value) (l4 : Value) (l5 : Value) (l6 : Value) (l7 : Value) (x : Int32) (σ : Hs) : ru d 91 105 [l0, l1, l2, l3, l4, l5, l6, l7] [.int x] σ = some (some (.int x), σ) := q_ireti t91_105 mr91
theorem t91_106 : decode (mb 91) 106 = .ok (.aload 6, 2) := by decide +kernel
theorem s91_106 (d : Nat) (l0 : Value) (l1 : Value) (l2 : Value) (l3 : Value) (l4 : Value) (l5 : Value) (a6 : Nat) (l7 : Value) (σ : Hs) : ru d 91 106 [l0, l1, l2, l3, l4, l5, .ref a6, l7] [] σ = ru d 91 108 [l0, l1, l2, l3, l4, l5, .ref a6, l7] [.ref a6] σ := q_aload t91_106 rfl
theorem t91_108 : decode (mb 91) 108 = .ok (.getfield 267, 3) := by decide +kernel
theorem s91_108_o77 (d : Nat) (l0 : Value) (l1 : Value) (l2 : Value) (l3 : Value) (l4 : Value) (l5 : Value) (l6 : Value) (l7 : Value) (σ : Hs) : ru d 91 108 [l0, l1, l2, l3, l4, l5, l6, l7] [.ref 77] σ = ru d 91 111 [l0, l1, l2, l3, l4, l5, l6, l7] [.ref 78] σ := q_getf t91_108 mo91 F7_267 rfl rfl
theorem s91_108_o79 (d : Nat) (l0 : Value) (l1 : Value) (l2 : Value) (l3 : Value) (l4 : Value) (l5 : Value) (l6 : Value) (l7 : Value) (σ : Hs) : ru d 91 108 [l0, l1, l2, l3, l4, l5, l6, l7] [.ref 79] σ = ru d 91 111 [l0, l1, l2, l3, l4, l5, l6, l7] [.ref 80] σ := q_getf t91_108 mo91 F7_267 rfl rfl
theorem s91_108_o81 (d : Nat) (l0 : Value) (l1 : Value) (l2 : Value) (l3 : Value) (l4 : Value) (l5 : Value) (l6 : Value) (l7 : Value) (σ : Hs) : ru d 91 108 [l0, l1, l2, l3, l4, l5, l6, l7] [.ref 81] σ = ru d 91 111 [l0, l1, l2, l3, l4, l5, l6, l7] [.ref 82] σ := q_getf t91_108 mo91 F7_267 rfl rfl
theorem s91_108_o83 (d : Nat) (l0 : Value) (l1 : Value) (l2 : Value) (l3 : Value) (l4 : Value) (l5 : Value) (l6 : Value) (l7 : Value) (σ : Hs) : ru d 91 108 [l0, l1, l2, l3, l4, l5, l6, l7] [.ref 83] σ = ru d 91 111 [l0, l1, l2, l3, l4, l5, l6, l7] [.ref 84] σ := q_getf t91_108 mo91 F7_267 rfl rfl
theorem t91_111 : decode (mb 91) 111 = .ok (.iload_n 2, 1) := by decide +kernel
theorem s91_111 (d : Nat) (l0 : Value) (l1 : Value) (i2 : Int32) (l3 : Value) (l4 : Value) (l5 : Value) (l6 : Value) (l7 : Value) (w0 : Value) (σ : Hs) : ru d 91 111 [l0, l1, .int i2, l3, l4, l5, l6, l7] [w0] σ = ru d 91 112 [l0, l1, .int i2, l3, l4, l5, l6, l7] [.int i2, w0] σ := q_iload_n t91_111 rfl
theorem t91_112 : decode (mb 91) 112 = .ok (.aload 7, 2) := by decide +kernel
theorem s91_112 (d : Nat) (l0 : Value) (l1 : Value) (l2 : Value) (l3 : Value) (l4 : Value) (l5 : Value) (l6 : Value) (a7 : Nat) (w0 w1 : Value) (σ : Hs) : ru d 91 112 [l0, l1, l2, l3, l4, l5, l6, .ref a7] [w0, w1] σ = ru d 91 114 [l0, l1, l2, l3, l4, l5, l6, .ref a7] [.ref a7, w0, w1] σ := q_aload t91_112 rfl
theorem t91_114 : decode (mb 91) 114 = .ok (.getfield 267, 3) := by decide +kernel
theorem s91_114_o77 (d : Nat) (l0 : Value) (l1 : Value) (l2 : Value) (l3 : Value) (l4 : Value) (l5 : Value) (l6 : Value) (l7 : Value) (w0 w1 : Value) (σ : Hs) : ru d 91 114 [l0, l1, l2, l3, l4, l5, l6, l7] [.ref 77, w0, w1] σ = ru d 91 117 [l0, l1, l2, l3, l4, l5, l6, l7] [.ref 78, w0, w1] σ := q_getf t91_114 mo91 F7_267 rfl rfl
theorem s91_114_o79 (d : Nat) (l0 : Value) (l1 : Value) (l2 : Value) (l3 : Value) (l4 : Value) (l5 : Value) (l6 : Value) (l7 : Value) (w0 w1 : Value) (σ : Hs) : ru d 91 114 [l0, l1, l2, l3, l4, l5, l6, l7] [.ref 79, w0, w1] σ = ru d 91 117 [l0, l1, l2, l3, l4, l5, l6, l7] [.ref 80, w0, w1] σ := q_getf t91_114 mo91 F7_267 rfl rfl
theorem s91_114_o81 (d : Nat) (l0 : Value) (l1 : Value) (l2 : Value) (l3 : Value) (l4 : Value) (l5 : Value) (l6 : Value) (l7 : Value) (w0 w1 : Value) (σ : Hs) : ru d 91 114 [l0, l1, l2, l3, l4, l5, l6, l7] [.ref 81, w0, w1] σ = ru d 91 117 [l0, l1, l2, l3, l4, l5, l6, l7] [.ref 82, w0, w1] σ := q_getf t91_114 mo91 F7_267 rfl rfl
theorem s91_114_o83 (d : Nat) (l0 : Value) (l1 : Value) (l2 : Value) (l3 : Value) (l4 : Value) (l5 : Value) (l6 : Value) (l7 : Value) (w0 w1 : Value) (σ : Hs) : ru d 91 114 [l0, l1, l2, l3, l4, l5, l6, l7] [.ref 83, w0, w1] σ = ru d 91 117 [l0, l1, l2, l3, l4, l5, l6, l7] [.ref 84, w0, w1] σ := q_getf t91_114 mo91 F7_267 rfl rfl
theorem t91_117 : decode (mb 91) 117 = .ok (.iload 4, 2) := by decide +kernel
theorem s91_117 (d : Nat) (l0 : Value) (l1 : Value) (l2 : Value) (l3 : Value) (i4 : Int32) (l5 : Value) (l6 : Value) (l7 : Value) (w0 w1 w2 : Value) (σ : Hs) : ru d 91 117 [l0, l1, l2, l3, .int i4, l5, l6, l7] [w0, w1, w2] σ = ru d 91 119 [l0, l1, l2, l3, .int i4, l5, l6, l7] [.int i4, w0, w1, w2] σ := q_iload t91_117 rfl
theorem t91_119 : decode (mb 91) 119 = .ok (.iload 5, 2) := by decide +kernel
theorem s91_119 (d : Nat) (l0 : Value) (l1 : Value) (l2 : Value) (l3 : Value) (l4 : Value) (i5 : Int32) (l6 : Value) (l7 : Value) (w0 w1 w2 w3 : Value) (σ : Hs) : ru d 91 119 [l0, l1, l2, l3, l4, .int i5, l6, l7] [w0, w1, w2, w3] σ = ru d 91 121 [l0, l1, l2, l3, l4, .int i5, l6, l7] [.int i5, w0, w1, w2, w3] σ := q_iload t91_119 rfl
theorem t91_121 : decode (mb 91) 121 = .ok (.invokestatic 270, 3) := by decide +kernel
theorem s91_121 (d : Nat) (l0 : Value) (l1 : Value) (l2 : Value) (l3 : Value) (l4 : Value) (l5 : Value) (l6 : Value) (l7 : Value) (n dp sp : Int32) (a b : Nat) (σ : Hs) : ru d 91 121 [l0, l1, l2, l3, l4, l5, l6, l7] [.int n, .int dp, .ref a, .int sp, .ref b] σ = gd (bndC σ a b sp dp n) (ru d 91 124 [l0, l1, l2, l3, l4, l5, l6, l7] [] (cp2 σ b a sp.toNatClampNeg dp.toNatClampNeg n.toNatClampNeg)) := q_acp t91_121 mo91 (by decide +kernel)
theorem t91_124 : decode (mb 91) 124 = .ok (.iload 5, 2) := by decide +kernel
theorem s91_124 (d : Nat) (l0 : Value) (l1 : Value) (l2 : Value) (l3 : Value) (l4 : Value) (i5 : Int32) (l6 : Value) (l7 : Value) (σ : Hs) : ru d 91 124 [l0, l1, l2, l3, l4, .int i5, l6, l7] [] σ = ru d 91 126 [l0, l1, l2, l3, l4, .int i5, l6, l7] [.int i5] σ := q_iload t91_124 rfl
theorem t91_126 : decode (mb 91) 126 = .ok (.ireturn, 1) := by decide +kernel
theorem s91_126 (d : Nat) (l0 : Value) (l1 : Value) (l2 : Value) (l3 : Value) (l4 : Value) (l5 : Value) (l6 : Value) (l7 : Value) (x : Int32) (σ : Hs) : ru d 91 126 [l0, l1, l2, l3, l4, l5, l6, l7] [.int x] σ = some (some (.int x), σ) := q_ireti t91_126 mr91
theorem c91 (d : Nat) (x0 : Nat) (x1 : Int32) (x2 : Int32) (x3 : Int32) (x4 : Int32) (x5 : Int32) (σ : Hs) : callD (d + 1) 91 [.ref x0, .int x1, .int x2, .int x3, .int x4, .int x5] σ = ru d 91 0 [.ref x0, .int x1, .int x2, .int x3, .int x4, .int x5, uu, uu] [] σ := callD_ru ml91 rfl rfl (Nat.le_of_ble_eq_true rfl)
-- 92: SmokyHeap.armfuls(I)I
theorem t92_0 : decode (mb 92) 0 = .ok (.iload_n 1, 1) := by decide +kernel
theorem s92_0 (d : Nat) (l0 : Value) (i1 : Int32) (l2 : Value) (l3 : Value) (l4 : Value) (σ : Hs) : ru d 92 0 [l0, .int i1, l2, l3, l4] [] σ = ru d 92 1 [l0, .int i1, l2, l3, l4] [.int i1] σ := q_iload_n t92_0 rfl
theorem t92_1 : decode (mb 92) 1 = .ok (.invokestatic 249, 3) := by decide +kernel
theorem s92_1 (d : Nat) (l0 : Value) (l1 : Value) (l2 : Value) (l3 : Value) (l4 : Value) (v0 : Value) (σ : Hs) : ru d 92 1 [l0, l1, l2, l3, l4] [v0] σ = kont (callD d 107 [v0] σ) d 92 4 [l0, l1, l2, l3, l4] [] := q_invs t92_1 mo92 (by decide +kernel) K7_249 mj107 (Nat.le_of_ble_eq_true rfl) rfl rfl (Nat.le_of_ble_eq_true rfl)
theorem t92_4 : decode (mb 92) 4 = .ok (.ifCond .ne 9, 3) := by decide +kernel
theorem s92_4 (d : Nat) (l0 : Value) (l1 : Value) (l2 : Value) (l3 : Value) (l4 : Value) (x : Int32) (σ : Hs) : ru d 92 4 [l0, l1, l2, l3, l4] [.int x] σ = if x = 0 then ru d 92 7 [l0, l1, l2, l3, l4] [] σ else ru d 92 13 [l0, l1, l2, l3, l4] [] σ := q_if_ne t92_4 (by decide +kernel)
theorem t92_7 : decode (mb 92) 7 = .ok (.aload_n 0, 1) := by decide +kernel
theorem s92_7 (d : Nat) (a0 : Nat) (l1 : Value) (l2 : Value) (l3 : Value) (l4 : Value) (σ : Hs) : ru d 92 7 [.ref a0, l1, l2, l3, l4] [] σ = ru d 92 8 [.ref a0, l1, l2, l3, l4] [.ref a0] σ := q_aload_n t92_7 rfl
theorem t92_8 : decode (mb 92) 8 = .ok (.iconst 1, 1) := by decide +kernel
theorem s92_8 (d : Nat) (l0 : Value) (l1 : Value) (l2 : Value) (l3 : Value) (l4 : Value) (w0 : Value) (σ : Hs) : ru d 92 8 [l0, l1, l2, l3, l4] [w0] σ = ru d 92 9 [l0, l1, l2, l3, l4] [.int 1, w0] σ := q_iconst t92_8 (by decide +kernel)
theorem t92_9 : decode (mb 92) 9 = .ok (.invokevirtual 65, 3) := by decide +kernel
theorem s92_9_o0 (d : Nat) (l0 : Value) (l1 : Value) (l2 : Value) (l3 : Value) (l4 : Value) (v1 : Value) (σ : Hs) : ru d 92 9 [l0, l1, l2, l3, l4] [v1, .ref 0] σ = kont (callD d 99 [.ref 0, v1] σ) d 92 12 [l0, l1, l2, l3, l4] [] := q_invv t92_9 mo92 K7_65 mj99 rfl rfl rfl rfl (Nat.le_of_ble_eq_true rfl)
theorem t92_12 : decode (mb 92) 12 = .ok (.ireturn, 1) := by decide +kernel
theorem s92_12 (d : Nat) (l0 : Value) (l1 : Value) (l2 : Value) (l3 : Value) (l4 : Value) (x : Int32) (σ : Hs) : ru d 92 12 [l0, l1, l2, l3, l4] [.int x] σ = some (some (.int x), σ) := q_ireti t92_12 mr92
theorem t92_13 : decode (mb 92) 13 = .ok (.aload_n 0, 1) := by decide +kernel
theorem s92_13 (d : Nat) (a0 : Nat) (l1 : Value) (l2 : Value) (l3 : Value) (l4 : Value) (σ : Hs) : ru d 92 13 [.ref a0, l1, l2, l3, l4] [] σ = ru d 92 14 [.ref a0, l1, l2, l3, l4] [.ref a0] σ := q_aload_n t92_13 rfl
theorem t92_14 : decode (mb 92) 14 = .ok (.getfield 42, 3) := by decide +kernel
theorem s92_14_o0 (d : Nat) (l0 : Value) (l1 : Value) (l2 : Value) (l3 : Value) (l4 : Value) (σ : Hs) : ru d 92 14 [l0, l1, l2, l3, l4] [.ref 0] σ = ru d 92 17 [l0, l1, l2, l3, l4] [.ref 76] σ := q_getf t92_14 mo92 F7_42 rfl rfl
theorem t92_17 : decode (mb 92) 17 = .ok (.iload_n 1, 1) := by decide +kernel
theorem s92_17 (d : Nat) (l0 : Value) (i1 : Int32) (l2 : Value) (l3 : Value) (l4 : Value) (w0 : Value) (σ : Hs) : ru d 92 17 [l0, .int i1, l2, l3, l4] [w0] σ = ru d 92 18 [l0, .int i1, l2, l3, l4] [.int i1, w0] σ := q_iload_n t92_17 rfl
theorem t92_18 : decode (mb 92) 18 = .ok (.aaload, 1) := by decide +kernel
theorem s92_18_o76 (d : Nat) (l0 : Value) (l1 : Value) (l2 : Value) (l3 : Value) (l4 : Value) (i : Int32) (σ : Hs) : ru d 92 18 [l0, l1, l2, l3, l4] [.int i, .ref 76] σ = gd (vp_in i 4) (ru d 92 19 [l0, l1, l2, l3, l4] [.ref (cr 76 i.toNatClampNeg)] σ) := q_aald t92_18 (by decide +kernel) (by decide +kernel) rfl
theorem t92_19 : decode (mb 92) 19 = .ok (.invokevirtual 255, 3) := by decide +kernel
theorem s92_19_o77 (d : Nat) (l0 : Value) (l1 : Value) (l2 : Value) (l3 : Value) (l4 : Value) (σ : Hs) : ru d 92 19 [l0, l1, l2, l3, l4] [.ref 77] σ = kont (callD d 46 [.ref 77] σ) d 92 22 [l0, l1, l2, l3, l4] [] := q_invv t92_19 mo92 K7_255 mj46 rfl rfl rfl rfl (Nat.le_of_ble_eq_true rfl)
theorem s92_19_o79 (d : Nat) (l0 : Value) (l1 : Value) (l2 : Value) (l3 : Value) (l4 : Value) (σ : Hs) : ru d 92 19 [l0, l1, l2, l3, l4] [.ref 79] σ = kont (callD d 46 [.ref 79] σ) d 92 22 [l0, l1, l2, l3, l4] [] := q_invv t92_19 mo92 K7_255 mj46 rfl rfl rfl rfl (Nat.le_of_ble_eq_true rfl)
theorem s92_19_o81 (d : Nat) (l0 : Value) (l1 : Value) (l2 : Value) (l3 : Value) (l4 : Value) (σ : Hs) : ru d 92 19 [l0, l1, l2, l3, l4] [.ref 81] σ = kont (callD d 46 [.ref 81] σ) d 92 22 [l0, l1, l2, l3, l4] [] := q_invv t92_19 mo92 K7_255 mj46 rfl rfl rfl rfl (Nat.le_of_ble_eq_true rfl)
theorem s92_19_o83 (d : Nat) (l0 : Value) (l1 : Value) (l2 : Value) (l3 : Value) (l4 : Value) (σ : Hs) : ru d 92 19 [l0, l1, l2, l3, l4] [.ref 83] σ = kont (callD d 46 [.ref 83] σ) d 92 22 [l0, l1, l2, l3, l4] [] := q_invv t92_19 mo92 K7_255 mj46 rfl rfl rfl rfl (Nat.le_of_ble_eq_true rfl)
theorem t92_22 : decode (mb 92) 22 = .ok (.ifCond .eq 9, 3) := by decide +kernel
theorem s92_22 (d : Nat) (l0 : Value) (l1 : Value) (l2 : Value) (l3 : Value) (l4 : Value) (x : Int32) (σ : Hs) : ru d 92 22 [l0, l1, l2, l3, l4] [.int x] σ = if x = 0 then ru d 92 31 [l0, l1, l2, l3, l4] [] σ else ru d 92 25 [l0, l1, l2, l3, l4] [] σ := q_if_eq t92_22 (by decide +kernel)
theorem t92_25 : decode (mb 92) 25 = .ok (.aload_n 0, 1) := by decide +kernel
theorem s92_25 (d : Nat) (a0 : Nat) (l1 : Value) (l2 : Value) (l3 : Value) (l4 : Value) (σ : Hs) : ru d 92 25 [.ref a0, l1, l2, l3, l4] [] σ = ru d 92 26 [.ref a0, l1, l2, l3, l4] [.ref a0] σ := q_aload_n t92_25 rfl
theorem t92_26 : decode (mb 92) 26 = .ok (.iconst 2, 1) := by decide +kernel
theorem s92_26 (d : Nat) (l0 : Value) (l1 : Value) (l2 : Value) (l3 : Value) (l4 : Value) (w0 : Value) (σ : Hs) : ru d 92 26 [l0, l1, l2, l3, l4] [w0] σ = ru d 92 27 [l0, l1, l2, l3, l4] [.int 2, w0] σ := q_iconst t92_26 (by decide +kernel)
theorem t92_27 : decode (mb 92) 27 = .ok (.invokevirtual 65, 3) := by decide +kernel
theorem s92_27_o0 (d : Nat) (l0 : Value) (l1 : Value) (l2 : Value) (l3 : Value) (l4 : Value) (v1 : Value) (σ : Hs) : ru d 92 27 [l0, l1, l2, l3, l4] [v1, .ref 0] σ = kont (callD d 99 [.ref 0, v1] σ) d 92 30 [l0, l1, l2, l3, l4] [] := q_invv t92_27 mo92 K7_65 mj99 rfl rfl rfl rfl (Nat.le_of_ble_eq_true rfl)
theorem t92_30 : decode (mb 92) 30 = .ok (.ireturn, 1) := by decide +kernel
theorem s92_30 (d : Nat) (l0 : Value) (l1 : Value) (l2 : Value) (l3 : Value) (l4 : Value) (x : Int32) (σ : Hs) : ru d 92 30 [l0, l1, l2, l3, l4] [.int x] σ = some (some (.int x), σ) := q_ireti t92_30 mr92
theorem t92_31 : decode (mb 92) 31 = .ok (.iconst 0, 1) := by decide +kernel
theorem s92_31 (d : Nat) (l0 : Value) (l1 : Value) (l2 : Value) (l3 : Value) (l4 : Value) (σ : Hs) : ru d 92 31 [l0, l1, l2, l3, l4] [] σ = ru d 92 32 [l0, l1, l2, l3, l4] [.int 0] σ := q_iconst t92_31 (by decide +kernel)
theorem t92_32 : decode (mb 92) 32 = .ok (.istore_n 2, 1) := by decide +kernel
theorem s92_32 (d : Nat) (l0 : Value) (i1 : Int32) (l2 : Value) (l3 : Value) (l4 : Value) (x : Int32) (σ : Hs) : ru d 92 32 [l0, .int i1, l2, l3, l4] [.int x] σ = ru d 92 33 [l0, .int i1, .int x, l3, l4] [] σ := q_istore_n t92_32 ⟨Nat.le_of_ble_eq_true rfl, rfl⟩ rfl
theorem t92_33 : decode (mb 92) 33 = .ok (.aload_n 0, 1) := by decide +kernel
theorem s92_33 (d : Nat) (a0 : Nat) (l1 : Value) (l2 : Value) (l3 : Value) (l4 : Value) (σ : Hs) : ru d 92 33 [.ref a0, l1, l2, l3, l4] [] σ = ru d 92 34 [.ref a0, l1, l2, l3, l4] [.ref a0] σ := q_aload_n t92_33 rfl
theorem t92_34 : decode (mb 92) 34 = .ok (.getfield 42, 3) := by decide +kernel
theorem s92_34_o0 (d : Nat) (l0 : Value) (l1 : Value) (l2 : Value) (l3 : Value) (l4 : Value) (σ : Hs) : ru d 92 34 [l0, l1, l2, l3, l4] [.ref 0] σ = ru d 92 37 [l0, l1, l2, l3, l4] [.ref 76] σ := q_getf t92_34 mo92 F7_42 rfl rfl
theorem t92_37 : decode (mb 92) 37 = .ok (.iload_n 1, 1) := by decide +kernel
theorem s92_37 (d : Nat) (l0 : Value) (i1 : Int32) (l2 : Value) (l3 : Value) (l4 : Value) (w0 : Value) (σ : Hs) : ru d 92 37 [l0, .int i1, l2, l3, l4] [w0] σ = ru d 92 38 [l0, .int i1, l2, l3, l4] [.int i1, w0] σ := q_iload_n t92_37 rfl
theorem t92_38 : decode (mb 92) 38 = .ok (.aaload, 1) := by decide +kernel
theorem s92_38_o76 (d : Nat) (l0 : Value) (l1 : Value) (l2 : Value) (l3 : Value) (l4 : Value) (i : Int32) (σ : Hs) : ru d 92 38 [l0, l1, l2, l3, l4] [.int i, .ref 76] σ = gd (vp_in i 4) (ru d 92 39 [l0, l1, l2, l3, l4] [.ref (cr 76 i.toNatClampNeg)] σ) := q_aald t92_38 (by decide +kernel) (by decide +kernel) rfl
theorem t92_39 : decode (mb 92) 39 = .ok (.getfield 267, 3) := by decide +kernel
theorem s92_39_o77 (d : Nat) (l0 : Value) (l1 : Value) (l2 : Value) (l3 : Value) (l4 : Value) (σ : Hs) : ru d 92 39 [l0, l1, l2, l3, l4] [.ref 77] σ = ru d 92 42 [l0, l1, l2, l3, l4] [.ref 78] σ := q_getf t92_39 mo92 F7_267 rfl rfl
theorem s92_39_o79 (d : Nat) (l0 : Value) (l1 : Value) (l2 : Value) (l3 : Value) (l4 : Value) (σ : Hs) : ru d 92 39 [l0, l1, l2, l3, l4] [.ref 79] σ = ru d 92 42 [l0, l1, l2, l3, l4] [.ref 80] σ := q_getf t92_39 mo92 F7_267 rfl rfl
theorem s92_39_o81 (d : Nat) (l0 : Value) (l1 : Value) (l2 : Value) (l3 : Value) (l4 : Value) (σ : Hs) : ru d 92 39 [l0, l1, l2, l3, l4] [.ref 81] σ = ru d 92 42 [l0, l1, l2, l3, l4] [.ref 82] σ := q_getf t92_39 mo92 F7_267 rfl rfl
theorem s92_39_o83 (d : Nat) (l0 : Value) (l1 : Value) (l2 : Value) (l3 : Value) (l4 : Value) (σ : Hs) : ru d 92 39 [l0, l1, l2, l3, l4] [.ref 83] σ = ru d 92 42 [l0, l1, l2, l3, l4] [.ref 84] σ := q_getf t92_39 mo92 F7_267 rfl rfl
theorem t92_42 : decode (mb 92) 42 = .ok (.astore_n 3, 1) := by decide +kernel
theorem s92_42 (d : Nat) (l0 : Value) (l1 : Value) (i2 : Int32) (l3 : Value) (l4 : Value) (x : Nat) (σ : Hs) : ru d 92 42 [l0, l1, .int i2, l3, l4] [.ref x] σ = ru d 92 43 [l0, l1, .int i2, .ref x, l4] [] σ := q_astore_n t92_42 ⟨Nat.le_of_ble_eq_true rfl, rfl⟩ rfl
theorem t92_43 : decode (mb 92) 43 = .ok (.iconst 0, 1) := by decide +kernel
theorem s92_43 (d : Nat) (l0 : Value) (l1 : Value) (l2 : Value) (l3 : Value) (l4 : Value) (σ : Hs) : ru d 92 43 [l0, l1, l2, l3, l4] [] σ = ru d 92 44 [l0, l1, l2, l3, l4] [.int 0] σ := q_iconst t92_43 (by decide +kernel)
theorem t92_44 : decode (mb 92) 44 = .ok (.istore 4, 2) := by decide +kernel
theorem s92_44 (d : Nat) (l0 : Value) (l1 : Value) (l2 : Value) (a3 : Nat) (l4 : Value) (x : Int32) (σ : Hs) : ru d 92 44 [l0, l1, l2, .ref a3, l4] [.int x] σ = ru d 92 46 [l0, l1, l2, .ref a3, .int x] [] σ := q_istore t92_44 ⟨Nat.le_of_ble_eq_true rfl, rfl⟩ rfl
theorem t92_46 : decode (mb 92) 46 = .ok (.iload 4, 2) := by decide +kernel
theorem s92_46 (d : Nat) (l0 : Value) (l1 : Value) (l2 : Value) (l3 : Value) (i4 : Int32) (σ : Hs) : ru d 92 46 [l0, l1, l2, l3, .int i4] [] σ = ru d 92 48 [l0, l1, l2, l3, .int i4] [.int i4] σ := q_iload t92_46 rfl
theorem t92_48 : decode (mb 92) 48 = .ok (.bipush 24, 2) := by decide +kernel
theorem s92_48 (d : Nat) (l0 : Value) (l1 : Value) (l2 : Value) (l3 : Value) (l4 : Value) (w0 : Value) (σ : Hs) : ru d 92 48 [l0, l1, l2, l3, l4] [w0] σ = ru d 92 50 [l0, l1, l2, l3, l4] [.int 24, w0] σ := q_bipush t92_48 (by decide +kernel)
theorem t92_50 : decode (mb 92) 50 = .ok (.if_icmp .ge 64, 3) := by decide +kernel
theorem s92_50 (d : Nat) (l0 : Value) (l1 : Value) (l2 : Value) (l3 : Value) (l4 : Value) (x y : Int32) (σ : Hs) : ru d 92 50 [l0, l1, l2, l3, l4] [.int y, .int x] σ = if y ≤ x then ru d 92 114 [l0, l1, l2, l3, l4] [] σ else ru d 92 53 [l0, l1, l2, l3, l4] [] σ := q_ic_ge t92_50 (by decide +kernel)
theorem t92_53 : decode (mb 92) 53 = .ok (.aload_n 0, 1) := by decide +kernel
theorem s92_53 (d : Nat) (a0 : Nat) (l1 : Value) (l2 : Value) (l3 : Value) (l4 : Value) (σ : Hs) : ru d 92 53 [.ref a0, l1, l2, l3, l4] [] σ = ru d 92 54 [.ref a0, l1, l2, l3, l4] [.ref a0] σ := q_aload_n t92_53 rfl
theorem t92_54 : decode (mb 92) 54 = .ok (.getfield 42, 3) := by decide +kernel
theorem s92_54_o0 (d : Nat) (l0 : Value) (l1 : Value) (l2 : Value) (l3 : Value) (l4 : Value) (σ : Hs) : ru d 92 54 [l0, l1, l2, l3, l4] [.ref 0] σ = ru d 92 57 [l0, l1, l2, l3, l4] [.ref 76] σ := q_getf t92_54 mo92 F7_42 rfl rfl
theorem t92_57 : decode (mb 92) 57 = .ok (.iload_n 1, 1) := by decide +kernel
theorem s92_57 (d : Nat) (l0 : Value) (i1 : Int32) (l2 : Value) (l3 : Value) (l4 : Value) (w0 : Value) (σ : Hs) : ru d 92 57 [l0, .int i1, l2, l3, l4] [w0] σ = ru d 92 58 [l0, .int i1, l2, l3, l4] [.int i1, w0] σ := q_iload_n t92_57 rfl
theorem t92_58 : decode (mb 92) 58 = .ok (.aaload, 1) := by decide +kernel
theorem s92_58_o76 (d : Nat) (l0 : Value) (l1 : Value) (l2 : Value) (l3 : Value) (l4 : Value) (i : Int32) (σ : Hs) : ru d 92 58 [l0, l1, l2, l3, l4] [.int i, .ref 76] σ = gd (vp_in i 4) (ru d 92 59 [l0, l1, l2, l3, l4] [.ref (cr 76 i.toNatClampNeg)] σ) := q_aald t92_58 (by decide +kernel) (by decide +kernel) rfl
theorem t92_59 : decode (mb 92) 59 = .ok (.iload 4, 2) := by decide +kernel
theorem s92_59 (d : Nat) (l0 : Value) (l1 : Value) (l2 : Value) (l3 : Value) (i4 : Int32) (w0 : Value) (σ : Hs) : ru d 92 59 [l0, l1, l2, l3, .int i4] [w0] σ = ru d 92 61 [l0, l1, l2, l3, .int i4] [.int i4, w0] σ := q_iload t92_59 rfl
theorem t92_61 : decode (mb 92) 61 = .ok (.iconst 4, 1) := by decide +kernel
theorem s92_61 (d : Nat) (l0 : Value) (l1 : Value) (l2 : Value) (l3 : Value) (l4 : Value) (w0 w1 : Value) (σ : Hs) : ru d 92 61 [l0, l1, l2, l3, l4] [w0, w1] σ = ru d 92 62 [l0, l1, l2, l3, l4] [.int 4, w0, w1] σ := q_iconst t92_61 (by decide +kernel)
theorem t92_62 : decode (mb 92) 62 = .ok (.invokevirtual 258, 3) := by decide +kernel
theorem s92_62_o77 (d : Nat) (l0 : Value) (l1 : Value) (l2 : Value) (l3 : Value) (l4 : Value) (v1 v2 : Value) (σ : Hs) : ru d 92 62 [l0, l1, l2, l3, l4] [v2, v1, .ref 77] σ = kont (callD d 48 [.ref 77, v1, v2] σ) d 92 65 [l0, l1, l2, l3, l4] [] := q_invv t92_62 mo92 K7_258 mj48 rfl rfl rfl rfl (Nat.le_of_ble_eq_true rfl)
theorem s92_62_o79 (d : Nat) (l0 : Value) (l1 : Value) (l2 : Value) (l3 : Value) (l4 : Value) (v1 v2 : Value) (σ : Hs) : ru d 92 62 [l0, l1, l2, l3, l4] [v2, v1, .ref 79] σ = kont (callD d 48 [.ref 79, v1, v2] σ) d 92 65 [l0, l1, l2, l3, l4] [] := q_invv t92_62 mo92 K7_258 mj48 rfl rfl rfl rfl (Nat.le_of_ble_eq_true rfl)
theorem s92_62_o81 (d : Nat) (l0 : Value) (l1 : Value) (l2 : Value) (l3 : Value) (l4 : Value) (v1 v2 : Value) (σ : Hs) : ru d 92 62 [l0, l1, l2, l3, l4] [v2, v1, .ref 81] σ = kont (callD d 48 [.ref 81, v1, v2] σ) d 92 65 [l0, l1, l2, l3, l4] [] := q_invv t92_62 mo92 K7_258 mj48 rfl rfl rfl rfl (Nat.le_of_ble_eq_true rfl)
theorem s92_62_o83 (d : Nat) (l0 : Value) (l1 : Value) (l2 : Value) (l3 : Value) (l4 : Value) (v1 v2 : Value) (σ : Hs) : ru d 92 62 [l0, l1, l2, l3, l4] [v2, v1, .ref 83] σ = kont (callD d 48 [.ref 83, v1, v2] σ) d 92 65 [l0, l1, l2, l3, l4] [] := q_invv t92_62 mo92 K7_258 mj48 rfl rfl rfl rfl (Nat.le_of_ble_eq_true rfl)
theorem t92_65 : decode (mb 92) 65 = .ok (.ifCond .eq 49, 3) := by decide +kernel
theorem s92_65 (d : Nat) (l0 : Value) (l1 : Value) (l2 : Value) (l3 : Value) (l4 : Value) (x : Int32) (σ : Hs) : ru d 92 65 [l0, l1, l2, l3, l4] [.int x] σ = if x = 0 then ru d 92 114 [l0, l1, l2, l3, l4] [] σ else ru d 92 68 [l0, l1, l2, l3, l4] [] σ := q_if_eq t92_65 (by decide +kernel)
theorem t92_68 : decode (mb 92) 68 = .ok (.aload_n 0, 1) := by decide +kernel
theorem s92_68 (d : Nat) (a0 : Nat) (l1 : Value) (l2 : Value) (l3 : Value) (l4 : Value) (σ : Hs) : ru d 92 68 [.ref a0, l1, l2, l3, l4] [] σ = ru d 92 69 [.ref a0, l1, l2, l3, l4] [.ref a0] σ := q_aload_n t92_68 rfl
theorem t92_69 : decode (mb 92) 69 = .ok (.getfield 10, 3) := by decide +kernel
theorem s92_69_o0 (d : Nat) (l0 : Value) (l1 : Value) (l2 : Value) (l3 : Value) (l4 : Value) (σ : Hs) : ru d 92 69 [l0, l1, l2, l3, l4] [.ref 0] σ = ru d 92 72 [l0, l1, l2, l3, l4] [.ref 1] σ := q_getf t92_69 mo92 F7_10 rfl rfl
theorem t92_72 : decode (mb 92) 72 = .ok (.getfield 58, 3) := by decide +kernel
theorem s92_72_o1 (d : Nat) (l0 : Value) (l1 : Value) (l2 : Value) (l3 : Value) (l4 : Value) (σ : Hs) : ru d 92 72 [l0, l1, l2, l3, l4] [.ref 1] σ = ru d 92 75 [l0, l1, l2, l3, l4] [.ref 2] σ := q_getf t92_72 mo92 F7_58 rfl rfl
theorem t92_75 : decode (mb 92) 75 = .ok (.aload_n 3, 1) := by decide +kernel
theorem s92_75 (d : Nat) (l0 : Value) (l1 : Value) (l2 : Value) (a3 : Nat) (l4 : Value) (w0 : Value) (σ : Hs) : ru d 92 75 [l0, l1, l2, .ref a3, l4] [w0] σ = ru d 92 76 [l0, l1, l2, .ref a3, l4] [.ref a3, w0] σ := q_aload_n t92_75 rfl
theorem t92_76 : decode (mb 92) 76 = .ok (.iload 4, 2) := by decide +kernel
theorem s92_76 (d : Nat) (l0 : Value) (l1 : Value) (l2 : Value) (l3 : Value) (i4 : Int32) (w0 w1 : Value) (σ : Hs) : ru d 92 76 [l0, l1, l2, l3, .int i4] [w0, w1] σ = ru d 92 78 [l0, l1, l2, l3, .int i4] [.int i4, w0, w1] σ := q_iload t92_76 rfl
theorem t92_78 : decode (mb 92) 78 = .ok (.iaload, 1) := by decide +kernel
theorem s92_78_o78 (d : Nat) (l0 : Value) (l1 : Value) (l2 : Value) (l3 : Value) (l4 : Value) (i : Int32) (w0 : Value) (σ : Hs) : ru d 92 78 [l0, l1, l2, l3, l4] [.int i, .ref 78, w0] σ = gd (vp_in i 24) (ru d 92 79 [l0, l1, l2, l3, l4] [.int (σ 78 i.toNatClampNeg), w0] σ) := q_iald t92_78 rfl (by decide +kernel) rfl
theorem s92_78_o80 (d : Nat) (l0 : Value) (l1 : Value) (l2 : Value) (l3 : Value) (l4 : Value) (i : Int32) (w0 : Value) (σ : Hs) : ru d 92 78 [l0, l1, l2, l3, l4] [.int i, .ref 80, w0] σ = gd (vp_in i 24) (ru d 92 79 [l0, l1, l2, l3, l4] [.int (σ 80 i.toNatClampNeg), w0] σ) := q_iald t92_78 rfl (by decide +kernel) rfl
theorem s92_78_o82 (d : Nat) (l0 : Value) (l1 : Value) (l2 : Value) (l3 : Value) (l4 : Value) (i : Int32) (w0 : Value) (σ : Hs) : ru d 92 78 [l0, l1, l2, l3, l4] [.int i, .ref 82, w0] σ = gd (vp_in i 24) (ru d 92 79 [l0, l1, l2, l3, l4] [.int (σ 82 i.toNatClampNeg), w0] σ) := q_iald t92_78 rfl (by decide +kernel) rfl
theorem s92_78_o84 (d : Nat) (l0 : Value) (l1 : Value) (l2 : Value) (l3 : Value) (l4 : Value) (i : Int32) (w0 : Value) (σ : Hs) : ru d 92 78 [l0, l1, l2, l3, l4] [.int i, .ref 84, w0] σ = gd (vp_in i 24) (ru d 92 79 [l0, l1, l2, l3, l4] [.int (σ 84 i.toNatClampNeg), w0] σ) := q_iald t92_78 rfl (by decide +kernel) rfl
theorem t92_79 : decode (mb 92) 79 = .ok (.aload_n 3, 1) := by decide +kernel
theorem s92_79 (d : Nat) (l0 : Value) (l1 : Value) (l2 : Value) (a3 : Nat) (l4 : Value) (w0 w1 : Value) (σ : Hs) : ru d 92 79 [l0, l1, l2, .ref a3, l4] [w0, w1] σ = ru d 92 80 [l0, l1, l2, .ref a3, l4] [.ref a3, w0, w1] σ := q_aload_n t92_79 rfl
theorem t92_80 : decode (mb 92) 80 = .ok (.iload 4, 2) := by decide +kernel
theorem s92_80 (d : Nat) (l0 : Value) (l1 : Value) (l2 : Value) (l3 : Value) (i4 : Int32) (w0 w1 w2 : Value) (σ : Hs) : ru d 92 80 [l0, l1, l2, l3, .int i4] [w0, w1, w2] σ = ru d 92 82 [l0, l1, l2, l3, .int i4] [.int i4, w0, w1, w2] σ := q_iload t92_80 rfl
theorem t92_82 : decode (mb 92) 82 = .ok (.iconst 1, 1) := by decide +kernel
theorem s92_82 (d : Nat) (l0 : Value) (l1 : Value) (l2 : Value) (l3 : Value) (l4 : Value) (w0 w1 w2 w3 : Value) (σ : Hs) : ru d 92 82 [l0, l1, l2, l3, l4] [w0, w1, w2, w3] σ = ru d 92 83 [l0, l1, l2, l3, l4] [.int 1, w0, w1, w2, w3] σ := q_iconst t92_82 (by decide +kernel)
theorem t92_83 : decode (mb 92) 83 = .ok (.iadd, 1) := by decide +kernel
theorem s92_83 (d : Nat) (l0 : Value) (l1 : Value) (l2 : Value) (l3 : Value) (l4 : Value) (x y : Int32) (w0 w1 w2 : Value) (σ : Hs) : ru d 92 83 [l0, l1, l2, l3, l4] [.int y, .int x, w0, w1, w2] σ = ru d 92 84 [l0, l1, l2, l3, l4] [.int (x + y), w0, w1, w2] σ := q_iadd t92_83
theorem t92_84 : decode (mb 92) 84 = .ok (.iaload, 1) := by decide +kernel
theorem s92_84_o78 (d : Nat) (l0 : Value) (l1 : Value) (l2 : Value) (l3 : Value) (l4 : Value) (i : Int32) (w0 w1 : Value) (σ : Hs) : ru d 92 84 [l0, l1, l2, l3, l4] [.int i, .ref 78, w0, w1] σ = gd (vp_in i 24) (ru d 92 85 [l0, l1, l2, l3, l4] [.int (σ 78 i.toNatClampNeg), w0, w1] σ) := q_iald t92_84 rfl (by decide +kernel) rfl
theorem s92_84_o80 (d : Nat) (l0 : Value) (l1 : Value) (l2 : Value) (l3 : Value) (l4 : Value) (i : Int32) (w0 w1 : Value) (σ : Hs) : ru d 92 84 [l0, l1, l2, l3, l4] [.int i, .ref 80, w0, w1] σ = gd (vp_in i 24) (ru d 92 85 [l0, l1, l2, l3, l4] [.int (σ 80 i.toNatClampNeg), w0, w1] σ) := q_iald t92_84 rfl (by decide +kernel) rfl
theorem s92_84_o82 (d : Nat) (l0 : Value) (l1 : Value) (l2 : Value) (l3 : Value) (l4 : Value) (i : Int32) (w0 w1 : Value) (σ : Hs) : ru d 92 84 [l0, l1, l2, l3, l4] [.int i, .ref 82, w0, w1] σ = gd (vp_in i 24) (ru d 92 85 [l0, l1, l2, l3, l4] [.int (σ 82 i.toNatClampNeg), w0, w1] σ) := q_iald t92_84 rfl (by decide +kernel) rfl
theorem s92_84_o84 (d : Nat) (l0 : Value) (l1 : Value) (l2 : Value) (l3 : Value) (l4 : Value) (i : Int32) (w0 w1 : Value) (σ : Hs) : ru d 92 84 [l0, l1, l2, l3, l4] [.int i, .ref 84, w0, w1] σ = gd (vp_in i 24) (ru d 92 85 [l0, l1, l2, l3, l4] [.int (σ 84 i.toNatClampNeg), w0, w1] σ) := q_iald t92_84 rfl (by decide +kernel) rfl
theorem t92_85 : decode (mb 92) 85 = .ok (.aload_n 3, 1) := by decide +kernel
theorem s92_85 (d : Nat) (l0 : Value) (l1 : Value) (l2 : Value) (a3 : Nat) (l4 : Value) (w0 w1 w2 : Value) (σ : Hs) : ru d 92 85 [l0, l1, l2, .ref a3, l4] [w0, w1, w2] σ = ru d 92 86 [l0, l1, l2, .ref a3, l4] [.ref a3, w0, w1, w2] σ := q_aload_n t92_85 rfl
theorem t92_86 : decode (mb 92) 86 = .ok (.iload 4, 2) := by decide +kernel
theorem s92_86 (d : Nat) (l0 : Value) (l1 : Value) (l2 : Value) (l3 : Value) (i4 : Int32) (w0 w1 w2 w3 : Value) (σ : Hs) : ru d 92 86 [l0, l1, l2, l3, .int i4] [w0, w1, w2, w3] σ = ru d 92 88 [l0, l1, l2, l3, .int i4] [.int i4, w0, w1, w2, w3] σ := q_iload t92_86 rfl
theorem t92_88 : decode (mb 92) 88 = .ok (.iconst 2, 1) := by decide +kernel
theorem s92_88 (d : Nat) (l0 : Value) (l1 : Value) (l2 : Value) (l3 : Value) (l4 : Value) (w0 w1 w2 w3 w4 : Value) (σ : Hs) : ru d 92 88 [l0, l1, l2, l3, l4] [w0, w1, w2, w3, w4] σ = ru d 92 89 [l0, l1, l2, l3, l4] [.int 2, w0, w1, w2, w3, w4] σ := q_iconst t92_88 (by decide +kernel)
theorem t92_89 : decode (mb 92) 89 = .ok (.iadd, 1) := by decide +kernel
theorem s92_89 (d : Nat) (l0 : Value) (l1 : Value) (l2 : Value) (l3 : Value) (l4 : Value) (x y : Int32) (w0 w1 w2 w3 : Value) (σ : Hs) : ru d 92 89 [l0, l1, l2, l3, l4] [.int y, .int x, w0, w1, w2, w3] σ = ru d 92 90 [l0, l1, l2, l3, l4] [.int (x + y), w0, w1, w2, w3] σ := q_iadd t92_89
theorem t92_90 : decode (mb 92) 90 = .ok (.iaload, 1) := by decide +kernel
theorem s92_90_o78 (d : Nat) (l0 : Value) (l1 : Value) (l2 : Value) (l3 : Value) (l4 : Value) (i : Int32) (w0 w1 w2 : Value) (σ : Hs) : ru d 92 90 [l0, l1, l2, l3, l4] [.int i, .ref 78, w0, w1, w2] σ = gd (vp_in i 24) (ru d 92 91 [l0, l1, l2, l3, l4] [.int (σ 78 i.toNatClampNeg), w0, w1, w2] σ) := q_iald t92_90 rfl (by decide +kernel) rfl
theorem s92_90_o80 (d : Nat) (l0 : Value) (l1 : Value) (l2 : Value) (l3 : Value) (l4 : Value) (i : Int32) (w0 w1 w2 : Value) (σ : Hs) : ru d 92 90 [l0, l1, l2, l3, l4] [.int i, .ref 80, w0, w1, w2] σ = gd (vp_in i 24) (ru d 92 91 [l0, l1, l2, l3, l4] [.int (σ 80 i.toNatClampNeg), w0, w1, w2] σ) := q_iald t92_90 rfl (by decide +kernel) rfl
theorem s92_90_o82 (d : Nat) (l0 : Value) (l1 : Value) (l2 : Value) (l3 : Value) (l4 : Value) (i : Int32) (w0 w1 w2 : Value) (σ : Hs) : ru d 92 90 [l0, l1, l2, l3, l4] [.int i, .ref 82, w0, w1, w2] σ = gd (vp_in i 24) (ru d 92 91 [l0, l1, l2, l3, l4] [.int (σ 82 i.toNatClampNeg), w0, w1, w2] σ) := q_iald t92_90 rfl (by decide +kernel) rfl
theorem s92_90_o84 (d : Nat) (l0 : Value) (l1 : Value) (l2 : Value) (l3 : Value) (l4 : Value) (i : Int32) (w0 w1 w2 : Value) (σ : Hs) : ru d 92 90 [l0, l1, l2, l3, l4] [.int i, .ref 84, w0, w1, w2] σ = gd (vp_in i 24) (ru d 92 91 [l0, l1, l2, l3, l4] [.int (σ 84 i.toNatClampNeg), w0, w1, w2] σ) := q_iald t92_90 rfl (by decide +kernel) rfl
theorem t92_91 : decode (mb 92) 91 = .ok (.aload_n 3, 1) := by decide +kernel
theorem s92_91 (d : Nat) (l0 : Value) (l1 : Value) (l2 : Value) (a3 : Nat) (l4 : Value) (w0 w1 w2 w3 : Value) (σ : Hs) : ru d 92 91 [l0, l1, l2, .ref a3, l4] [w0, w1, w2, w3] σ = ru d 92 92 [l0, l1, l2, .ref a3, l4] [.ref a3, w0, w1, w2, w3] σ := q_aload_n t92_91 rfl
theorem t92_92 : decode (mb 92) 92 = .ok (.iload 4, 2) := by decide +kernel
theorem s92_92 (d : Nat) (l0 : Value) (l1 : Value) (l2 : Value) (l3 : Value) (i4 : Int32) (w0 w1 w2 w3 w4 : Value) (σ : Hs) : ru d 92 92 [l0, l1, l2, l3, .int i4] [w0, w1, w2, w3, w4] σ = ru d 92 94 [l0, l1, l2, l3, .int i4] [.int i4, w0, w1, w2, w3, w4] σ := q_iload t92_92 rfl
theorem t92_94 : decode (mb 92) 94 = .ok (.iconst 3, 1) := by decide +kernel
theorem s92_94 (d : Nat) (l0 : Value) (l1 : Value) (l2 : Value) (l3 : Value) (l4 : Value) (w0 w1 w2 w3 w4 w5 : Value) (σ : Hs) : ru d 92 94 [l0, l1, l2, l3, l4] [w0, w1, w2, w3, w4, w5] σ = ru d 92 95 [l0, l1, l2, l3, l4] [.int 3, w0, w1, w2, w3, w4, w5] σ := q_iconst t92_94 (by decide +kernel)
theorem t92_95 : decode (mb 92) 95 = .ok (.iadd, 1) := by decide +kernel
theorem s92_95 (d : Nat) (l0 : Value) (l1 : Value) (l2 : Value) (l3 : Value) (l4 : Value) (x y : Int32) (w0 w1 w2 w3 w4 : Value) (σ : Hs) : ru d 92 95 [l0, l1, l2, l3, l4] [.int y, .int x, w0, w1, w2, w3, w4] σ = ru d 92 96 [l0, l1, l2, l3, l4] [.int (x + y), w0, w1, w2, w3, w4] σ := q_iadd t92_95
theorem t92_96 : decode (mb 92) 96 = .ok (.iaload, 1) := by decide +kernel
theorem s92_96_o78 (d : Nat) (l0 : Value) (l1 : Value) (l2 : Value) (l3 : Value) (l4 : Value) (i : Int32) (w0 w1 w2 w3 : Value) (σ : Hs) : ru d 92 96 [l0, l1, l2, l3, l4] [.int i, .ref 78, w0, w1, w2, w3] σ = gd (vp_in i 24) (ru d 92 97 [l0, l1, l2, l3, l4] [.int (σ 78 i.toNatClampNeg), w0, w1, w2, w3] σ) := q_iald t92_96 rfl (by decide +kernel) rfl
theorem s92_96_o80 (d : Nat) (l0 : Value) (l1 : Value) (l2 : Value) (l3 : Value) (l4 : Value) (i : Int32) (w0 w1 w2 w3 : Value) (σ : Hs) : ru d 92 96 [l0, l1, l2, l3, l4] [.int i, .ref 80, w0, w1, w2, w3] σ = gd (vp_in i 24) (ru d 92 97 [l0, l1, l2, l3, l4] [.int (σ 80 i.toNatClampNeg), w0, w1, w2, w3] σ) := q_iald t92_96 rfl (by decide +kernel) rfl
theorem s92_96_o82 (d : Nat) (l0 : Value) (l1 : Value) (l2 : Value) (l3 : Value) (l4 : Value) (i : Int32) (w0 w1 w2 w3 : Value) (σ : Hs) : ru d 92 96 [l0, l1, l2, l3, l4] [.int i, .ref 82, w0, w1, w2, w3] σ = gd (vp_in i 24) (ru d 92 97 [l0, l1, l2, l3, l4] [.int (σ 82 i.toNatClampNeg), w0, w1, w2, w3] σ) := q_iald t92_96 rfl (by decide +kernel) rfl
theorem s92_96_o84 (d : Nat) (l0 : Value) (l1 : Value) (l2 : Value) (l3 : Value) (l4 : Value) (i : Int32) (w0 w1 w2 w3 : Value) (σ : Hs) : ru d 92 96 [l0, l1, l2, l3, l4] [.int i, .ref 84, w0, w1, w2, w3] σ = gd (vp_in i 24) (ru d 92 97 [l0, l1, l2, l3, l4] [.int (σ 84 i.toNatClampNeg), w0, w1, w2, w3] σ) := q_iald t92_96 rfl (by decide +kernel) rfl
theorem t92_97 : decode (mb 92) 97 = .ok (.invokevirtual 61, 3) := by decide +kernel
theorem s92_97_o2 (d : Nat) (l0 : Value) (l1 : Value) (l2 : Value) (l3 : Value) (l4 : Value) (v1 v2 v3 v4 : Value) (σ : Hs) : ru d 92 97 [l0, l1, l2, l3, l4] [v4, v3, v2, v1, .ref 2] σ = kont (callD d 2 [.ref 2, v1, v2, v3, v4] σ) d 92 100 [l0, l1, l2, l3, l4] [] := q_invv t92_97 mo92 K7_61 mj2 rfl rfl rfl rfl (Nat.le_of_ble_eq_true rfl)
theorem t92_100 : decode (mb 92) 100 = .ok (.ifCond .ge 5, 3) := by decide +kernel
theorem s92_100 (d : Nat) (l0 : Value) (l1 : Value) (l2 : Value) (l3 : Value) (l4 : Value) (x : Int32) (σ : Hs) : ru d 92 100 [l0, l1, l2, l3, l4] [.int x] σ = if 0 ≤ x then ru d 92 105 [l0, l1, l2, l3, l4] [] σ else ru d 92 103 [l0, l1, l2, l3, l4] [] σ := q_if_ge t92_100 (by decide +kernel)
theorem t92_103 : decode (mb 92) 103 = .ok (.iload_n 2, 1) := by decide +kernel
theorem s92_103 (d : Nat) (l0 : Value) (l1 : Value) (i2 : Int32) (l3 : Value) (l4 : Value) (σ : Hs) : ru d 92 103 [l0, l1, .int i2, l3, l4] [] σ = ru d 92 104 [l0, l1, .int i2, l3, l4] [.int i2] σ := q_iload_n t92_103 rfl
theorem t92_104 : decode (mb 92) 104 = .ok (.ireturn, 1) := by decide +kernel
theorem s92_104 (d : Nat) (l0 : Value) (l1 : Value) (l2 : Value) (l3 : Value) (l4 : Value) (x : Int32) (σ : Hs) : ru d 92 104 [l0, l1, l2, l3, l4] [.int x] σ = some (some (.int x), σ) := q_ireti t92_104 mr92
theorem t92_105 : decode (mb 92) 105 = .ok (.iinc 2 1, 3) := by decide +kernel
theorem s92_105 (d : Nat) (l0 : Value) (i1 : Int32) (i2 : Int32) (l3 : Value) (l4 : Value) (σ : Hs) : ru d 92 105 [l0, .int i1, .int i2, l3, l4] [] σ = ru d 92 108 [l0, .int i1, .int (i2 + 1), l3, l4] [] σ := q_iinc t92_105 ⟨Nat.le_of_ble_eq_true rfl, rfl⟩ rfl (by decide +kernel) rfl
theorem t92_108 : decode (mb 92) 108 = .ok (.iinc 4 4, 3) := by decide +kernel
theorem s92_108 (d : Nat) (l0 : Value) (l1 : Value) (l2 : Value) (a3 : Nat) (i4 : Int32) (σ : Hs) : ru d 92 108 [l0, l1, l2, .ref a3, .int i4] [] σ = ru d 92 111 [l0, l1, l2, .ref a3, .int (i4 + 4)] [] σ := q_iinc t92_108 ⟨Nat.le_of_ble_eq_true rfl, rfl⟩ rfl (by decide +kernel) rfl
theorem t92_111 : decode (mb 92) 111 = .ok (.goto (-65), 3) := by decide +kernel
theorem s92_111 (d : Nat) (l0 : Value) (l1 : Value) (l2 : Value) (l3 : Value) (l4 : Value) (σ : Hs) : ru d 92 111 [l0, l1, l2, l3, l4] [] σ = ru d 92 46 [l0, l1, l2, l3, l4] [] σ := q_goto t92_111 (by decide +kernel)
theorem t92_114 : decode (mb 92) 114 = .ok (.iload_n 2, 1) := by decide +kernel
theorem s92_114 (d : Nat) (l0 : Value) (l1 : Value) (i2 : Int32) (l3 : Value) (l4 : Value) (σ : Hs) : ru d 92 114 [l0, l1, .int i2, l3, l4] [] σ = ru d 92 115 [l0, l1, .int i2, l3, l4] [.int i2] σ := q_iload_n t92_114 rfl
theorem t92_115 : decode (mb 92) 115 = .ok (.ireturn, 1) := by decide +kernel
theorem s92_115 (d : Nat) (l0 : Value) (l1 : Value) (l2 : Value) (l3 : Value) (l4 : Value) (x : Int32) (σ : Hs) : ru d 92 115 [l0, l1, l2, l3, l4] [.int x] σ = some (some (.int x), σ) := q_ireti t92_115 mr92
theorem c92 (d : Nat) (x0 : Nat) (x1 : Int32) (σ : Hs) : callD (d + 1) 92 [.ref x0, .int x1] σ = ru d 92 0 [.ref x0, .int x1, uu, uu, uu] [] σ := callD_ru ml92 rfl rfl (Nat.le_of_ble_eq_true rfl)
-- 93: SmokyHeap.image()I
theorem t93_0 : decode (mb 93) 0 = .ok (.aload_n 0, 1) := by decide +kernel
theorem s93_0 (d : Nat) (a0 : Nat) (σ : Hs) : ru d 93 0 [.ref a0] [] σ = ru d 93 1 [.ref a0] [.ref a0] σ := q_aload_n t93_0 rfl
theorem t93_1 : decode (mb 93) 1 = .ok (.getfield 16, 3) := by decide +kernel
theorem s93_1_o0 (d : Nat) (l0 : Value) (σ : Hs) : ru d 93 1 [l0] [.ref 0] σ = ru d 93 4 [l0] [.ref 30] σ := q_getf t93_1 mo93 F7_16 rfl rfl
theorem t93_4 : decode (mb 93) 4 = .ok (.aload_n 0, 1) := by decide +kernel
theorem s93_4 (d : Nat) (a0 : Nat) (w0 : Value) (σ : Hs) : ru d 93 4 [.ref a0] [w0] σ = ru d 93 5 [.ref a0] [.ref a0, w0] σ := q_aload_n t93_4 rfl
theorem t93_5 : decode (mb 93) 5 = .ok (.getfield 10, 3) := by decide +kernel
theorem s93_5_o0 (d : Nat) (l0 : Value) (w0 : Value) (σ : Hs) : ru d 93 5 [l0] [.ref 0, w0] σ = ru d 93 8 [l0] [.ref 1, w0] σ := q_getf t93_5 mo93 F7_10 rfl rfl
theorem t93_8 : decode (mb 93) 8 = .ok (.invokevirtual 276, 3) := by decide +kernel
theorem s93_8_o30 (d : Nat) (l0 : Value) (v1 : Value) (σ : Hs) : ru d 93 8 [l0] [v1, .ref 30] σ = kont (callD d 50 [.ref 30, v1] σ) d 93 11 [l0] [] := q_invv t93_8 mo93 K7_276 mj50 rfl rfl rfl rfl (Nat.le_of_ble_eq_true rfl)
theorem t93_11 : decode (mb 93) 11 = .ok (.aload_n 0, 1) := by decide +kernel
theorem s93_11 (d : Nat) (a0 : Nat) (σ : Hs) : ru d 93 11 [.ref a0] [] σ = ru d 93 12 [.ref a0] [.ref a0] σ := q_aload_n t93_11 rfl
theorem t93_12 : decode (mb 93) 12 = .ok (.dup, 1) := by decide +kernel
theorem s93_12 (d : Nat) (l0 : Value) (x : Nat) (σ : Hs) : ru d 93 12 [l0] [.ref x] σ = ru d 93 13 [l0] [.ref x, .ref x] σ := q_dup t93_12 rfl
theorem t93_13 : decode (mb 93) 13 = .ok (.getfield 54, 3) := by decide +kernel
theorem s93_13_o0 (d : Nat) (l0 : Value) (w0 : Value) (σ : Hs) : ru d 93 13 [l0] [.ref 0, w0] σ = ru d 93 16 [l0] [.int (σ 0 8), w0] σ := q_getf t93_13 mo93 F7_54 rfl rfl
theorem t93_16 : decode (mb 93) 16 = .ok (.iconst 1, 1) := by decide +kernel
theorem s93_16 (d : Nat) (l0 : Value) (w0 w1 : Value) (σ : Hs) : ru d 93 16 [l0] [w0, w1] σ = ru d 93 17 [l0] [.int 1, w0, w1] σ := q_iconst t93_16 (by decide +kernel)
theorem t93_17 : decode (mb 93) 17 = .ok (.iadd, 1) := by decide +kernel
theorem s93_17 (d : Nat) (l0 : Value) (x y : Int32) (w0 : Value) (σ : Hs) : ru d 93 17 [l0] [.int y, .int x, w0] σ = ru d 93 18 [l0] [.int (x + y), w0] σ := q_iadd t93_17
theorem t93_18 : decode (mb 93) 18 = .ok (.putfield 54, 3) := by decide +kernel
theorem s93_18_o0 (d : Nat) (l0 : Value) (x : Int32) (σ : Hs) : ru d 93 18 [l0] [.int x, .ref 0] σ = ru d 93 21 [l0] [] (up2 σ 0 8 x) := q_puti t93_18 mo93 F7_54 (by decide +kernel) rfl rfl
theorem t93_21 : decode (mb 93) 21 = .ok (.aload_n 0, 1) := by decide +kernel
theorem s93_21 (d : Nat) (a0 : Nat) (σ : Hs) : ru d 93 21 [.ref a0] [] σ = ru d 93 22 [.ref a0] [.ref a0] σ := q_aload_n t93_21 rfl
theorem t93_22 : decode (mb 93) 22 = .ok (.getfield 54, 3) := by decide +kernel
theorem s93_22_o0 (d : Nat) (l0 : Value) (σ : Hs) : ru d 93 22 [l0] [.ref 0] σ = ru d 93 25 [l0] [.int (σ 0 8)] σ := q_getf t93_22 mo93 F7_54 rfl rfl
theorem t93_25 : decode (mb 93) 25 = .ok (.ireturn, 1) := by decide +kernel
theorem s93_25 (d : Nat) (l0 : Value) (x : Int32) (σ : Hs) : ru d 93 25 [l0] [.int x] σ = some (some (.int x), σ) := q_ireti t93_25 mr93
theorem c93 (d : Nat) (x0 : Nat) (σ : Hs) : callD (d + 1) 93 [.ref x0] σ = ru d 93 0 [.ref x0] [] σ := callD_ru ml93 rfl rfl (Nat.le_of_ble_eq_true rfl)
-- 94: SmokyHeap.restore()I
theorem t94_0 : decode (mb 94) 0 = .ok (.aload_n 0, 1) := by decide +kernel
theorem s94_0 (d : Nat) (a0 : Nat) (σ : Hs) : ru d 94 0 [.ref a0] [] σ = ru d 94 1 [.ref a0] [.ref a0] σ := q_aload_n t94_0 rfl
theorem t94_1 : decode (mb 94) 1 = .ok (.getfield 54, 3) := by decide +kernel
theorem s94_1_o0 (d : Nat) (l0 : Value) (σ : Hs) : ru d 94 1 [l0] [.ref 0] σ = ru d 94 4 [l0] [.int (σ 0 8)] σ := q_getf t94_1 mo94 F7_54 rfl rfl
theorem t94_4 : decode (mb 94) 4 = .ok (.ifCond .ne 9, 3) := by decide +kernel
theorem s94_4 (d : Nat) (l0 : Value) (x : Int32) (σ : Hs) : ru d 94 4 [l0] [.int x] σ = if x = 0 then ru d 94 7 [l0] [] σ else ru d 94 13 [l0] [] σ := q_if_ne t94_4 (by decide +kernel)
theorem t94_7 : decode (mb 94) 7 = .ok (.aload_n 0, 1) := by decide +kernel
theorem s94_7 (d : Nat) (a0 : Nat) (σ : Hs) : ru d 94 7 [.ref a0] [] σ = ru d 94 8 [.ref a0] [.ref a0] σ := q_aload_n t94_7 rfl
theorem t94_8 : decode (mb 94) 8 = .ok (.iconst 2, 1) := by decide +kernel
theorem s94_8 (d : Nat) (l0 : Value) (w0 : Value) (σ : Hs) : ru d 94 8 [l0] [w0] σ = ru d 94 9 [l0] [.int 2, w0] σ := q_iconst t94_8 (by decide +kernel)
theorem t94_9 : decode (mb 94) 9 = .ok (.invokevirtual 65, 3) := by decide +kernel
theorem s94_9_o0 (d : Nat) (l0 : Value) (v1 : Value) (σ : Hs) : ru d 94 9 [l0] [v1, .ref 0] σ = kont (callD d 99 [.ref 0, v1] σ) d 94 12 [l0] [] := q_invv t94_9 mo94 K7_65 mj99 rfl rfl rfl rfl (Nat.le_of_ble_eq_true rfl)
theorem t94_12 : decode (mb 94) 12 = .ok (.ireturn, 1) := by decide +kernel
theorem s94_12 (d : Nat) (l0 : Value) (x : Int32) (σ : Hs) : ru d 94 12 [l0] [.int x] σ = some (some (.int x), σ) := q_ireti t94_12 mr94
theorem t94_13 : decode (mb 94) 13 = .ok (.aload_n 0, 1) := by decide +kernel
theorem s94_13 (d : Nat) (a0 : Nat) (σ : Hs) : ru d 94 13 [.ref a0] [] σ = ru d 94 14 [.ref a0] [.ref a0] σ := q_aload_n t94_13 rfl
theorem t94_14 : decode (mb 94) 14 = .ok (.getfield 10, 3) := by decide +kernel
theorem s94_14_o0 (d : Nat) (l0 : Value) (σ : Hs) : ru d 94 14 [l0] [.ref 0] σ = ru d 94 17 [l0] [.ref 1] σ := q_getf t94_14 mo94 F7_10 rfl rfl
theorem t94_17 : decode (mb 94) 17 = .ok (.aload_n 0, 1) := by decide +kernel
theorem s94_17 (d : Nat) (a0 : Nat) (w0 : Value) (σ : Hs) : ru d 94 17 [.ref a0] [w0] σ = ru d 94 18 [.ref a0] [.ref a0, w0] σ := q_aload_n t94_17 rfl
theorem t94_18 : decode (mb 94) 18 = .ok (.getfield 16, 3) := by decide +kernel
theorem s94_18_o0 (d : Nat) (l0 : Value) (w0 : Value) (σ : Hs) : ru d 94 18 [l0] [.ref 0, w0] σ = ru d 94 21 [l0] [.ref 30, w0] σ := q_getf t94_18 mo94 F7_16 rfl rfl
theorem t94_21 : decode (mb 94) 21 = .ok (.invokevirtual 276, 3) := by decide +kernel
theorem s94_21_o1 (d : Nat) (l0 : Value) (v1 : Value) (σ : Hs) : ru d 94 21 [l0] [v1, .ref 1] σ = kont (callD d 50 [.ref 1, v1] σ) d 94 24 [l0] [] := q_invv t94_21 mo94 K7_276 mj50 rfl rfl rfl rfl (Nat.le_of_ble_eq_true rfl)
theorem t94_24 : decode (mb 94) 24 = .ok (.aload_n 0, 1) := by decide +kernel
theorem s94_24 (d : Nat) (a0 : Nat) (σ : Hs) : ru d 94 24 [.ref a0] [] σ = ru d 94 25 [.ref a0] [.ref a0] σ := q_aload_n t94_24 rfl
theorem t94_25 : decode (mb 94) 25 = .ok (.getfield 10, 3) := by decide +kernel
theorem s94_25_o0 (d : Nat) (l0 : Value) (σ : Hs) : ru d 94 25 [l0] [.ref 0] σ = ru d 94 28 [l0] [.ref 1] σ := q_getf t94_25 mo94 F7_10 rfl rfl
theorem t94_28 : decode (mb 94) 28 = .ok (.getfield 58, 3) := by decide +kernel
theorem s94_28_o1 (d : Nat) (l0 : Value) (σ : Hs) : ru d 94 28 [l0] [.ref 1] σ = ru d 94 31 [l0] [.ref 2] σ := q_getf t94_28 mo94 F7_58 rfl rfl
theorem t94_31 : decode (mb 94) 31 = .ok (.getfield 164, 3) := by decide +kernel
theorem s94_31_o2 (d : Nat) (l0 : Value) (σ : Hs) : ru d 94 31 [l0] [.ref 2] σ = ru d 94 34 [l0] [.int (σ 2 13)] σ := q_getf t94_31 mo94 F7_164 rfl rfl
theorem t94_34 : decode (mb 94) 34 = .ok (.ireturn, 1) := by decide +kernel
theorem s94_34 (d : Nat) (l0 : Value) (x : Int32) (σ : Hs) : ru d 94 34 [l0] [.int x] σ = some (some (.int x), σ) := q_ireti t94_34 mr94
theorem c94 (d : Nat) (x0 : Nat) (σ : Hs) : callD (d + 1) 94 [.ref x0] σ = ru d 94 0 [.ref x0] [] σ := callD_ru ml94 rfl rfl (Nat.le_of_ble_eq_true rfl)
-- 95: SmokyHeap.tell(I)I
theorem t95_0 : decode (mb 95) 0 = .ok (.aload_n 0, 1) := by decide +kernel
theorem s95_0 (d : Nat) (a0 : Nat) (l1 : Value) (σ : Hs) : ru d 95 0 [.ref a0, l1] [] σ = ru d 95 1 [.ref a0, l1] [.ref a0] σ := q_aload_n t95_0 rfl
theorem t95_1 : decode (mb 95) 1 = .ok (.getfield 10, 3) := by decide +kernel
theorem s95_1_o0 (d : Nat) (l0 : Value) (l1 : Value) (σ : Hs) : ru d 95 1 [l0, l1] [.ref 0] σ = ru d 95 4 [l0, l1] [.ref 1] σ := q_getf t95_1 mo95 F7_10 rfl rfl
theorem t95_4 : decode (mb 95) 4 = .ok (.getfield 279, 3) := by decide +kernel
theorem s95_4_o1 (d : Nat) (l0 : Value) (l1 : Value) (σ : Hs) : ru d 95 4 [l0, l1] [.ref 1] σ = ru d 95 7 [l0, l1] [.ref 28] σ := q_getf t95_4 mo95 F7_279 rfl rfl
theorem t95_7 : decode (mb 95) 7 = .ok (.iload_n 1, 1) := by decide +kernel
theorem s95_7 (d : Nat) (l0 : Value) (i1 : Int32) (w0 : Value) (σ : Hs) : ru d 95 7 [l0, .int i1] [w0] σ = ru d 95 8 [l0, .int i1] [.int i1, w0] σ := q_iload_n t95_7 rfl
theorem t95_8 : decode (mb 95) 8 = .ok (.invokevirtual 136, 3) := by decide +kernel
theorem s95_8_o28 (d : Nat) (l0 : Value) (l1 : Value) (v1 : Value) (σ : Hs) : ru d 95 8 [l0, l1] [v1, .ref 28] σ = kont (callD d 44 [.ref 28, v1] σ) d 95 11 [l0, l1] [] := q_invv t95_8 mo95 K7_136 mj44 rfl rfl rfl rfl (Nat.le_of_ble_eq_true rfl)
theorem t95_11 : decode (mb 95) 11 = .ok (.ifCond .eq 16, 3) := by decide +kernel
theorem s95_11 (d : Nat) (l0 : Value) (l1 : Value) (x : Int32) (σ : Hs) : ru d 95 11 [l0, l1] [.int x] σ = if x = 0 then ru d 95 27 [l0, l1] [] σ else ru d 95 14 [l0, l1] [] σ := q_if_eq t95_11 (by decide +kernel)
theorem t95_14 : decode (mb 95) 14 = .ok (.aload_n 0, 1) := by decide +kernel
theorem s95_14 (d : Nat) (a0 : Nat) (l1 : Value) (σ : Hs) : ru d 95 14 [.ref a0, l1] [] σ = ru d 95 15 [.ref a0, l1] [.ref a0] σ := q_aload_n t95_14 rfl
theorem t95_15 : decode (mb 95) 15 = .ok (.getfield 10, 3) := by decide +kernel
theorem s95_15_o0 (d : Nat) (l0 : Value) (l1 : Value) (σ : Hs) : ru d 95 15 [l0, l1] [.ref 0] σ = ru d 95 18 [l0, l1] [.ref 1] σ := q_getf t95_15 mo95 F7_10 rfl rfl
theorem t95_18 : decode (mb 95) 18 = .ok (.getfield 279, 3) := by decide +kernel
theorem s95_18_o1 (d : Nat) (l0 : Value) (l1 : Value) (σ : Hs) : ru d 95 18 [l0, l1] [.ref 1] σ = ru d 95 21 [l0, l1] [.ref 28] σ := q_getf t95_18 mo95 F7_279 rfl rfl
theorem t95_21 : decode (mb 95) 21 = .ok (.getfield 131, 3) := by decide +kernel
theorem s95_21_o28 (d : Nat) (l0 : Value) (l1 : Value) (σ : Hs) : ru d 95 21 [l0, l1] [.ref 28] σ = ru d 95 24 [l0, l1] [.int (σ 28 1)] σ := q_getf t95_21 mo95 F7_131 rfl rfl
theorem t95_24 : decode (mb 95) 24 = .ok (.goto 8, 3) := by decide +kernel
theorem s95_24 (d : Nat) (l0 : Value) (l1 : Value) (w0 : Value) (σ : Hs) : ru d 95 24 [l0, l1] [w0] σ = ru d 95 32 [l0, l1] [w0] σ := q_goto t95_24 (by decide +kernel)
theorem t95_27 : decode (mb 95) 27 = .ok (.aload_n 0, 1) := by decide +kernel
theorem s95_27 (d : Nat) (a0 : Nat) (l1 : Value) (σ : Hs) : ru d 95 27 [.ref a0, l1] [] σ = ru d 95 28 [.ref a0, l1] [.ref a0] σ := q_aload_n t95_27 rfl
theorem t95_28 : decode (mb 95) 28 = .ok (.iconst 4, 1) := by decide +kernel
theorem s95_28 (d : Nat) (l0 : Value) (l1 : Value) (w0 : Value) (σ : Hs) : ru d 95 28 [l0, l1] [w0] σ = ru d 95 29 [l0, l1] [.int 4, w0] σ := q_iconst t95_28 (by decide +kernel)
theorem t95_29 : decode (mb 95) 29 = .ok (.invokevirtual 65, 3) := by decide +kernel
theorem s95_29_o0 (d : Nat) (l0 : Value) (l1 : Value) (v1 : Value) (σ : Hs) : ru d 95 29 [l0, l1] [v1, .ref 0] σ = kont (callD d 99 [.ref 0, v1] σ) d 95 32 [l0, l1] [] := q_invv t95_29 mo95 K7_65 mj99 rfl rfl rfl rfl (Nat.le_of_ble_eq_true rfl)
theorem t95_32 : decode (mb 95) 32 = .ok (.ireturn, 1) := by decide +kernel
theorem s95_32 (d : Nat) (l0 : Value) (l1 : Value) (x : Int32) (σ : Hs) : ru d 95 32 [l0, l1] [.int x] σ = some (some (.int x), σ) := q_ireti t95_32 mr95
theorem c95 (d : Nat) (x0 : Nat) (x1 : Int32) (σ : Hs) : callD (d + 1) 95 [.ref x0, .int x1] σ = ru d 95 0 [.ref x0, .int x1] [] σ := callD_ru ml95 rfl rfl (Nat.le_of_ble_eq_true rfl)
-- 96: SmokyHeap.check(I)I
theorem t96_0 : decode (mb 96) 0 = .ok (.aload_n 0, 1) := by decide +kernel
theorem s96_0 (d : Nat) (a0 : Nat) (l1 : Value) (l2 : Value) (l3 : Value) (l4 : Value) (l5 : Value) (σ : Hs) : ru d 96 0 [.ref a0, l1, l2, l3, l4, l5] [] σ = ru d 96 1 [.ref a0, l1, l2, l3, l4, l5] [.ref a0] σ := q_aload_n t96_0 rfl
theorem t96_1 : decode (mb 96) 1 = .ok (.getfield 10, 3) := by decide +kernel
theorem s96_1_o0 (d : Nat) (l0 : Value) (l1 : Value) (l2 : Value) (l3 : Value) (l4 : Value) (l5 : Value) (σ : Hs) : ru d 96 1 [l0, l1, l2, l3, l4, l5] [.ref 0] σ = ru d 96 4 [l0, l1, l2, l3, l4, l5] [.ref 1] σ := q_getf t96_1 mo96 F7_10 rfl rfl
theorem t96_4 : decode (mb 96) 4 = .ok (.getfield 279, 3) := by decide +kernel
theorem s96_4_o1 (d : Nat) (l0 : Value) (l1 : Value) (l2 : Value) (l3 : Value) (l4 : Value) (l5 : Value) (σ : Hs) : ru d 96 4 [l0, l1, l2, l3, l4, l5] [.ref 1] σ = ru d 96 7 [l0, l1, l2, l3, l4, l5] [.ref 28] σ := q_getf t96_4 mo96 F7_279 rfl rfl
theorem t96_7 : decode (mb 96) 7 = .ok (.getfield 131, 3) := by decide +kernel
theorem s96_7_o28 (d : Nat) (l0 : Value) (l1 : Value) (l2 : Value) (l3 : Value) (l4 : Value) (l5 : Value) (σ : Hs) : ru d 96 7 [l0, l1, l2, l3, l4, l5] [.ref 28] σ = ru d 96 10 [l0, l1, l2, l3, l4, l5] [.int (σ 28 1)] σ := q_getf t96_7 mo96 F7_131 rfl rfl
theorem t96_10 : decode (mb 96) 10 = .ok (.istore_n 2, 1) := by decide +kernel
theorem s96_10 (d : Nat) (l0 : Value) (i1 : Int32) (l2 : Value) (l3 : Value) (l4 : Value) (l5 : Value) (x : Int32) (σ : Hs) : ru d 96 10 [l0, .int i1, l2, l3, l4, l5] [.int x] σ = ru d 96 11 [l0, .int i1, .int x, l3, l4, l5] [] σ := q_istore_n t96_10 ⟨Nat.le_of_ble_eq_true rfl, rfl⟩ rfl
theorem t96_11 : decode (mb 96) 11 = .ok (.aload_n 0, 1) := by decide +kernel
theorem s96_11 (d : Nat) (a0 : Nat) (l1 : Value) (l2 : Value) (l3 : Value) (l4 : Value) (l5 : Value) (σ : Hs) : ru d 96 11 [.ref a0, l1, l2, l3, l4, l5] [] σ = ru d 96 12 [.ref a0, l1, l2, l3, l4, l5] [.ref a0] σ := q_aload_n t96_11 rfl
theorem t96_12 : decode (mb 96) 12 = .ok (.getfield 10, 3) := by decide +kernel
theorem s96_12_o0 (d : Nat) (l0 : Value) (l1 : Value) (l2 : Value) (l3 : Value) (l4 : Value) (l5 : Value) (σ : Hs) : ru d 96 12 [l0, l1, l2, l3, l4, l5] [.ref 0] σ = ru d 96 15 [l0, l1, l2, l3, l4, l5] [.ref 1] σ := q_getf t96_12 mo96 F7_10 rfl rfl
theorem t96_15 : decode (mb 96) 15 = .ok (.getfield 279, 3) := by decide +kernel
theorem s96_15_o1 (d : Nat) (l0 : Value) (l1 : Value) (l2 : Value) (l3 : Value) (l4 : Value) (l5 : Value) (σ : Hs) : ru d 96 15 [l0, l1, l2, l3, l4, l5] [.ref 1] σ = ru d 96 18 [l0, l1, l2, l3, l4, l5] [.ref 28] σ := q_getf t96_15 mo96 F7_279 rfl rfl
theorem t96_18 : decode (mb 96) 18 = .ok (.iconst 0, 1) := by decide +kernel
theorem s96_18 (d : Nat) (l0 : Value) (l1 : Value) (l2 : Value) (l3 : Value) (l4 : Value) (l5 : Value) (w0 : Value) (σ : Hs) : ru d 96 18 [l0, l1, l2, l3, l4, l5] [w0] σ = ru d 96 19 [l0, l1, l2, l3, l4, l5] [.int 0, w0] σ := q_iconst t96_18 (by decide +kernel)
theorem t96_19 : decode (mb 96) 19 = .ok (.putfield 131, 3) := by decide +kernel
theorem s96_19_o28 (d : Nat) (l0 : Value) (l1 : Value) (l2 : Value) (l3 : Value) (l4 : Value) (l5 : Value) (x : Int32) (σ : Hs) : ru d 96 19 [l0, l1, l2, l3, l4, l5] [.int x, .ref 28] σ = ru d 96 22 [l0, l1, l2, l3, l4, l5] [] (up2 σ 28 1 x) := q_puti t96_19 mo96 F7_131 (by decide +kernel) rfl rfl
theorem t96_22 : decode (mb 96) 22 = .ok (.iload_n 1, 1) := by decide +kernel
theorem s96_22 (d : Nat) (l0 : Value) (i1 : Int32) (l2 : Value) (l3 : Value) (l4 : Value) (l5 : Value) (σ : Hs) : ru d 96 22 [l0, .int i1, l2, l3, l4, l5] [] σ = ru d 96 23 [l0, .int i1, l2, l3, l4, l5] [.int i1] σ := q_iload_n t96_22 rfl
theorem t96_23 : decode (mb 96) 23 = .ok (.iconst 0, 1) := by decide +kernel
theorem s96_23 (d : Nat) (l0 : Value) (l1 : Value) (l2 : Value) (l3 : Value) (l4 : Value) (l5 : Value) (w0 : Value) (σ : Hs) : ru d 96 23 [l0, l1, l2, l3, l4, l5] [w0] σ = ru d 96 24 [l0, l1, l2, l3, l4, l5] [.int 0, w0] σ := q_iconst t96_23 (by decide +kernel)
theorem t96_24 : decode (mb 96) 24 = .ok (.iconst 5, 1) := by decide +kernel
theorem s96_24 (d : Nat) (l0 : Value) (l1 : Value) (l2 : Value) (l3 : Value) (l4 : Value) (l5 : Value) (w0 w1 : Value) (σ : Hs) : ru d 96 24 [l0, l1, l2, l3, l4, l5] [w0, w1] σ = ru d 96 25 [l0, l1, l2, l3, l4, l5] [.int 5, w0, w1] σ := q_iconst t96_24 (by decide +kernel)
theorem t96_25 : decode (mb 96) 25 = .ok (.invokestatic 83, 3) := by decide +kernel
theorem s96_25 (d : Nat) (l0 : Value) (l1 : Value) (l2 : Value) (l3 : Value) (l4 : Value) (l5 : Value) (v0 v1 v2 : Value) (σ : Hs) : ru d 96 25 [l0, l1, l2, l3, l4, l5] [v2, v1, v0] σ = kont (callD d 102 [v0, v1, v2] σ) d 96 28 [l0, l1, l2, l3, l4, l5] [] := q_invs t96_25 mo96 (by decide +kernel) K7_83 mj102 (Nat.le_of_ble_eq_true rfl) rfl rfl (Nat.le_of_ble_eq_true rfl)
theorem t96_28 : decode (mb 96) 28 = .ok (.ifCond .ne 9, 3) := by decide +kernel
theorem s96_28 (d : Nat) (l0 : Value) (l1 : Value) (l2 : Value) (l3 : Value) (l4 : Value) (l5 : Value) (x : Int32) (σ : Hs) : ru d 96 28 [l0, l1, l2, l3, l4, l5] [.int x] σ = if x = 0 then ru d 96 31 [l0, l1, l2, l3, l4, l5] [] σ else ru d 96 37 [l0, l1, l2, l3, l4, l5] [] σ := q_if_ne t96_28 (by decide +kernel)
theorem t96_31 : decode (mb 96) 31 = .ok (.aload_n 0, 1) := by decide +kernel
theorem s96_31 (d : Nat) (a0 : Nat) (l1 : Value) (l2 : Value) (l3 : Value) (l4 : Value) (l5 : Value) (σ : Hs) : ru d 96 31 [.ref a0, l1, l2, l3, l4, l5] [] σ = ru d 96 32 [.ref a0, l1, l2, l3, l4, l5] [.ref a0] σ := q_aload_n t96_31 rfl
theorem t96_32 : decode (mb 96) 32 = .ok (.iconst 1, 1) := by decide +kernel
theorem s96_32 (d : Nat) (l0 : Value) (l1 : Value) (l2 : Value) (l3 : Value) (l4 : Value) (l5 : Value) (w0 : Value) (σ : Hs) : ru d 96 32 [l0, l1, l2, l3, l4, l5] [w0] σ = ru d 96 33 [l0, l1, l2, l3, l4, l5] [.int 1, w0] σ := q_iconst t96_32 (by decide +kernel)
theorem t96_33 : decode (mb 96) 33 = .ok (.invokevirtual 65, 3) := by decide +kernel
theorem s96_33_o0 (d : Nat) (l0 : Value) (l1 : Value) (l2 : Value) (l3 : Value) (l4 : Value) (l5 : Value) (v1 : Value) (σ : Hs) : ru d 96 33 [l0, l1, l2, l3, l4, l5] [v1, .ref 0] σ = kont (callD d 99 [.ref 0, v1] σ) d 96 36 [l0, l1, l2, l3, l4, l5] [] := q_invv t96_33 mo96 K7_65 mj99 rfl rfl rfl rfl (Nat.le_of_ble_eq_true rfl)
theorem t96_36 : decode (mb 96) 36 = .ok (.ireturn, 1) := by decide +kernel
theorem s96_36 (d : Nat) (l0 : Value) (l1 : Value) (l2 : Value) (l3 : Value) (l4 : Value) (l5 : Value) (x : Int32) (σ : Hs) : ru d 96 36 [l0, l1, l2, l3, l4, l5] [.int x] σ = some (some (.int x), σ) := q_ireti t96_36 mr96
theorem t96_37 : decode (mb 96) 37 = .ok (.aload_n 0, 1) := by decide +kernel
theorem s96_37 (d : Nat) (a0 : Nat) (l1 : Value) (l2 : Value) (l3 : Value) (l4 : Value) (l5 : Value) (σ : Hs) : ru d 96 37 [.ref a0, l1, l2, l3, l4, l5] [] σ = ru d 96 38 [.ref a0, l1, l2, l3, l4, l5] [.ref a0] σ := q_aload_n t96_37 rfl
theorem t96_38 : decode (mb 96) 38 = .ok (.getfield 10, 3) := by decide +kernel
theorem s96_38_o0 (d : Nat) (l0 : Value) (l1 : Value) (l2 : Value) (l3 : Value) (l4 : Value) (l5 : Value) (σ : Hs) : ru d 96 38 [l0, l1, l2, l3, l4, l5] [.ref 0] σ = ru d 96 41 [l0, l1, l2, l3, l4, l5] [.ref 1] σ := q_getf t96_38 mo96 F7_10 rfl rfl
theorem t96_41 : decode (mb 96) 41 = .ok (.getfield 58, 3) := by decide +kernel
theorem s96_41_o1 (d : Nat) (l0 : Value) (l1 : Value) (l2 : Value) (l3 : Value) (l4 : Value) (l5 : Value) (σ : Hs) : ru d 96 41 [l0, l1, l2, l3, l4, l5] [.ref 1] σ = ru d 96 44 [l0, l1, l2, l3, l4, l5] [.ref 2] σ := q_getf t96_41 mo96 F7_58 rfl rfl
theorem t96_44 : decode (mb 96) 44 = .ok (.iload_n 1, 1) := by decide +kernel
theorem s96_44 (d : Nat) (l0 : Value) (i1 : Int32) (l2 : Value) (l3 : Value) (l4 : Value) (l5 : Value) (w0 : Value) (σ : Hs) : ru d 96 44 [l0, .int i1, l2, l3, l4, l5] [w0] σ = ru d 96 45 [l0, .int i1, l2, l3, l4, l5] [.int i1, w0] σ := q_iload_n t96_44 rfl
theorem t96_45 : decode (mb 96) 45 = .ok (.invokevirtual 282, 3) := by decide +kernel
theorem s96_45_o2 (d : Nat) (l0 : Value) (l1 : Value) (l2 : Value) (l3 : Value) (l4 : Value) (l5 : Value) (v1 : Value) (σ : Hs) : ru d 96 45 [l0, l1, l2, l3, l4, l5] [v1, .ref 2] σ = kont (callD d 4 [.ref 2, v1] σ) d 96 48 [l0, l1, l2, l3, l4, l5] [] := q_invv t96_45 mo96 K7_282 mj4 rfl rfl rfl rfl (Nat.le_of_ble_eq_true rfl)
theorem t96_48 : decode (mb 96) 48 = .ok (.istore_n 3, 1) := by decide +kernel
theorem s96_48 (d : Nat) (l0 : Value) (l1 : Value) (i2 : Int32) (l3 : Value) (l4 : Value) (l5 : Value) (x : Int32) (σ : Hs) : ru d 96 48 [l0, l1, .int i2, l3, l4, l5] [.int x] σ = ru d 96 49 [l0, l1, .int i2, .int x, l4, l5] [] σ := q_istore_n t96_48 ⟨Nat.le_of_ble_eq_true rfl, rfl⟩ rfl
theorem t96_49 : decode (mb 96) 49 = .ok (.iload_n 2, 1) := by decide +kernel
theorem s96_49 (d : Nat) (l0 : Value) (l1 : Value) (i2 : Int32) (l3 : Value) (l4 : Value) (l5 : Value) (σ : Hs) : ru d 96 49 [l0, l1, .int i2, l3, l4, l5] [] σ = ru d 96 50 [l0, l1, .int i2, l3, l4, l5] [.int i2] σ := q_iload_n t96_49 rfl
theorem t96_50 : decode (mb 96) 50 = .ok (.iload_n 3, 1) := by decide +kernel
theorem s96_50 (d : Nat) (l0 : Value) (l1 : Value) (l2 : Value) (i3 : Int32) (l4 : Value) (l5 : Value) (w0 : Value) (σ : Hs) : ru d 96 50 [l0, l1, l2, .int i3, l4, l5] [w0] σ = ru d 96 51 [l0, l1, l2, .int i3, l4, l5] [.int i3, w0] σ := q_iload_n t96_50 rfl
theorem t96_51 : decode (mb 96) 51 = .ok (.invokestatic 285, 3) := by decide +kernel
theorem s96_51 (d : Nat) (l0 : Value) (l1 : Value) (l2 : Value) (l3 : Value) (l4 : Value) (l5 : Value) (x y : Int32) (σ : Hs) : ru d 96 51 [l0, l1, l2, l3, l4, l5] [.int y, .int x] σ = ru d 96 54 [l0, l1, l2, l3, l4, l5] [.int (jmin x y)] σ := q_mi t96_51 mo96 (by decide +kernel) (by decide +kernel) (by decide +kernel) (Nat.le_of_ble_eq_true rfl)
theorem t96_54 : decode (mb 96) 54 = .ok (.istore 4, 2) := by decide +kernel
theorem s96_54 (d : Nat) (l0 : Value) (l1 : Value) (l2 : Value) (i3 : Int32) (l4 : Value) (l5 : Value) (x : Int32) (σ : Hs) : ru d 96 54 [l0, l1, l2, .int i3, l4, l5] [.int x] σ = ru d 96 56 [l0, l1, l2, .int i3, .int x, l5] [] σ := q_istore t96_54 ⟨Nat.le_of_ble_eq_true rfl, rfl⟩ rfl
theorem t96_56 : decode (mb 96) 56 = .ok (.iconst 0, 1) := by decide +kernel
theorem s96_56 (d : Nat) (l0 : Value) (l1 : Value) (l2 : Value) (l3 : Value) (l4 : Value) (l5 : Value) (σ : Hs) : ru d 96 56 [l0, l1, l2, l3, l4, l5] [] σ = ru d 96 57 [l0, l1, l2, l3, l4, l5] [.int 0] σ := q_iconst t96_56 (by decide +kernel)
theorem t96_57 : decode (mb 96) 57 = .ok (.istore 5, 2) := by decide +kernel
theorem s96_57 (d : Nat) (l0 : Value) (l1 : Value) (l2 : Value) (l3 : Value) (i4 : Int32) (l5 : Value) (x : Int32) (σ : Hs) : ru d 96 57 [l0, l1, l2, l3, .int i4, l5] [.int x] σ = ru d 96 59 [l0, l1, l2, l3, .int i4, .int x] [] σ := q_istore t96_57 ⟨Nat.le_of_ble_eq_true rfl, rfl⟩ rfl
theorem t96_59 : decode (mb 96) 59 = .ok (.iload 5, 2) := by decide +kernel
theorem s96_59 (d : Nat) (l0 : Value) (l1 : Value) (l2 : Value) (l3 : Value) (l4 : Value) (i5 : Int32) (σ : Hs) : ru d 96 59 [l0, l1, l2, l3, l4, .int i5] [] σ = ru d 96 61 [l0, l1, l2, l3, l4, .int i5] [.int i5] σ := q_iload t96_59 rfl
theorem t96_61 : decode (mb 96) 61 = .ok (.iload 4, 2) := by decide +kernel
theorem s96_61 (d : Nat) (l0 : Value) (l1 : Value) (l2 : Value) (l3 : Value) (i4 : Int32) (l5 : Value) (w0 : Value) (σ : Hs) : ru d 96 61 [l0, l1, l2, l3, .int i4, l5] [w0] σ = ru d 96 63 [l0, l1, l2, l3, .int i4, l5] [.int i4, w0] σ := q_iload t96_61 rfl
theorem t96_63 : decode (mb 96) 63 = .ok (.if_icmp .ge 48, 3) := by decide +kernel
theorem s96_63 (d : Nat) (l0 : Value) (l1 : Value) (l2 : Value) (l3 : Value) (l4 : Value) (l5 : Value) (x y : Int32) (σ : Hs) : ru d 96 63 [l0, l1, l2, l3, l4, l5] [.int y, .int x] σ = if y ≤ x then ru d 96 111 [l0, l1, l2, l3, l4, l5] [] σ else ru d 96 66 [l0, l1, l2, l3, l4, l5] [] σ := q_ic_ge t96_63 (by decide +kernel)
theorem t96_66 : decode (mb 96) 66 = .ok (.aload_n 0, 1) := by decide +kernel
theorem s96_66 (d : Nat) (a0 : Nat) (l1 : Value) (l2 : Value) (l3 : Value) (l4 : Value) (l5 : Value) (σ : Hs) : ru d 96 66 [.ref a0, l1, l2, l3, l4, l5] [] σ = ru d 96 67 [.ref a0, l1, l2, l3, l4, l5] [.ref a0] σ := q_aload_n t96_66 rfl
theorem t96_67 : decode (mb 96) 67 = .ok (.getfield 10, 3) := by decide +kernel
theorem s96_67_o0 (d : Nat) (l0 : Value) (l1 : Value) (l2 : Value) (l3 : Value) (l4 : Value) (l5 : Value) (σ : Hs) : ru d 96 67 [l0, l1, l2, l3, l4, l5] [.ref 0] σ = ru d 96 70 [l0, l1, l2, l3, l4, l5] [.ref 1] σ := q_getf t96_67 mo96 F7_10 rfl rfl
theorem t96_70 : decode (mb 96) 70 = .ok (.getfield 279, 3) := by decide +kernel
theorem s96_70_o1 (d : Nat) (l0 : Value) (l1 : Value) (l2 : Value) (l3 : Value) (l4 : Value) (l5 : Value) (σ : Hs) : ru d 96 70 [l0, l1, l2, l3, l4, l5] [.ref 1] σ = ru d 96 73 [l0, l1, l2, l3, l4, l5] [.ref 28] σ := q_getf t96_70 mo96 F7_279 rfl rfl
theorem t96_73 : decode (mb 96) 73 = .ok (.getfield 246, 3) := by decide +kernel
theorem s96_73_o28 (d : Nat) (l0 : Value) (l1 : Value) (l2 : Value) (l3 : Value) (l4 : Value) (l5 : Value) (σ : Hs) : ru d 96 73 [l0, l1, l2, l3, l4, l5] [.ref 28] σ = ru d 96 76 [l0, l1, l2, l3, l4, l5] [.ref 29] σ := q_getf t96_73 mo96 F7_246 rfl rfl
theorem t96_76 : decode (mb 96) 76 = .ok (.iload 5, 2) := by decide +kernel
theorem s96_76 (d : Nat) (l0 : Value) (l1 : Value) (l2 : Value) (l3 : Value) (l4 : Value) (i5 : Int32) (w0 : Value) (σ : Hs) : ru d 96 76 [l0, l1, l2, l3, l4, .int i5] [w0] σ = ru d 96 78 [l0, l1, l2, l3, l4, .int i5] [.int i5, w0] σ := q_iload t96_76 rfl
theorem t96_78 : decode (mb 96) 78 = .ok (.iaload, 1) := by decide +kernel
theorem s96_78_o29 (d : Nat) (l0 : Value) (l1 : Value) (l2 : Value) (l3 : Value) (l4 : Value) (l5 : Value) (i : Int32) (σ : Hs) : ru d 96 78 [l0, l1, l2, l3, l4, l5] [.int i, .ref 29] σ = gd (vp_in i 24) (ru d 96 79 [l0, l1, l2, l3, l4, l5] [.int (σ 29 i.toNatClampNeg)] σ) := q_iald t96_78 rfl (by decide +kernel) rfl
theorem t96_79 : decode (mb 96) 79 = .ok (.aload_n 0, 1) := by decide +kernel
theorem s96_79 (d : Nat) (a0 : Nat) (l1 : Value) (l2 : Value) (l3 : Value) (l4 : Value) (l5 : Value) (w0 : Value) (σ : Hs) : ru d 96 79 [.ref a0, l1, l2, l3, l4, l5] [w0] σ = ru d 96 80 [.ref a0, l1, l2, l3, l4, l5] [.ref a0, w0] σ := q_aload_n t96_79 rfl
theorem t96_80 : decode (mb 96) 80 = .ok (.getfield 10, 3) := by decide +kernel
theorem s96_80_o0 (d : Nat) (l0 : Value) (l1 : Value) (l2 : Value) (l3 : Value) (l4 : Value) (l5 : Value) (w0 : Value) (σ : Hs) : ru d 96 80 [l0, l1, l2, l3, l4, l5] [.ref 0, w0] σ = ru d 96 83 [l0, l1, l2, l3, l4, l5] [.ref 1, w0] σ := q_getf t96_80 mo96 F7_10 rfl rfl
theorem t96_83 : decode (mb 96) 83 = .ok (.getfield 58, 3) := by decide +kernel
theorem s96_83_o1 (d : Nat) (l0 : Value) (l1 : Value) (l2 : Value) (l3 : Value) (l4 : Value) (l5 : Value) (w0 : Value) (σ : Hs) : ru d 96 83 [l0, l1, l2, l3, l4, l5] [.ref 1, w0] σ = ru d 96 86 [l0, l1, l2, l3, l4, l5] [.ref 2, w0] σ := q_getf t96_83 mo96 F7_58 rfl rfl
theorem t96_86 : decode (mb 96) 86 = .ok (.getfield 94, 3) := by decide +kernel
theorem s96_86_o2 (d : Nat) (l0 : Value) (l1 : Value) (l2 : Value) (l3 : Value) (l4 : Value) (l5 : Value) (w0 : Value) (σ : Hs) : ru d 96 86 [l0, l1, l2, l3, l4, l5] [.ref 2, w0] σ = ru d 96 89 [l0, l1, l2, l3, l4, l5] [.ref 3, w0] σ := q_getf t96_86 mo96 F7_94 rfl rfl
theorem t96_89 : decode (mb 96) 89 = .ok (.bipush 6, 2) := by decide +kernel
theorem s96_89 (d : Nat) (l0 : Value) (l1 : Value) (l2 : Value) (l3 : Value) (l4 : Value) (l5 : Value) (w0 w1 : Value) (σ : Hs) : ru d 96 89 [l0, l1, l2, l3, l4, l5] [w0, w1] σ = ru d 96 91 [l0, l1, l2, l3, l4, l5] [.int 6, w0, w1] σ := q_bipush t96_89 (by decide +kernel)
theorem t96_91 : decode (mb 96) 91 = .ok (.iload 5, 2) := by decide +kernel
theorem s96_91 (d : Nat) (l0 : Value) (l1 : Value) (l2 : Value) (l3 : Value) (l4 : Value) (i5 : Int32) (w0 w1 w2 : Value) (σ : Hs) : ru d 96 91 [l0, l1, l2, l3, l4, .int i5] [w0, w1, w2] σ = ru d 96 93 [l0, l1, l2, l3, l4, .int i5] [.int i5, w0, w1, w2] σ := q_iload t96_91 rfl
theorem t96_93 : decode (mb 96) 93 = .ok (.imul, 1) := by decide +kernel
theorem s96_93 (d : Nat) (l0 : Value) (l1 : Value) (l2 : Value) (l3 : Value) (l4 : Value) (l5 : Value) (x y : Int32) (w0 w1 : Value) (σ : Hs) : ru d 96 93 [l0, l1, l2, l3, l4, l5] [.int y, .int x, w0, w1] σ = ru d 96 94 [l0, l1, l2, l3, l4, l5] [.int (x * y), w0, w1] σ := q_imul t96_93
theorem t96_94 : decode (mb 96) 94 = .ok (.iload_n 1, 1) := by decide +kernel
theorem s96_94 (d : Nat) (l0 : Value) (i1 : Int32) (l2 : Value) (l3 : Value) (l4 : Value) (l5 : Value) (w0 w1 w2 : Value) (σ : Hs) : ru d 96 94 [l0, .int i1, l2, l3, l4, l5] [w0, w1, w2] σ = ru d 96 95 [l0, .int i1, l2, l3, l4, l5] [.int i1, w0, w1, w2] σ := q_iload_n t96_94 rfl
theorem t96_95 : decode (mb 96) 95 = .ok (.iadd, 1) := by decide +kernel
theorem s96_95 (d : Nat) (l0 : Value) (l1 : Value) (l2 : Value) (l3 : Value) (l4 : Value) (l5 : Value) (x y : Int32) (w0 w1 : Value) (σ : Hs) : ru d 96 95 [l0, l1, l2, l3, l4, l5] [.int y, .int x, w0, w1] σ = ru d 96 96 [l0, l1, l2, l3, l4, l5] [.int (x + y), w0, w1] σ := q_iadd t96_95
theorem t96_96 : decode (mb 96) 96 = .ok (.iaload, 1) := by decide +kernel
theorem s96_96_o3 (d : Nat) (l0 : Value) (l1 : Value) (l2 : Value) (l3 : Value) (l4 : Value) (l5 : Value) (i : Int32) (w0 : Value) (σ : Hs) : ru d 96 96 [l0, l1, l2, l3, l4, l5] [.int i, .ref 3, w0] σ = gd (vp_in i 30) (ru d 96 97 [l0, l1, l2, l3, l4, l5] [.int (σ 3 i.toNatClampNeg), w0] σ) := q_iald t96_96 rfl (by decide +kernel) rfl
theorem t96_97 : decode (mb 96) 97 = .ok (.if_icmp .eq 8, 3) := by decide +kernel
theorem s96_97 (d : Nat) (l0 : Value) (l1 : Value) (l2 : Value) (l3 : Value) (l4 : Value) (l5 : Value) (x y : Int32) (σ : Hs) : ru d 96 97 [l0, l1, l2, l3, l4, l5] [.int y, .int x] σ = if x = y then ru d 96 105 [l0, l1, l2, l3, l4, l5] [] σ else ru d 96 100 [l0, l1, l2, l3, l4, l5] [] σ := q_ic_eq t96_97 (by decide +kernel)
theorem t96_100 : decode (mb 96) 100 = .ok (.iconst 1, 1) := by decide +kernel
theorem s96_100 (d : Nat) (l0 : Value) (l1 : Value) (l2 : Value) (l3 : Value) (l4 : Value) (l5 : Value) (σ : Hs) : ru d 96 100 [l0, l1, l2, l3, l4, l5] [] σ = ru d 96 101 [l0, l1, l2, l3, l4, l5] [.int 1] σ := q_iconst t96_100 (by decide +kernel)
theorem t96_101 : decode (mb 96) 101 = .ok (.iload 5, 2) := by decide +kernel
theorem s96_101 (d : Nat) (l0 : Value) (l1 : Value) (l2 : Value) (l3 : Value) (l4 : Value) (i5 : Int32) (w0 : Value) (σ : Hs) : ru d 96 101 [l0, l1, l2, l3, l4, .int i5] [w0] σ = ru d 96 103 [l0, l1, l2, l3, l4, .int i5] [.int i5, w0] σ := q_iload t96_101 rfl
theorem t96_103 : decode (mb 96) 103 = .ok (.iadd, 1) := by decide +kernel
theorem s96_103 (d : Nat) (l0 : Value) (l1 : Value) (l2 : Value) (l3 : Value) (l4 : Value) (l5 : Value) (x y : Int32) (σ : Hs) : ru d 96 103 [l0, l1, l2, l3, l4, l5] [.int y, .int x] σ = ru d 96 104 [l0, l1, l2, l3, l4, l5] [.int (x + y)] σ := q_iadd t96_103
theorem t96_104 : decode (mb 96) 104 = .ok (.ireturn, 1) := by decide +kernel
theorem s96_104 (d : Nat) (l0 : Value) (l1 : Value) (l2 : Value) (l3 : Value) (l4 : Value) (l5 : Value) (x : Int32) (σ : Hs) : ru d 96 104 [l0, l1, l2, l3, l4, l5] [.int x] σ = some (some (.int x), σ) := q_ireti t96_104 mr96
theorem t96_105 : decode (mb 96) 105 = .ok (.iinc 5 1, 3) := by decide +kernel
theorem s96_105 (d : Nat) (l0 : Value) (l1 : Value) (l2 : Value) (l3 : Value) (i4 : Int32) (i5 : Int32) (σ : Hs) : ru d 96 105 [l0, l1, l2, l3, .int i4, .int i5] [] σ = ru d 96 108 [l0, l1, l2, l3, .int i4, .int (i5 + 1)] [] σ := q_iinc t96_105 ⟨Nat.le_of_ble_eq_true rfl, rfl⟩ rfl (by decide +kernel) rfl
theorem t96_108 : decode (mb 96) 108 = .ok (.goto (-49), 3) := by decide +kernel
theorem s96_108 (d : Nat) (l0 : Value) (l1 : Value) (l2 : Value) (l3 : Value) (l4 : Value) (l5 : Value) (σ : Hs) : ru d 96 108 [l0, l1, l2, l3, l4, l5] [] σ = ru d 96 59 [l0, l1, l2, l3, l4, l5] [] σ := q_goto t96_108 (by decide +kernel)
theorem t96_111 : decode (mb 96) 111 = .ok (.iload_n 2, 1) := by decide +kernel
theorem s96_111 (d : Nat) (l0 : Value) (l1 : Value) (i2 : Int32) (l3 : Value) (l4 : Value) (l5 : Value) (σ : Hs) : ru d 96 111 [l0, l1, .int i2, l3, l4, l5] [] σ = ru d 96 112 [l0, l1, .int i2, l3, l4, l5] [.int i2] σ := q_iload_n t96_111 rfl
theorem t96_112 : decode (mb 96) 112 = .ok (.iload_n 3, 1) := by decide +kernel
theorem s96_112 (d : Nat) (l0 : Value) (l1 : Value) (l2 : Value) (i3 : Int32) (l4 : Value) (l5 : Value) (w0 : Value) (σ : Hs) : ru d 96 112 [l0, l1, l2, .int i3, l4, l5] [w0] σ = ru d 96 113 [l0, l1, l2, .int i3, l4, l5] [.int i3, w0] σ := q_iload_n t96_112 rfl
theorem t96_113 : decode (mb 96) 113 = .ok (.if_icmp .ne 7, 3) := by decide +kernel
theorem s96_113 (d : Nat) (l0 : Value) (l1 : Value) (l2 : Value) (l3 : Value) (l4 : Value) (l5 : Value) (x y : Int32) (σ : Hs) : ru d 96 113 [l0, l1, l2, l3, l4, l5] [.int y, .int x] σ = if x = y then ru d 96 116 [l0, l1, l2, l3, l4, l5] [] σ else ru d 96 120 [l0, l1, l2, l3, l4, l5] [] σ := q_ic_ne t96_113 (by decide +kernel)
theorem t96_116 : decode (mb 96) 116 = .ok (.iconst 0, 1) := by decide +kernel
theorem s96_116 (d : Nat) (l0 : Value) (l1 : Value) (l2 : Value) (l3 : Value) (l4 : Value) (l5 : Value) (σ : Hs) : ru d 96 116 [l0, l1, l2, l3, l4, l5] [] σ = ru d 96 117 [l0, l1, l2, l3, l4, l5] [.int 0] σ := q_iconst t96_116 (by decide +kernel)
theorem t96_117 : decode (mb 96) 117 = .ok (.goto 7, 3) := by decide +kernel
theorem s96_117 (d : Nat) (l0 : Value) (l1 : Value) (l2 : Value) (l3 : Value) (l4 : Value) (l5 : Value) (w0 : Value) (σ : Hs) : ru d 96 117 [l0, l1, l2, l3, l4, l5] [w0] σ = ru d 96 124 [l0, l1, l2, l3, l4, l5] [w0] σ := q_goto t96_117 (by decide +kernel)
theorem t96_120 : decode (mb 96) 120 = .ok (.iconst 1, 1) := by decide +kernel
theorem s96_120 (d : Nat) (l0 : Value) (l1 : Value) (l2 : Value) (l3 : Value) (l4 : Value) (l5 : Value) (σ : Hs) : ru d 96 120 [l0, l1, l2, l3, l4, l5] [] σ = ru d 96 121 [l0, l1, l2, l3, l4, l5] [.int 1] σ := q_iconst t96_120 (by decide +kernel)
theorem t96_121 : decode (mb 96) 121 = .ok (.iload 4, 2) := by decide +kernel
theorem s96_121 (d : Nat) (l0 : Value) (l1 : Value) (l2 : Value) (l3 : Value) (i4 : Int32) (l5 : Value) (w0 : Value) (σ : Hs) : ru d 96 121 [l0, l1, l2, l3, .int i4, l5] [w0] σ = ru d 96 123 [l0, l1, l2, l3, .int i4, l5] [.int i4, w0] σ := q_iload t96_121 rfl
theorem t96_123 : decode (mb 96) 123 = .ok (.iadd, 1) := by decide +kernel
theorem s96_123 (d : Nat) (l0 : Value) (l1 : Value) (l2 : Value) (l3 : Value) (l4 : Value) (l5 : Value) (x y : Int32) (σ : Hs) : ru d 96 123 [l0, l1, l2, l3, l4, l5] [.int y, .int x] σ = ru d 96 124 [l0, l1, l2, l3, l4, l5] [.int (x + y)] σ := q_iadd t96_123
theorem t96_124 : decode (mb 96) 124 = .ok (.ireturn, 1) := by decide +kernel
theorem s96_124 (d : Nat) (l0 : Value) (l1 : Value) (l2 : Value) (l3 : Value) (l4 : Value) (l5 : Value) (x : Int32) (σ : Hs) : ru d 96 124 [l0, l1, l2, l3, l4, l5] [.int x] σ = some (some (.int x), σ) := q_ireti t96_124 mr96
theorem c96 (d : Nat) (x0 : Nat) (x1 : Int32) (σ : Hs) : callD (d + 1) 96 [.ref x0, .int x1] σ = ru d 96 0 [.ref x0, .int x1, uu, uu, uu, uu] [] σ := callD_ru ml96 rfl rfl (Nat.le_of_ble_eq_true rfl)
-- 97: SmokyHeap.count(I)I
theorem t97_0 : decode (mb 97) 0 = .ok (.iload_n 1, 1) := by decide +kernel
theorem s97_0 (d : Nat) (l0 : Value) (i1 : Int32) (σ : Hs) : ru d 97 0 [l0, .int i1] [] σ = ru d 97 1 [l0, .int i1] [.int i1] σ := q_iload_n t97_0 rfl
theorem t97_1 : decode (mb 97) 1 = .ok (.tableswitch 134 0 7 #[47, 58, 69, 80, 93, 104, 115, 126], 47) := by decide +kernel
theorem f97_1 (x : Int32) : (tsw 0 7 #[47, 58, 69, 80, 93, 104, 115, 126] 134 x.toInt).bind (tgt 1) = some (if x = 0 then 48 else (if x = 1 then 59 else (if x = 2 then 70 else (if x = 3 then 81 else (if x = 4 then 94 else (if x = 5 then 105 else (if x = 6 then 116 else (if x = 7 then 127 else 135)))))))) := by
  by_cases h0 : x = 0
  · subst h0; decide +kernel
  by_cases h1 : x = 1
  · subst h1; decide +kernel
  by_cases h2 : x = 2
  · subst h2; decide +kernel
  by_cases h3 : x = 3
  · subst h3; decide +kernel
  by_cases h4 : x = 4
  · subst h4; decide +kernel
  by_cases h5 : x = 5
  · subst h5; decide +kernel
  by_cases h6 : x = 6
  · subst h6; decide +kernel
  by_cases h7 : x = 7
  · subst h7; decide +kernel
  have e0 : ¬ x.toInt = 0 := fun h => h0 (Int32.toInt_inj.mp (h.trans (by decide +kernel)))
  have e1 : ¬ x.toInt = 1 := fun h => h1 (Int32.toInt_inj.mp (h.trans (by decide +kernel)))
  have e2 : ¬ x.toInt = 2 := fun h => h2 (Int32.toInt_inj.mp (h.trans (by decide +kernel)))
  have e3 : ¬ x.toInt = 3 := fun h => h3 (Int32.toInt_inj.mp (h.trans (by decide +kernel)))
  have e4 : ¬ x.toInt = 4 := fun h => h4 (Int32.toInt_inj.mp (h.trans (by decide +kernel)))
  have e5 : ¬ x.toInt = 5 := fun h => h5 (Int32.toInt_inj.mp (h.trans (by decide +kernel)))
  have e6 : ¬ x.toInt = 6 := fun h => h6 (Int32.toInt_inj.mp (h.trans (by decide +kernel)))
  have e7 : ¬ x.toInt = 7 := fun h => h7 (Int32.toInt_inj.mp (h.trans (by decide +kernel)))
  have e : x.toInt < 0 ∨ 7 < x.toInt := by omega
  unfold tsw
  rw [if_pos e, if_neg h0, if_neg h1, if_neg h2, if_neg h3, if_neg h4, if_neg h5, if_neg h6, if_neg h7]
  decide +kernel
theorem s97_1 (d : Nat) (l0 : Value) (l1 : Value) (x : Int32) (σ : Hs) : ru d 97 1 [l0, l1] [.int x] σ = if x = 0 then ru d 97 48 [l0, l1] [] σ else if x = 1 then ru d 97 59 [l0, l1] [] σ else if x = 2 then ru d 97 70 [l0, l1] [] σ else if x = 3 then ru d 97 81 [l0, l1] [] σ else if x = 4 then ru d 97 94 [l0, l1] [] σ else if x = 5 then ru d 97 105 [l0, l1] [] σ else if x = 6 then ru d 97 116 [l0, l1] [] σ else if x = 7 then ru d 97 127 [l0, l1] [] σ else ru d 97 135 [l0, l1] [] σ := by
  refine (q_tsw t97_1 (fun x => (if x = 0 then 48 else (if x = 1 then 59 else (if x = 2 then 70 else (if x = 3 then 81 else (if x = 4 then 94 else (if x = 5 then 105 else (if x = 6 then 116 else (if x = 7 then 127 else 135))))))))) (f97_1 x)).trans ?_
  by_cases h0 : x = 0
  · rw [if_pos h0, if_pos h0]
  rw [if_neg h0, if_neg h0]
  by_cases h1 : x = 1
  · rw [if_pos h1, if_pos h1]
  rw [if_neg h1, if_neg h1]
  by_cases h2 : x = 2
  · rw [if_pos h2, if_pos h2]
  rw [if_neg h2, if_neg h2]
  by_cases h3 : x = 3
  · rw [if_pos h3, if_pos h3]
  rw [if_neg h3, if_neg h3]
  by_cases h4 : x = 4
  · rw [if_pos h4, if_pos h4]
  rw [if_neg h4, if_neg h4]
  by_cases h5 : x = 5
  · rw [if_pos h5, if_pos h5]
  rw [if_neg h5, if_neg h5]
  by_cases h6 : x = 6
  · rw [if_pos h6, if_pos h6]
  rw [if_neg h6, if_neg h6]
  by_cases h7 : x = 7
  · rw [if_pos h7, if_pos h7]
  rw [if_neg h7, if_neg h7]
theorem t97_48 : decode (mb 97) 48 = .ok (.aload_n 0, 1) := by decide +kernel
theorem s97_48 (d : Nat) (a0 : Nat) (l1 : Value) (σ : Hs) : ru d 97 48 [.ref a0, l1] [] σ = ru d 97 49 [.ref a0, l1] [.ref a0] σ := q_aload_n t97_48 rfl
theorem t97_49 : decode (mb 97) 49 = .ok (.getfield 10, 3) := by decide +kernel
theorem s97_49_o0 (d : Nat) (l0 : Value) (l1 : Value) (σ : Hs) : ru d 97 49 [l0, l1] [.ref 0] σ = ru d 97 52 [l0, l1] [.ref 1] σ := q_getf t97_49 mo97 F7_10 rfl rfl
theorem t97_52 : decode (mb 97) 52 = .ok (.getfield 58, 3) := by decide +kernel
theorem s97_52_o1 (d : Nat) (l0 : Value) (l1 : Value) (σ : Hs) : ru d 97 52 [l0, l1] [.ref 1] σ = ru d 97 55 [l0, l1] [.ref 2] σ := q_getf t97_52 mo97 F7_58 rfl rfl
theorem t97_55 : decode (mb 97) 55 = .ok (.invokevirtual 290, 3) := by decide +kernel
theorem s97_55_o2 (d : Nat) (l0 : Value) (l1 : Value) (σ : Hs) : ru d 97 55 [l0, l1] [.ref 2] σ = kont (callD d 6 [.ref 2] σ) d 97 58 [l0, l1] [] := q_invv t97_55 mo97 K7_290 mj6 rfl rfl rfl rfl (Nat.le_of_ble_eq_true rfl)
theorem t97_58 : decode (mb 97) 58 = .ok (.ireturn, 1) := by decide +kernel
theorem s97_58 (d : Nat) (l0 : Value) (l1 : Value) (x : Int32) (σ : Hs) : ru d 97 58 [l0, l1] [.int x] σ = some (some (.int x), σ) := q_ireti t97_58 mr97
theorem t97_59 : decode (mb 97) 59 = .ok (.aload_n 0, 1) := by decide +kernel
theorem s97_59 (d : Nat) (a0 : Nat) (l1 : Value) (σ : Hs) : ru d 97 59 [.ref a0, l1] [] σ = ru d 97 60 [.ref a0, l1] [.ref a0] σ := q_aload_n t97_59 rfl
theorem t97_60 : decode (mb 97) 60 = .ok (.getfield 10, 3) := by decide +kernel
theorem s97_60_o0 (d : Nat) (l0 : Value) (l1 : Value) (σ : Hs) : ru d 97 60 [l0, l1] [.ref 0] σ = ru d 97 63 [l0, l1] [.ref 1] σ := q_getf t97_60 mo97 F7_10 rfl rfl
theorem t97_63 : decode (mb 97) 63 = .ok (.getfield 58, 3) := by decide +kernel
theorem s97_63_o1 (d : Nat) (l0 : Value) (l1 : Value) (σ : Hs) : ru d 97 63 [l0, l1] [.ref 1] σ = ru d 97 66 [l0, l1] [.ref 2] σ := q_getf t97_63 mo97 F7_58 rfl rfl
theorem t97_66 : decode (mb 97) 66 = .ok (.getfield 164, 3) := by decide +kernel
theorem s97_66_o2 (d : Nat) (l0 : Value) (l1 : Value) (σ : Hs) : ru d 97 66 [l0, l1] [.ref 2] σ = ru d 97 69 [l0, l1] [.int (σ 2 13)] σ := q_getf t97_66 mo97 F7_164 rfl rfl
theorem t97_69 : decode (mb 97) 69 = .ok (.ireturn, 1) := by decide +kernel
theorem s97_69 (d : Nat) (l0 : Value) (l1 : Value) (x : Int32) (σ : Hs) : ru d 97 69 [l0, l1] [.int x] σ = some (some (.int x), σ) := q_ireti t97_69 mr97
theorem t97_70 : decode (mb 97) 70 = .ok (.aload_n 0, 1) := by decide +kernel
theorem s97_70 (d : Nat) (a0 : Nat) (l1 : Value) (σ : Hs) : ru d 97 70 [.ref a0, l1] [] σ = ru d 97 71 [.ref a0, l1] [.ref a0] σ := q_aload_n t97_70 rfl
theorem t97_71 : decode (mb 97) 71 = .ok (.getfield 10, 3) := by decide +kernel
theorem s97_71_o0 (d : Nat) (l0 : Value) (l1 : Value) (σ : Hs) : ru d 97 71 [l0, l1] [.ref 0] σ = ru d 97 74 [l0, l1] [.ref 1] σ := q_getf t97_71 mo97 F7_10 rfl rfl
theorem t97_74 : decode (mb 97) 74 = .ok (.getfield 225, 3) := by decide +kernel
theorem s97_74_o1 (d : Nat) (l0 : Value) (l1 : Value) (σ : Hs) : ru d 97 74 [l0, l1] [.ref 1] σ = ru d 97 77 [l0, l1] [.ref 24] σ := q_getf t97_74 mo97 F7_225 rfl rfl
theorem t97_77 : decode (mb 97) 77 = .ok (.getfield 131, 3) := by decide +kernel
theorem s97_77_o24 (d : Nat) (l0 : Value) (l1 : Value) (σ : Hs) : ru d 97 77 [l0, l1] [.ref 24] σ = ru d 97 80 [l0, l1] [.int (σ 24 1)] σ := q_getf t97_77 mo97 F7_131 rfl rfl
theorem t97_80 : decode (mb 97) 80 = .ok (.ireturn, 1) := by decide +kernel
theorem s97_80 (d : Nat) (l0 : Value) (l1 : Value) (x : Int32) (σ : Hs) : ru d 97 80 [l0, l1] [.int x] σ = some (some (.int x), σ) := q_ireti t97_80 mr97
theorem t97_81 : decode (mb 97) 81 = .ok (.aload_n 0, 1) := by decide +kernel
theorem s97_81 (d : Nat) (a0 : Nat) (l1 : Value) (σ : Hs) : ru d 97 81 [.ref a0, l1] [] σ = ru d 97 82 [.ref a0, l1] [.ref a0] σ := q_aload_n t97_81 rfl
theorem t97_82 : decode (mb 97) 82 = .ok (.getfield 10, 3) := by decide +kernel
theorem s97_82_o0 (d : Nat) (l0 : Value) (l1 : Value) (σ : Hs) : ru d 97 82 [l0, l1] [.ref 0] σ = ru d 97 85 [l0, l1] [.ref 1] σ := q_getf t97_82 mo97 F7_10 rfl rfl
theorem t97_85 : decode (mb 97) 85 = .ok (.getfield 58, 3) := by decide +kernel
theorem s97_85_o1 (d : Nat) (l0 : Value) (l1 : Value) (σ : Hs) : ru d 97 85 [l0, l1] [.ref 1] σ = ru d 97 88 [l0, l1] [.ref 2] σ := q_getf t97_85 mo97 F7_58 rfl rfl
theorem t97_88 : decode (mb 97) 88 = .ok (.getfield 124, 3) := by decide +kernel
theorem s97_88_o2 (d : Nat) (l0 : Value) (l1 : Value) (σ : Hs) : ru d 97 88 [l0, l1] [.ref 2] σ = ru d 97 91 [l0, l1] [.ref 9] σ := q_getf t97_88 mo97 F7_124 rfl rfl
theorem t97_91 : decode (mb 97) 91 = .ok (.iconst 0, 1) := by decide +kernel
theorem s97_91 (d : Nat) (l0 : Value) (l1 : Value) (w0 : Value) (σ : Hs) : ru d 97 91 [l0, l1] [w0] σ = ru d 97 92 [l0, l1] [.int 0, w0] σ := q_iconst t97_91 (by decide +kernel)
theorem t97_92 : decode (mb 97) 92 = .ok (.iaload, 1) := by decide +kernel
theorem s97_92_o9 (d : Nat) (l0 : Value) (l1 : Value) (i : Int32) (σ : Hs) : ru d 97 92 [l0, l1] [.int i, .ref 9] σ = gd (vp_in i 5) (ru d 97 93 [l0, l1] [.int (σ 9 i.toNatClampNeg)] σ) := q_iald t97_92 rfl (by decide +kernel) rfl
theorem t97_93 : decode (mb 97) 93 = .ok (.ireturn, 1) := by decide +kernel
theorem s97_93 (d : Nat) (l0 : Value) (l1 : Value) (x : Int32) (σ : Hs) : ru d 97 93 [l0, l1] [.int x] σ = some (some (.int x), σ) := q_ireti t97_93 mr97
theorem t97_94 : decode (mb 97) 94 = .ok (.aload_n 0, 1) := by decide +kernel
theorem s97_94 (d : Nat) (a0 : Nat) (l1 : Value) (σ : Hs) : ru d 97 94 [.ref a0, l1] [] σ = ru d 97 95 [.ref a0, l1] [.ref a0] σ := q_aload_n t97_94 rfl
theorem t97_95 : decode (mb 97) 95 = .ok (.getfield 10, 3) := by decide +kernel
theorem s97_95_o0 (d : Nat) (l0 : Value) (l1 : Value) (σ : Hs) : ru d 97 95 [l0, l1] [.ref 0] σ = ru d 97 98 [l0, l1] [.ref 1] σ := q_getf t97_95 mo97 F7_10 rfl rfl
theorem t97_98 : decode (mb 97) 98 = .ok (.getfield 127, 3) := by decide +kernel
theorem s97_98_o1 (d : Nat) (l0 : Value) (l1 : Value) (σ : Hs) : ru d 97 98 [l0, l1] [.ref 1] σ = ru d 97 101 [l0, l1] [.ref 22] σ := q_getf t97_98 mo97 F7_127 rfl rfl
theorem t97_101 : decode (mb 97) 101 = .ok (.getfield 131, 3) := by decide +kernel
theorem s97_101_o22 (d : Nat) (l0 : Value) (l1 : Value) (σ : Hs) : ru d 97 101 [l0, l1] [.ref 22] σ = ru d 97 104 [l0, l1] [.int (σ 22 1)] σ := q_getf t97_101 mo97 F7_131 rfl rfl
theorem t97_104 : decode (mb 97) 104 = .ok (.ireturn, 1) := by decide +kernel
theorem s97_104 (d : Nat) (l0 : Value) (l1 : Value) (x : Int32) (σ : Hs) : ru d 97 104 [l0, l1] [.int x] σ = some (some (.int x), σ) := q_ireti t97_104 mr97
theorem t97_105 : decode (mb 97) 105 = .ok (.aload_n 0, 1) := by decide +kernel
theorem s97_105 (d : Nat) (a0 : Nat) (l1 : Value) (σ : Hs) : ru d 97 105 [.ref a0, l1] [] σ = ru d 97 106 [.ref a0, l1] [.ref a0] σ := q_aload_n t97_105 rfl
theorem t97_106 : decode (mb 97) 106 = .ok (.getfield 10, 3) := by decide +kernel
theorem s97_106_o0 (d : Nat) (l0 : Value) (l1 : Value) (σ : Hs) : ru d 97 106 [l0, l1] [.ref 0] σ = ru d 97 109 [l0, l1] [.ref 1] σ := q_getf t97_106 mo97 F7_10 rfl rfl
theorem t97_109 : decode (mb 97) 109 = .ok (.getfield 279, 3) := by decide +kernel
theorem s97_109_o1 (d : Nat) (l0 : Value) (l1 : Value) (σ : Hs) : ru d 97 109 [l0, l1] [.ref 1] σ = ru d 97 112 [l0, l1] [.ref 28] σ := q_getf t97_109 mo97 F7_279 rfl rfl
theorem t97_112 : decode (mb 97) 112 = .ok (.getfield 131, 3) := by decide +kernel
theorem s97_112_o28 (d : Nat) (l0 : Value) (l1 : Value) (σ : Hs) : ru d 97 112 [l0, l1] [.ref 28] σ = ru d 97 115 [l0, l1] [.int (σ 28 1)] σ := q_getf t97_112 mo97 F7_131 rfl rfl
theorem t97_115 : decode (mb 97) 115 = .ok (.ireturn, 1) := by decide +kernel
theorem s97_115 (d : Nat) (l0 : Value) (l1 : Value) (x : Int32) (σ : Hs) : ru d 97 115 [l0, l1] [.int x] σ = some (some (.int x), σ) := q_ireti t97_115 mr97
theorem t97_116 : decode (mb 97) 116 = .ok (.aload_n 0, 1) := by decide +kernel
theorem s97_116 (d : Nat) (a0 : Nat) (l1 : Value) (σ : Hs) : ru d 97 116 [.ref a0, l1] [] σ = ru d 97 117 [.ref a0, l1] [.ref a0] σ := q_aload_n t97_116 rfl
theorem t97_117 : decode (mb 97) 117 = .ok (.getfield 36, 3) := by decide +kernel
theorem s97_117_o0 (d : Nat) (l0 : Value) (l1 : Value) (σ : Hs) : ru d 97 117 [l0, l1] [.ref 0] σ = ru d 97 120 [l0, l1] [.ref 73] σ := q_getf t97_117 mo97 F7_36 rfl rfl
theorem t97_120 : decode (mb 97) 120 = .ok (.getfield 242, 3) := by decide +kernel
theorem s97_120_o73 (d : Nat) (l0 : Value) (l1 : Value) (σ : Hs) : ru d 97 120 [l0, l1] [.ref 73] σ = ru d 97 123 [l0, l1] [.ref 74] σ := q_getf t97_120 mo97 F7_242 rfl rfl
theorem t97_123 : decode (mb 97) 123 = .ok (.getfield 131, 3) := by decide +kernel
theorem s97_123_o74 (d : Nat) (l0 : Value) (l1 : Value) (σ : Hs) : ru d 97 123 [l0, l1] [.ref 74] σ = ru d 97 126 [l0, l1] [.int (σ 74 1)] σ := q_getf t97_123 mo97 F7_131 rfl rfl
theorem t97_126 : decode (mb 97) 126 = .ok (.ireturn, 1) := by decide +kernel
theorem s97_126 (d : Nat) (l0 : Value) (l1 : Value) (x : Int32) (σ : Hs) : ru d 97 126 [l0, l1] [.int x] σ = some (some (.int x), σ) := q_ireti t97_126 mr97
theorem t97_127 : decode (mb 97) 127 = .ok (.aload_n 0, 1) := by decide +kernel
theorem s97_127 (d : Nat) (a0 : Nat) (l1 : Value) (σ : Hs) : ru d 97 127 [.ref a0, l1] [] σ = ru d 97 128 [.ref a0, l1] [.ref a0] σ := q_aload_n t97_127 rfl
theorem t97_128 : decode (mb 97) 128 = .ok (.getfield 10, 3) := by decide +kernel
theorem s97_128_o0 (d : Nat) (l0 : Value) (l1 : Value) (σ : Hs) : ru d 97 128 [l0, l1] [.ref 0] σ = ru d 97 131 [l0, l1] [.ref 1] σ := q_getf t97_128 mo97 F7_10 rfl rfl
theorem t97_131 : decode (mb 97) 131 = .ok (.getfield 176, 3) := by decide +kernel
theorem s97_131_o1 (d : Nat) (l0 : Value) (l1 : Value) (σ : Hs) : ru d 97 131 [l0, l1] [.ref 1] σ = ru d 97 134 [l0, l1] [.int (σ 1 6)] σ := q_getf t97_131 mo97 F7_176 rfl rfl
theorem t97_134 : decode (mb 97) 134 = .ok (.ireturn, 1) := by decide +kernel
theorem s97_134 (d : Nat) (l0 : Value) (l1 : Value) (x : Int32) (σ : Hs) : ru d 97 134 [l0, l1] [.int x] σ = some (some (.int x), σ) := q_ireti t97_134 mr97
theorem t97_135 : decode (mb 97) 135 = .ok (.aload_n 0, 1) := by decide +kernel
theorem s97_135 (d : Nat) (a0 : Nat) (l1 : Value) (σ : Hs) : ru d 97 135 [.ref a0, l1] [] σ = ru d 97 136 [.ref a0, l1] [.ref a0] σ := q_aload_n t97_135 rfl
theorem t97_136 : decode (mb 97) 136 = .ok (.iconst 1, 1) := by decide +kernel
theorem s97_136 (d : Nat) (l0 : Value) (l1 : Value) (w0 : Value) (σ : Hs) : ru d 97 136 [l0, l1] [w0] σ = ru d 97 137 [l0, l1] [.int 1, w0] σ := q_iconst t97_136 (by decide +kernel)
theorem t97_137 : decode (mb 97) 137 = .ok (.invokevirtual 65, 3) := by decide +kernel
theorem s97_137_o0 (d : Nat) (l0 : Value) (l1 : Value) (v1 : Value) (σ : Hs) : ru d 97 137 [l0, l1] [v1, .ref 0] σ = kont (callD d 99 [.ref 0, v1] σ) d 97 140 [l0, l1] [] := q_invv t97_137 mo97 K7_65 mj99 rfl rfl rfl rfl (Nat.le_of_ble_eq_true rfl)
theorem t97_140 : decode (mb 97) 140 = .ok (.ireturn, 1) := by decide +kernel
theorem s97_140 (d : Nat) (l0 : Value) (l1 : Value) (x : Int32) (σ : Hs) : ru d 97 140 [l0, l1] [.int x] σ = some (some (.int x), σ) := q_ireti t97_140 mr97
theorem c97 (d : Nat) (x0 : Nat) (x1 : Int32) (σ : Hs) : callD (d + 1) 97 [.ref x0, .int x1] σ = ru d 97 0 [.ref x0, .int x1] [] σ := callD_ru ml97 rfl rfl (Nat.le_of_ble_eq_true rfl)
-- 98: SmokyHeap.told(I)I
theorem t98_0 : decode (mb 98) 0 = .ok (.iload_n 1, 1) := by decide +kernel
theorem s98_0 (d : Nat) (l0 : Value) (i1 : Int32) (σ : Hs) : ru d 98 0 [l0, .int i1] [] σ = ru d 98 1 [l0, .int i1] [.int i1] σ := q_iload_n t98_0 rfl
theorem t98_1 : decode (mb 98) 1 = .ok (.iconst 1, 1) := by decide +kernel
theorem s98_1 (d : Nat) (l0 : Value) (l1 : Value) (w0 : Value) (σ : Hs) : ru d 98 1 [l0, l1] [w0] σ = ru d 98 2 [l0, l1] [.int 1, w0] σ := q_iconst t98_1 (by decide +kernel)
theorem t98_2 : decode (mb 98) 2 = .ok (.bipush 6, 2) := by decide +kernel
theorem s98_2 (d : Nat) (l0 : Value) (l1 : Value) (w0 w1 : Value) (σ : Hs) : ru d 98 2 [l0, l1] [w0, w1] σ = ru d 98 4 [l0, l1] [.int 6, w0, w1] σ := q_bipush t98_2 (by decide +kernel)
theorem t98_4 : decode (mb 98) 4 = .ok (.invokestatic 83, 3) := by decide +kernel
theorem s98_4 (d : Nat) (l0 : Value) (l1 : Value) (v0 v1 v2 : Value) (σ : Hs) : ru d 98 4 [l0, l1] [v2, v1, v0] σ = kont (callD d 102 [v0, v1, v2] σ) d 98 7 [l0, l1] [] := q_invs t98_4 mo98 (by decide +kernel) K7_83 mj102 (Nat.le_of_ble_eq_true rfl) rfl rfl (Nat.le_of_ble_eq_true rfl)
theorem t98_7 : decode (mb 98) 7 = .ok (.ifCond .eq 12, 3) := by decide +kernel
theorem s98_7 (d : Nat) (l0 : Value) (l1 : Value) (x : Int32) (σ : Hs) : ru d 98 7 [l0, l1] [.int x] σ = if x = 0 then ru d 98 19 [l0, l1] [] σ else ru d 98 10 [l0, l1] [] σ := q_if_eq t98_7 (by decide +kernel)
theorem t98_10 : decode (mb 98) 10 = .ok (.aload_n 0, 1) := by decide +kernel
theorem s98_10 (d : Nat) (a0 : Nat) (l1 : Value) (σ : Hs) : ru d 98 10 [.ref a0, l1] [] σ = ru d 98 11 [.ref a0, l1] [.ref a0] σ := q_aload_n t98_10 rfl
theorem t98_11 : decode (mb 98) 11 = .ok (.getfield 47, 3) := by decide +kernel
theorem s98_11_o0 (d : Nat) (l0 : Value) (l1 : Value) (σ : Hs) : ru d 98 11 [l0, l1] [.ref 0] σ = ru d 98 14 [l0, l1] [.ref 85] σ := q_getf t98_11 mo98 F7_47 rfl rfl
theorem t98_14 : decode (mb 98) 14 = .ok (.iload_n 1, 1) := by decide +kernel
theorem s98_14 (d : Nat) (l0 : Value) (i1 : Int32) (w0 : Value) (σ : Hs) : ru d 98 14 [l0, .int i1] [w0] σ = ru d 98 15 [l0, .int i1] [.int i1, w0] σ := q_iload_n t98_14 rfl
theorem t98_15 : decode (mb 98) 15 = .ok (.iaload, 1) := by decide +kernel
theorem s98_15_o85 (d : Nat) (l0 : Value) (l1 : Value) (i : Int32) (σ : Hs) : ru d 98 15 [l0, l1] [.int i, .ref 85] σ = gd (vp_in i 7) (ru d 98 16 [l0, l1] [.int (σ 85 i.toNatClampNeg)] σ) := q_iald t98_15 rfl (by decide +kernel) rfl
theorem t98_16 : decode (mb 98) 16 = .ok (.goto 8, 3) := by decide +kernel
theorem s98_16 (d : Nat) (l0 : Value) (l1 : Value) (w0 : Value) (σ : Hs) : ru d 98 16 [l0, l1] [w0] σ = ru d 98 24 [l0, l1] [w0] σ := q_goto t98_16 (by decide +kernel)
theorem t98_19 : decode (mb 98) 19 = .ok (.aload_n 0, 1) := by decide +kernel
theorem s98_19 (d : Nat) (a0 : Nat) (l1 : Value) (σ : Hs) : ru d 98 19 [.ref a0, l1] [] σ = ru d 98 20 [.ref a0, l1] [.ref a0] σ := q_aload_n t98_19 rfl
theorem t98_20 : decode (mb 98) 20 = .ok (.iconst 1, 1) := by decide +kernel
theorem s98_20 (d : Nat) (l0 : Value) (l1 : Value) (w0 : Value) (σ : Hs) : ru d 98 20 [l0, l1] [w0] σ = ru d 98 21 [l0, l1] [.int 1, w0] σ := q_iconst t98_20 (by decide +kernel)
theorem t98_21 : decode (mb 98) 21 = .ok (.invokevirtual 65, 3) := by decide +kernel
theorem s98_21_o0 (d : Nat) (l0 : Value) (l1 : Value) (v1 : Value) (σ : Hs) : ru d 98 21 [l0, l1] [v1, .ref 0] σ = kont (callD d 99 [.ref 0, v1] σ) d 98 24 [l0, l1] [] := q_invv t98_21 mo98 K7_65 mj99 rfl rfl rfl rfl (Nat.le_of_ble_eq_true rfl)
theorem t98_24 : decode (mb 98) 24 = .ok (.ireturn, 1) := by decide +kernel
theorem s98_24 (d : Nat) (l0 : Value) (l1 : Value) (x : Int32) (σ : Hs) : ru d 98 24 [l0, l1] [.int x] σ = some (some (.int x), σ) := q_ireti t98_24 mr98
theorem c98 (d : Nat) (x0 : Nat) (x1 : Int32) (σ : Hs) : callD (d + 1) 98 [.ref x0, .int x1] σ = ru d 98 0 [.ref x0, .int x1] [] σ := callD_ru ml98 rfl rfl (Nat.le_of_ble_eq_true rfl)
-- 99: SmokyHeap.failed(I)I
theorem t99_0 : decode (mb 99) 0 = .ok (.iload_n 1, 1) := by decide +kernel
theorem s99_0 (d : Nat) (l0 : Value) (i1 : Int32) (σ : Hs) : ru d 99 0 [l0, .int i1] [] σ = ru d 99 1 [l0, .int i1] [.int i1] σ := q_iload_n t99_0 rfl
theorem t99_1 : decode (mb 99) 1 = .ok (.iconst 1, 1) := by decide +kernel
theorem s99_1 (d : Nat) (l0 : Value) (l1 : Value) (w0 : Value) (σ : Hs) : ru d 99 1 [l0, l1] [w0] σ = ru d 99 2 [l0, l1] [.int 1, w0] σ := q_iconst t99_1 (by decide +kernel)
theorem t99_2 : decode (mb 99) 2 = .ok (.bipush 6, 2) := by decide +kernel
theorem s99_2 (d : Nat) (l0 : Value) (l1 : Value) (w0 w1 : Value) (σ : Hs) : ru d 99 2 [l0, l1] [w0, w1] σ = ru d 99 4 [l0, l1] [.int 6, w0, w1] σ := q_bipush t99_2 (by decide +kernel)
theorem t99_4 : decode (mb 99) 4 = .ok (.invokestatic 83, 3) := by decide +kernel
theorem s99_4 (d : Nat) (l0 : Value) (l1 : Value) (v0 v1 v2 : Value) (σ : Hs) : ru d 99 4 [l0, l1] [v2, v1, v0] σ = kont (callD d 102 [v0, v1, v2] σ) d 99 7 [l0, l1] [] := q_invs t99_4 mo99 (by decide +kernel) K7_83 mj102 (Nat.le_of_ble_eq_true rfl) rfl rfl (Nat.le_of_ble_eq_true rfl)
theorem t99_7 : decode (mb 99) 7 = .ok (.ifCond .eq 13, 3) := by decide +kernel
theorem s99_7 (d : Nat) (l0 : Value) (l1 : Value) (x : Int32) (σ : Hs) : ru d 99 7 [l0, l1] [.int x] σ = if x = 0 then ru d 99 20 [l0, l1] [] σ else ru d 99 10 [l0, l1] [] σ := q_if_eq t99_7 (by decide +kernel)
theorem t99_10 : decode (mb 99) 10 = .ok (.aload_n 0, 1) := by decide +kernel
theorem s99_10 (d : Nat) (a0 : Nat) (l1 : Value) (σ : Hs) : ru d 99 10 [.ref a0, l1] [] σ = ru d 99 11 [.ref a0, l1] [.ref a0] σ := q_aload_n t99_10 rfl
theorem t99_11 : decode (mb 99) 11 = .ok (.getfield 47, 3) := by decide +kernel
theorem s99_11_o0 (d : Nat) (l0 : Value) (l1 : Value) (σ : Hs) : ru d 99 11 [l0, l1] [.ref 0] σ = ru d 99 14 [l0, l1] [.ref 85] σ := q_getf t99_11 mo99 F7_47 rfl rfl
theorem t99_14 : decode (mb 99) 14 = .ok (.iload_n 1, 1) := by decide +kernel
theorem s99_14 (d : Nat) (l0 : Value) (i1 : Int32) (w0 : Value) (σ : Hs) : ru d 99 14 [l0, .int i1] [w0] σ = ru d 99 15 [l0, .int i1] [.int i1, w0] σ := q_iload_n t99_14 rfl
theorem t99_15 : decode (mb 99) 15 = .ok (.dup2, 1) := by decide +kernel
theorem s99_15 (d : Nat) (l0 : Value) (l1 : Value) (x0 : Int32) (x1 : Nat) (σ : Hs) : ru d 99 15 [l0, l1] [.int x0, .ref x1] σ = ru d 99 16 [l0, l1] [.int x0, .ref x1, .int x0, .ref x1] σ := q_dup2 t99_15 rfl rfl
theorem t99_16 : decode (mb 99) 16 = .ok (.iaload, 1) := by decide +kernel
theorem s99_16_o85 (d : Nat) (l0 : Value) (l1 : Value) (i : Int32) (w0 w1 : Value) (σ : Hs) : ru d 99 16 [l0, l1] [.int i, .ref 85, w0, w1] σ = gd (vp_in i 7) (ru d 99 17 [l0, l1] [.int (σ 85 i.toNatClampNeg), w0, w1] σ) := q_iald t99_16 rfl (by decide +kernel) rfl
theorem t99_17 : decode (mb 99) 17 = .ok (.iconst 1, 1) := by decide +kernel
theorem s99_17 (d : Nat) (l0 : Value) (l1 : Value) (w0 w1 w2 : Value) (σ : Hs) : ru d 99 17 [l0, l1] [w0, w1, w2] σ = ru d 99 18 [l0, l1] [.int 1, w0, w1, w2] σ := q_iconst t99_17 (by decide +kernel)
theorem t99_18 : decode (mb 99) 18 = .ok (.iadd, 1) := by decide +kernel
theorem s99_18 (d : Nat) (l0 : Value) (l1 : Value) (x y : Int32) (w0 w1 : Value) (σ : Hs) : ru d 99 18 [l0, l1] [.int y, .int x, w0, w1] σ = ru d 99 19 [l0, l1] [.int (x + y), w0, w1] σ := q_iadd t99_18
theorem t99_19 : decode (mb 99) 19 = .ok (.iastore, 1) := by decide +kernel
theorem s99_19_o85 (d : Nat) (l0 : Value) (l1 : Value) (i x : Int32) (σ : Hs) : ru d 99 19 [l0, l1] [.int x, .int i, .ref 85] σ = gd (vp_in i 7) (ru d 99 20 [l0, l1] [] (up2 σ 85 i.toNatClampNeg x)) := q_iast t99_19 (by decide +kernel) rfl rfl
theorem t99_20 : decode (mb 99) 20 = .ok (.ldc_w 293, 3) := by decide +kernel
theorem s99_20 (d : Nat) (l0 : Value) (l1 : Value) (σ : Hs) : ru d 99 20 [l0, l1] [] σ = ru d 99 23 [l0, l1] [.int (-1000000)] σ := q_ldcw t99_20 mo99 C7_293
theorem t99_23 : decode (mb 99) 23 = .ok (.iload_n 1, 1) := by decide +kernel
theorem s99_23 (d : Nat) (l0 : Value) (i1 : Int32) (w0 : Value) (σ : Hs) : ru d 99 23 [l0, .int i1] [w0] σ = ru d 99 24 [l0, .int i1] [.int i1, w0] σ := q_iload_n t99_23 rfl
theorem t99_24 : decode (mb 99) 24 = .ok (.isub, 1) := by decide +kernel
theorem s99_24 (d : Nat) (l0 : Value) (l1 : Value) (x y : Int32) (σ : Hs) : ru d 99 24 [l0, l1] [.int y, .int x] σ = ru d 99 25 [l0, l1] [.int (x - y)] σ := q_isub t99_24
theorem t99_25 : decode (mb 99) 25 = .ok (.ireturn, 1) := by decide +kernel
theorem s99_25 (d : Nat) (l0 : Value) (l1 : Value) (x : Int32) (σ : Hs) : ru d 99 25 [l0, l1] [.int x] σ = some (some (.int x), σ) := q_ireti t99_25 mr99
theorem c99 (d : Nat) (x0 : Nat) (x1 : Int32) (σ : Hs) : callD (d + 1) 99 [.ref x0, .int x1] σ = ru d 99 0 [.ref x0, .int x1] [] σ := callD_ru ml99 rfl rfl (Nat.le_of_ble_eq_true rfl)
-- 100: SmokyHeap.bylawLets()Z
theorem t100_0 : decode (mb 100) 0 = .ok (.aload_n 0, 1) := by decide +kernel
theorem s100_0 (d : Nat) (a0 : Nat) (l1 : Value) (σ : Hs) : ru d 100 0 [.ref a0, l1] [] σ = ru d 100 1 [.ref a0, l1] [.ref a0] σ := q_aload_n t100_0 rfl
theorem t100_1 : decode (mb 100) 1 = .ok (.getfield 10, 3) := by decide +kernel
theorem s100_1_o0 (d : Nat) (l0 : Value) (l1 : Value) (σ : Hs) : ru d 100 1 [l0, l1] [.ref 0] σ = ru d 100 4 [l0, l1] [.ref 1] σ := q_getf t100_1 mo100 F7_10 rfl rfl
theorem t100_4 : decode (mb 100) 4 = .ok (.getfield 146, 3) := by decide +kernel
theorem s100_4_o1 (d : Nat) (l0 : Value) (l1 : Value) (σ : Hs) : ru d 100 4 [l0, l1] [.ref 1] σ = ru d 100 7 [l0, l1] [.ref 13] σ := q_getf t100_4 mo100 F7_146 rfl rfl
theorem t100_7 : decode (mb 100) 7 = .ok (.iconst 1, 1) := by decide +kernel
theorem s100_7 (d : Nat) (l0 : Value) (l1 : Value) (w0 : Value) (σ : Hs) : ru d 100 7 [l0, l1] [w0] σ = ru d 100 8 [l0, l1] [.int 1, w0] σ := q_iconst t100_7 (by decide +kernel)
theorem t100_8 : decode (mb 100) 8 = .ok (.invokevirtual 163, 3) := by decide +kernel
theorem s100_8_o13 (d : Nat) (l0 : Value) (l1 : Value) (v1 : Value) (σ : Hs) : ru d 100 8 [l0, l1] [v1, .ref 13] σ = kont (callD d 30 [.ref 13, v1] σ) d 100 11 [l0, l1] [] := q_invv t100_8 mo100 K7_163 mj30 rfl rfl rfl rfl (Nat.le_of_ble_eq_true rfl)
theorem t100_11 : decode (mb 100) 11 = .ok (.ifCond .ne 5, 3) := by decide +kernel
theorem s100_11 (d : Nat) (l0 : Value) (l1 : Value) (x : Int32) (σ : Hs) : ru d 100 11 [l0, l1] [.int x] σ = if x = 0 then ru d 100 14 [l0, l1] [] σ else ru d 100 16 [l0, l1] [] σ := q_if_ne t100_11 (by decide +kernel)
theorem t100_14 : decode (mb 100) 14 = .ok (.iconst 1, 1) := by decide +kernel
theorem s100_14 (d : Nat) (l0 : Value) (l1 : Value) (σ : Hs) : ru d 100 14 [l0, l1] [] σ = ru d 100 15 [l0, l1] [.int 1] σ := q_iconst t100_14 (by decide +kernel)
theorem t100_15 : decode (mb 100) 15 = .ok (.ireturn, 1) := by decide +kernel
theorem s100_15 (d : Nat) (l0 : Value) (l1 : Value) (x : Int32) (hx : isB x) (σ : Hs) : ru d 100 15 [l0, l1] [.int x] σ = some (some (.int x), σ) := q_iretz t100_15 mr100 hx
theorem t100_16 : decode (mb 100) 16 = .ok (.aload_n 0, 1) := by decide +kernel
theorem s100_16 (d : Nat) (a0 : Nat) (l1 : Value) (σ : Hs) : ru d 100 16 [.ref a0, l1] [] σ = ru d 100 17 [.ref a0, l1] [.ref a0] σ := q_aload_n t100_16 rfl
theorem t100_17 : decode (mb 100) 17 = .ok (.getfield 10, 3) := by decide +kernel
theorem s100_17_o0 (d : Nat) (l0 : Value) (l1 : Value) (σ : Hs) : ru d 100 17 [l0, l1] [.ref 0] σ = ru d 100 20 [l0, l1] [.ref 1] σ := q_getf t100_17 mo100 F7_10 rfl rfl
theorem t100_20 : decode (mb 100) 20 = .ok (.getfield 58, 3) := by decide +kernel
theorem s100_20_o1 (d : Nat) (l0 : Value) (l1 : Value) (σ : Hs) : ru d 100 20 [l0, l1] [.ref 1] σ = ru d 100 23 [l0, l1] [.ref 2] σ := q_getf t100_20 mo100 F7_58 rfl rfl
theorem t100_23 : decode (mb 100) 23 = .ok (.astore_n 1, 1) := by decide +kernel
theorem s100_23 (d : Nat) (a0 : Nat) (l1 : Value) (x : Nat) (σ : Hs) : ru d 100 23 [.ref a0, l1] [.ref x] σ = ru d 100 24 [.ref a0, .ref x] [] σ := q_astore_n t100_23 ⟨Nat.le_of_ble_eq_true rfl, rfl⟩ rfl
theorem t100_24 : decode (mb 100) 24 = .ok (.aload_n 0, 1) := by decide +kernel
theorem s100_24 (d : Nat) (a0 : Nat) (l1 : Value) (σ : Hs) : ru d 100 24 [.ref a0, l1] [] σ = ru d 100 25 [.ref a0, l1] [.ref a0] σ := q_aload_n t100_24 rfl
theorem t100_25 : decode (mb 100) 25 = .ok (.getfield 10, 3) := by decide +kernel
theorem s100_25_o0 (d : Nat) (l0 : Value) (l1 : Value) (σ : Hs) : ru d 100 25 [l0, l1] [.ref 0] σ = ru d 100 28 [l0, l1] [.ref 1] σ := q_getf t100_25 mo100 F7_10 rfl rfl
theorem t100_28 : decode (mb 100) 28 = .ok (.getfield 146, 3) := by decide +kernel
theorem s100_28_o1 (d : Nat) (l0 : Value) (l1 : Value) (σ : Hs) : ru d 100 28 [l0, l1] [.ref 1] σ = ru d 100 31 [l0, l1] [.ref 13] σ := q_getf t100_28 mo100 F7_146 rfl rfl
theorem t100_31 : decode (mb 100) 31 = .ok (.iconst 1, 1) := by decide +kernel
theorem s100_31 (d : Nat) (l0 : Value) (l1 : Value) (w0 : Value) (σ : Hs) : ru d 100 31 [l0, l1] [w0] σ = ru d 100 32 [l0, l1] [.int 1, w0] σ := q_iconst t100_31 (by decide +kernel)
theorem t100_32 : decode (mb 100) 32 = .ok (.aload_n 1, 1) := by decide +kernel
theorem s100_32 (d : Nat) (l0 : Value) (a1 : Nat) (w0 w1 : Value) (σ : Hs) : ru d 100 32 [l0, .ref a1] [w0, w1] σ = ru d 100 33 [l0, .ref a1] [.ref a1, w0, w1] σ := q_aload_n t100_32 rfl
theorem t100_33 : decode (mb 100) 33 = .ok (.invokevirtual 294, 3) := by decide +kernel
theorem s100_33_o2 (d : Nat) (l0 : Value) (l1 : Value) (w0 : Int32) (w1 : Nat) (σ : Hs) : ru d 100 33 [l0, l1] [.ref 2, .int w0, .ref w1] σ = kont (callD d 5 [.ref 2] σ) d 100 36 [l0, l1] [.int w0, .ref w1] := q_invv t100_33 mo100 K7_294 mj5 rfl rfl rfl rfl (Nat.le_of_ble_eq_true rfl)
theorem t100_36 : decode (mb 100) 36 = .ok (.aload_n 1, 1) := by decide +kernel
theorem s100_36 (d : Nat) (l0 : Value) (a1 : Nat) (w0 w1 w2 : Value) (σ : Hs) : ru d 100 36 [l0, .ref a1] [w0, w1, w2] σ = ru d 100 37 [l0, .ref a1] [.ref a1, w0, w1, w2] σ := q_aload_n t100_36 rfl
theorem t100_37 : decode (mb 100) 37 = .ok (.getfield 124, 3) := by decide +kernel
theorem s100_37_o2 (d : Nat) (l0 : Value) (l1 : Value) (w0 w1 w2 : Value) (σ : Hs) : ru d 100 37 [l0, l1] [.ref 2, w0, w1, w2] σ = ru d 100 40 [l0, l1] [.ref 9, w0, w1, w2] σ := q_getf t100_37 mo100 F7_124 rfl rfl
theorem t100_40 : decode (mb 100) 40 = .ok (.iconst 1, 1) := by decide +kernel
theorem s100_40 (d : Nat) (l0 : Value) (l1 : Value) (w0 w1 w2 w3 : Value) (σ : Hs) : ru d 100 40 [l0, l1] [w0, w1, w2, w3] σ = ru d 100 41 [l0, l1] [.int 1, w0, w1, w2, w3] σ := q_iconst t100_40 (by decide +kernel)
theorem t100_41 : decode (mb 100) 41 = .ok (.iaload, 1) := by decide +kernel
theorem s100_41_o9 (d : Nat) (l0 : Value) (l1 : Value) (i : Int32) (w0 w1 w2 : Value) (σ : Hs) : ru d 100 41 [l0, l1] [.int i, .ref 9, w0, w1, w2] σ = gd (vp_in i 5) (ru d 100 42 [l0, l1] [.int (σ 9 i.toNatClampNeg), w0, w1, w2] σ) := q_iald t100_41 rfl (by decide +kernel) rfl
theorem t100_42 : decode (mb 100) 42 = .ok (.aload_n 1, 1) := by decide +kernel
theorem s100_42 (d : Nat) (l0 : Value) (a1 : Nat) (w0 w1 w2 w3 : Value) (σ : Hs) : ru d 100 42 [l0, .ref a1] [w0, w1, w2, w3] σ = ru d 100 43 [l0, .ref a1] [.ref a1, w0, w1, w2, w3] σ := q_aload_n t100_42 rfl
theorem t100_43 : decode (mb 100) 43 = .ok (.invokevirtual 215, 3) := by decide +kernel
theorem s100_43_o2 (d : Nat) (l0 : Value) (l1 : Value) (w0 : Int32) (w1 : Int32) (w2 : Int32) (w3 : Nat) (σ : Hs) : ru d 100 43 [l0, l1] [.ref 2, .int w0, .int w1, .int w2, .ref w3] σ = kont (callD d 7 [.ref 2] σ) d 100 46 [l0, l1] [.int w0, .int w1, .int w2, .ref w3] := q_invv t100_43 mo100 K7_215 mj7 rfl rfl rfl rfl (Nat.le_of_ble_eq_true rfl)
theorem t100_46 : decode (mb 100) 46 = .ok (.aload_n 1, 1) := by decide +kernel
theorem s100_46 (d : Nat) (l0 : Value) (a1 : Nat) (w0 w1 w2 w3 w4 : Value) (σ : Hs) : ru d 100 46 [l0, .ref a1] [w0, w1, w2, w3, w4] σ = ru d 100 47 [l0, .ref a1] [.ref a1, w0, w1, w2, w3, w4] σ := q_aload_n t100_46 rfl
theorem t100_47 : decode (mb 100) 47 = .ok (.invokevirtual 290, 3) := by decide +kernel
theorem s100_47_o2 (d : Nat) (l0 : Value) (l1 : Value) (w0 : Int32) (w1 : Int32) (w2 : Int32) (w3 : Int32) (w4 : Nat) (σ : Hs) : ru d 100 47 [l0, l1] [.ref 2, .int w0, .int w1, .int w2, .int w3, .ref w4] σ = kont (callD d 6 [.ref 2] σ) d 100 50 [l0, l1] [.int w0, .int w1, .int w2, .int w3, .ref w4] := q_invv t100_47 mo100 K7_290 mj6 rfl rfl rfl rfl (Nat.le_of_ble_eq_true rfl)
theorem t100_50 : decode (mb 100) 50 = .ok (.invokevirtual 297, 3) := by decide +kernel
theorem s100_50_o13 (d : Nat) (l0 : Value) (l1 : Value) (v1 v2 v3 v4 v5 : Value) (σ : Hs) : ru d 100 50 [l0, l1] [v5, v4, v3, v2, v1, .ref 13] σ = kont (callD d 32 [.ref 13, v1, v2, v3, v4, v5] σ) d 100 53 [l0, l1] [] := q_invv t100_50 mo100 K7_297 mj32 rfl rfl rfl rfl (Nat.le_of_ble_eq_true rfl)
theorem t100_53 : decode (mb 100) 53 = .ok (.ifCond .eq 7, 3) := by decide +kernel
theorem s100_53 (d : Nat) (l0 : Value) (l1 : Value) (x : Int32) (σ : Hs) : ru d 100 53 [l0, l1] [.int x] σ = if x = 0 then ru d 100 60 [l0, l1] [] σ else ru d 100 56 [l0, l1] [] σ := q_if_eq t100_53 (by decide +kernel)
theorem t100_56 : decode (mb 100) 56 = .ok (.iconst 1, 1) := by decide +kernel
theorem s100_56 (d : Nat) (l0 : Value) (l1 : Value) (σ : Hs) : ru d 100 56 [l0, l1] [] σ = ru d 100 57 [l0, l1] [.int 1] σ := q_iconst t100_56 (by decide +kernel)
theorem t100_57 : decode (mb 100) 57 = .ok (.goto 4, 3) := by decide +kernel
theorem s100_57 (d : Nat) (l0 : Value) (l1 : Value) (w0 : Value) (σ : Hs) : ru d 100 57 [l0, l1] [w0] σ = ru d 100 61 [l0, l1] [w0] σ := q_goto t100_57 (by decide +kernel)
theorem t100_60 : decode (mb 100) 60 = .ok (.iconst 0, 1) := by decide +kernel
theorem s100_60 (d : Nat) (l0 : Value) (l1 : Value) (σ : Hs) : ru d 100 60 [l0, l1] [] σ = ru d 100 61 [l0, l1] [.int 0] σ := q_iconst t100_60 (by decide +kernel)
theorem t100_61 : decode (mb 100) 61 = .ok (.ireturn, 1) := by decide +kernel
theorem s100_61 (d : Nat) (l0 : Value) (l1 : Value) (x : Int32) (hx : isB x) (σ : Hs) : ru d 100 61 [l0, l1] [.int x] σ = some (some (.int x), σ) := q_iretz t100_61 mr100 hx
theorem c100 (d : Nat) (x0 : Nat) (σ : Hs) : callD (d + 1) 100 [.ref x0] σ = ru d 100 0 [.ref x0, uu] [] σ := callD_ru ml100 rfl rfl (Nat.le_of_ble_eq_true rfl)
-- 101: SmokyHeap.botheredFrom(II)I
theorem t101_0 : decode (mb 101) 0 = .ok (.aload_n 0, 1) := by decide +kernel
theorem s101_0 (d : Nat) (a0 : Nat) (l1 : Value) (l2 : Value) (l3 : Value) (σ : Hs) : ru d 101 0 [.ref a0, l1, l2, l3] [] σ = ru d 101 1 [.ref a0, l1, l2, l3] [.ref a0] σ := q_aload_n t101_0 rfl
theorem t101_1 : decode (mb 101) 1 = .ok (.getfield 22, 3) := by decide +kernel
theorem s101_1_o0 (d : Nat) (l0 : Value) (l1 : Value) (l2 : Value) (l3 : Value) (σ : Hs) : ru d 101 1 [l0, l1, l2, l3] [.ref 0] σ = ru d 101 4 [l0, l1, l2, l3] [.ref 59] σ := q_getf t101_1 mo101 F7_22 rfl rfl
theorem t101_4 : decode (mb 101) 4 = .ok (.getfield 124, 3) := by decide +kernel
theorem s101_4_o59 (d : Nat) (l0 : Value) (l1 : Value) (l2 : Value) (l3 : Value) (σ : Hs) : ru d 101 4 [l0, l1, l2, l3] [.ref 59] σ = ru d 101 7 [l0, l1, l2, l3] [.ref 66] σ := q_getf t101_4 mo101 F7_124 rfl rfl
theorem t101_7 : decode (mb 101) 7 = .ok (.iconst 0, 1) := by decide +kernel
theorem s101_7 (d : Nat) (l0 : Value) (l1 : Value) (l2 : Value) (l3 : Value) (w0 : Value) (σ : Hs) : ru d 101 7 [l0, l1, l2, l3] [w0] σ = ru d 101 8 [l0, l1, l2, l3] [.int 0, w0] σ := q_iconst t101_7 (by decide +kernel)
theorem t101_8 : decode (mb 101) 8 = .ok (.bipush 60, 2) := by decide +kernel
theorem s101_8 (d : Nat) (l0 : Value) (l1 : Value) (l2 : Value) (l3 : Value) (w0 w1 : Value) (σ : Hs) : ru d 101 8 [l0, l1, l2, l3] [w0, w1] σ = ru d 101 10 [l0, l1, l2, l3] [.int 60, w0, w1] σ := q_bipush t101_8 (by decide +kernel)
theorem t101_10 : decode (mb 101) 10 = .ok (.iload_n 1, 1) := by decide +kernel
theorem s101_10 (d : Nat) (l0 : Value) (i1 : Int32) (l2 : Value) (l3 : Value) (w0 w1 w2 : Value) (σ : Hs) : ru d 101 10 [l0, .int i1, l2, l3] [w0, w1, w2] σ = ru d 101 11 [l0, .int i1, l2, l3] [.int i1, w0, w1, w2] σ := q_iload_n t101_10 rfl
theorem t101_11 : decode (mb 101) 11 = .ok (.imul, 1) := by decide +kernel
theorem s101_11 (d : Nat) (l0 : Value) (l1 : Value) (l2 : Value) (l3 : Value) (x y : Int32) (w0 w1 : Value) (σ : Hs) : ru d 101 11 [l0, l1, l2, l3] [.int y, .int x, w0, w1] σ = ru d 101 12 [l0, l1, l2, l3] [.int (x * y), w0, w1] σ := q_imul t101_11
theorem t101_12 : decode (mb 101) 12 = .ok (.iastore, 1) := by decide +kernel
theorem s101_12_o66 (d : Nat) (l0 : Value) (l1 : Value) (l2 : Value) (l3 : Value) (i x : Int32) (σ : Hs) : ru d 101 12 [l0, l1, l2, l3] [.int x, .int i, .ref 66] σ = gd (vp_in i 5) (ru d 101 13 [l0, l1, l2, l3] [] (up2 σ 66 i.toNatClampNeg x)) := q_iast t101_12 (by decide +kernel) rfl rfl
theorem t101_13 : decode (mb 101) 13 = .ok (.aload_n 0, 1) := by decide +kernel
theorem s101_13 (d : Nat) (a0 : Nat) (l1 : Value) (l2 : Value) (l3 : Value) (σ : Hs) : ru d 101 13 [.ref a0, l1, l2, l3] [] σ = ru d 101 14 [.ref a0, l1, l2, l3] [.ref a0] σ := q_aload_n t101_13 rfl
theorem t101_14 : decode (mb 101) 14 = .ok (.getfield 10, 3) := by decide +kernel
theorem s101_14_o0 (d : Nat) (l0 : Value) (l1 : Value) (l2 : Value) (l3 : Value) (σ : Hs) : ru d 101 14 [l0, l1, l2, l3] [.ref 0] σ = ru d 101 17 [l0, l1, l2, l3] [.ref 1] σ := q_getf t101_14 mo101 F7_10 rfl rfl
theorem t101_17 : decode (mb 101) 17 = .ok (.getfield 58, 3) := by decide +kernel
theorem s101_17_o1 (d : Nat) (l0 : Value) (l1 : Value) (l2 : Value) (l3 : Value) (σ : Hs) : ru d 101 17 [l0, l1, l2, l3] [.ref 1] σ = ru d 101 20 [l0, l1, l2, l3] [.ref 2] σ := q_getf t101_17 mo101 F7_58 rfl rfl
theorem t101_20 : decode (mb 101) 20 = .ok (.getfield 300, 3) := by decide +kernel
theorem s101_20_o2 (d : Nat) (l0 : Value) (l1 : Value) (l2 : Value) (l3 : Value) (σ : Hs) : ru d 101 20 [l0, l1, l2, l3] [.ref 2] σ = ru d 101 23 [l0, l1, l2, l3] [.ref 12] σ := q_getf t101_20 mo101 F7_300 rfl rfl
theorem t101_23 : decode (mb 101) 23 = .ok (.iconst 0, 1) := by decide +kernel
theorem s101_23 (d : Nat) (l0 : Value) (l1 : Value) (l2 : Value) (l3 : Value) (w0 : Value) (σ : Hs) : ru d 101 23 [l0, l1, l2, l3] [w0] σ = ru d 101 24 [l0, l1, l2, l3] [.int 0, w0] σ := q_iconst t101_23 (by decide +kernel)
theorem t101_24 : decode (mb 101) 24 = .ok (.aload_n 0, 1) := by decide +kernel
theorem s101_24 (d : Nat) (a0 : Nat) (l1 : Value) (l2 : Value) (l3 : Value) (w0 w1 : Value) (σ : Hs) : ru d 101 24 [.ref a0, l1, l2, l3] [w0, w1] σ = ru d 101 25 [.ref a0, l1, l2, l3] [.ref a0, w0, w1] σ := q_aload_n t101_24 rfl
theorem t101_25 : decode (mb 101) 25 = .ok (.getfield 22, 3) := by decide +kernel
theorem s101_25_o0 (d : Nat) (l0 : Value) (l1 : Value) (l2 : Value) (l3 : Value) (w0 w1 : Value) (σ : Hs) : ru d 101 25 [l0, l1, l2, l3] [.ref 0, w0, w1] σ = ru d 101 28 [l0, l1, l2, l3] [.ref 59, w0, w1] σ := q_getf t101_25 mo101 F7_22 rfl rfl
theorem t101_28 : decode (mb 101) 28 = .ok (.getfield 300, 3) := by decide +kernel
theorem s101_28_o59 (d : Nat) (l0 : Value) (l1 : Value) (l2 : Value) (l3 : Value) (w0 w1 : Value) (σ : Hs) : ru d 101 28 [l0, l1, l2, l3] [.ref 59, w0, w1] σ = ru d 101 31 [l0, l1, l2, l3] [.ref 69, w0, w1] σ := q_getf t101_28 mo101 F7_300 rfl rfl
theorem t101_31 : decode (mb 101) 31 = .ok (.iconst 0, 1) := by decide +kernel
theorem s101_31 (d : Nat) (l0 : Value) (l1 : Value) (l2 : Value) (l3 : Value) (w0 w1 w2 : Value) (σ : Hs) : ru d 101 31 [l0, l1, l2, l3] [w0, w1, w2] σ = ru d 101 32 [l0, l1, l2, l3] [.int 0, w0, w1, w2] σ := q_iconst t101_31 (by decide +kernel)
theorem t101_32 : decode (mb 101) 32 = .ok (.bipush 9, 2) := by decide +kernel
theorem s101_32 (d : Nat) (l0 : Value) (l1 : Value) (l2 : Value) (l3 : Value) (w0 w1 w2 w3 : Value) (σ : Hs) : ru d 101 32 [l0, l1, l2, l3] [w0, w1, w2, w3] σ = ru d 101 34 [l0, l1, l2, l3] [.int 9, w0, w1, w2, w3] σ := q_bipush t101_32 (by decide +kernel)
theorem t101_34 : decode (mb 101) 34 = .ok (.invokestatic 270, 3) := by decide +kernel
theorem s101_34 (d : Nat) (l0 : Value) (l1 : Value) (l2 : Value) (l3 : Value) (n dp sp : Int32) (a b : Nat) (σ : Hs) : ru d 101 34 [l0, l1, l2, l3] [.int n, .int dp, .ref a, .int sp, .ref b] σ = gd (bndC σ a b sp dp n) (ru d 101 37 [l0, l1, l2, l3] [] (cp2 σ b a sp.toNatClampNeg dp.toNatClampNeg n.toNatClampNeg)) := q_acp t101_34 mo101 (by decide +kernel)
theorem t101_37 : decode (mb 101) 37 = .ok (.iconst 0, 1) := by decide +kernel
theorem s101_37 (d : Nat) (l0 : Value) (l1 : Value) (l2 : Value) (l3 : Value) (σ : Hs) : ru d 101 37 [l0, l1, l2, l3] [] σ = ru d 101 38 [l0, l1, l2, l3] [.int 0] σ := q_iconst t101_37 (by decide +kernel)
theorem t101_38 : decode (mb 101) 38 = .ok (.istore_n 3, 1) := by decide +kernel
theorem s101_38 (d : Nat) (l0 : Value) (l1 : Value) (i2 : Int32) (l3 : Value) (x : Int32) (σ : Hs) : ru d 101 38 [l0, l1, .int i2, l3] [.int x] σ = ru d 101 39 [l0, l1, .int i2, .int x] [] σ := q_istore_n t101_38 ⟨Nat.le_of_ble_eq_true rfl, rfl⟩ rfl
theorem t101_39 : decode (mb 101) 39 = .ok (.iload_n 3, 1) := by decide +kernel
theorem s101_39 (d : Nat) (l0 : Value) (l1 : Value) (l2 : Value) (i3 : Int32) (σ : Hs) : ru d 101 39 [l0, l1, l2, .int i3] [] σ = ru d 101 40 [l0, l1, l2, .int i3] [.int i3] σ := q_iload_n t101_39 rfl
theorem t101_40 : decode (mb 101) 40 = .ok (.iload_n 2, 1) := by decide +kernel
theorem s101_40 (d : Nat) (l0 : Value) (l1 : Value) (i2 : Int32) (l3 : Value) (w0 : Value) (σ : Hs) : ru d 101 40 [l0, l1, .int i2, l3] [w0] σ = ru d 101 41 [l0, l1, .int i2, l3] [.int i2, w0] σ := q_iload_n t101_40 rfl
theorem t101_41 : decode (mb 101) 41 = .ok (.if_icmp .ge 29, 3) := by decide +kernel
theorem s101_41 (d : Nat) (l0 : Value) (l1 : Value) (l2 : Value) (l3 : Value) (x y : Int32) (σ : Hs) : ru d 101 41 [l0, l1, l2, l3] [.int y, .int x] σ = if y ≤ x then ru d 101 70 [l0, l1, l2, l3] [] σ else ru d 101 44 [l0, l1, l2, l3] [] σ := q_ic_ge t101_41 (by decide +kernel)
theorem t101_44 : decode (mb 101) 44 = .ok (.aload_n 0, 1) := by decide +kernel
theorem s101_44 (d : Nat) (a0 : Nat) (l1 : Value) (l2 : Value) (l3 : Value) (σ : Hs) : ru d 101 44 [.ref a0, l1, l2, l3] [] σ = ru d 101 45 [.ref a0, l1, l2, l3] [.ref a0] σ := q_aload_n t101_44 rfl
theorem t101_45 : decode (mb 101) 45 = .ok (.getfield 22, 3) := by decide +kernel
theorem s101_45_o0 (d : Nat) (l0 : Value) (l1 : Value) (l2 : Value) (l3 : Value) (σ : Hs) : ru d 101 45 [l0, l1, l2, l3] [.ref 0] σ = ru d 101 48 [l0, l1, l2, l3] [.ref 59] σ := q_getf t101_45 mo101 F7_22 rfl rfl
theorem t101_48 : decode (mb 101) 48 = .ok (.aload_n 0, 1) := by decide +kernel
theorem s101_48 (d : Nat) (a0 : Nat) (l1 : Value) (l2 : Value) (l3 : Value) (w0 : Value) (σ : Hs) : ru d 101 48 [.ref a0, l1, l2, l3] [w0] σ = ru d 101 49 [.ref a0, l1, l2, l3] [.ref a0, w0] σ := q_aload_n t101_48 rfl
theorem t101_49 : decode (mb 101) 49 = .ok (.getfield 51, 3) := by decide +kernel
theorem s101_49_o0 (d : Nat) (l0 : Value) (l1 : Value) (l2 : Value) (l3 : Value) (w0 : Value) (σ : Hs) : ru d 101 49 [l0, l1, l2, l3] [.ref 0, w0] σ = ru d 101 52 [l0, l1, l2, l3] [.ref 86, w0] σ := q_getf t101_49 mo101 F7_51 rfl rfl
theorem t101_52 : decode (mb 101) 52 = .ok (.iload_n 3, 1) := by decide +kernel
theorem s101_52 (d : Nat) (l0 : Value) (l1 : Value) (l2 : Value) (i3 : Int32) (w0 w1 : Value) (σ : Hs) : ru d 101 52 [l0, l1, l2, .int i3] [w0, w1] σ = ru d 101 53 [l0, l1, l2, .int i3] [.int i3, w0, w1] σ := q_iload_n t101_52 rfl
theorem t101_53 : decode (mb 101) 53 = .ok (.iaload, 1) := by decide +kernel
theorem s101_53_o86 (d : Nat) (l0 : Value) (l1 : Value) (l2 : Value) (l3 : Value) (i : Int32) (w0 : Value) (σ : Hs) : ru d 101 53 [l0, l1, l2, l3] [.int i, .ref 86, w0] σ = gd (vp_in i 60) (ru d 101 54 [l0, l1, l2, l3] [.int (σ 86 i.toNatClampNeg), w0] σ) := q_iald t101_53 rfl (by decide +kernel) rfl
theorem t101_54 : decode (mb 101) 54 = .ok (.aload_n 0, 1) := by decide +kernel
theorem s101_54 (d : Nat) (a0 : Nat) (l1 : Value) (l2 : Value) (l3 : Value) (w0 w1 : Value) (σ : Hs) : ru d 101 54 [.ref a0, l1, l2, l3] [w0, w1] σ = ru d 101 55 [.ref a0, l1, l2, l3] [.ref a0, w0, w1] σ := q_aload_n t101_54 rfl
theorem t101_55 : decode (mb 101) 55 = .ok (.getfield 10, 3) := by decide +kernel
theorem s101_55_o0 (d : Nat) (l0 : Value) (l1 : Value) (l2 : Value) (l3 : Value) (w0 w1 : Value) (σ : Hs) : ru d 101 55 [l0, l1, l2, l3] [.ref 0, w0, w1] σ = ru d 101 58 [l0, l1, l2, l3] [.ref 1, w0, w1] σ := q_getf t101_55 mo101 F7_10 rfl rfl
theorem t101_58 : decode (mb 101) 58 = .ok (.getfield 146, 3) := by decide +kernel
theorem s101_58_o1 (d : Nat) (l0 : Value) (l1 : Value) (l2 : Value) (l3 : Value) (w0 w1 : Value) (σ : Hs) : ru d 101 58 [l0, l1, l2, l3] [.ref 1, w0, w1] σ = ru d 101 61 [l0, l1, l2, l3] [.ref 13, w0, w1] σ := q_getf t101_58 mo101 F7_146 rfl rfl
theorem t101_61 : decode (mb 101) 61 = .ok (.invokevirtual 303, 3) := by decide +kernel
theorem s101_61_o59 (d : Nat) (l0 : Value) (l1 : Value) (l2 : Value) (l3 : Value) (v1 v2 : Value) (σ : Hs) : ru d 101 61 [l0, l1, l2, l3] [v2, v1, .ref 59] σ = kont (callD d 20 [.ref 59, v1, v2] σ) d 101 64 [l0, l1, l2, l3] [] := q_invv t101_61 mo101 K7_303 mj20 rfl rfl rfl rfl (Nat.le_of_ble_eq_true rfl)
theorem t101_64 : decode (mb 101) 64 = .ok (.iinc 3 1, 3) := by decide +kernel
theorem s101_64 (d : Nat) (l0 : Value) (l1 : Value) (i2 : Int32) (i3 : Int32) (σ : Hs) : ru d 101 64 [l0, l1, .int i2, .int i3] [] σ = ru d 101 67 [l0, l1, .int i2, .int (i3 + 1)] [] σ := q_iinc t101_64 ⟨Nat.le_of_ble_eq_true rfl, rfl⟩ rfl (by decide +kernel) rfl
theorem t101_67 : decode (mb 101) 67 = .ok (.goto (-28), 3) := by decide +kernel
theorem s101_67 (d : Nat) (l0 : Value) (l1 : Value) (l2 : Value) (l3 : Value) (σ : Hs) : ru d 101 67 [l0, l1, l2, l3] [] σ = ru d 101 39 [l0, l1, l2, l3] [] σ := q_goto t101_67 (by decide +kernel)
theorem t101_70 : decode (mb 101) 70 = .ok (.aload_n 0, 1) := by decide +kernel
theorem s101_70 (d : Nat) (a0 : Nat) (l1 : Value) (l2 : Value) (l3 : Value) (σ : Hs) : ru d 101 70 [.ref a0, l1, l2, l3] [] σ = ru d 101 71 [.ref a0, l1, l2, l3] [.ref a0] σ := q_aload_n t101_70 rfl
theorem t101_71 : decode (mb 101) 71 = .ok (.getfield 22, 3) := by decide +kernel
theorem s101_71_o0 (d : Nat) (l0 : Value) (l1 : Value) (l2 : Value) (l3 : Value) (σ : Hs) : ru d 101 71 [l0, l1, l2, l3] [.ref 0] σ = ru d 101 74 [l0, l1, l2, l3] [.ref 59] σ := q_getf t101_71 mo101 F7_22 rfl rfl
theorem t101_74 : decode (mb 101) 74 = .ok (.invokevirtual 306, 3) := by decide +kernel
theorem s101_74_o59 (d : Nat) (l0 : Value) (l1 : Value) (l2 : Value) (l3 : Value) (σ : Hs) : ru d 101 74 [l0, l1, l2, l3] [.ref 59] σ = kont (callD d 22 [.ref 59] σ) d 101 77 [l0, l1, l2, l3] [] := q_invv t101_74 mo101 K7_306 mj22 rfl rfl rfl rfl (Nat.le_of_ble_eq_true rfl)
theorem t101_77 : decode (mb 101) 77 = .ok (.aload_n 0, 1) := by decide +kernel
theorem s101_77 (d : Nat) (a0 : Nat) (l1 : Value) (l2 : Value) (l3 : Value) (w0 : Value) (σ : Hs) : ru d 101 77 [.ref a0, l1, l2, l3] [w0] σ = ru d 101 78 [.ref a0, l1, l2, l3] [.ref a0, w0] σ := q_aload_n t101_77 rfl
theorem t101_78 : decode (mb 101) 78 = .ok (.getfield 10, 3) := by decide +kernel
theorem s101_78_o0 (d : Nat) (l0 : Value) (l1 : Value) (l2 : Value) (l3 : Value) (w0 : Value) (σ : Hs) : ru d 101 78 [l0, l1, l2, l3] [.ref 0, w0] σ = ru d 101 81 [l0, l1, l2, l3] [.ref 1, w0] σ := q_getf t101_78 mo101 F7_10 rfl rfl
theorem t101_81 : decode (mb 101) 81 = .ok (.getfield 58, 3) := by decide +kernel
theorem s101_81_o1 (d : Nat) (l0 : Value) (l1 : Value) (l2 : Value) (l3 : Value) (w0 : Value) (σ : Hs) : ru d 101 81 [l0, l1, l2, l3] [.ref 1, w0] σ = ru d 101 84 [l0, l1, l2, l3] [.ref 2, w0] σ := q_getf t101_81 mo101 F7_58 rfl rfl
theorem t101_84 : decode (mb 101) 84 = .ok (.invokevirtual 306, 3) := by decide +kernel
theorem s101_84_o2 (d : Nat) (l0 : Value) (l1 : Value) (l2 : Value) (l3 : Value) (w0 : Int32) (σ : Hs) : ru d 101 84 [l0, l1, l2, l3] [.ref 2, .int w0] σ = kont (callD d 22 [.ref 2] σ) d 101 87 [l0, l1, l2, l3] [.int w0] := q_invv t101_84 mo101 K7_306 mj22 rfl rfl rfl rfl (Nat.le_of_ble_eq_true rfl)
theorem t101_87 : decode (mb 101) 87 = .ok (.isub, 1) := by decide +kernel
theorem s101_87 (d : Nat) (l0 : Value) (l1 : Value) (l2 : Value) (l3 : Value) (x y : Int32) (σ : Hs) : ru d 101 87 [l0, l1, l2, l3] [.int y, .int x] σ = ru d 101 88 [l0, l1, l2, l3] [.int (x - y)] σ := q_isub t101_87
theorem t101_88 : decode (mb 101) 88 = .ok (.ireturn, 1) := by decide +kernel
theorem s101_88 (d : Nat) (l0 : Value) (l1 : Value) (l2 : Value) (l3 : Value) (x : Int32) (σ : Hs) : ru d 101 88 [l0, l1, l2, l3] [.int x] σ = some (some (.int x), σ) := q_ireti t101_88 mr101
theorem c101 (d : Nat) (x0 : Nat) (x1 : Int32) (x2 : Int32) (σ : Hs) : callD (d + 1) 101 [.ref x0, .int x1, .int x2] σ = ru d 101 0 [.ref x0, .int x1, .int x2, uu] [] σ := callD_ru ml101 rfl rfl (Nat.le_of_ble_eq_true rfl)
-- 102: SmokyHeap.within(III)Z
theorem t102_0 : decode (mb 102) 0 = .ok (.iload_n 0, 1) := by decide +kernel
theorem s102_0 (d : Nat) (i0 : Int32) (l1 : Value) (l2 : Value) (σ : Hs) : ru d 102 0 [.int i0, l1, l2] [] σ = ru d 102 1 [.int i0, l1, l2] [.int i0] σ := q_iload_n t102_0 rfl
theorem t102_1 : decode (mb 102) 1 = .ok (.iload_n 1, 1) := by decide +kernel
theorem s102_1 (d : Nat) (l0 : Value) (i1 : Int32) (l2 : Value) (w0 : Value) (σ : Hs) : ru d 102 1 [l0, .int i1, l2] [w0] σ = ru d 102 2 [l0, .int i1, l2] [.int i1, w0] σ := q_iload_n t102_1 rfl
theorem t102_2 : decode (mb 102) 2 = .ok (.if_icmp .lt 12, 3) := by decide +kernel
theorem s102_2 (d : Nat) (l0 : Value) (l1 : Value) (l2 : Value) (x y : Int32) (σ : Hs) : ru d 102 2 [l0, l1, l2] [.int y, .int x] σ = if x < y then ru d 102 14 [l0, l1, l2] [] σ else ru d 102 5 [l0, l1, l2] [] σ := q_ic_lt t102_2 (by decide +kernel)
theorem t102_5 : decode (mb 102) 5 = .ok (.iload_n 0, 1) := by decide +kernel
theorem s102_5 (d : Nat) (i0 : Int32) (l1 : Value) (l2 : Value) (σ : Hs) : ru d 102 5 [.int i0, l1, l2] [] σ = ru d 102 6 [.int i0, l1, l2] [.int i0] σ := q_iload_n t102_5 rfl
theorem t102_6 : decode (mb 102) 6 = .ok (.iload_n 2, 1) := by decide +kernel
theorem s102_6 (d : Nat) (l0 : Value) (l1 : Value) (i2 : Int32) (w0 : Value) (σ : Hs) : ru d 102 6 [l0, l1, .int i2] [w0] σ = ru d 102 7 [l0, l1, .int i2] [.int i2, w0] σ := q_iload_n t102_6 rfl
theorem t102_7 : decode (mb 102) 7 = .ok (.if_icmp .gt 7, 3) := by decide +kernel
theorem s102_7 (d : Nat) (l0 : Value) (l1 : Value) (l2 : Value) (x y : Int32) (σ : Hs) : ru d 102 7 [l0, l1, l2] [.int y, .int x] σ = if y < x then ru d 102 14 [l0, l1, l2] [] σ else ru d 102 10 [l0, l1, l2] [] σ := q_ic_gt t102_7 (by decide +kernel)
theorem t102_10 : decode (mb 102) 10 = .ok (.iconst 1, 1) := by decide +kernel
theorem s102_10 (d : Nat) (l0 : Value) (l1 : Value) (l2 : Value) (σ : Hs) : ru d 102 10 [l0, l1, l2] [] σ = ru d 102 11 [l0, l1, l2] [.int 1] σ := q_iconst t102_10 (by decide +kernel)
theorem t102_11 : decode (mb 102) 11 = .ok (.goto 4, 3) := by decide +kernel
theorem s102_11 (d : Nat) (l0 : Value) (l1 : Value) (l2 : Value) (w0 : Value) (σ : Hs) : ru d 102 11 [l0, l1, l2] [w0] σ = ru d 102 15 [l0, l1, l2] [w0] σ := q_goto t102_11 (by decide +kernel)
theorem t102_14 : decode (mb 102) 14 = .ok (.iconst 0, 1) := by decide +kernel
theorem s102_14 (d : Nat) (l0 : Value) (l1 : Value) (l2 : Value) (σ : Hs) : ru d 102 14 [l0, l1, l2] [] σ = ru d 102 15 [l0, l1, l2] [.int 0] σ := q_iconst t102_14 (by decide +kernel)
theorem t102_15 : decode (mb 102) 15 = .ok (.ireturn, 1) := by decide +kernel
theorem s102_15 (d : Nat) (l0 : Value) (l1 : Value) (l2 : Value) (x : Int32) (hx : isB x) (σ : Hs) : ru d 102 15 [l0, l1, l2] [.int x] σ = some (some (.int x), σ) := q_iretz t102_15 mr102 hx
theorem c102 (d : Nat) (x0 : Int32) (x1 : Int32) (x2 : Int32) (σ : Hs) : callD (d + 1) 102 [.int x0, .int x1, .int x2] σ = ru d 102 0 [.int x0, .int x1, .int x2] [] σ := callD_ru ml102 rfl rfl (Nat.le_of_ble_eq_true rfl)
-- 103: SmokyHeap.isPlace(I)Z
theorem t103_0 : decode (mb 103) 0 = .ok (.iload_n 0, 1) := by decide +kernel
theorem s103_0 (d : Nat) (i0 : Int32) (σ : Hs) : ru d 103 0 [.int i0] [] σ = ru d 103 1 [.int i0] [.int i0] σ := q_iload_n t103_0 rfl
theorem t103_1 : decode (mb 103) 1 = .ok (.ifCond .lt 13, 3) := by decide +kernel
theorem s103_1 (d : Nat) (l0 : Value) (x : Int32) (σ : Hs) : ru d 103 1 [l0] [.int x] σ = if x < 0 then ru d 103 14 [l0] [] σ else ru d 103 4 [l0] [] σ := q_if_lt t103_1 (by decide +kernel)
theorem t103_4 : decode (mb 103) 4 = .ok (.iload_n 0, 1) := by decide +kernel
theorem s103_4 (d : Nat) (i0 : Int32) (σ : Hs) : ru d 103 4 [.int i0] [] σ = ru d 103 5 [.int i0] [.int i0] σ := q_iload_n t103_4 rfl
theorem t103_5 : decode (mb 103) 5 = .ok (.bipush 30, 2) := by decide +kernel
theorem s103_5 (d : Nat) (l0 : Value) (w0 : Value) (σ : Hs) : ru d 103 5 [l0] [w0] σ = ru d 103 7 [l0] [.int 30, w0] σ := q_bipush t103_5 (by decide +kernel)
theorem t103_7 : decode (mb 103) 7 = .ok (.if_icmp .ge 7, 3) := by decide +kernel
theorem s103_7 (d : Nat) (l0 : Value) (x y : Int32) (σ : Hs) : ru d 103 7 [l0] [.int y, .int x] σ = if y ≤ x then ru d 103 14 [l0] [] σ else ru d 103 10 [l0] [] σ := q_ic_ge t103_7 (by decide +kernel)
theorem t103_10 : decode (mb 103) 10 = .ok (.iconst 1, 1) := by decide +kernel
theorem s103_10 (d : Nat) (l0 : Value) (σ : Hs) : ru d 103 10 [l0] [] σ = ru d 103 11 [l0] [.int 1] σ := q_iconst t103_10 (by decide +kernel)
theorem t103_11 : decode (mb 103) 11 = .ok (.goto 4, 3) := by decide +kernel
theorem s103_11 (d : Nat) (l0 : Value) (w0 : Value) (σ : Hs) : ru d 103 11 [l0] [w0] σ = ru d 103 15 [l0] [w0] σ := q_goto t103_11 (by decide +kernel)
theorem t103_14 : decode (mb 103) 14 = .ok (.iconst 0, 1) := by decide +kernel
theorem s103_14 (d : Nat) (l0 : Value) (σ : Hs) : ru d 103 14 [l0] [] σ = ru d 103 15 [l0] [.int 0] σ := q_iconst t103_14 (by decide +kernel)
theorem t103_15 : decode (mb 103) 15 = .ok (.ireturn, 1) := by decide +kernel
theorem s103_15 (d : Nat) (l0 : Value) (x : Int32) (hx : isB x) (σ : Hs) : ru d 103 15 [l0] [.int x] σ = some (some (.int x), σ) := q_iretz t103_15 mr103 hx
theorem c103 (d : Nat) (x0 : Int32) (σ : Hs) : callD (d + 1) 103 [.int x0] σ = ru d 103 0 [.int x0] [] σ := callD_ru ml103 rfl rfl (Nat.le_of_ble_eq_true rfl)
-- 104: SmokyHeap.isKind(I)Z
theorem t104_0 : decode (mb 104) 0 = .ok (.iload_n 0, 1) := by decide +kernel
theorem s104_0 (d : Nat) (i0 : Int32) (σ : Hs) : ru d 104 0 [.int i0] [] σ = ru d 104 1 [.int i0] [.int i0] σ := q_iload_n t104_0 rfl
theorem t104_1 : decode (mb 104) 1 = .ok (.ifCond .lt 13, 3) := by decide +kernel
theorem s104_1 (d : Nat) (l0 : Value) (x : Int32) (σ : Hs) : ru d 104 1 [l0] [.int x] σ = if x < 0 then ru d 104 14 [l0] [] σ else ru d 104 4 [l0] [] σ := q_if_lt t104_1 (by decide +kernel)
theorem t104_4 : decode (mb 104) 4 = .ok (.iload_n 0, 1) := by decide +kernel
theorem s104_4 (d : Nat) (i0 : Int32) (σ : Hs) : ru d 104 4 [.int i0] [] σ = ru d 104 5 [.int i0] [.int i0] σ := q_iload_n t104_4 rfl
theorem t104_5 : decode (mb 104) 5 = .ok (.bipush 7, 2) := by decide +kernel
theorem s104_5 (d : Nat) (l0 : Value) (w0 : Value) (σ : Hs) : ru d 104 5 [l0] [w0] σ = ru d 104 7 [l0] [.int 7, w0] σ := q_bipush t104_5 (by decide +kernel)
theorem t104_7 : decode (mb 104) 7 = .ok (.if_icmp .ge 7, 3) := by decide +kernel
theorem s104_7 (d : Nat) (l0 : Value) (x y : Int32) (σ : Hs) : ru d 104 7 [l0] [.int y, .int x] σ = if y ≤ x then ru d 104 14 [l0] [] σ else ru d 104 10 [l0] [] σ := q_ic_ge t104_7 (by decide +kernel)
theorem t104_10 : decode (mb 104) 10 = .ok (.iconst 1, 1) := by decide +kernel
theorem s104_10 (d : Nat) (l0 : Value) (σ : Hs) : ru d 104 10 [l0] [] σ = ru d 104 11 [l0] [.int 1] σ := q_iconst t104_10 (by decide +kernel)
theorem t104_11 : decode (mb 104) 11 = .ok (.goto 4, 3) := by decide +kernel
theorem s104_11 (d : Nat) (l0 : Value) (w0 : Value) (σ : Hs) : ru d 104 11 [l0] [w0] σ = ru d 104 15 [l0] [w0] σ := q_goto t104_11 (by decide +kernel)
theorem t104_14 : decode (mb 104) 14 = .ok (.iconst 0, 1) := by decide +kernel
theorem s104_14 (d : Nat) (l0 : Value) (σ : Hs) : ru d 104 14 [l0] [] σ = ru d 104 15 [l0] [.int 0] σ := q_iconst t104_14 (by decide +kernel)
theorem t104_15 : decode (mb 104) 15 = .ok (.ireturn, 1) := by decide +kernel
theorem s104_15 (d : Nat) (l0 : Value) (x : Int32) (hx : isB x) (σ : Hs) : ru d 104 15 [l0] [.int x] σ = some (some (.int x), σ) := q_iretz t104_15 mr104 hx
theorem c104 (d : Nat) (x0 : Int32) (σ : Hs) : callD (d + 1) 104 [.int x0] σ = ru d 104 0 [.int x0] [] σ := callD_ru ml104 rfl rfl (Nat.le_of_ble_eq_true rfl)
-- 105: SmokyHeap.isUse(I)Z
theorem t105_0 : decode (mb 105) 0 = .ok (.iload_n 0, 1) := by decide +kernel
theorem s105_0 (d : Nat) (i0 : Int32) (σ : Hs) : ru d 105 0 [.int i0] [] σ = ru d 105 1 [.int i0] [.int i0] σ := q_iload_n t105_0 rfl
theorem t105_1 : decode (mb 105) 1 = .ok (.ifCond .lt 12, 3) := by decide +kernel
theorem s105_1 (d : Nat) (l0 : Value) (x : Int32) (σ : Hs) : ru d 105 1 [l0] [.int x] σ = if x < 0 then ru d 105 13 [l0] [] σ else ru d 105 4 [l0] [] σ := q_if_lt t105_1 (by decide +kernel)
theorem t105_4 : decode (mb 105) 4 = .ok (.iload_n 0, 1) := by decide +kernel
theorem s105_4 (d : Nat) (i0 : Int32) (σ : Hs) : ru d 105 4 [.int i0] [] σ = ru d 105 5 [.int i0] [.int i0] σ := q_iload_n t105_4 rfl
theorem t105_5 : decode (mb 105) 5 = .ok (.iconst 3, 1) := by decide +kernel
theorem s105_5 (d : Nat) (l0 : Value) (w0 : Value) (σ : Hs) : ru d 105 5 [l0] [w0] σ = ru d 105 6 [l0] [.int 3, w0] σ := q_iconst t105_5 (by decide +kernel)
theorem t105_6 : decode (mb 105) 6 = .ok (.if_icmp .ge 7, 3) := by decide +kernel
theorem s105_6 (d : Nat) (l0 : Value) (x y : Int32) (σ : Hs) : ru d 105 6 [l0] [.int y, .int x] σ = if y ≤ x then ru d 105 13 [l0] [] σ else ru d 105 9 [l0] [] σ := q_ic_ge t105_6 (by decide +kernel)
theorem t105_9 : decode (mb 105) 9 = .ok (.iconst 1, 1) := by decide +kernel
theorem s105_9 (d : Nat) (l0 : Value) (σ : Hs) : ru d 105 9 [l0] [] σ = ru d 105 10 [l0] [.int 1] σ := q_iconst t105_9 (by decide +kernel)
theorem t105_10 : decode (mb 105) 10 = .ok (.goto 4, 3) := by decide +kernel
theorem s105_10 (d : Nat) (l0 : Value) (w0 : Value) (σ : Hs) : ru d 105 10 [l0] [w0] σ = ru d 105 14 [l0] [w0] σ := q_goto t105_10 (by decide +kernel)
theorem t105_13 : decode (mb 105) 13 = .ok (.iconst 0, 1) := by decide +kernel
theorem s105_13 (d : Nat) (l0 : Value) (σ : Hs) : ru d 105 13 [l0] [] σ = ru d 105 14 [l0] [.int 0] σ := q_iconst t105_13 (by decide +kernel)
theorem t105_14 : decode (mb 105) 14 = .ok (.ireturn, 1) := by decide +kernel
theorem s105_14 (d : Nat) (l0 : Value) (x : Int32) (hx : isB x) (σ : Hs) : ru d 105 14 [l0] [.int x] σ = some (some (.int x), σ) := q_iretz t105_14 mr105 hx
theorem c105 (d : Nat) (x0 : Int32) (σ : Hs) : callD (d + 1) 105 [.int x0] σ = ru d 105 0 [.int x0] [] σ := callD_ru ml105 rfl rfl (Nat.le_of_ble_eq_true rfl)
-- 106: SmokyHeap.isGarden(I)Z
theorem t106_0 : decode (mb 106) 0 = .ok (.iload_n 0, 1) := by decide +kernel
theorem s106_0 (d : Nat) (i0 : Int32) (σ : Hs) : ru d 106 0 [.int i0] [] σ = ru d 106 1 [.int i0] [.int i0] σ := q_iload_n t106_0 rfl
theorem t106_1 : decode (mb 106) 1 = .ok (.ifCond .lt 13, 3) := by decide +kernel
theorem s106_1 (d : Nat) (l0 : Value) (x : Int32) (σ : Hs) : ru d 106 1 [l0] [.int x] σ = if x < 0 then ru d 106 14 [l0] [] σ else ru d 106 4 [l0] [] σ := q_if_lt t106_1 (by decide +kernel)
theorem t106_4 : decode (mb 106) 4 = .ok (.iload_n 0, 1) := by decide +kernel
theorem s106_4 (d : Nat) (i0 : Int32) (σ : Hs) : ru d 106 4 [.int i0] [] σ = ru d 106 5 [.int i0] [.int i0] σ := q_iload_n t106_4 rfl
theorem t106_5 : decode (mb 106) 5 = .ok (.bipush 9, 2) := by decide +kernel
theorem s106_5 (d : Nat) (l0 : Value) (w0 : Value) (σ : Hs) : ru d 106 5 [l0] [w0] σ = ru d 106 7 [l0] [.int 9, w0] σ := q_bipush t106_5 (by decide +kernel)
theorem t106_7 : decode (mb 106) 7 = .ok (.if_icmp .ge 7, 3) := by decide +kernel
theorem s106_7 (d : Nat) (l0 : Value) (x y : Int32) (σ : Hs) : ru d 106 7 [l0] [.int y, .int x] σ = if y ≤ x then ru d 106 14 [l0] [] σ else ru d 106 10 [l0] [] σ := q_ic_ge t106_7 (by decide +kernel)
theorem t106_10 : decode (mb 106) 10 = .ok (.iconst 1, 1) := by decide +kernel
theorem s106_10 (d : Nat) (l0 : Value) (σ : Hs) : ru d 106 10 [l0] [] σ = ru d 106 11 [l0] [.int 1] σ := q_iconst t106_10 (by decide +kernel)
theorem t106_11 : decode (mb 106) 11 = .ok (.goto 4, 3) := by decide +kernel
theorem s106_11 (d : Nat) (l0 : Value) (w0 : Value) (σ : Hs) : ru d 106 11 [l0] [w0] σ = ru d 106 15 [l0] [w0] σ := q_goto t106_11 (by decide +kernel)
theorem t106_14 : decode (mb 106) 14 = .ok (.iconst 0, 1) := by decide +kernel
theorem s106_14 (d : Nat) (l0 : Value) (σ : Hs) : ru d 106 14 [l0] [] σ = ru d 106 15 [l0] [.int 0] σ := q_iconst t106_14 (by decide +kernel)
theorem t106_15 : decode (mb 106) 15 = .ok (.ireturn, 1) := by decide +kernel
theorem s106_15 (d : Nat) (l0 : Value) (x : Int32) (hx : isB x) (σ : Hs) : ru d 106 15 [l0] [.int x] σ = some (some (.int x), σ) := q_iretz t106_15 mr106 hx
theorem c106 (d : Nat) (x0 : Int32) (σ : Hs) : callD (d + 1) 106 [.int x0] σ = ru d 106 0 [.int x0] [] σ := callD_ru ml106 rfl rfl (Nat.le_of_ble_eq_true rfl)
-- 107: SmokyHeap.isSheet(I)Z
theorem t107_0 : decode (mb 107) 0 = .ok (.iload_n 0, 1) := by decide +kernel
theorem s107_0 (d : Nat) (i0 : Int32) (σ : Hs) : ru d 107 0 [.int i0] [] σ = ru d 107 1 [.int i0] [.int i0] σ := q_iload_n t107_0 rfl
theorem t107_1 : decode (mb 107) 1 = .ok (.ifCond .lt 12, 3) := by decide +kernel
theorem s107_1 (d : Nat) (l0 : Value) (x : Int32) (σ : Hs) : ru d 107 1 [l0] [.int x] σ = if x < 0 then ru d 107 13 [l0] [] σ else ru d 107 4 [l0] [] σ := q_if_lt t107_1 (by decide +kernel)
theorem t107_4 : decode (mb 107) 4 = .ok (.iload_n 0, 1) := by decide +kernel
theorem s107_4 (d : Nat) (i0 : Int32) (σ : Hs) : ru d 107 4 [.int i0] [] σ = ru d 107 5 [.int i0] [.int i0] σ := q_iload_n t107_4 rfl
theorem t107_5 : decode (mb 107) 5 = .ok (.iconst 4, 1) := by decide +kernel
theorem s107_5 (d : Nat) (l0 : Value) (w0 : Value) (σ : Hs) : ru d 107 5 [l0] [w0] σ = ru d 107 6 [l0] [.int 4, w0] σ := q_iconst t107_5 (by decide +kernel)
theorem t107_6 : decode (mb 107) 6 = .ok (.if_icmp .ge 7, 3) := by decide +kernel
theorem s107_6 (d : Nat) (l0 : Value) (x y : Int32) (σ : Hs) : ru d 107 6 [l0] [.int y, .int x] σ = if y ≤ x then ru d 107 13 [l0] [] σ else ru d 107 9 [l0] [] σ := q_ic_ge t107_6 (by decide +kernel)
theorem t107_9 : decode (mb 107) 9 = .ok (.iconst 1, 1) := by decide +kernel
theorem s107_9 (d : Nat) (l0 : Value) (σ : Hs) : ru d 107 9 [l0] [] σ = ru d 107 10 [l0] [.int 1] σ := q_iconst t107_9 (by decide +kernel)
theorem t107_10 : decode (mb 107) 10 = .ok (.goto 4, 3) := by decide +kernel
theorem s107_10 (d : Nat) (l0 : Value) (w0 : Value) (σ : Hs) : ru d 107 10 [l0] [w0] σ = ru d 107 14 [l0] [w0] σ := q_goto t107_10 (by decide +kernel)
theorem t107_13 : decode (mb 107) 13 = .ok (.iconst 0, 1) := by decide +kernel
theorem s107_13 (d : Nat) (l0 : Value) (σ : Hs) : ru d 107 13 [l0] [] σ = ru d 107 14 [l0] [.int 0] σ := q_iconst t107_13 (by decide +kernel)
theorem t107_14 : decode (mb 107) 14 = .ok (.ireturn, 1) := by decide +kernel
theorem s107_14 (d : Nat) (l0 : Value) (x : Int32) (hx : isB x) (σ : Hs) : ru d 107 14 [l0] [.int x] σ = some (some (.int x), σ) := q_iretz t107_14 mr107 hx
theorem c107 (d : Nat) (x0 : Int32) (σ : Hs) : callD (d + 1) 107 [.int x0] σ = ru d 107 0 [.int x0] [] σ := callD_ru ml107 rfl rfl (Nat.le_of_ble_eq_true rfl)
-- 108: SmokyHeap.isAhead(I)Z
theorem t108_0 : decode (mb 108) 0 = .ok (.iload_n 0, 1) := by decide +kernel
theorem s108_0 (d : Nat) (i0 : Int32) (σ : Hs) : ru d 108 0 [.int i0] [] σ = ru d 108 1 [.int i0] [.int i0] σ := q_iload_n t108_0 rfl
theorem t108_1 : decode (mb 108) 1 = .ok (.ifCond .lt 13, 3) := by decide +kernel
theorem s108_1 (d : Nat) (l0 : Value) (x : Int32) (σ : Hs) : ru d 108 1 [l0] [.int x] σ = if x < 0 then ru d 108 14 [l0] [] σ else ru d 108 4 [l0] [] σ := q_if_lt t108_1 (by decide +kernel)
theorem t108_4 : decode (mb 108) 4 = .ok (.iload_n 0, 1) := by decide +kernel
theorem s108_4 (d : Nat) (i0 : Int32) (σ : Hs) : ru d 108 4 [.int i0] [] σ = ru d 108 5 [.int i0] [.int i0] σ := q_iload_n t108_4 rfl
theorem t108_5 : decode (mb 108) 5 = .ok (.bipush 60, 2) := by decide +kernel
theorem s108_5 (d : Nat) (l0 : Value) (w0 : Value) (σ : Hs) : ru d 108 5 [l0] [w0] σ = ru d 108 7 [l0] [.int 60, w0] σ := q_bipush t108_5 (by decide +kernel)
theorem t108_7 : decode (mb 108) 7 = .ok (.if_icmp .gt 7, 3) := by decide +kernel
theorem s108_7 (d : Nat) (l0 : Value) (x y : Int32) (σ : Hs) : ru d 108 7 [l0] [.int y, .int x] σ = if y < x then ru d 108 14 [l0] [] σ else ru d 108 10 [l0] [] σ := q_ic_gt t108_7 (by decide +kernel)
theorem t108_10 : decode (mb 108) 10 = .ok (.iconst 1, 1) := by decide +kernel
theorem s108_10 (d : Nat) (l0 : Value) (σ : Hs) : ru d 108 10 [l0] [] σ = ru d 108 11 [l0] [.int 1] σ := q_iconst t108_10 (by decide +kernel)
theorem t108_11 : decode (mb 108) 11 = .ok (.goto 4, 3) := by decide +kernel
theorem s108_11 (d : Nat) (l0 : Value) (w0 : Value) (σ : Hs) : ru d 108 11 [l0] [w0] σ = ru d 108 15 [l0] [w0] σ := q_goto t108_11 (by decide +kernel)
theorem t108_14 : decode (mb 108) 14 = .ok (.iconst 0, 1) := by decide +kernel
theorem s108_14 (d : Nat) (l0 : Value) (σ : Hs) : ru d 108 14 [l0] [] σ = ru d 108 15 [l0] [.int 0] σ := q_iconst t108_14 (by decide +kernel)
theorem t108_15 : decode (mb 108) 15 = .ok (.ireturn, 1) := by decide +kernel
theorem s108_15 (d : Nat) (l0 : Value) (x : Int32) (hx : isB x) (σ : Hs) : ru d 108 15 [l0] [.int x] σ = some (some (.int x), σ) := q_iretz t108_15 mr108 hx
theorem c108 (d : Nat) (x0 : Int32) (σ : Hs) : callD (d + 1) 108 [.int x0] σ = ru d 108 0 [.int x0] [] σ := callD_ru ml108 rfl rfl (Nat.le_of_ble_eq_true rfl)
-- 109: SmokyHeap.isOfKind(II)Z
theorem t109_0 : decode (mb 109) 0 = .ok (.iload_n 0, 1) := by decide +kernel
theorem s109_0 (d : Nat) (i0 : Int32) (l1 : Value) (l2 : Value) (l3 : Value) (σ : Hs) : ru d 109 0 [.int i0, l1, l2, l3] [] σ = ru d 109 1 [.int i0, l1, l2, l3] [.int i0] σ := q_iload_n t109_0 rfl
theorem t109_1 : decode (mb 109) 1 = .ok (.istore_n 2, 1) := by decide +kernel
theorem s109_1 (d : Nat) (l0 : Value) (i1 : Int32) (l2 : Value) (l3 : Value) (x : Int32) (σ : Hs) : ru d 109 1 [l0, .int i1, l2, l3] [.int x] σ = ru d 109 2 [l0, .int i1, .int x, l3] [] σ := q_istore_n t109_1 ⟨Nat.le_of_ble_eq_true rfl, rfl⟩ rfl
theorem t109_2 : decode (mb 109) 2 = .ok (.iconst 0, 1) := by decide +kernel
theorem s109_2 (d : Nat) (l0 : Value) (l1 : Value) (l2 : Value) (l3 : Value) (σ : Hs) : ru d 109 2 [l0, l1, l2, l3] [] σ = ru d 109 3 [l0, l1, l2, l3] [.int 0] σ := q_iconst t109_2 (by decide +kernel)
theorem t109_3 : decode (mb 109) 3 = .ok (.istore_n 3, 1) := by decide +kernel
theorem s109_3 (d : Nat) (l0 : Value) (l1 : Value) (i2 : Int32) (l3 : Value) (x : Int32) (σ : Hs) : ru d 109 3 [l0, l1, .int i2, l3] [.int x] σ = ru d 109 4 [l0, l1, .int i2, .int x] [] σ := q_istore_n t109_3 ⟨Nat.le_of_ble_eq_true rfl, rfl⟩ rfl
theorem t109_4 : decode (mb 109) 4 = .ok (.iload_n 3, 1) := by decide +kernel
theorem s109_4 (d : Nat) (l0 : Value) (l1 : Value) (l2 : Value) (i3 : Int32) (σ : Hs) : ru d 109 4 [l0, l1, l2, .int i3] [] σ = ru d 109 5 [l0, l1, l2, .int i3] [.int i3] σ := q_iload_n t109_4 rfl
theorem t109_5 : decode (mb 109) 5 = .ok (.bipush 7, 2) := by decide +kernel
theorem s109_5 (d : Nat) (l0 : Value) (l1 : Value) (l2 : Value) (l3 : Value) (w0 : Value) (σ : Hs) : ru d 109 5 [l0, l1, l2, l3] [w0] σ = ru d 109 7 [l0, l1, l2, l3] [.int 7, w0] σ := q_bipush t109_5 (by decide +kernel)
theorem t109_7 : decode (mb 109) 7 = .ok (.if_icmp .ge 29, 3) := by decide +kernel
theorem s109_7 (d : Nat) (l0 : Value) (l1 : Value) (l2 : Value) (l3 : Value) (x y : Int32) (σ : Hs) : ru d 109 7 [l0, l1, l2, l3] [.int y, .int x] σ = if y ≤ x then ru d 109 36 [l0, l1, l2, l3] [] σ else ru d 109 10 [l0, l1, l2, l3] [] σ := q_ic_ge t109_7 (by decide +kernel)
theorem t109_10 : decode (mb 109) 10 = .ok (.iload_n 2, 1) := by decide +kernel
theorem s109_10 (d : Nat) (l0 : Value) (l1 : Value) (i2 : Int32) (l3 : Value) (σ : Hs) : ru d 109 10 [l0, l1, .int i2, l3] [] σ = ru d 109 11 [l0, l1, .int i2, l3] [.int i2] σ := q_iload_n t109_10 rfl
theorem t109_11 : decode (mb 109) 11 = .ok (.invokestatic 91, 3) := by decide +kernel
theorem s109_11 (d : Nat) (l0 : Value) (l1 : Value) (l2 : Value) (l3 : Value) (v0 : Value) (σ : Hs) : ru d 109 11 [l0, l1, l2, l3] [v0] σ = kont (callD d 104 [v0] σ) d 109 14 [l0, l1, l2, l3] [] := q_invs t109_11 mo109 (by decide +kernel) K7_91 mj104 (Nat.le_of_ble_eq_true rfl) rfl rfl (Nat.le_of_ble_eq_true rfl)
theorem t109_14 : decode (mb 109) 14 = .ok (.ifCond .eq 22, 3) := by decide +kernel
theorem s109_14 (d : Nat) (l0 : Value) (l1 : Value) (l2 : Value) (l3 : Value) (x : Int32) (σ : Hs) : ru d 109 14 [l0, l1, l2, l3] [.int x] σ = if x = 0 then ru d 109 36 [l0, l1, l2, l3] [] σ else ru d 109 17 [l0, l1, l2, l3] [] σ := q_if_eq t109_14 (by decide +kernel)
theorem t109_17 : decode (mb 109) 17 = .ok (.iload_n 2, 1) := by decide +kernel
theorem s109_17 (d : Nat) (l0 : Value) (l1 : Value) (i2 : Int32) (l3 : Value) (σ : Hs) : ru d 109 17 [l0, l1, .int i2, l3] [] σ = ru d 109 18 [l0, l1, .int i2, l3] [.int i2] σ := q_iload_n t109_17 rfl
theorem t109_18 : decode (mb 109) 18 = .ok (.iload_n 1, 1) := by decide +kernel
theorem s109_18 (d : Nat) (l0 : Value) (i1 : Int32) (l2 : Value) (l3 : Value) (w0 : Value) (σ : Hs) : ru d 109 18 [l0, .int i1, l2, l3] [w0] σ = ru d 109 19 [l0, .int i1, l2, l3] [.int i1, w0] σ := q_iload_n t109_18 rfl
theorem t109_19 : decode (mb 109) 19 = .ok (.if_icmp .ne 5, 3) := by decide +kernel
theorem s109_19 (d : Nat) (l0 : Value) (l1 : Value) (l2 : Value) (l3 : Value) (x y : Int32) (σ : Hs) : ru d 109 19 [l0, l1, l2, l3] [.int y, .int x] σ = if x = y then ru d 109 22 [l0, l1, l2, l3] [] σ else ru d 109 24 [l0, l1, l2, l3] [] σ := q_ic_ne t109_19 (by decide +kernel)
theorem t109_22 : decode (mb 109) 22 = .ok (.iconst 1, 1) := by decide +kernel
theorem s109_22 (d : Nat) (l0 : Value) (l1 : Value) (l2 : Value) (l3 : Value) (σ : Hs) : ru d 109 22 [l0, l1, l2, l3] [] σ = ru d 109 23 [l0, l1, l2, l3] [.int 1] σ := q_iconst t109_22 (by decide +kernel)
theorem t109_23 : decode (mb 109) 23 = .ok (.ireturn, 1) := by decide +kernel
theorem s109_23 (d : Nat) (l0 : Value) (l1 : Value) (l2 : Value) (l3 : Value) (x : Int32) (hx : isB x) (σ : Hs) : ru d 109 23 [l0, l1, l2, l3] [.int x] σ = some (some (.int x), σ) := q_iretz t109_23 mr109 hx
theorem t109_24 : decode (mb 109) 24 = .ok (.getstatic 309, 3) := by decide +kernel
theorem s109_24 (d : Nat) (l0 : Value) (l1 : Value) (l2 : Value) (l3 : Value) (σ : Hs) : ru d 109 24 [l0, l1, l2, l3] [] σ = ru d 109 27 [l0, l1, l2, l3] [.ref 104] σ := q_gets t109_24 mo109 S7_309 rfl
theorem t109_27 : decode (mb 109) 27 = .ok (.iload_n 2, 1) := by decide +kernel
theorem s109_27 (d : Nat) (l0 : Value) (l1 : Value) (i2 : Int32) (l3 : Value) (w0 : Value) (σ : Hs) : ru d 109 27 [l0, l1, .int i2, l3] [w0] σ = ru d 109 28 [l0, l1, .int i2, l3] [.int i2, w0] σ := q_iload_n t109_27 rfl
theorem t109_28 : decode (mb 109) 28 = .ok (.iaload, 1) := by decide +kernel
theorem s109_28_o104 (d : Nat) (l0 : Value) (l1 : Value) (l2 : Value) (l3 : Value) (i : Int32) (σ : Hs) : ru d 109 28 [l0, l1, l2, l3] [.int i, .ref 104] σ = gd (vp_in i 7) (ru d 109 29 [l0, l1, l2, l3] [.int (([(-1), 0, 0, 1, 2, 0, 5] : List Int32).getD i.toNatClampNeg 0)] σ) := q_ials t109_28 rfl (by decide +kernel) rfl rfl
theorem t109_29 : decode (mb 109) 29 = .ok (.istore_n 2, 1) := by decide +kernel
theorem s109_29 (d : Nat) (l0 : Value) (i1 : Int32) (l2 : Value) (l3 : Value) (x : Int32) (σ : Hs) : ru d 109 29 [l0, .int i1, l2, l3] [.int x] σ = ru d 109 30 [l0, .int i1, .int x, l3] [] σ := q_istore_n t109_29 ⟨Nat.le_of_ble_eq_true rfl, rfl⟩ rfl
theorem t109_30 : decode (mb 109) 30 = .ok (.iinc 3 1, 3) := by decide +kernel
theorem s109_30 (d : Nat) (l0 : Value) (l1 : Value) (i2 : Int32) (i3 : Int32) (σ : Hs) : ru d 109 30 [l0, l1, .int i2, .int i3] [] σ = ru d 109 33 [l0, l1, .int i2, .int (i3 + 1)] [] σ := q_iinc t109_30 ⟨Nat.le_of_ble_eq_true rfl, rfl⟩ rfl (by decide +kernel) rfl
theorem t109_33 : decode (mb 109) 33 = .ok (.goto (-29), 3) := by decide +kernel
theorem s109_33 (d : Nat) (l0 : Value) (l1 : Value) (l2 : Value) (l3 : Value) (σ : Hs) : ru d 109 33 [l0, l1, l2, l3] [] σ = ru d 109 4 [l0, l1, l2, l3] [] σ := q_goto t109_33 (by decide +kernel)
theorem t109_36 : decode (mb 109) 36 = .ok (.iconst 0, 1) := by decide +kernel
theorem s109_36 (d : Nat) (l0 : Value) (l1 : Value) (l2 : Value) (l3 : Value) (σ : Hs) : ru d 109 36 [l0, l1, l2, l3] [] σ = ru d 109 37 [l0, l1, l2, l3] [.int 0] σ := q_iconst t109_36 (by decide +kernel)
theorem t109_37 : decode (mb 109) 37 = .ok (.ireturn, 1) := by decide +kernel
theorem s109_37 (d : Nat) (l0 : Value) (l1 : Value) (l2 : Value) (l3 : Value) (x : Int32) (hx : isB x) (σ : Hs) : ru d 109 37 [l0, l1, l2, l3] [.int x] σ = some (some (.int x), σ) := q_iretz t109_37 mr109 hx
theorem c109 (d : Nat) (x0 : Int32) (x1 : Int32) (σ : Hs) : callD (d + 1) 109 [.int x0, .int x1] σ = ru d 109 0 [.int x0, .int x1, uu, uu] [] σ := callD_ru ml109 rfl rfl (Nat.le_of_ble_eq_true rfl)
-- 110: SmokyHeap.nextGarden(II)I
theorem t110_0 : decode (mb 110) 0 = .ok (.iload_n 0, 1) := by decide +kernel
theorem s110_0 (d : Nat) (i0 : Int32) (l1 : Value) (l2 : Value) (l3 : Value) (σ : Hs) : ru d 110 0 [.int i0, l1, l2, l3] [] σ = ru d 110 1 [.int i0, l1, l2, l3] [.int i0] σ := q_iload_n t110_0 rfl
theorem t110_1 : decode (mb 110) 1 = .ok (.iconst 3, 1) := by decide +kernel
theorem s110_1 (d : Nat) (l0 : Value) (l1 : Value) (l2 : Value) (l3 : Value) (w0 : Value) (σ : Hs) : ru d 110 1 [l0, l1, l2, l3] [w0] σ = ru d 110 2 [l0, l1, l2, l3] [.int 3, w0] σ := q_iconst t110_1 (by decide +kernel)
theorem t110_2 : decode (mb 110) 2 = .ok (.irem, 1) := by decide +kernel
theorem s110_2 (d : Nat) (l0 : Value) (l1 : Value) (l2 : Value) (l3 : Value) (x y : Int32) (σ : Hs) : ru d 110 2 [l0, l1, l2, l3] [.int y, .int x] σ = gd (¬ y = 0) (ru d 110 3 [l0, l1, l2, l3] [.int (x - x / y * y)] σ) := q_irem t110_2
theorem t110_3 : decode (mb 110) 3 = .ok (.istore_n 2, 1) := by decide +kernel
theorem s110_3 (d : Nat) (l0 : Value) (i1 : Int32) (l2 : Value) (l3 : Value) (x : Int32) (σ : Hs) : ru d 110 3 [l0, .int i1, l2, l3] [.int x] σ = ru d 110 4 [l0, .int i1, .int x, l3] [] σ := q_istore_n t110_3 ⟨Nat.le_of_ble_eq_true rfl, rfl⟩ rfl
theorem t110_4 : decode (mb 110) 4 = .ok (.iload_n 1, 1) := by decide +kernel
theorem s110_4 (d : Nat) (l0 : Value) (i1 : Int32) (l2 : Value) (l3 : Value) (σ : Hs) : ru d 110 4 [l0, .int i1, l2, l3] [] σ = ru d 110 5 [l0, .int i1, l2, l3] [.int i1] σ := q_iload_n t110_4 rfl
theorem t110_5 : decode (mb 110) 5 = .ok (.ifCond .ne 16, 3) := by decide +kernel
theorem s110_5 (d : Nat) (l0 : Value) (l1 : Value) (l2 : Value) (l3 : Value) (x : Int32) (σ : Hs) : ru d 110 5 [l0, l1, l2, l3] [.int x] σ = if x = 0 then ru d 110 8 [l0, l1, l2, l3] [] σ else ru d 110 21 [l0, l1, l2, l3] [] σ := q_if_ne t110_5 (by decide +kernel)
theorem t110_8 : decode (mb 110) 8 = .ok (.iload_n 2, 1) := by decide +kernel
theorem s110_8 (d : Nat) (l0 : Value) (l1 : Value) (i2 : Int32) (l3 : Value) (σ : Hs) : ru d 110 8 [l0, l1, .int i2, l3] [] σ = ru d 110 9 [l0, l1, .int i2, l3] [.int i2] σ := q_iload_n t110_8 rfl
theorem t110_9 : decode (mb 110) 9 = .ok (.iconst 2, 1) := by decide +kernel
theorem s110_9 (d : Nat) (l0 : Value) (l1 : Value) (l2 : Value) (l3 : Value) (w0 : Value) (σ : Hs) : ru d 110 9 [l0, l1, l2, l3] [w0] σ = ru d 110 10 [l0, l1, l2, l3] [.int 2, w0] σ := q_iconst t110_9 (by decide +kernel)
theorem t110_10 : decode (mb 110) 10 = .ok (.if_icmp .ge 9, 3) := by decide +kernel
theorem s110_10 (d : Nat) (l0 : Value) (l1 : Value) (l2 : Value) (l3 : Value) (x y : Int32) (σ : Hs) : ru d 110 10 [l0, l1, l2, l3] [.int y, .int x] σ = if y ≤ x then ru d 110 19 [l0, l1, l2, l3] [] σ else ru d 110 13 [l0, l1, l2, l3] [] σ := q_ic_ge t110_10 (by decide +kernel)
theorem t110_13 : decode (mb 110) 13 = .ok (.iload_n 0, 1) := by decide +kernel
theorem s110_13 (d : Nat) (i0 : Int32) (l1 : Value) (l2 : Value) (l3 : Value) (σ : Hs) : ru d 110 13 [.int i0, l1, l2, l3] [] σ = ru d 110 14 [.int i0, l1, l2, l3] [.int i0] σ := q_iload_n t110_13 rfl
theorem t110_14 : decode (mb 110) 14 = .ok (.iconst 1, 1) := by decide +kernel
theorem s110_14 (d : Nat) (l0 : Value) (l1 : Value) (l2 : Value) (l3 : Value) (w0 : Value) (σ : Hs) : ru d 110 14 [l0, l1, l2, l3] [w0] σ = ru d 110 15 [l0, l1, l2, l3] [.int 1, w0] σ := q_iconst t110_14 (by decide +kernel)
theorem t110_15 : decode (mb 110) 15 = .ok (.iadd, 1) := by decide +kernel
theorem s110_15 (d : Nat) (l0 : Value) (l1 : Value) (l2 : Value) (l3 : Value) (x y : Int32) (σ : Hs) : ru d 110 15 [l0, l1, l2, l3] [.int y, .int x] σ = ru d 110 16 [l0, l1, l2, l3] [.int (x + y)] σ := q_iadd t110_15
theorem t110_16 : decode (mb 110) 16 = .ok (.goto 4, 3) := by decide +kernel
theorem s110_16 (d : Nat) (l0 : Value) (l1 : Value) (l2 : Value) (l3 : Value) (w0 : Value) (σ : Hs) : ru d 110 16 [l0, l1, l2, l3] [w0] σ = ru d 110 20 [l0, l1, l2, l3] [w0] σ := q_goto t110_16 (by decide +kernel)
theorem t110_19 : decode (mb 110) 19 = .ok (.iconst (-1), 1) := by decide +kernel
theorem s110_19 (d : Nat) (l0 : Value) (l1 : Value) (l2 : Value) (l3 : Value) (σ : Hs) : ru d 110 19 [l0, l1, l2, l3] [] σ = ru d 110 20 [l0, l1, l2, l3] [.int (-1)] σ := q_iconst t110_19 (by decide +kernel)
theorem t110_20 : decode (mb 110) 20 = .ok (.ireturn, 1) := by decide +kernel
theorem s110_20 (d : Nat) (l0 : Value) (l1 : Value) (l2 : Value) (l3 : Value) (x : Int32) (σ : Hs) : ru d 110 20 [l0, l1, l2, l3] [.int x] σ = some (some (.int x), σ) := q_ireti t110_20 mr110
theorem t110_21 : decode (mb 110) 21 = .ok (.iload_n 1, 1) := by decide +kernel
theorem s110_21 (d : Nat) (l0 : Value) (i1 : Int32) (l2 : Value) (l3 : Value) (σ : Hs) : ru d 110 21 [l0, .int i1, l2, l3] [] σ = ru d 110 22 [l0, .int i1, l2, l3] [.int i1] σ := q_iload_n t110_21 rfl
theorem t110_22 : decode (mb 110) 22 = .ok (.iconst 2, 1) := by decide +kernel
theorem s110_22 (d : Nat) (l0 : Value) (l1 : Value) (l2 : Value) (l3 : Value) (w0 : Value) (σ : Hs) : ru d 110 22 [l0, l1, l2, l3] [w0] σ = ru d 110 23 [l0, l1, l2, l3] [.int 2, w0] σ := q_iconst t110_22 (by decide +kernel)
theorem t110_23 : decode (mb 110) 23 = .ok (.if_icmp .ne 15, 3) := by decide +kernel
theorem s110_23 (d : Nat) (l0 : Value) (l1 : Value) (l2 : Value) (l3 : Value) (x y : Int32) (σ : Hs) : ru d 110 23 [l0, l1, l2, l3] [.int y, .int x] σ = if x = y then ru d 110 26 [l0, l1, l2, l3] [] σ else ru d 110 38 [l0, l1, l2, l3] [] σ := q_ic_ne t110_23 (by decide +kernel)
theorem t110_26 : decode (mb 110) 26 = .ok (.iload_n 2, 1) := by decide +kernel
theorem s110_26 (d : Nat) (l0 : Value) (l1 : Value) (i2 : Int32) (l3 : Value) (σ : Hs) : ru d 110 26 [l0, l1, .int i2, l3] [] σ = ru d 110 27 [l0, l1, .int i2, l3] [.int i2] σ := q_iload_n t110_26 rfl
theorem t110_27 : decode (mb 110) 27 = .ok (.ifCond .le 9, 3) := by decide +kernel
theorem s110_27 (d : Nat) (l0 : Value) (l1 : Value) (l2 : Value) (l3 : Value) (x : Int32) (σ : Hs) : ru d 110 27 [l0, l1, l2, l3] [.int x] σ = if x ≤ 0 then ru d 110 36 [l0, l1, l2, l3] [] σ else ru d 110 30 [l0, l1, l2, l3] [] σ := q_if_le t110_27 (by decide +kernel)
theorem t110_30 : decode (mb 110) 30 = .ok (.iload_n 0, 1) := by decide +kernel
theorem s110_30 (d : Nat) (i0 : Int32) (l1 : Value) (l2 : Value) (l3 : Value) (σ : Hs) : ru d 110 30 [.int i0, l1, l2, l3] [] σ = ru d 110 31 [.int i0, l1, l2, l3] [.int i0] σ := q_iload_n t110_30 rfl
theorem t110_31 : decode (mb 110) 31 = .ok (.iconst 1, 1) := by decide +kernel
theorem s110_31 (d : Nat) (l0 : Value) (l1 : Value) (l2 : Value) (l3 : Value) (w0 : Value) (σ : Hs) : ru d 110 31 [l0, l1, l2, l3] [w0] σ = ru d 110 32 [l0, l1, l2, l3] [.int 1, w0] σ := q_iconst t110_31 (by decide +kernel)
theorem t110_32 : decode (mb 110) 32 = .ok (.isub, 1) := by decide +kernel
theorem s110_32 (d : Nat) (l0 : Value) (l1 : Value) (l2 : Value) (l3 : Value) (x y : Int32) (σ : Hs) : ru d 110 32 [l0, l1, l2, l3] [.int y, .int x] σ = ru d 110 33 [l0, l1, l2, l3] [.int (x - y)] σ := q_isub t110_32
theorem t110_33 : decode (mb 110) 33 = .ok (.goto 4, 3) := by decide +kernel
theorem s110_33 (d : Nat) (l0 : Value) (l1 : Value) (l2 : Value) (l3 : Value) (w0 : Value) (σ : Hs) : ru d 110 33 [l0, l1, l2, l3] [w0] σ = ru d 110 37 [l0, l1, l2, l3] [w0] σ := q_goto t110_33 (by decide +kernel)
theorem t110_36 : decode (mb 110) 36 = .ok (.iconst (-1), 1) := by decide +kernel
theorem s110_36 (d : Nat) (l0 : Value) (l1 : Value) (l2 : Value) (l3 : Value) (σ : Hs) : ru d 110 36 [l0, l1, l2, l3] [] σ = ru d 110 37 [l0, l1, l2, l3] [.int (-1)] σ := q_iconst t110_36 (by decide +kernel)
theorem t110_37 : decode (mb 110) 37 = .ok (.ireturn, 1) := by decide +kernel
theorem s110_37 (d : Nat) (l0 : Value) (l1 : Value) (l2 : Value) (l3 : Value) (x : Int32) (σ : Hs) : ru d 110 37 [l0, l1, l2, l3] [.int x] σ = some (some (.int x), σ) := q_ireti t110_37 mr110
theorem t110_38 : decode (mb 110) 38 = .ok (.iload_n 1, 1) := by decide +kernel
theorem s110_38 (d : Nat) (l0 : Value) (i1 : Int32) (l2 : Value) (l3 : Value) (σ : Hs) : ru d 110 38 [l0, .int i1, l2, l3] [] σ = ru d 110 39 [l0, .int i1, l2, l3] [.int i1] σ := q_iload_n t110_38 rfl
theorem t110_39 : decode (mb 110) 39 = .ok (.iconst 1, 1) := by decide +kernel
theorem s110_39 (d : Nat) (l0 : Value) (l1 : Value) (l2 : Value) (l3 : Value) (w0 : Value) (σ : Hs) : ru d 110 39 [l0, l1, l2, l3] [w0] σ = ru d 110 40 [l0, l1, l2, l3] [.int 1, w0] σ := q_iconst t110_39 (by decide +kernel)
theorem t110_40 : decode (mb 110) 40 = .ok (.if_icmp .ne 9, 3) := by decide +kernel
theorem s110_40 (d : Nat) (l0 : Value) (l1 : Value) (l2 : Value) (l3 : Value) (x y : Int32) (σ : Hs) : ru d 110 40 [l0, l1, l2, l3] [.int y, .int x] σ = if x = y then ru d 110 43 [l0, l1, l2, l3] [] σ else ru d 110 49 [l0, l1, l2, l3] [] σ := q_ic_ne t110_40 (by decide +kernel)
theorem t110_43 : decode (mb 110) 43 = .ok (.iload_n 0, 1) := by decide +kernel
theorem s110_43 (d : Nat) (i0 : Int32) (l1 : Value) (l2 : Value) (l3 : Value) (σ : Hs) : ru d 110 43 [.int i0, l1, l2, l3] [] σ = ru d 110 44 [.int i0, l1, l2, l3] [.int i0] σ := q_iload_n t110_43 rfl
theorem t110_44 : decode (mb 110) 44 = .ok (.iconst 3, 1) := by decide +kernel
theorem s110_44 (d : Nat) (l0 : Value) (l1 : Value) (l2 : Value) (l3 : Value) (w0 : Value) (σ : Hs) : ru d 110 44 [l0, l1, l2, l3] [w0] σ = ru d 110 45 [l0, l1, l2, l3] [.int 3, w0] σ := q_iconst t110_44 (by decide +kernel)
theorem t110_45 : decode (mb 110) 45 = .ok (.iadd, 1) := by decide +kernel
theorem s110_45 (d : Nat) (l0 : Value) (l1 : Value) (l2 : Value) (l3 : Value) (x y : Int32) (σ : Hs) : ru d 110 45 [l0, l1, l2, l3] [.int y, .int x] σ = ru d 110 46 [l0, l1, l2, l3] [.int (x + y)] σ := q_iadd t110_45
theorem t110_46 : decode (mb 110) 46 = .ok (.goto 6, 3) := by decide +kernel
theorem s110_46 (d : Nat) (l0 : Value) (l1 : Value) (l2 : Value) (l3 : Value) (w0 : Value) (σ : Hs) : ru d 110 46 [l0, l1, l2, l3] [w0] σ = ru d 110 52 [l0, l1, l2, l3] [w0] σ := q_goto t110_46 (by decide +kernel)
theorem t110_49 : decode (mb 110) 49 = .ok (.iload_n 0, 1) := by decide +kernel
theorem s110_49 (d : Nat) (i0 : Int32) (l1 : Value) (l2 : Value) (l3 : Value) (σ : Hs) : ru d 110 49 [.int i0, l1, l2, l3] [] σ = ru d 110 50 [.int i0, l1, l2, l3] [.int i0] σ := q_iload_n t110_49 rfl
theorem t110_50 : decode (mb 110) 50 = .ok (.iconst 3, 1) := by decide +kernel
theorem s110_50 (d : Nat) (l0 : Value) (l1 : Value) (l2 : Value) (l3 : Value) (w0 : Value) (σ : Hs) : ru d 110 50 [l0, l1, l2, l3] [w0] σ = ru d 110 51 [l0, l1, l2, l3] [.int 3, w0] σ := q_iconst t110_50 (by decide +kernel)
theorem t110_51 : decode (mb 110) 51 = .ok (.isub, 1) := by decide +kernel
theorem s110_51 (d : Nat) (l0 : Value) (l1 : Value) (l2 : Value) (l3 : Value) (x y : Int32) (σ : Hs) : ru d 110 51 [l0, l1, l2, l3] [.int y, .int x] σ = ru d 110 52 [l0, l1, l2, l3] [.int (x - y)] σ := q_isub t110_51
theorem t110_52 : decode (mb 110) 52 = .ok (.istore_n 3, 1) := by decide +kernel
theorem s110_52 (d : Nat) (l0 : Value) (l1 : Value) (i2 : Int32) (l3 : Value) (x : Int32) (σ : Hs) : ru d 110 52 [l0, l1, .int i2, l3] [.int x] σ = ru d 110 53 [l0, l1, .int i2, .int x] [] σ := q_istore_n t110_52 ⟨Nat.le_of_ble_eq_true rfl, rfl⟩ rfl
theorem t110_53 : decode (mb 110) 53 = .ok (.iload_n 3, 1) := by decide +kernel
theorem s110_53 (d : Nat) (l0 : Value) (l1 : Value) (l2 : Value) (i3 : Int32) (σ : Hs) : ru d 110 53 [l0, l1, l2, .int i3] [] σ = ru d 110 54 [l0, l1, l2, .int i3] [.int i3] σ := q_iload_n t110_53 rfl
theorem t110_54 : decode (mb 110) 54 = .ok (.invokestatic 179, 3) := by decide +kernel
theorem s110_54 (d : Nat) (l0 : Value) (l1 : Value) (l2 : Value) (l3 : Value) (v0 : Value) (σ : Hs) : ru d 110 54 [l0, l1, l2, l3] [v0] σ = kont (callD d 106 [v0] σ) d 110 57 [l0, l1, l2, l3] [] := q_invs t110_54 mo110 (by decide +kernel) K7_179 mj106 (Nat.le_of_ble_eq_true rfl) rfl rfl (Nat.le_of_ble_eq_true rfl)
theorem t110_57 : decode (mb 110) 57 = .ok (.ifCond .eq 7, 3) := by decide +kernel
theorem s110_57 (d : Nat) (l0 : Value) (l1 : Value) (l2 : Value) (l3 : Value) (x : Int32) (σ : Hs) : ru d 110 57 [l0, l1, l2, l3] [.int x] σ = if x = 0 then ru d 110 64 [l0, l1, l2, l3] [] σ else ru d 110 60 [l0, l1, l2, l3] [] σ := q_if_eq t110_57 (by decide +kernel)
theorem t110_60 : decode (mb 110) 60 = .ok (.iload_n 3, 1) := by decide +kernel
theorem s110_60 (d : Nat) (l0 : Value) (l1 : Value) (l2 : Value) (i3 : Int32) (σ : Hs) : ru d 110 60 [l0, l1, l2, .int i3] [] σ = ru d 110 61 [l0, l1, l2, .int i3] [.int i3] σ := q_iload_n t110_60 rfl
theorem t110_61 : decode (mb 110) 61 = .ok (.goto 4, 3) := by decide +kernel
theorem s110_61 (d : Nat) (l0 : Value) (l1 : Value) (l2 : Value) (l3 : Value) (w0 : Value) (σ : Hs) : ru d 110 61 [l0, l1, l2, l3] [w0] σ = ru d 110 65 [l0, l1, l2, l3] [w0] σ := q_goto t110_61 (by decide +kernel)
theorem t110_64 : decode (mb 110) 64 = .ok (.iconst (-1), 1) := by decide +kernel
theorem s110_64 (d : Nat) (l0 : Value) (l1 : Value) (l2 : Value) (l3 : Value) (σ : Hs) : ru d 110 64 [l0, l1, l2, l3] [] σ = ru d 110 65 [l0, l1, l2, l3] [.int (-1)] σ := q_iconst t110_64 (by decide +kernel)
theorem t110_65 : decode (mb 110) 65 = .ok (.ireturn, 1) := by decide +kernel
theorem s110_65 (d : Nat) (l0 : Value) (l1 : Value) (l2 : Value) (l3 : Value) (x : Int32) (σ : Hs) : ru d 110 65 [l0, l1, l2, l3] [.int x] σ = some (some (.int x), σ) := q_ireti t110_65 mr110
theorem c110 (d : Nat) (x0 : Int32) (x1 : Int32) (σ : Hs) : callD (d + 1) 110 [.int x0, .int x1] σ = ru d 110 0 [.int x0, .int x1, uu, uu] [] σ := callD_ru ml110 rfl rfl (Nat.le_of_ble_eq_true rfl)
-- 111: Model.finding(I)I
theorem t111_0 : decode (mb 111) 0 = .ok (.aload_n 0, 1) := by decide +kernel
theorem s111_0 (d : Nat) (a0 : Nat) (l1 : Value) (σ : Hs) : ru d 111 0 [.ref a0, l1] [] σ = ru d 111 1 [.ref a0, l1] [.ref a0] σ := q_aload_n t111_0 rfl
theorem t111_1 : decode (mb 111) 1 = .ok (.getfield 19, 3) := by decide +kernel
theorem s111_1_o87 (d : Nat) (l0 : Value) (l1 : Value) (σ : Hs) : ru d 111 1 [l0, l1] [.ref 87] σ = ru d 111 4 [l0, l1] [.ref 91] σ := q_getf t111_1 mo111 F8_19 rfl rfl
theorem t111_4 : decode (mb 111) 4 = .ok (.ldc 67, 2) := by decide +kernel
theorem s111_4 (d : Nat) (l0 : Value) (l1 : Value) (w0 : Value) (σ : Hs) : ru d 111 4 [l0, l1] [w0] σ = ru d 111 6 [l0, l1] [.int (-1000000), w0] σ := q_ldc t111_4 mo111 C8_67
theorem t111_6 : decode (mb 111) 6 = .ok (.iload_n 1, 1) := by decide +kernel
theorem s111_6 (d : Nat) (l0 : Value) (i1 : Int32) (w0 w1 : Value) (σ : Hs) : ru d 111 6 [l0, .int i1] [w0, w1] σ = ru d 111 7 [l0, .int i1] [.int i1, w0, w1] σ := q_iload_n t111_6 rfl
theorem t111_7 : decode (mb 111) 7 = .ok (.isub, 1) := by decide +kernel
theorem s111_7 (d : Nat) (l0 : Value) (l1 : Value) (x y : Int32) (w0 : Value) (σ : Hs) : ru d 111 7 [l0, l1] [.int y, .int x, w0] σ = ru d 111 8 [l0, l1] [.int (x - y), w0] σ := q_isub t111_7
theorem t111_8 : decode (mb 111) 8 = .ok (.dup2, 1) := by decide +kernel
theorem s111_8 (d : Nat) (l0 : Value) (l1 : Value) (x0 : Int32) (x1 : Nat) (σ : Hs) : ru d 111 8 [l0, l1] [.int x0, .ref x1] σ = ru d 111 9 [l0, l1] [.int x0, .ref x1, .int x0, .ref x1] σ := q_dup2 t111_8 rfl rfl
theorem t111_9 : decode (mb 111) 9 = .ok (.iaload, 1) := by decide +kernel
theorem s111_9_o91 (d : Nat) (l0 : Value) (l1 : Value) (i : Int32) (w0 w1 : Value) (σ : Hs) : ru d 111 9 [l0, l1] [.int i, .ref 91, w0, w1] σ = gd (vp_in i 7) (ru d 111 10 [l0, l1] [.int (σ 91 i.toNatClampNeg), w0, w1] σ) := q_iald t111_9 rfl (by decide +kernel) rfl
theorem t111_10 : decode (mb 111) 10 = .ok (.iconst 1, 1) := by decide +kernel
theorem s111_10 (d : Nat) (l0 : Value) (l1 : Value) (w0 w1 w2 : Value) (σ : Hs) : ru d 111 10 [l0, l1] [w0, w1, w2] σ = ru d 111 11 [l0, l1] [.int 1, w0, w1, w2] σ := q_iconst t111_10 (by decide +kernel)
theorem t111_11 : decode (mb 111) 11 = .ok (.iadd, 1) := by decide +kernel
theorem s111_11 (d : Nat) (l0 : Value) (l1 : Value) (x y : Int32) (w0 w1 : Value) (σ : Hs) : ru d 111 11 [l0, l1] [.int y, .int x, w0, w1] σ = ru d 111 12 [l0, l1] [.int (x + y), w0, w1] σ := q_iadd t111_11
theorem t111_12 : decode (mb 111) 12 = .ok (.iastore, 1) := by decide +kernel
theorem s111_12_o91 (d : Nat) (l0 : Value) (l1 : Value) (i x : Int32) (σ : Hs) : ru d 111 12 [l0, l1] [.int x, .int i, .ref 91] σ = gd (vp_in i 7) (ru d 111 13 [l0, l1] [] (up2 σ 91 i.toNatClampNeg x)) := q_iast t111_12 (by decide +kernel) rfl rfl
theorem t111_13 : decode (mb 111) 13 = .ok (.iload_n 1, 1) := by decide +kernel
theorem s111_13 (d : Nat) (l0 : Value) (i1 : Int32) (σ : Hs) : ru d 111 13 [l0, .int i1] [] σ = ru d 111 14 [l0, .int i1] [.int i1] σ := q_iload_n t111_13 rfl
theorem t111_14 : decode (mb 111) 14 = .ok (.ireturn, 1) := by decide +kernel
theorem s111_14 (d : Nat) (l0 : Value) (l1 : Value) (x : Int32) (σ : Hs) : ru d 111 14 [l0, l1] [.int x] σ = some (some (.int x), σ) := q_ireti t111_14 mr111
theorem c111 (d : Nat) (x0 : Nat) (x1 : Int32) (σ : Hs) : callD (d + 1) 111 [.ref x0, .int x1] σ = ru d 111 0 [.ref x0, .int x1] [] σ := callD_ru ml111 rfl rfl (Nat.le_of_ble_eq_true rfl)
-- 112: Model.within(III)Z
theorem t112_0 : decode (mb 112) 0 = .ok (.iload_n 0, 1) := by decide +kernel
theorem s112_0 (d : Nat) (i0 : Int32) (l1 : Value) (l2 : Value) (σ : Hs) : ru d 112 0 [.int i0, l1, l2] [] σ = ru d 112 1 [.int i0, l1, l2] [.int i0] σ := q_iload_n t112_0 rfl
theorem t112_1 : decode (mb 112) 1 = .ok (.iload_n 1, 1) := by decide +kernel
theorem s112_1 (d : Nat) (l0 : Value) (i1 : Int32) (l2 : Value) (w0 : Value) (σ : Hs) : ru d 112 1 [l0, .int i1, l2] [w0] σ = ru d 112 2 [l0, .int i1, l2] [.int i1, w0] σ := q_iload_n t112_1 rfl
theorem t112_2 : decode (mb 112) 2 = .ok (.if_icmp .lt 12, 3) := by decide +kernel
theorem s112_2 (d : Nat) (l0 : Value) (l1 : Value) (l2 : Value) (x y : Int32) (σ : Hs) : ru d 112 2 [l0, l1, l2] [.int y, .int x] σ = if x < y then ru d 112 14 [l0, l1, l2] [] σ else ru d 112 5 [l0, l1, l2] [] σ := q_ic_lt t112_2 (by decide +kernel)
theorem t112_5 : decode (mb 112) 5 = .ok (.iload_n 0, 1) := by decide +kernel
theorem s112_5 (d : Nat) (i0 : Int32) (l1 : Value) (l2 : Value) (σ : Hs) : ru d 112 5 [.int i0, l1, l2] [] σ = ru d 112 6 [.int i0, l1, l2] [.int i0] σ := q_iload_n t112_5 rfl
theorem t112_6 : decode (mb 112) 6 = .ok (.iload_n 2, 1) := by decide +kernel
theorem s112_6 (d : Nat) (l0 : Value) (l1 : Value) (i2 : Int32) (w0 : Value) (σ : Hs) : ru d 112 6 [l0, l1, .int i2] [w0] σ = ru d 112 7 [l0, l1, .int i2] [.int i2, w0] σ := q_iload_n t112_6 rfl
theorem t112_7 : decode (mb 112) 7 = .ok (.if_icmp .gt 7, 3) := by decide +kernel
theorem s112_7 (d : Nat) (l0 : Value) (l1 : Value) (l2 : Value) (x y : Int32) (σ : Hs) : ru d 112 7 [l0, l1, l2] [.int y, .int x] σ = if y < x then ru d 112 14 [l0, l1, l2] [] σ else ru d 112 10 [l0, l1, l2] [] σ := q_ic_gt t112_7 (by decide +kernel)
theorem t112_10 : decode (mb 112) 10 = .ok (.iconst 1, 1) := by decide +kernel
theorem s112_10 (d : Nat) (l0 : Value) (l1 : Value) (l2 : Value) (σ : Hs) : ru d 112 10 [l0, l1, l2] [] σ = ru d 112 11 [l0, l1, l2] [.int 1] σ := q_iconst t112_10 (by decide +kernel)
theorem t112_11 : decode (mb 112) 11 = .ok (.goto 4, 3) := by decide +kernel
theorem s112_11 (d : Nat) (l0 : Value) (l1 : Value) (l2 : Value) (w0 : Value) (σ : Hs) : ru d 112 11 [l0, l1, l2] [w0] σ = ru d 112 15 [l0, l1, l2] [w0] σ := q_goto t112_11 (by decide +kernel)
theorem t112_14 : decode (mb 112) 14 = .ok (.iconst 0, 1) := by decide +kernel
theorem s112_14 (d : Nat) (l0 : Value) (l1 : Value) (l2 : Value) (σ : Hs) : ru d 112 14 [l0, l1, l2] [] σ = ru d 112 15 [l0, l1, l2] [.int 0] σ := q_iconst t112_14 (by decide +kernel)
theorem t112_15 : decode (mb 112) 15 = .ok (.ireturn, 1) := by decide +kernel
theorem s112_15 (d : Nat) (l0 : Value) (l1 : Value) (l2 : Value) (x : Int32) (hx : isB x) (σ : Hs) : ru d 112 15 [l0, l1, l2] [.int x] σ = some (some (.int x), σ) := q_iretz t112_15 mr112 hx
theorem c112 (d : Nat) (x0 : Int32) (x1 : Int32) (x2 : Int32) (σ : Hs) : callD (d + 1) 112 [.int x0, .int x1, .int x2] σ = ru d 112 0 [.int x0, .int x1, .int x2] [] σ := callD_ru ml112 rfl rfl (Nat.le_of_ble_eq_true rfl)
-- 113: Model.has(II)Z
theorem t113_0 : decode (mb 113) 0 = .ok (.iload_n 0, 1) := by decide +kernel
theorem s113_0 (d : Nat) (i0 : Int32) (l1 : Value) (σ : Hs) : ru d 113 0 [.int i0, l1] [] σ = ru d 113 1 [.int i0, l1] [.int i0] σ := q_iload_n t113_0 rfl
theorem t113_1 : decode (mb 113) 1 = .ok (.iload_n 1, 1) := by decide +kernel
theorem s113_1 (d : Nat) (l0 : Value) (i1 : Int32) (w0 : Value) (σ : Hs) : ru d 113 1 [l0, .int i1] [w0] σ = ru d 113 2 [l0, .int i1] [.int i1, w0] σ := q_iload_n t113_1 rfl
theorem t113_2 : decode (mb 113) 2 = .ok (.ishr, 1) := by decide +kernel
theorem s113_2 (d : Nat) (l0 : Value) (l1 : Value) (x y : Int32) (σ : Hs) : ru d 113 2 [l0, l1] [.int y, .int x] σ = ru d 113 3 [l0, l1] [.int (x >>> (y &&& 31))] σ := q_ishr t113_2
theorem t113_3 : decode (mb 113) 3 = .ok (.iconst 1, 1) := by decide +kernel
theorem s113_3 (d : Nat) (l0 : Value) (l1 : Value) (w0 : Value) (σ : Hs) : ru d 113 3 [l0, l1] [w0] σ = ru d 113 4 [l0, l1] [.int 1, w0] σ := q_iconst t113_3 (by decide +kernel)
theorem t113_4 : decode (mb 113) 4 = .ok (.iand, 1) := by decide +kernel
theorem s113_4 (d : Nat) (l0 : Value) (l1 : Value) (x y : Int32) (σ : Hs) : ru d 113 4 [l0, l1] [.int y, .int x] σ = ru d 113 5 [l0, l1] [.int (x &&& y)] σ := q_iand t113_4
theorem t113_5 : decode (mb 113) 5 = .ok (.iconst 1, 1) := by decide +kernel
theorem s113_5 (d : Nat) (l0 : Value) (l1 : Value) (w0 : Value) (σ : Hs) : ru d 113 5 [l0, l1] [w0] σ = ru d 113 6 [l0, l1] [.int 1, w0] σ := q_iconst t113_5 (by decide +kernel)
theorem t113_6 : decode (mb 113) 6 = .ok (.if_icmp .ne 7, 3) := by decide +kernel
theorem s113_6 (d : Nat) (l0 : Value) (l1 : Value) (x y : Int32) (σ : Hs) : ru d 113 6 [l0, l1] [.int y, .int x] σ = if x = y then ru d 113 9 [l0, l1] [] σ else ru d 113 13 [l0, l1] [] σ := q_ic_ne t113_6 (by decide +kernel)
theorem t113_9 : decode (mb 113) 9 = .ok (.iconst 1, 1) := by decide +kernel
theorem s113_9 (d : Nat) (l0 : Value) (l1 : Value) (σ : Hs) : ru d 113 9 [l0, l1] [] σ = ru d 113 10 [l0, l1] [.int 1] σ := q_iconst t113_9 (by decide +kernel)
theorem t113_10 : decode (mb 113) 10 = .ok (.goto 4, 3) := by decide +kernel
theorem s113_10 (d : Nat) (l0 : Value) (l1 : Value) (w0 : Value) (σ : Hs) : ru d 113 10 [l0, l1] [w0] σ = ru d 113 14 [l0, l1] [w0] σ := q_goto t113_10 (by decide +kernel)
theorem t113_13 : decode (mb 113) 13 = .ok (.iconst 0, 1) := by decide +kernel
theorem s113_13 (d : Nat) (l0 : Value) (l1 : Value) (σ : Hs) : ru d 113 13 [l0, l1] [] σ = ru d 113 14 [l0, l1] [.int 0] σ := q_iconst t113_13 (by decide +kernel)
theorem t113_14 : decode (mb 113) 14 = .ok (.ireturn, 1) := by decide +kernel
theorem s113_14 (d : Nat) (l0 : Value) (l1 : Value) (x : Int32) (hx : isB x) (σ : Hs) : ru d 113 14 [l0, l1] [.int x] σ = some (some (.int x), σ) := q_iretz t113_14 mr113 hx
theorem c113 (d : Nat) (x0 : Int32) (x1 : Int32) (σ : Hs) : callD (d + 1) 113 [.int x0, .int x1] σ = ru d 113 0 [.int x0, .int x1] [] σ := callD_ru ml113 rfl rfl (Nat.le_of_ble_eq_true rfl)
-- 114: Model.held(III)I
theorem t114_0 : decode (mb 114) 0 = .ok (.iload_n 1, 1) := by decide +kernel
theorem s114_0 (d : Nat) (l0 : Value) (i1 : Int32) (l2 : Value) (σ : Hs) : ru d 114 0 [l0, .int i1, l2] [] σ = ru d 114 1 [l0, .int i1, l2] [.int i1] σ := q_iload_n t114_0 rfl
theorem t114_1 : decode (mb 114) 1 = .ok (.iload_n 2, 1) := by decide +kernel
theorem s114_1 (d : Nat) (l0 : Value) (l1 : Value) (i2 : Int32) (w0 : Value) (σ : Hs) : ru d 114 1 [l0, l1, .int i2] [w0] σ = ru d 114 2 [l0, l1, .int i2] [.int i2, w0] σ := q_iload_n t114_1 rfl
theorem t114_2 : decode (mb 114) 2 = .ok (.iload_n 0, 1) := by decide +kernel
theorem s114_2 (d : Nat) (i0 : Int32) (l1 : Value) (l2 : Value) (w0 w1 : Value) (σ : Hs) : ru d 114 2 [.int i0, l1, l2] [w0, w1] σ = ru d 114 3 [.int i0, l1, l2] [.int i0, w0, w1] σ := q_iload_n t114_2 rfl
theorem t114_3 : decode (mb 114) 3 = .ok (.invokestatic 68, 3) := by decide +kernel
theorem s114_3 (d : Nat) (l0 : Value) (l1 : Value) (l2 : Value) (x y : Int32) (w0 : Int32) (σ : Hs) : ru d 114 3 [l0, l1, l2] [.int y, .int x, .int w0] σ = ru d 114 6 [l0, l1, l2] [.int (jmin x y), .int w0] σ := q_mi t114_3 mo114 (by decide +kernel) (by decide +kernel) (by decide +kernel) (Nat.le_of_ble_eq_true rfl)
theorem t114_6 : decode (mb 114) 6 = .ok (.invokestatic 74, 3) := by decide +kernel
theorem s114_6 (d : Nat) (l0 : Value) (l1 : Value) (l2 : Value) (x y : Int32) (σ : Hs) : ru d 114 6 [l0, l1, l2] [.int y, .int x] σ = ru d 114 9 [l0, l1, l2] [.int (jmax x y)] σ := q_mx t114_6 mo114 (by decide +kernel) (by decide +kernel) (Nat.le_of_ble_eq_true rfl)
theorem t114_9 : decode (mb 114) 9 = .ok (.ireturn, 1) := by decide +kernel
theorem s114_9 (d : Nat) (l0 : Value) (l1 : Value) (l2 : Value) (x : Int32) (σ : Hs) : ru d 114 9 [l0, l1, l2] [.int x] σ = some (some (.int x), σ) := q_ireti t114_9 mr114
theorem c114 (d : Nat) (x0 : Int32) (x1 : Int32) (x2 : Int32) (σ : Hs) : callD (d + 1) 114 [.int x0, .int x1, .int x2] σ = ru d 114 0 [.int x0, .int x1, .int x2] [] σ := callD_ru ml114 rfl rfl (Nat.le_of_ble_eq_true rfl)
-- 115: Model.copy([I[I)V
theorem t115_0 : decode (mb 115) 0 = .ok (.iconst 0, 1) := by decide +kernel
theorem s115_0 (d : Nat) (l0 : Value) (l1 : Value) (l2 : Value) (σ : Hs) : ru d 115 0 [l0, l1, l2] [] σ = ru d 115 1 [l0, l1, l2] [.int 0] σ := q_iconst t115_0 (by decide +kernel)
theorem t115_1 : decode (mb 115) 1 = .ok (.istore_n 2, 1) := by decide +kernel
theorem s115_1 (d : Nat) (l0 : Value) (a1 : Nat) (l2 : Value) (x : Int32) (σ : Hs) : ru d 115 1 [l0, .ref a1, l2] [.int x] σ = ru d 115 2 [l0, .ref a1, .int x] [] σ := q_istore_n t115_1 ⟨Nat.le_of_ble_eq_true rfl, rfl⟩ rfl
theorem t115_2 : decode (mb 115) 2 = .ok (.iload_n 2, 1) := by decide +kernel
theorem s115_2 (d : Nat) (l0 : Value) (l1 : Value) (i2 : Int32) (σ : Hs) : ru d 115 2 [l0, l1, .int i2] [] σ = ru d 115 3 [l0, l1, .int i2] [.int i2] σ := q_iload_n t115_2 rfl
theorem t115_3 : decode (mb 115) 3 = .ok (.sipush 545, 3) := by decide +kernel
theorem s115_3 (d : Nat) (l0 : Value) (l1 : Value) (l2 : Value) (w0 : Value) (σ : Hs) : ru d 115 3 [l0, l1, l2] [w0] σ = ru d 115 6 [l0, l1, l2] [.int 545, w0] σ := q_sipush t115_3 (by decide +kernel)
theorem t115_6 : decode (mb 115) 6 = .ok (.if_icmp .ge 15, 3) := by decide +kernel
theorem s115_6 (d : Nat) (l0 : Value) (l1 : Value) (l2 : Value) (x y : Int32) (σ : Hs) : ru d 115 6 [l0, l1, l2] [.int y, .int x] σ = if y ≤ x then ru d 115 21 [l0, l1, l2] [] σ else ru d 115 9 [l0, l1, l2] [] σ := q_ic_ge t115_6 (by decide +kernel)
theorem t115_9 : decode (mb 115) 9 = .ok (.aload_n 1, 1) := by decide +kernel
theorem s115_9 (d : Nat) (l0 : Value) (a1 : Nat) (l2 : Value) (σ : Hs) : ru d 115 9 [l0, .ref a1, l2] [] σ = ru d 115 10 [l0, .ref a1, l2] [.ref a1] σ := q_aload_n t115_9 rfl
theorem t115_10 : decode (mb 115) 10 = .ok (.iload_n 2, 1) := by decide +kernel
theorem s115_10 (d : Nat) (l0 : Value) (l1 : Value) (i2 : Int32) (w0 : Value) (σ : Hs) : ru d 115 10 [l0, l1, .int i2] [w0] σ = ru d 115 11 [l0, l1, .int i2] [.int i2, w0] σ := q_iload_n t115_10 rfl
theorem t115_11 : decode (mb 115) 11 = .ok (.aload_n 0, 1) := by decide +kernel
theorem s115_11 (d : Nat) (a0 : Nat) (l1 : Value) (l2 : Value) (w0 w1 : Value) (σ : Hs) : ru d 115 11 [.ref a0, l1, l2] [w0, w1] σ = ru d 115 12 [.ref a0, l1, l2] [.ref a0, w0, w1] σ := q_aload_n t115_11 rfl
theorem t115_12 : decode (mb 115) 12 = .ok (.iload_n 2, 1) := by decide +kernel
theorem s115_12 (d : Nat) (l0 : Value) (l1 : Value) (i2 : Int32) (w0 w1 w2 : Value) (σ : Hs) : ru d 115 12 [l0, l1, .int i2] [w0, w1, w2] σ = ru d 115 13 [l0, l1, .int i2] [.int i2, w0, w1, w2] σ := q_iload_n t115_12 rfl
theorem t115_13 : decode (mb 115) 13 = .ok (.iaload, 1) := by decide +kernel
theorem s115_13_o88 (d : Nat) (l0 : Value) (l1 : Value) (l2 : Value) (i : Int32) (w0 w1 : Value) (σ : Hs) : ru d 115 13 [l0, l1, l2] [.int i, .ref 88, w0, w1] σ = gd (vp_in i 545) (ru d 115 14 [l0, l1, l2] [.int (σ 88 i.toNatClampNeg), w0, w1] σ) := q_iald t115_13 rfl (by decide +kernel) rfl
theorem s115_13_o89 (d : Nat) (l0 : Value) (l1 : Value) (l2 : Value) (i : Int32) (w0 w1 : Value) (σ : Hs) : ru d 115 13 [l0, l1, l2] [.int i, .ref 89, w0, w1] σ = gd (vp_in i 545) (ru d 115 14 [l0, l1, l2] [.int (σ 89 i.toNatClampNeg), w0, w1] σ) := q_iald t115_13 rfl (by decide +kernel) rfl
theorem s115_13_o90 (d : Nat) (l0 : Value) (l1 : Value) (l2 : Value) (i : Int32) (w0 w1 : Value) (σ : Hs) : ru d 115 13 [l0, l1, l2] [.int i, .ref 90, w0, w1] σ = gd (vp_in i 545) (ru d 115 14 [l0, l1, l2] [.int (σ 90 i.toNatClampNeg), w0, w1] σ) := q_iald t115_13 rfl (by decide +kernel) rfl
theorem t115_14 : decode (mb 115) 14 = .ok (.iastore, 1) := by decide +kernel
theorem s115_14_o88 (d : Nat) (l0 : Value) (l1 : Value) (l2 : Value) (i x : Int32) (σ : Hs) : ru d 115 14 [l0, l1, l2] [.int x, .int i, .ref 88] σ = gd (vp_in i 545) (ru d 115 15 [l0, l1, l2] [] (up2 σ 88 i.toNatClampNeg x)) := q_iast t115_14 (by decide +kernel) rfl rfl
theorem s115_14_o89 (d : Nat) (l0 : Value) (l1 : Value) (l2 : Value) (i x : Int32) (σ : Hs) : ru d 115 14 [l0, l1, l2] [.int x, .int i, .ref 89] σ = gd (vp_in i 545) (ru d 115 15 [l0, l1, l2] [] (up2 σ 89 i.toNatClampNeg x)) := q_iast t115_14 (by decide +kernel) rfl rfl
theorem s115_14_o90 (d : Nat) (l0 : Value) (l1 : Value) (l2 : Value) (i x : Int32) (σ : Hs) : ru d 115 14 [l0, l1, l2] [.int x, .int i, .ref 90] σ = gd (vp_in i 545) (ru d 115 15 [l0, l1, l2] [] (up2 σ 90 i.toNatClampNeg x)) := q_iast t115_14 (by decide +kernel) rfl rfl
theorem t115_15 : decode (mb 115) 15 = .ok (.iinc 2 1, 3) := by decide +kernel
theorem s115_15 (d : Nat) (l0 : Value) (a1 : Nat) (i2 : Int32) (σ : Hs) : ru d 115 15 [l0, .ref a1, .int i2] [] σ = ru d 115 18 [l0, .ref a1, .int (i2 + 1)] [] σ := q_iinc t115_15 ⟨Nat.le_of_ble_eq_true rfl, rfl⟩ rfl (by decide +kernel) rfl
theorem t115_18 : decode (mb 115) 18 = .ok (.goto (-16), 3) := by decide +kernel
theorem s115_18 (d : Nat) (l0 : Value) (l1 : Value) (l2 : Value) (σ : Hs) : ru d 115 18 [l0, l1, l2] [] σ = ru d 115 2 [l0, l1, l2] [] σ := q_goto t115_18 (by decide +kernel)
theorem t115_21 : decode (mb 115) 21 = .ok (.return_, 1) := by decide +kernel
theorem s115_21 (d : Nat) (l0 : Value) (l1 : Value) (l2 : Value) (σ : Hs) : ru d 115 21 [l0, l1, l2] [] σ = some (none, σ) := q_vret t115_21 mr115
theorem c115 (d : Nat) (x0 : Nat) (x1 : Nat) (σ : Hs) : callD (d + 1) 115 [.ref x0, .ref x1] σ = ru d 115 0 [.ref x0, .ref x1, uu] [] σ := callD_ru ml115 rfl rfl (Nat.le_of_ble_eq_true rfl)
-- 116: Model.comes(II)I
theorem t116_0 : decode (mb 116) 0 = .ok (.aload_n 0, 1) := by decide +kernel
theorem s116_0 (d : Nat) (a0 : Nat) (l1 : Value) (l2 : Value) (l3 : Value) (σ : Hs) : ru d 116 0 [.ref a0, l1, l2, l3] [] σ = ru d 116 1 [.ref a0, l1, l2, l3] [.ref a0] σ := q_aload_n t116_0 rfl
theorem t116_1 : decode (mb 116) 1 = .ok (.getfield 9, 3) := by decide +kernel
theorem s116_1_o87 (d : Nat) (l0 : Value) (l1 : Value) (l2 : Value) (l3 : Value) (σ : Hs) : ru d 116 1 [l0, l1, l2, l3] [.ref 87] σ = ru d 116 4 [l0, l1, l2, l3] [.ref 88] σ := q_getf t116_1 mo116 F8_9 rfl rfl
theorem t116_4 : decode (mb 116) 4 = .ok (.iload_n 1, 1) := by decide +kernel
theorem s116_4 (d : Nat) (l0 : Value) (i1 : Int32) (l2 : Value) (l3 : Value) (w0 : Value) (σ : Hs) : ru d 116 4 [l0, .int i1, l2, l3] [w0] σ = ru d 116 5 [l0, .int i1, l2, l3] [.int i1, w0] σ := q_iload_n t116_4 rfl
theorem t116_5 : decode (mb 116) 5 = .ok (.iaload, 1) := by decide +kernel
theorem s116_5_o88 (d : Nat) (l0 : Value) (l1 : Value) (l2 : Value) (l3 : Value) (i : Int32) (σ : Hs) : ru d 116 5 [l0, l1, l2, l3] [.int i, .ref 88] σ = gd (vp_in i 545) (ru d 116 6 [l0, l1, l2, l3] [.int (σ 88 i.toNatClampNeg)] σ) := q_iald t116_5 rfl (by decide +kernel) rfl
theorem t116_6 : decode (mb 116) 6 = .ok (.istore_n 3, 1) := by decide +kernel
theorem s116_6 (d : Nat) (l0 : Value) (l1 : Value) (i2 : Int32) (l3 : Value) (x : Int32) (σ : Hs) : ru d 116 6 [l0, l1, .int i2, l3] [.int x] σ = ru d 116 7 [l0, l1, .int i2, .int x] [] σ := q_istore_n t116_6 ⟨Nat.le_of_ble_eq_true rfl, rfl⟩ rfl
theorem t116_7 : decode (mb 116) 7 = .ok (.aload_n 0, 1) := by decide +kernel
theorem s116_7 (d : Nat) (a0 : Nat) (l1 : Value) (l2 : Value) (l3 : Value) (σ : Hs) : ru d 116 7 [.ref a0, l1, l2, l3] [] σ = ru d 116 8 [.ref a0, l1, l2, l3] [.ref a0] σ := q_aload_n t116_7 rfl
theorem t116_8 : decode (mb 116) 8 = .ok (.getfield 9, 3) := by decide +kernel
theorem s116_8_o87 (d : Nat) (l0 : Value) (l1 : Value) (l2 : Value) (l3 : Value) (σ : Hs) : ru d 116 8 [l0, l1, l2, l3] [.ref 87] σ = ru d 116 11 [l0, l1, l2, l3] [.ref 88] σ := q_getf t116_8 mo116 F8_9 rfl rfl
theorem t116_11 : decode (mb 116) 11 = .ok (.iload_n 1, 1) := by decide +kernel
theorem s116_11 (d : Nat) (l0 : Value) (i1 : Int32) (l2 : Value) (l3 : Value) (w0 : Value) (σ : Hs) : ru d 116 11 [l0, .int i1, l2, l3] [w0] σ = ru d 116 12 [l0, .int i1, l2, l3] [.int i1, w0] σ := q_iload_n t116_11 rfl
theorem t116_12 : decode (mb 116) 12 = .ok (.iload_n 2, 1) := by decide +kernel
theorem s116_12 (d : Nat) (l0 : Value) (l1 : Value) (i2 : Int32) (l3 : Value) (w0 w1 : Value) (σ : Hs) : ru d 116 12 [l0, l1, .int i2, l3] [w0, w1] σ = ru d 116 13 [l0, l1, .int i2, l3] [.int i2, w0, w1] σ := q_iload_n t116_12 rfl
theorem t116_13 : decode (mb 116) 13 = .ok (.iastore, 1) := by decide +kernel
theorem s116_13_o88 (d : Nat) (l0 : Value) (l1 : Value) (l2 : Value) (l3 : Value) (i x : Int32) (σ : Hs) : ru d 116 13 [l0, l1, l2, l3] [.int x, .int i, .ref 88] σ = gd (vp_in i 545) (ru d 116 14 [l0, l1, l2, l3] [] (up2 σ 88 i.toNatClampNeg x)) := q_iast t116_13 (by decide +kernel) rfl rfl
theorem t116_14 : decode (mb 116) 14 = .ok (.iload_n 3, 1) := by decide +kernel
theorem s116_14 (d : Nat) (l0 : Value) (l1 : Value) (l2 : Value) (i3 : Int32) (σ : Hs) : ru d 116 14 [l0, l1, l2, .int i3] [] σ = ru d 116 15 [l0, l1, l2, .int i3] [.int i3] σ := q_iload_n t116_14 rfl
theorem t116_15 : decode (mb 116) 15 = .ok (.ireturn, 1) := by decide +kernel
theorem s116_15 (d : Nat) (l0 : Value) (l1 : Value) (l2 : Value) (l3 : Value) (x : Int32) (σ : Hs) : ru d 116 15 [l0, l1, l2, l3] [.int x] σ = some (some (.int x), σ) := q_ireti t116_15 mr116
theorem c116 (d : Nat) (x0 : Nat) (x1 : Int32) (x2 : Int32) (σ : Hs) : callD (d + 1) 116 [.ref x0, .int x1, .int x2] σ = ru d 116 0 [.ref x0, .int x1, .int x2, uu] [] σ := callD_ru ml116 rfl rfl (Nat.le_of_ble_eq_true rfl)
-- 117: Model.back(I)I
theorem t117_0 : decode (mb 117) 0 = .ok (.aload_n 0, 1) := by decide +kernel
theorem s117_0 (d : Nat) (a0 : Nat) (l1 : Value) (σ : Hs) : ru d 117 0 [.ref a0, l1] [] σ = ru d 117 1 [.ref a0, l1] [.ref a0] σ := q_aload_n t117_0 rfl
theorem t117_1 : decode (mb 117) 1 = .ok (.getfield 16, 3) := by decide +kernel
theorem s117_1_o87 (d : Nat) (l0 : Value) (l1 : Value) (σ : Hs) : ru d 117 1 [l0, l1] [.ref 87] σ = ru d 117 4 [l0, l1] [.ref 90] σ := q_getf t117_1 mo117 F8_16 rfl rfl
theorem t117_4 : decode (mb 117) 4 = .ok (.aload_n 0, 1) := by decide +kernel
theorem s117_4 (d : Nat) (a0 : Nat) (l1 : Value) (w0 : Value) (σ : Hs) : ru d 117 4 [.ref a0, l1] [w0] σ = ru d 117 5 [.ref a0, l1] [.ref a0, w0] σ := q_aload_n t117_4 rfl
theorem t117_5 : decode (mb 117) 5 = .ok (.getfield 9, 3) := by decide +kernel
theorem s117_5_o87 (d : Nat) (l0 : Value) (l1 : Value) (w0 : Value) (σ : Hs) : ru d 117 5 [l0, l1] [.ref 87, w0] σ = ru d 117 8 [l0, l1] [.ref 88, w0] σ := q_getf t117_5 mo117 F8_9 rfl rfl
theorem t117_8 : decode (mb 117) 8 = .ok (.invokestatic 77, 3) := by decide +kernel
theorem s117_8 (d : Nat) (l0 : Value) (l1 : Value) (v0 v1 : Value) (σ : Hs) : ru d 117 8 [l0, l1] [v1, v0] σ = kont (callD d 115 [v0, v1] σ) d 117 11 [l0, l1] [] := q_invs t117_8 mo117 (by decide +kernel) K8_77 mj115 (Nat.le_of_ble_eq_true rfl) rfl rfl (Nat.le_of_ble_eq_true rfl)
theorem t117_11 : decode (mb 117) 11 = .ok (.iload_n 1, 1) := by decide +kernel
theorem s117_11 (d : Nat) (l0 : Value) (i1 : Int32) (σ : Hs) : ru d 117 11 [l0, .int i1] [] σ = ru d 117 12 [l0, .int i1] [.int i1] σ := q_iload_n t117_11 rfl
theorem t117_12 : decode (mb 117) 12 = .ok (.ireturn, 1) := by decide +kernel
theorem s117_12 (d : Nat) (l0 : Value) (l1 : Value) (x : Int32) (σ : Hs) : ru d 117 12 [l0, l1] [.int x] σ = some (some (.int x), σ) := q_ireti t117_12 mr117
theorem c117 (d : Nat) (x0 : Nat) (x1 : Int32) (σ : Hs) : callD (d + 1) 117 [.ref x0, .int x1] σ = ru d 117 0 [.ref x0, .int x1] [] σ := callD_ru ml117 rfl rfl (Nat.le_of_ble_eq_true rfl)
-- 118: Model.of(II)I
theorem t118_0 : decode (mb 118) 0 = .ok (.aload_n 0, 1) := by decide +kernel
theorem s118_0 (d : Nat) (a0 : Nat) (l1 : Value) (l2 : Value) (σ : Hs) : ru d 118 0 [.ref a0, l1, l2] [] σ = ru d 118 1 [.ref a0, l1, l2] [.ref a0] σ := q_aload_n t118_0 rfl
theorem t118_1 : decode (mb 118) 1 = .ok (.getfield 9, 3) := by decide +kernel
theorem s118_1_o87 (d : Nat) (l0 : Value) (l1 : Value) (l2 : Value) (σ : Hs) : ru d 118 1 [l0, l1, l2] [.ref 87] σ = ru d 118 4 [l0, l1, l2] [.ref 88] σ := q_getf t118_1 mo118 F8_9 rfl rfl
theorem t118_4 : decode (mb 118) 4 = .ok (.bipush 14, 2) := by decide +kernel
theorem s118_4 (d : Nat) (l0 : Value) (l1 : Value) (l2 : Value) (w0 : Value) (σ : Hs) : ru d 118 4 [l0, l1, l2] [w0] σ = ru d 118 6 [l0, l1, l2] [.int 14, w0] σ := q_bipush t118_4 (by decide +kernel)
theorem t118_6 : decode (mb 118) 6 = .ok (.bipush 7, 2) := by decide +kernel
theorem s118_6 (d : Nat) (l0 : Value) (l1 : Value) (l2 : Value) (w0 w1 : Value) (σ : Hs) : ru d 118 6 [l0, l1, l2] [w0, w1] σ = ru d 118 8 [l0, l1, l2] [.int 7, w0, w1] σ := q_bipush t118_6 (by decide +kernel)
theorem t118_8 : decode (mb 118) 8 = .ok (.iload_n 1, 1) := by decide +kernel
theorem s118_8 (d : Nat) (l0 : Value) (i1 : Int32) (l2 : Value) (w0 w1 w2 : Value) (σ : Hs) : ru d 118 8 [l0, .int i1, l2] [w0, w1, w2] σ = ru d 118 9 [l0, .int i1, l2] [.int i1, w0, w1, w2] σ := q_iload_n t118_8 rfl
theorem t118_9 : decode (mb 118) 9 = .ok (.imul, 1) := by decide +kernel
theorem s118_9 (d : Nat) (l0 : Value) (l1 : Value) (l2 : Value) (x y : Int32) (w0 w1 : Value) (σ : Hs) : ru d 118 9 [l0, l1, l2] [.int y, .int x, w0, w1] σ = ru d 118 10 [l0, l1, l2] [.int (x * y), w0, w1] σ := q_imul t118_9
theorem t118_10 : decode (mb 118) 10 = .ok (.iadd, 1) := by decide +kernel
theorem s118_10 (d : Nat) (l0 : Value) (l1 : Value) (l2 : Value) (x y : Int32) (w0 : Value) (σ : Hs) : ru d 118 10 [l0, l1, l2] [.int y, .int x, w0] σ = ru d 118 11 [l0, l1, l2] [.int (x + y), w0] σ := q_iadd t118_10
theorem t118_11 : decode (mb 118) 11 = .ok (.iload_n 2, 1) := by decide +kernel
theorem s118_11 (d : Nat) (l0 : Value) (l1 : Value) (i2 : Int32) (w0 w1 : Value) (σ : Hs) : ru d 118 11 [l0, l1, .int i2] [w0, w1] σ = ru d 118 12 [l0, l1, .int i2] [.int i2, w0, w1] σ := q_iload_n t118_11 rfl
theorem t118_12 : decode (mb 118) 12 = .ok (.iadd, 1) := by decide +kernel
theorem s118_12 (d : Nat) (l0 : Value) (l1 : Value) (l2 : Value) (x y : Int32) (w0 : Value) (σ : Hs) : ru d 118 12 [l0, l1, l2] [.int y, .int x, w0] σ = ru d 118 13 [l0, l1, l2] [.int (x + y), w0] σ := q_iadd t118_12
theorem t118_13 : decode (mb 118) 13 = .ok (.iaload, 1) := by decide +kernel
theorem s118_13_o88 (d : Nat) (l0 : Value) (l1 : Value) (l2 : Value) (i : Int32) (σ : Hs) : ru d 118 13 [l0, l1, l2] [.int i, .ref 88] σ = gd (vp_in i 545) (ru d 118 14 [l0, l1, l2] [.int (σ 88 i.toNatClampNeg)] σ) := q_iald t118_13 rfl (by decide +kernel) rfl
theorem t118_14 : decode (mb 118) 14 = .ok (.ireturn, 1) := by decide +kernel
theorem s118_14 (d : Nat) (l0 : Value) (l1 : Value) (l2 : Value) (x : Int32) (σ : Hs) : ru d 118 14 [l0, l1, l2] [.int x] σ = some (some (.int x), σ) := q_ireti t118_14 mr118
theorem c118 (d : Nat) (x0 : Nat) (x1 : Int32) (x2 : Int32) (σ : Hs) : callD (d + 1) 118 [.ref x0, .int x1, .int x2] σ = ru d 118 0 [.ref x0, .int x1, .int x2] [] σ := callD_ru ml118 rfl rfl (Nat.le_of_ble_eq_true rfl)
-- 119: Model.tells(III)V
theorem t119_0 : decode (mb 119) 0 = .ok (.aload_n 0, 1) := by decide +kernel
theorem s119_0 (d : Nat) (a0 : Nat) (l1 : Value) (l2 : Value) (l3 : Value) (σ : Hs) : ru d 119 0 [.ref a0, l1, l2, l3] [] σ = ru d 119 1 [.ref a0, l1, l2, l3] [.ref a0] σ := q_aload_n t119_0 rfl
theorem t119_1 : decode (mb 119) 1 = .ok (.getfield 9, 3) := by decide +kernel
theorem s119_1_o87 (d : Nat) (l0 : Value) (l1 : Value) (l2 : Value) (l3 : Value) (σ : Hs) : ru d 119 1 [l0, l1, l2, l3] [.ref 87] σ = ru d 119 4 [l0, l1, l2, l3] [.ref 88] σ := q_getf t119_1 mo119 F8_9 rfl rfl
theorem t119_4 : decode (mb 119) 4 = .ok (.bipush 14, 2) := by decide +kernel
theorem s119_4 (d : Nat) (l0 : Value) (l1 : Value) (l2 : Value) (l3 : Value) (w0 : Value) (σ : Hs) : ru d 119 4 [l0, l1, l2, l3] [w0] σ = ru d 119 6 [l0, l1, l2, l3] [.int 14, w0] σ := q_bipush t119_4 (by decide +kernel)
theorem t119_6 : decode (mb 119) 6 = .ok (.bipush 7, 2) := by decide +kernel
theorem s119_6 (d : Nat) (l0 : Value) (l1 : Value) (l2 : Value) (l3 : Value) (w0 w1 : Value) (σ : Hs) : ru d 119 6 [l0, l1, l2, l3] [w0, w1] σ = ru d 119 8 [l0, l1, l2, l3] [.int 7, w0, w1] σ := q_bipush t119_6 (by decide +kernel)
theorem t119_8 : decode (mb 119) 8 = .ok (.iload_n 1, 1) := by decide +kernel
theorem s119_8 (d : Nat) (l0 : Value) (i1 : Int32) (l2 : Value) (l3 : Value) (w0 w1 w2 : Value) (σ : Hs) : ru d 119 8 [l0, .int i1, l2, l3] [w0, w1, w2] σ = ru d 119 9 [l0, .int i1, l2, l3] [.int i1, w0, w1, w2] σ := q_iload_n t119_8 rfl
theorem t119_9 : decode (mb 119) 9 = .ok (.imul, 1) := by decide +kernel
theorem s119_9 (d : Nat) (l0 : Value) (l1 : Value) (l2 : Value) (l3 : Value) (x y : Int32) (w0 w1 : Value) (σ : Hs) : ru d 119 9 [l0, l1, l2, l3] [.int y, .int x, w0, w1] σ = ru d 119 10 [l0, l1, l2, l3] [.int (x * y), w0, w1] σ := q_imul t119_9
theorem t119_10 : decode (mb 119) 10 = .ok (.iadd, 1) := by decide +kernel
theorem s119_10 (d : Nat) (l0 : Value) (l1 : Value) (l2 : Value) (l3 : Value) (x y : Int32) (w0 : Value) (σ : Hs) : ru d 119 10 [l0, l1, l2, l3] [.int y, .int x, w0] σ = ru d 119 11 [l0, l1, l2, l3] [.int (x + y), w0] σ := q_iadd t119_10
theorem t119_11 : decode (mb 119) 11 = .ok (.iload_n 2, 1) := by decide +kernel
theorem s119_11 (d : Nat) (l0 : Value) (l1 : Value) (i2 : Int32) (l3 : Value) (w0 w1 : Value) (σ : Hs) : ru d 119 11 [l0, l1, .int i2, l3] [w0, w1] σ = ru d 119 12 [l0, l1, .int i2, l3] [.int i2, w0, w1] σ := q_iload_n t119_11 rfl
theorem t119_12 : decode (mb 119) 12 = .ok (.iadd, 1) := by decide +kernel
theorem s119_12 (d : Nat) (l0 : Value) (l1 : Value) (l2 : Value) (l3 : Value) (x y : Int32) (w0 : Value) (σ : Hs) : ru d 119 12 [l0, l1, l2, l3] [.int y, .int x, w0] σ = ru d 119 13 [l0, l1, l2, l3] [.int (x + y), w0] σ := q_iadd t119_12
theorem t119_13 : decode (mb 119) 13 = .ok (.iload_n 3, 1) := by decide +kernel
theorem s119_13 (d : Nat) (l0 : Value) (l1 : Value) (l2 : Value) (i3 : Int32) (w0 w1 : Value) (σ : Hs) : ru d 119 13 [l0, l1, l2, .int i3] [w0, w1] σ = ru d 119 14 [l0, l1, l2, .int i3] [.int i3, w0, w1] σ := q_iload_n t119_13 rfl
theorem t119_14 : decode (mb 119) 14 = .ok (.iastore, 1) := by decide +kernel
theorem s119_14_o88 (d : Nat) (l0 : Value) (l1 : Value) (l2 : Value) (l3 : Value) (i x : Int32) (σ : Hs) : ru d 119 14 [l0, l1, l2, l3] [.int x, .int i, .ref 88] σ = gd (vp_in i 545) (ru d 119 15 [l0, l1, l2, l3] [] (up2 σ 88 i.toNatClampNeg x)) := q_iast t119_14 (by decide +kernel) rfl rfl
theorem t119_15 : decode (mb 119) 15 = .ok (.return_, 1) := by decide +kernel
theorem s119_15 (d : Nat) (l0 : Value) (l1 : Value) (l2 : Value) (l3 : Value) (σ : Hs) : ru d 119 15 [l0, l1, l2, l3] [] σ = some (none, σ) := q_vret t119_15 mr119
theorem c119 (d : Nat) (x0 : Nat) (x1 : Int32) (x2 : Int32) (x3 : Int32) (σ : Hs) : callD (d + 1) 119 [.ref x0, .int x1, .int x2, .int x3] σ = ru d 119 0 [.ref x0, .int x1, .int x2, .int x3] [] σ := callD_ru ml119 rfl rfl (Nat.le_of_ble_eq_true rfl)
-- 120: Model.isPlace(I)Z
theorem t120_0 : decode (mb 120) 0 = .ok (.iload_n 0, 1) := by decide +kernel
theorem s120_0 (d : Nat) (i0 : Int32) (σ : Hs) : ru d 120 0 [.int i0] [] σ = ru d 120 1 [.int i0] [.int i0] σ := q_iload_n t120_0 rfl
theorem t120_1 : decode (mb 120) 1 = .ok (.iconst 0, 1) := by decide +kernel
theorem s120_1 (d : Nat) (l0 : Value) (w0 : Value) (σ : Hs) : ru d 120 1 [l0] [w0] σ = ru d 120 2 [l0] [.int 0, w0] σ := q_iconst t120_1 (by decide +kernel)
theorem t120_2 : decode (mb 120) 2 = .ok (.bipush 29, 2) := by decide +kernel
theorem s120_2 (d : Nat) (l0 : Value) (w0 w1 : Value) (σ : Hs) : ru d 120 2 [l0] [w0, w1] σ = ru d 120 4 [l0] [.int 29, w0, w1] σ := q_bipush t120_2 (by decide +kernel)
theorem t120_4 : decode (mb 120) 4 = .ok (.invokestatic 81, 3) := by decide +kernel
theorem s120_4 (d : Nat) (l0 : Value) (v0 v1 v2 : Value) (σ : Hs) : ru d 120 4 [l0] [v2, v1, v0] σ = kont (callD d 112 [v0, v1, v2] σ) d 120 7 [l0] [] := q_invs t120_4 mo120 (by decide +kernel) K8_81 mj112 (Nat.le_of_ble_eq_true rfl) rfl rfl (Nat.le_of_ble_eq_true rfl)
theorem t120_7 : decode (mb 120) 7 = .ok (.ireturn, 1) := by decide +kernel
theorem s120_7 (d : Nat) (l0 : Value) (x : Int32) (hx : isB x) (σ : Hs) : ru d 120 7 [l0] [.int x] σ = some (some (.int x), σ) := q_iretz t120_7 mr120 hx
theorem c120 (d : Nat) (x0 : Int32) (σ : Hs) : callD (d + 1) 120 [.int x0] σ = ru d 120 0 [.int x0] [] σ := callD_ru ml120 rfl rfl (Nat.le_of_ble_eq_true rfl)
-- 121: Model.is(I)Z
theorem t121_0 : decode (mb 121) 0 = .ok (.aload_n 0, 1) := by decide +kernel
theorem s121_0 (d : Nat) (a0 : Nat) (l1 : Value) (σ : Hs) : ru d 121 0 [.ref a0, l1] [] σ = ru d 121 1 [.ref a0, l1] [.ref a0] σ := q_aload_n t121_0 rfl
theorem t121_1 : decode (mb 121) 1 = .ok (.iload_n 1, 1) := by decide +kernel
theorem s121_1 (d : Nat) (l0 : Value) (i1 : Int32) (w0 : Value) (σ : Hs) : ru d 121 1 [l0, .int i1] [w0] σ = ru d 121 2 [l0, .int i1] [.int i1, w0] σ := q_iload_n t121_1 rfl
theorem t121_2 : decode (mb 121) 2 = .ok (.iconst 0, 1) := by decide +kernel
theorem s121_2 (d : Nat) (l0 : Value) (l1 : Value) (w0 w1 : Value) (σ : Hs) : ru d 121 2 [l0, l1] [w0, w1] σ = ru d 121 3 [l0, l1] [.int 0, w0, w1] σ := q_iconst t121_2 (by decide +kernel)
theorem t121_3 : decode (mb 121) 3 = .ok (.invokevirtual 85, 3) := by decide +kernel
theorem s121_3_o87 (d : Nat) (l0 : Value) (l1 : Value) (v1 v2 : Value) (σ : Hs) : ru d 121 3 [l0, l1] [v2, v1, .ref 87] σ = kont (callD d 118 [.ref 87, v1, v2] σ) d 121 6 [l0, l1] [] := q_invv t121_3 mo121 K8_85 mj118 rfl rfl rfl rfl (Nat.le_of_ble_eq_true rfl)
theorem t121_6 : decode (mb 121) 6 = .ok (.iconst 1, 1) := by decide +kernel
theorem s121_6 (d : Nat) (l0 : Value) (l1 : Value) (w0 : Value) (σ : Hs) : ru d 121 6 [l0, l1] [w0] σ = ru d 121 7 [l0, l1] [.int 1, w0] σ := q_iconst t121_6 (by decide +kernel)
theorem t121_7 : decode (mb 121) 7 = .ok (.if_icmp .ne 7, 3) := by decide +kernel
theorem s121_7 (d : Nat) (l0 : Value) (l1 : Value) (x y : Int32) (σ : Hs) : ru d 121 7 [l0, l1] [.int y, .int x] σ = if x = y then ru d 121 10 [l0, l1] [] σ else ru d 121 14 [l0, l1] [] σ := q_ic_ne t121_7 (by decide +kernel)
theorem t121_10 : decode (mb 121) 10 = .ok (.iconst 1, 1) := by decide +kernel
theorem s121_10 (d : Nat) (l0 : Value) (l1 : Value) (σ : Hs) : ru d 121 10 [l0, l1] [] σ = ru d 121 11 [l0, l1] [.int 1] σ := q_iconst t121_10 (by decide +kernel)
theorem t121_11 : decode (mb 121) 11 = .ok (.goto 4, 3) := by decide +kernel
theorem s121_11 (d : Nat) (l0 : Value) (l1 : Value) (w0 : Value) (σ : Hs) : ru d 121 11 [l0, l1] [w0] σ = ru d 121 15 [l0, l1] [w0] σ := q_goto t121_11 (by decide +kernel)
theorem t121_14 : decode (mb 121) 14 = .ok (.iconst 0, 1) := by decide +kernel
theorem s121_14 (d : Nat) (l0 : Value) (l1 : Value) (σ : Hs) : ru d 121 14 [l0, l1] [] σ = ru d 121 15 [l0, l1] [.int 0] σ := q_iconst t121_14 (by decide +kernel)
theorem t121_15 : decode (mb 121) 15 = .ok (.ireturn, 1) := by decide +kernel
theorem s121_15 (d : Nat) (l0 : Value) (l1 : Value) (x : Int32) (hx : isB x) (σ : Hs) : ru d 121 15 [l0, l1] [.int x] σ = some (some (.int x), σ) := q_iretz t121_15 mr121 hx
theorem c121 (d : Nat) (x0 : Nat) (x1 : Int32) (σ : Hs) : callD (d + 1) 121 [.ref x0, .int x1] σ = ru d 121 0 [.ref x0, .int x1] [] σ := callD_ru ml121 rfl rfl (Nat.le_of_ble_eq_true rfl)
-- 122: Model.isLit(I)Z
theorem t122_0 : decode (mb 122) 0 = .ok (.aload_n 0, 1) := by decide +kernel
theorem s122_0 (d : Nat) (a0 : Nat) (l1 : Value) (σ : Hs) : ru d 122 0 [.ref a0, l1] [] σ = ru d 122 1 [.ref a0, l1] [.ref a0] σ := q_aload_n t122_0 rfl
theorem t122_1 : decode (mb 122) 1 = .ok (.iload_n 1, 1) := by decide +kernel
theorem s122_1 (d : Nat) (l0 : Value) (i1 : Int32) (w0 : Value) (σ : Hs) : ru d 122 1 [l0, .int i1] [w0] σ = ru d 122 2 [l0, .int i1] [.int i1, w0] σ := q_iload_n t122_1 rfl
theorem t122_2 : decode (mb 122) 2 = .ok (.bipush 6, 2) := by decide +kernel
theorem s122_2 (d : Nat) (l0 : Value) (l1 : Value) (w0 w1 : Value) (σ : Hs) : ru d 122 2 [l0, l1] [w0, w1] σ = ru d 122 4 [l0, l1] [.int 6, w0, w1] σ := q_bipush t122_2 (by decide +kernel)
theorem t122_4 : decode (mb 122) 4 = .ok (.invokevirtual 85, 3) := by decide +kernel
theorem s122_4_o87 (d : Nat) (l0 : Value) (l1 : Value) (v1 v2 : Value) (σ : Hs) : ru d 122 4 [l0, l1] [v2, v1, .ref 87] σ = kont (callD d 118 [.ref 87, v1, v2] σ) d 122 7 [l0, l1] [] := q_invv t122_4 mo122 K8_85 mj118 rfl rfl rfl rfl (Nat.le_of_ble_eq_true rfl)
theorem t122_7 : decode (mb 122) 7 = .ok (.iconst 1, 1) := by decide +kernel
theorem s122_7 (d : Nat) (l0 : Value) (l1 : Value) (w0 : Value) (σ : Hs) : ru d 122 7 [l0, l1] [w0] σ = ru d 122 8 [l0, l1] [.int 1, w0] σ := q_iconst t122_7 (by decide +kernel)
theorem t122_8 : decode (mb 122) 8 = .ok (.if_icmp .ne 7, 3) := by decide +kernel
theorem s122_8 (d : Nat) (l0 : Value) (l1 : Value) (x y : Int32) (σ : Hs) : ru d 122 8 [l0, l1] [.int y, .int x] σ = if x = y then ru d 122 11 [l0, l1] [] σ else ru d 122 15 [l0, l1] [] σ := q_ic_ne t122_8 (by decide +kernel)
theorem t122_11 : decode (mb 122) 11 = .ok (.iconst 1, 1) := by decide +kernel
theorem s122_11 (d : Nat) (l0 : Value) (l1 : Value) (σ : Hs) : ru d 122 11 [l0, l1] [] σ = ru d 122 12 [l0, l1] [.int 1] σ := q_iconst t122_11 (by decide +kernel)
theorem t122_12 : decode (mb 122) 12 = .ok (.goto 4, 3) := by decide +kernel
theorem s122_12 (d : Nat) (l0 : Value) (l1 : Value) (w0 : Value) (σ : Hs) : ru d 122 12 [l0, l1] [w0] σ = ru d 122 16 [l0, l1] [w0] σ := q_goto t122_12 (by decide +kernel)
theorem t122_15 : decode (mb 122) 15 = .ok (.iconst 0, 1) := by decide +kernel
theorem s122_15 (d : Nat) (l0 : Value) (l1 : Value) (σ : Hs) : ru d 122 15 [l0, l1] [] σ = ru d 122 16 [l0, l1] [.int 0] σ := q_iconst t122_15 (by decide +kernel)
theorem t122_16 : decode (mb 122) 16 = .ok (.ireturn, 1) := by decide +kernel
theorem s122_16 (d : Nat) (l0 : Value) (l1 : Value) (x : Int32) (hx : isB x) (σ : Hs) : ru d 122 16 [l0, l1] [.int x] σ = some (some (.int x), σ) := q_iretz t122_16 mr122 hx
theorem c122 (d : Nat) (x0 : Nat) (x1 : Int32) (σ : Hs) : callD (d + 1) 122 [.ref x0, .int x1] σ = ru d 122 0 [.ref x0, .int x1] [] σ := callD_ru ml122 rfl rfl (Nat.le_of_ble_eq_true rfl)
