-- 90: SmokyHeap.sheet(III)I
theorem t90_0 : decode (mb 90) 0 = .ok (.iload_n 1, 1) := by decide +kernel
theorem s90_0 (d : Nat) (l0 : Value) (i1 : Int32) (l2 : Value) (l3 : Value) (σ : Hs) : ru d 90 0 [l0, .int i1, l2, l3] [] σ = ru d 90 1 [l0, .int i1, l2, l3] [.int i1] σ := q_iload_n t90_0 rfl
theorem t90_1 : decode (mb 90) 1 = .ok (.invokestatic 252, 3) := by decide +kernel
theorem s90_1 (d : Nat) (l0 : Value) (l1 : Value) (l2 : Value) (l3 : Value) (v0 : Value) (σ : Hs) : ru d 90 1 [l0, l1, l2, l3] [v0] σ = kont (callD d 108 [v0] σ) d 90 4 [l0, l1, l2, l3] [] := q_invs t90_1 mo90 (by decide +kernel) K7_252 mj108 (Nat.le_of_ble_eq_true rfl) rfl rfl (Nat.le_of_ble_eq_true rfl)
theorem t90_4 : decode (mb 90) 4 = .ok (.ifCond .eq 25, 3) := by decide +kernel
theorem s90_4 (d : Nat) (l0 : Value) (l1 : Value) (l2 : Value) (l3 : Value) (x : Int32) (σ : Hs) : ru d 90 4 [l0, l1, l2, l3] [.int x] σ = if x = 0 then ru d 90 29 [l0, l1, l2, l3] [] σ else ru d 90 7 [l0, l1, l2, l3] [] σ := q_if_eq t90_4 (by decide +kernel)
theorem t90_7 : decode (mb 90) 7 = .ok (.iload_n 2, 1) := by decide +kernel
theorem s90_7 (d : Nat) (l0 : Value) (l1 : Value) (i2 : Int32) (l3 : Value) (σ : Hs) : ru d 90 7 [l0, l1, .int i2, l3] [] σ = ru d 90 8 [l0, l1, .int i2, l3] [.int i2] σ := q_iload_n t90_7 rfl
theorem t90_8 : decode (mb 90) 8 = .ok (.ifCond .eq 27, 3) := by decide +kernel
theorem s90_8 (d : Nat) (l0 : Value) (l1 : Value) (l2 : Value) (l3 : Value) (x : Int32) (σ : Hs) : ru d 90 8 [l0, l1, l2, l3] [.int x] σ = if x = 0 then ru d 90 35 [l0, l1, l2, l3] [] σ else ru d 90 11 [l0, l1, l2, l3] [] σ := q_if_eq t90_8 (by decide +kernel)
theorem t90_11 : decode (mb 90) 11 = .ok (.iload_n 2, 1) := by decide +kernel
theorem s90_11 (d : Nat) (l0 : Value) (l1 : Value) (i2 : Int32) (l3 : Value) (σ : Hs) : ru d 90 11 [l0, l1, .int i2, l3] [] σ = ru d 90 12 [l0, l1, .int i2, l3] [.int i2] σ := q_iload_n t90_11 rfl
theorem t90_12 : decode (mb 90) 12 = .ok (.bipush 8, 2) := by decide +kernel
theorem s90_12 (d : Nat) (l0 : Value) (l1 : Value) (l2 : Value) (l3 : Value) (w0 : Value) (σ : Hs) : ru d 90 12 [l0, l1, l2, l3] [w0] σ = ru d 90 14 [l0, l1, l2, l3] [.int 8, w0] σ := q_bipush t90_12 (by decide +kernel)
theorem t90_14 : decode (mb 90) 14 = .ok (.if_icmp .eq 21, 3) := by decide +kernel
theorem s90_14 (d : Nat) (l0 : Value) (l1 : Value) (l2 : Value) (l3 : Value) (x y : Int32) (σ : Hs) : ru d 90 14 [l0, l1, l2, l3] [.int y, .int x] σ = if x = y then ru d 90 35 [l0, l1, l2, l3] [] σ else ru d 90 17 [l0, l1, l2, l3] [] σ := q_ic_eq t90_14 (by decide +kernel)
theorem t90_17 : decode (mb 90) 17 = .ok (.iload_n 2, 1) := by decide +kernel
theorem s90_17 (d : Nat) (l0 : Value) (l1 : Value) (i2 : Int32) (l3 : Value) (σ : Hs) : ru d 90 17 [l0, l1, .int i2, l3] [] σ = ru d 90 18 [l0, l1, .int i2, l3] [.int i2] σ := q_iload_n t90_17 rfl
theorem t90_18 : decode (mb 90) 18 = .ok (.bipush 16, 2) := by decide +kernel
theorem s90_18 (d : Nat) (l0 : Value) (l1 : Value) (l2 : Value) (l3 : Value) (w0 : Value) (σ : Hs) : ru d 90 18 [l0, l1, l2, l3] [w0] σ = ru d 90 20 [l0, l1, l2, l3] [.int 16, w0] σ := q_bipush t90_18 (by decide +kernel)
theorem t90_20 : decode (mb 90) 20 = .ok (.if_icmp .eq 15, 3) := by decide +kernel
theorem s90_20 (d : Nat) (l0 : Value) (l1 : Value) (l2 : Value) (l3 : Value) (x y : Int32) (σ : Hs) : ru d 90 20 [l0, l1, l2, l3] [.int y, .int x] σ = if x = y then ru d 90 35 [l0, l1, l2, l3] [] σ else ru d 90 23 [l0, l1, l2, l3] [] σ := q_ic_eq t90_20 (by decide +kernel)
theorem t90_23 : decode (mb 90) 23 = .ok (.iload_n 2, 1) := by decide +kernel
theorem s90_23 (d : Nat) (l0 : Value) (l1 : Value) (i2 : Int32) (l3 : Value) (σ : Hs) : ru d 90 23 [l0, l1, .int i2, l3] [] σ = ru d 90 24 [l0, l1, .int i2, l3] [.int i2] σ := q_iload_n t90_23 rfl
theorem t90_24 : decode (mb 90) 24 = .ok (.bipush 32, 2) := by decide +kernel
theorem s90_24 (d : Nat) (l0 : Value) (l1 : Value) (l2 : Value) (l3 : Value) (w0 : Value) (σ : Hs) : ru d 90 24 [l0, l1, l2, l3] [w0] σ = ru d 90 26 [l0, l1, l2, l3] [.int 32, w0] σ := q_bipush t90_24 (by decide +kernel)
theorem t90_26 : decode (mb 90) 26 = .ok (.if_icmp .eq 9, 3) := by decide +kernel
theorem s90_26 (d : Nat) (l0 : Value) (l1 : Value) (l2 : Value) (l3 : Value) (x y : Int32) (σ : Hs) : ru d 90 26 [l0, l1, l2, l3] [.int y, .int x] σ = if x = y then ru d 90 35 [l0, l1, l2, l3] [] σ else ru d 90 29 [l0, l1, l2, l3] [] σ := q_ic_eq t90_26 (by decide +kernel)
theorem t90_29 : decode (mb 90) 29 = .ok (.aload_n 0, 1) := by decide +kernel
theorem s90_29 (d : Nat) (a0 : Nat) (l1 : Value) (l2 : Value) (l3 : Value) (σ : Hs) : ru d 90 29 [.ref a0, l1, l2, l3] [] σ = ru d 90 30 [.ref a0, l1, l2, l3] [.ref a0] σ := q_aload_n t90_29 rfl
theorem t90_30 : decode (mb 90) 30 = .ok (.iconst 1, 1) := by decide +kernel
theorem s90_30 (d : Nat) (l0 : Value) (l1 : Value) (l2 : Value) (l3 : Value) (w0 : Value) (σ : Hs) : ru d 90 30 [l0, l1, l2, l3] [w0] σ = ru d 90 31 [l0, l1, l2, l3] [.int 1, w0] σ := q_iconst t90_30 (by decide +kernel)
theorem t90_31 : decode (mb 90) 31 = .ok (.invokevirtual 65, 3) := by decide +kernel
theorem s90_31_o0 (d : Nat) (l0 : Value) (l1 : Value) (l2 : Value) (l3 : Value) (v1 : Value) (σ : Hs) : ru d 90 31 [l0, l1, l2, l3] [v1, .ref 0] σ = kont (callD d 100 [.ref 0, v1] σ) d 90 34 [l0, l1, l2, l3] [] := q_invv t90_31 mo90 K7_65 mj100 rfl rfl rfl rfl (Nat.le_of_ble_eq_true rfl)
theorem t90_34 : decode (mb 90) 34 = .ok (.ireturn, 1) := by decide +kernel
theorem s90_34 (d : Nat) (l0 : Value) (l1 : Value) (l2 : Value) (l3 : Value) (x : Int32) (σ : Hs) : ru d 90 34 [l0, l1, l2, l3] [.int x] σ = some (some (.int x), σ) := q_ireti t90_34 mr90
theorem t90_35 : decode (mb 90) 35 = .ok (.iload_n 2, 1) := by decide +kernel
theorem s90_35 (d : Nat) (l0 : Value) (l1 : Value) (i2 : Int32) (l3 : Value) (σ : Hs) : ru d 90 35 [l0, l1, .int i2, l3] [] σ = ru d 90 36 [l0, l1, .int i2, l3] [.int i2] σ := q_iload_n t90_35 rfl
theorem t90_36 : decode (mb 90) 36 = .ok (.ifCond .eq 13, 3) := by decide +kernel
theorem s90_36 (d : Nat) (l0 : Value) (l1 : Value) (l2 : Value) (l3 : Value) (x : Int32) (σ : Hs) : ru d 90 36 [l0, l1, l2, l3] [.int x] σ = if x = 0 then ru d 90 49 [l0, l1, l2, l3] [] σ else ru d 90 39 [l0, l1, l2, l3] [] σ := q_if_eq t90_36 (by decide +kernel)
theorem t90_39 : decode (mb 90) 39 = .ok (.iload_n 3, 1) := by decide +kernel
theorem s90_39 (d : Nat) (l0 : Value) (l1 : Value) (l2 : Value) (i3 : Int32) (σ : Hs) : ru d 90 39 [l0, l1, l2, .int i3] [] σ = ru d 90 40 [l0, l1, l2, .int i3] [.int i3] σ := q_iload_n t90_39 rfl
theorem t90_40 : decode (mb 90) 40 = .ok (.ifCond .ge 9, 3) := by decide +kernel
theorem s90_40 (d : Nat) (l0 : Value) (l1 : Value) (l2 : Value) (l3 : Value) (x : Int32) (σ : Hs) : ru d 90 40 [l0, l1, l2, l3] [.int x] σ = if 0 ≤ x then ru d 90 49 [l0, l1, l2, l3] [] σ else ru d 90 43 [l0, l1, l2, l3] [] σ := q_if_ge t90_40 (by decide +kernel)
theorem t90_43 : decode (mb 90) 43 = .ok (.aload_n 0, 1) := by decide +kernel
theorem s90_43 (d : Nat) (a0 : Nat) (l1 : Value) (l2 : Value) (l3 : Value) (σ : Hs) : ru d 90 43 [.ref a0, l1, l2, l3] [] σ = ru d 90 44 [.ref a0, l1, l2, l3] [.ref a0] σ := q_aload_n t90_43 rfl
theorem t90_44 : decode (mb 90) 44 = .ok (.iconst 3, 1) := by decide +kernel
theorem s90_44 (d : Nat) (l0 : Value) (l1 : Value) (l2 : Value) (l3 : Value) (w0 : Value) (σ : Hs) : ru d 90 44 [l0, l1, l2, l3] [w0] σ = ru d 90 45 [l0, l1, l2, l3] [.int 3, w0] σ := q_iconst t90_44 (by decide +kernel)
theorem t90_45 : decode (mb 90) 45 = .ok (.invokevirtual 65, 3) := by decide +kernel
theorem s90_45_o0 (d : Nat) (l0 : Value) (l1 : Value) (l2 : Value) (l3 : Value) (v1 : Value) (σ : Hs) : ru d 90 45 [l0, l1, l2, l3] [v1, .ref 0] σ = kont (callD d 100 [.ref 0, v1] σ) d 90 48 [l0, l1, l2, l3] [] := q_invv t90_45 mo90 K7_65 mj100 rfl rfl rfl rfl (Nat.le_of_ble_eq_true rfl)
theorem t90_48 : decode (mb 90) 48 = .ok (.ireturn, 1) := by decide +kernel
theorem s90_48 (d : Nat) (l0 : Value) (l1 : Value) (l2 : Value) (l3 : Value) (x : Int32) (σ : Hs) : ru d 90 48 [l0, l1, l2, l3] [.int x] σ = some (some (.int x), σ) := q_ireti t90_48 mr90
theorem t90_49 : decode (mb 90) 49 = .ok (.iload_n 2, 1) := by decide +kernel
theorem s90_49 (d : Nat) (l0 : Value) (l1 : Value) (i2 : Int32) (l3 : Value) (σ : Hs) : ru d 90 49 [l0, l1, .int i2, l3] [] σ = ru d 90 50 [l0, l1, .int i2, l3] [.int i2] σ := q_iload_n t90_49 rfl
theorem t90_50 : decode (mb 90) 50 = .ok (.ifCond .eq 15, 3) := by decide +kernel
theorem s90_50 (d : Nat) (l0 : Value) (l1 : Value) (l2 : Value) (l3 : Value) (x : Int32) (σ : Hs) : ru d 90 50 [l0, l1, l2, l3] [.int x] σ = if x = 0 then ru d 90 65 [l0, l1, l2, l3] [] σ else ru d 90 53 [l0, l1, l2, l3] [] σ := q_if_eq t90_50 (by decide +kernel)
theorem t90_53 : decode (mb 90) 53 = .ok (.iload_n 3, 1) := by decide +kernel
theorem s90_53 (d : Nat) (l0 : Value) (l1 : Value) (l2 : Value) (i3 : Int32) (σ : Hs) : ru d 90 53 [l0, l1, l2, .int i3] [] σ = ru d 90 54 [l0, l1, l2, .int i3] [.int i3] σ := q_iload_n t90_53 rfl
theorem t90_54 : decode (mb 90) 54 = .ok (.bipush 24, 2) := by decide +kernel
theorem s90_54 (d : Nat) (l0 : Value) (l1 : Value) (l2 : Value) (l3 : Value) (w0 : Value) (σ : Hs) : ru d 90 54 [l0, l1, l2, l3] [w0] σ = ru d 90 56 [l0, l1, l2, l3] [.int 24, w0] σ := q_bipush t90_54 (by decide +kernel)
theorem t90_56 : decode (mb 90) 56 = .ok (.if_icmp .le 9, 3) := by decide +kernel
theorem s90_56 (d : Nat) (l0 : Value) (l1 : Value) (l2 : Value) (l3 : Value) (x y : Int32) (σ : Hs) : ru d 90 56 [l0, l1, l2, l3] [.int y, .int x] σ = if x ≤ y then ru d 90 65 [l0, l1, l2, l3] [] σ else ru d 90 59 [l0, l1, l2, l3] [] σ := q_ic_le t90_56 (by decide +kernel)
theorem t90_59 : decode (mb 90) 59 = .ok (.aload_n 0, 1) := by decide +kernel
theorem s90_59 (d : Nat) (a0 : Nat) (l1 : Value) (l2 : Value) (l3 : Value) (σ : Hs) : ru d 90 59 [.ref a0, l1, l2, l3] [] σ = ru d 90 60 [.ref a0, l1, l2, l3] [.ref a0] σ := q_aload_n t90_59 rfl
theorem t90_60 : decode (mb 90) 60 = .ok (.iconst 1, 1) := by decide +kernel
theorem s90_60 (d : Nat) (l0 : Value) (l1 : Value) (l2 : Value) (l3 : Value) (w0 : Value) (σ : Hs) : ru d 90 60 [l0, l1, l2, l3] [w0] σ = ru d 90 61 [l0, l1, l2, l3] [.int 1, w0] σ := q_iconst t90_60 (by decide +kernel)
theorem t90_61 : decode (mb 90) 61 = .ok (.invokevirtual 65, 3) := by decide +kernel
theorem s90_61_o0 (d : Nat) (l0 : Value) (l1 : Value) (l2 : Value) (l3 : Value) (v1 : Value) (σ : Hs) : ru d 90 61 [l0, l1, l2, l3] [v1, .ref 0] σ = kont (callD d 100 [.ref 0, v1] σ) d 90 64 [l0, l1, l2, l3] [] := q_invv t90_61 mo90 K7_65 mj100 rfl rfl rfl rfl (Nat.le_of_ble_eq_true rfl)
theorem t90_64 : decode (mb 90) 64 = .ok (.ireturn, 1) := by decide +kernel
theorem s90_64 (d : Nat) (l0 : Value) (l1 : Value) (l2 : Value) (l3 : Value) (x : Int32) (σ : Hs) : ru d 90 64 [l0, l1, l2, l3] [.int x] σ = some (some (.int x), σ) := q_ireti t90_64 mr90
theorem t90_65 : decode (mb 90) 65 = .ok (.aload_n 0, 1) := by decide +kernel
theorem s90_65 (d : Nat) (a0 : Nat) (l1 : Value) (l2 : Value) (l3 : Value) (σ : Hs) : ru d 90 65 [.ref a0, l1, l2, l3] [] σ = ru d 90 66 [.ref a0, l1, l2, l3] [.ref a0] σ := q_aload_n t90_65 rfl
theorem t90_66 : decode (mb 90) 66 = .ok (.getfield 42, 3) := by decide +kernel
theorem s90_66_o0 (d : Nat) (l0 : Value) (l1 : Value) (l2 : Value) (l3 : Value) (σ : Hs) : ru d 90 66 [l0, l1, l2, l3] [.ref 0] σ = ru d 90 69 [l0, l1, l2, l3] [.ref 76] σ := q_getf t90_66 mo90 F7_42 rfl rfl
theorem t90_69 : decode (mb 90) 69 = .ok (.iload_n 1, 1) := by decide +kernel
theorem s90_69 (d : Nat) (l0 : Value) (i1 : Int32) (l2 : Value) (l3 : Value) (w0 : Value) (σ : Hs) : ru d 90 69 [l0, .int i1, l2, l3] [w0] σ = ru d 90 70 [l0, .int i1, l2, l3] [.int i1, w0] σ := q_iload_n t90_69 rfl
theorem t90_70 : decode (mb 90) 70 = .ok (.aaload, 1) := by decide +kernel
theorem s90_70_o76 (d : Nat) (l0 : Value) (l1 : Value) (l2 : Value) (l3 : Value) (i : Int32) (σ : Hs) : ru d 90 70 [l0, l1, l2, l3] [.int i, .ref 76] σ = gd (vp_in i 4) (ru d 90 71 [l0, l1, l2, l3] [.ref (cr 76 i.toNatClampNeg)] σ) := q_aald t90_70 (by decide +kernel) (by decide +kernel) rfl
theorem t90_71 : decode (mb 90) 71 = .ok (.iload_n 2, 1) := by decide +kernel
theorem s90_71 (d : Nat) (l0 : Value) (l1 : Value) (i2 : Int32) (l3 : Value) (w0 : Value) (σ : Hs) : ru d 90 71 [l0, l1, .int i2, l3] [w0] σ = ru d 90 72 [l0, l1, .int i2, l3] [.int i2, w0] σ := q_iload_n t90_71 rfl
theorem t90_72 : decode (mb 90) 72 = .ok (.iload_n 2, 1) := by decide +kernel
theorem s90_72 (d : Nat) (l0 : Value) (l1 : Value) (i2 : Int32) (l3 : Value) (w0 w1 : Value) (σ : Hs) : ru d 90 72 [l0, l1, .int i2, l3] [w0, w1] σ = ru d 90 73 [l0, l1, .int i2, l3] [.int i2, w0, w1] σ := q_iload_n t90_72 rfl
theorem t90_73 : decode (mb 90) 73 = .ok (.ifCond .ne 7, 3) := by decide +kernel
theorem s90_73 (d : Nat) (l0 : Value) (l1 : Value) (l2 : Value) (l3 : Value) (x : Int32) (w0 w1 : Value) (σ : Hs) : ru d 90 73 [l0, l1, l2, l3] [.int x, w0, w1] σ = if x = 0 then ru d 90 76 [l0, l1, l2, l3] [w0, w1] σ else ru d 90 80 [l0, l1, l2, l3] [w0, w1] σ := q_if_ne t90_73 (by decide +kernel)
theorem t90_76 : decode (mb 90) 76 = .ok (.iconst 0, 1) := by decide +kernel
theorem s90_76 (d : Nat) (l0 : Value) (l1 : Value) (l2 : Value) (l3 : Value) (w0 w1 : Value) (σ : Hs) : ru d 90 76 [l0, l1, l2, l3] [w0, w1] σ = ru d 90 77 [l0, l1, l2, l3] [.int 0, w0, w1] σ := q_iconst t90_76 (by decide +kernel)
theorem t90_77 : decode (mb 90) 77 = .ok (.goto 4, 3) := by decide +kernel
theorem s90_77 (d : Nat) (l0 : Value) (l1 : Value) (l2 : Value) (l3 : Value) (w0 w1 w2 : Value) (σ : Hs) : ru d 90 77 [l0, l1, l2, l3] [w0, w1, w2] σ = ru d 90 81 [l0, l1, l2, l3] [w0, w1, w2] σ := q_goto t90_77 (by decide +kernel)
theorem t90_80 : decode (mb 90) 80 = .ok (.iload_n 3, 1) := by decide +kernel
theorem s90_80 (d : Nat) (l0 : Value) (l1 : Value) (l2 : Value) (i3 : Int32) (w0 w1 : Value) (σ : Hs) : ru d 90 80 [l0, l1, l2, .int i3] [w0, w1] σ = ru d 90 81 [l0, l1, l2, .int i3] [.int i3, w0, w1] σ := q_iload_n t90_80 rfl
theorem t90_81 : decode (mb 90) 81 = .ok (.invokevirtual 255, 3) := by decide +kernel
theorem s90_81_o77 (d : Nat) (l0 : Value) (l1 : Value) (l2 : Value) (l3 : Value) (v1 v2 : Value) (σ : Hs) : ru d 90 81 [l0, l1, l2, l3] [v2, v1, .ref 77] σ = kont (callD d 48 [.ref 77, v1, v2] σ) d 90 84 [l0, l1, l2, l3] [] := q_invv t90_81 mo90 K7_255 mj48 rfl rfl rfl rfl (Nat.le_of_ble_eq_true rfl)
theorem s90_81_o79 (d : Nat) (l0 : Value) (l1 : Value) (l2 : Value) (l3 : Value) (v1 v2 : Value) (σ : Hs) : ru d 90 81 [l0, l1, l2, l3] [v2, v1, .ref 79] σ = kont (callD d 48 [.ref 79, v1, v2] σ) d 90 84 [l0, l1, l2, l3] [] := q_invv t90_81 mo90 K7_255 mj48 rfl rfl rfl rfl (Nat.le_of_ble_eq_true rfl)
theorem s90_81_o81 (d : Nat) (l0 : Value) (l1 : Value) (l2 : Value) (l3 : Value) (v1 v2 : Value) (σ : Hs) : ru d 90 81 [l0, l1, l2, l3] [v2, v1, .ref 81] σ = kont (callD d 48 [.ref 81, v1, v2] σ) d 90 84 [l0, l1, l2, l3] [] := q_invv t90_81 mo90 K7_255 mj48 rfl rfl rfl rfl (Nat.le_of_ble_eq_true rfl)
theorem s90_81_o83 (d : Nat) (l0 : Value) (l1 : Value) (l2 : Value) (l3 : Value) (v1 v2 : Value) (σ : Hs) : ru d 90 81 [l0, l1, l2, l3] [v2, v1, .ref 83] σ = kont (callD d 48 [.ref 83, v1, v2] σ) d 90 84 [l0, l1, l2, l3] [] := q_invv t90_81 mo90 K7_255 mj48 rfl rfl rfl rfl (Nat.le_of_ble_eq_true rfl)
theorem t90_84 : decode (mb 90) 84 = .ok (.iconst 1, 1) := by decide +kernel
theorem s90_84 (d : Nat) (l0 : Value) (l1 : Value) (l2 : Value) (l3 : Value) (σ : Hs) : ru d 90 84 [l0, l1, l2, l3] [] σ = ru d 90 85 [l0, l1, l2, l3] [.int 1] σ := q_iconst t90_84 (by decide +kernel)
theorem t90_85 : decode (mb 90) 85 = .ok (.ireturn, 1) := by decide +kernel
theorem s90_85 (d : Nat) (l0 : Value) (l1 : Value) (l2 : Value) (l3 : Value) (x : Int32) (σ : Hs) : ru d 90 85 [l0, l1, l2, l3] [.int x] σ = some (some (.int x), σ) := q_ireti t90_85 mr90
theorem c90 (d : Nat) (x0 : Nat) (x1 : Int32) (x2 : Int32) (x3 : Int32) (σ : Hs) : callD (d + 1) 90 [.ref x0, .int x1, .int x2, .int x3] σ = ru d 90 0 [.ref x0, .int x1, .int x2, .int x3] [] σ := callD_ru ml90 rfl rfl (Nat.le_of_ble_eq_true rfl)
-- 91: SmokyHeap.put(III)I
theorem t91_0 : decode (mb 91) 0 = .ok (.iload_n 1, 1) := by decide +kernel
theorem s91_0 (d : Nat) (l0 : Value) (i1 : Int32) (l2 : Value) (l3 : Value) (σ : Hs) : ru d 91 0 [l0, .int i1, l2, l3] [] σ = ru d 91 1 [l0, .int i1, l2, l3] [.int i1] σ := q_iload_n t91_0 rfl
theorem t91_1 : decode (mb 91) 1 = .ok (.invokestatic 252, 3) := by decide +kernel
theorem s91_1 (d : Nat) (l0 : Value) (l1 : Value) (l2 : Value) (l3 : Value) (v0 : Value) (σ : Hs) : ru d 91 1 [l0, l1, l2, l3] [v0] σ = kont (callD d 108 [v0] σ) d 91 4 [l0, l1, l2, l3] [] := q_invs t91_1 mo91 (by decide +kernel) K7_252 mj108 (Nat.le_of_ble_eq_true rfl) rfl rfl (Nat.le_of_ble_eq_true rfl)
theorem t91_4 : decode (mb 91) 4 = .ok (.ifCond .ne 9, 3) := by decide +kernel
theorem s91_4 (d : Nat) (l0 : Value) (l1 : Value) (l2 : Value) (l3 : Value) (x : Int32) (σ : Hs) : ru d 91 4 [l0, l1, l2, l3] [.int x] σ = if x = 0 then ru d 91 7 [l0, l1, l2, l3] [] σ else ru d 91 13 [l0, l1, l2, l3] [] σ := q_if_ne t91_4 (by decide +kernel)
theorem t91_7 : decode (mb 91) 7 = .ok (.aload_n 0, 1) := by decide +kernel
theorem s91_7 (d : Nat) (a0 : Nat) (l1 : Value) (l2 : Value) (l3 : Value) (σ : Hs) : ru d 91 7 [.ref a0, l1, l2, l3] [] σ = ru d 91 8 [.ref a0, l1, l2, l3] [.ref a0] σ := q_aload_n t91_7 rfl
theorem t91_8 : decode (mb 91) 8 = .ok (.iconst 1, 1) := by decide +kernel
theorem s91_8 (d : Nat) (l0 : Value) (l1 : Value) (l2 : Value) (l3 : Value) (w0 : Value) (σ : Hs) : ru d 91 8 [l0, l1, l2, l3] [w0] σ = ru d 91 9 [l0, l1, l2, l3] [.int 1, w0] σ := q_iconst t91_8 (by decide +kernel)
theorem t91_9 : decode (mb 91) 9 = .ok (.invokevirtual 65, 3) := by decide +kernel
theorem s91_9_o0 (d : Nat) (l0 : Value) (l1 : Value) (l2 : Value) (l3 : Value) (v1 : Value) (σ : Hs) : ru d 91 9 [l0, l1, l2, l3] [v1, .ref 0] σ = kont (callD d 100 [.ref 0, v1] σ) d 91 12 [l0, l1, l2, l3] [] := q_invv t91_9 mo91 K7_65 mj100 rfl rfl rfl rfl (Nat.le_of_ble_eq_true rfl)
theorem t91_12 : decode (mb 91) 12 = .ok (.ireturn, 1) := by decide +kernel
theorem s91_12 (d : Nat) (l0 : Value) (l1 : Value) (l2 : Value) (l3 : Value) (x : Int32) (σ : Hs) : ru d 91 12 [l0, l1, l2, l3] [.int x] σ = some (some (.int x), σ) := q_ireti t91_12 mr91
theorem t91_13 : decode (mb 91) 13 = .ok (.aload_n 0, 1) := by decide +kernel
theorem s91_13 (d : Nat) (a0 : Nat) (l1 : Value) (l2 : Value) (l3 : Value) (σ : Hs) : ru d 91 13 [.ref a0, l1, l2, l3] [] σ = ru d 91 14 [.ref a0, l1, l2, l3] [.ref a0] σ := q_aload_n t91_13 rfl
theorem t91_14 : decode (mb 91) 14 = .ok (.getfield 42, 3) := by decide +kernel
theorem s91_14_o0 (d : Nat) (l0 : Value) (l1 : Value) (l2 : Value) (l3 : Value) (σ : Hs) : ru d 91 14 [l0, l1, l2, l3] [.ref 0] σ = ru d 91 17 [l0, l1, l2, l3] [.ref 76] σ := q_getf t91_14 mo91 F7_42 rfl rfl
theorem t91_17 : decode (mb 91) 17 = .ok (.iload_n 1, 1) := by decide +kernel
theorem s91_17 (d : Nat) (l0 : Value) (i1 : Int32) (l2 : Value) (l3 : Value) (w0 : Value) (σ : Hs) : ru d 91 17 [l0, .int i1, l2, l3] [w0] σ = ru d 91 18 [l0, .int i1, l2, l3] [.int i1, w0] σ := q_iload_n t91_17 rfl
theorem t91_18 : decode (mb 91) 18 = .ok (.aaload, 1) := by decide +kernel
theorem s91_18_o76 (d : Nat) (l0 : Value) (l1 : Value) (l2 : Value) (l3 : Value) (i : Int32) (σ : Hs) : ru d 91 18 [l0, l1, l2, l3] [.int i, .ref 76] σ = gd (vp_in i 4) (ru d 91 19 [l0, l1, l2, l3] [.ref (cr 76 i.toNatClampNeg)] σ) := q_aald t91_18 (by decide +kernel) (by decide +kernel) rfl
theorem t91_19 : decode (mb 91) 19 = .ok (.invokevirtual 257, 3) := by decide +kernel
theorem s91_19_o77 (d : Nat) (l0 : Value) (l1 : Value) (l2 : Value) (l3 : Value) (σ : Hs) : ru d 91 19 [l0, l1, l2, l3] [.ref 77] σ = kont (callD d 47 [.ref 77] σ) d 91 22 [l0, l1, l2, l3] [] := q_invv t91_19 mo91 K7_257 mj47 rfl rfl rfl rfl (Nat.le_of_ble_eq_true rfl)
theorem s91_19_o79 (d : Nat) (l0 : Value) (l1 : Value) (l2 : Value) (l3 : Value) (σ : Hs) : ru d 91 19 [l0, l1, l2, l3] [.ref 79] σ = kont (callD d 47 [.ref 79] σ) d 91 22 [l0, l1, l2, l3] [] := q_invv t91_19 mo91 K7_257 mj47 rfl rfl rfl rfl (Nat.le_of_ble_eq_true rfl)
theorem s91_19_o81 (d : Nat) (l0 : Value) (l1 : Value) (l2 : Value) (l3 : Value) (σ : Hs) : ru d 91 19 [l0, l1, l2, l3] [.ref 81] σ = kont (callD d 47 [.ref 81] σ) d 91 22 [l0, l1, l2, l3] [] := q_invv t91_19 mo91 K7_257 mj47 rfl rfl rfl rfl (Nat.le_of_ble_eq_true rfl)
theorem s91_19_o83 (d : Nat) (l0 : Value) (l1 : Value) (l2 : Value) (l3 : Value) (σ : Hs) : ru d 91 19 [l0, l1, l2, l3] [.ref 83] σ = kont (callD d 47 [.ref 83] σ) d 91 22 [l0, l1, l2, l3] [] := q_invv t91_19 mo91 K7_257 mj47 rfl rfl rfl rfl (Nat.le_of_ble_eq_true rfl)
theorem t91_22 : decode (mb 91) 22 = .ok (.ifCond .eq 9, 3) := by decide +kernel
theorem s91_22 (d : Nat) (l0 : Value) (l1 : Value) (l2 : Value) (l3 : Value) (x : Int32) (σ : Hs) : ru d 91 22 [l0, l1, l2, l3] [.int x] σ = if x = 0 then ru d 91 31 [l0, l1, l2, l3] [] σ else ru d 91 25 [l0, l1, l2, l3] [] σ := q_if_eq t91_22 (by decide +kernel)
theorem t91_25 : decode (mb 91) 25 = .ok (.aload_n 0, 1) := by decide +kernel
theorem s91_25 (d : Nat) (a0 : Nat) (l1 : Value) (l2 : Value) (l3 : Value) (σ : Hs) : ru d 91 25 [.ref a0, l1, l2, l3] [] σ = ru d 91 26 [.ref a0, l1, l2, l3] [.ref a0] σ := q_aload_n t91_25 rfl
theorem t91_26 : decode (mb 91) 26 = .ok (.iconst 2, 1) := by decide +kernel
theorem s91_26 (d : Nat) (l0 : Value) (l1 : Value) (l2 : Value) (l3 : Value) (w0 : Value) (σ : Hs) : ru d 91 26 [l0, l1, l2, l3] [w0] σ = ru d 91 27 [l0, l1, l2, l3] [.int 2, w0] σ := q_iconst t91_26 (by decide +kernel)
theorem t91_27 : decode (mb 91) 27 = .ok (.invokevirtual 65, 3) := by decide +kernel
theorem s91_27_o0 (d : Nat) (l0 : Value) (l1 : Value) (l2 : Value) (l3 : Value) (v1 : Value) (σ : Hs) : ru d 91 27 [l0, l1, l2, l3] [v1, .ref 0] σ = kont (callD d 100 [.ref 0, v1] σ) d 91 30 [l0, l1, l2, l3] [] := q_invv t91_27 mo91 K7_65 mj100 rfl rfl rfl rfl (Nat.le_of_ble_eq_true rfl)
theorem t91_30 : decode (mb 91) 30 = .ok (.ireturn, 1) := by decide +kernel
theorem s91_30 (d : Nat) (l0 : Value) (l1 : Value) (l2 : Value) (l3 : Value) (x : Int32) (σ : Hs) : ru d 91 30 [l0, l1, l2, l3] [.int x] σ = some (some (.int x), σ) := q_ireti t91_30 mr91
theorem t91_31 : decode (mb 91) 31 = .ok (.aload_n 0, 1) := by decide +kernel
theorem s91_31 (d : Nat) (a0 : Nat) (l1 : Value) (l2 : Value) (l3 : Value) (σ : Hs) : ru d 91 31 [.ref a0, l1, l2, l3] [] σ = ru d 91 32 [.ref a0, l1, l2, l3] [.ref a0] σ := q_aload_n t91_31 rfl
theorem t91_32 : decode (mb 91) 32 = .ok (.getfield 42, 3) := by decide +kernel
theorem s91_32_o0 (d : Nat) (l0 : Value) (l1 : Value) (l2 : Value) (l3 : Value) (σ : Hs) : ru d 91 32 [l0, l1, l2, l3] [.ref 0] σ = ru d 91 35 [l0, l1, l2, l3] [.ref 76] σ := q_getf t91_32 mo91 F7_42 rfl rfl
theorem t91_35 : decode (mb 91) 35 = .ok (.iload_n 1, 1) := by decide +kernel
theorem s91_35 (d : Nat) (l0 : Value) (i1 : Int32) (l2 : Value) (l3 : Value) (w0 : Value) (σ : Hs) : ru d 91 35 [l0, .int i1, l2, l3] [w0] σ = ru d 91 36 [l0, .int i1, l2, l3] [.int i1, w0] σ := q_iload_n t91_35 rfl
theorem t91_36 : decode (mb 91) 36 = .ok (.aaload, 1) := by decide +kernel
theorem s91_36_o76 (d : Nat) (l0 : Value) (l1 : Value) (l2 : Value) (l3 : Value) (i : Int32) (σ : Hs) : ru d 91 36 [l0, l1, l2, l3] [.int i, .ref 76] σ = gd (vp_in i 4) (ru d 91 37 [l0, l1, l2, l3] [.ref (cr 76 i.toNatClampNeg)] σ) := q_aald t91_36 (by decide +kernel) (by decide +kernel) rfl
theorem t91_37 : decode (mb 91) 37 = .ok (.iload_n 2, 1) := by decide +kernel
theorem s91_37 (d : Nat) (l0 : Value) (l1 : Value) (i2 : Int32) (l3 : Value) (w0 : Value) (σ : Hs) : ru d 91 37 [l0, l1, .int i2, l3] [w0] σ = ru d 91 38 [l0, l1, .int i2, l3] [.int i2, w0] σ := q_iload_n t91_37 rfl
theorem t91_38 : decode (mb 91) 38 = .ok (.iconst 1, 1) := by decide +kernel
theorem s91_38 (d : Nat) (l0 : Value) (l1 : Value) (l2 : Value) (l3 : Value) (w0 w1 : Value) (σ : Hs) : ru d 91 38 [l0, l1, l2, l3] [w0, w1] σ = ru d 91 39 [l0, l1, l2, l3] [.int 1, w0, w1] σ := q_iconst t91_38 (by decide +kernel)
theorem t91_39 : decode (mb 91) 39 = .ok (.invokevirtual 260, 3) := by decide +kernel
theorem s91_39_o77 (d : Nat) (l0 : Value) (l1 : Value) (l2 : Value) (l3 : Value) (v1 v2 : Value) (σ : Hs) : ru d 91 39 [l0, l1, l2, l3] [v2, v1, .ref 77] σ = kont (callD d 49 [.ref 77, v1, v2] σ) d 91 42 [l0, l1, l2, l3] [] := q_invv t91_39 mo91 K7_260 mj49 rfl rfl rfl rfl (Nat.le_of_ble_eq_true rfl)
theorem s91_39_o79 (d : Nat) (l0 : Value) (l1 : Value) (l2 : Value) (l3 : Value) (v1 v2 : Value) (σ : Hs) : ru d 91 39 [l0, l1, l2, l3] [v2, v1, .ref 79] σ = kont (callD d 49 [.ref 79, v1, v2] σ) d 91 42 [l0, l1, l2, l3] [] := q_invv t91_39 mo91 K7_260 mj49 rfl rfl rfl rfl (Nat.le_of_ble_eq_true rfl)
theorem s91_39_o81 (d : Nat) (l0 : Value) (l1 : Value) (l2 : Value) (l3 : Value) (v1 v2 : Value) (σ : Hs) : ru d 91 39 [l0, l1, l2, l3] [v2, v1, .ref 81] σ = kont (callD d 49 [.ref 81, v1, v2] σ) d 91 42 [l0, l1, l2, l3] [] := q_invv t91_39 mo91 K7_260 mj49 rfl rfl rfl rfl (Nat.le_of_ble_eq_true rfl)
theorem s91_39_o83 (d : Nat) (l0 : Value) (l1 : Value) (l2 : Value) (l3 : Value) (v1 v2 : Value) (σ : Hs) : ru d 91 39 [l0, l1, l2, l3] [v2, v1, .ref 83] σ = kont (callD d 49 [.ref 83, v1, v2] σ) d 91 42 [l0, l1, l2, l3] [] := q_invv t91_39 mo91 K7_260 mj49 rfl rfl rfl rfl (Nat.le_of_ble_eq_true rfl)
theorem t91_42 : decode (mb 91) 42 = .ok (.ifCond .ne 9, 3) := by decide +kernel
theorem s91_42 (d : Nat) (l0 : Value) (l1 : Value) (l2 : Value) (l3 : Value) (x : Int32) (σ : Hs) : ru d 91 42 [l0, l1, l2, l3] [.int x] σ = if x = 0 then ru d 91 45 [l0, l1, l2, l3] [] σ else ru d 91 51 [l0, l1, l2, l3] [] σ := q_if_ne t91_42 (by decide +kernel)
theorem t91_45 : decode (mb 91) 45 = .ok (.aload_n 0, 1) := by decide +kernel
theorem s91_45 (d : Nat) (a0 : Nat) (l1 : Value) (l2 : Value) (l3 : Value) (σ : Hs) : ru d 91 45 [.ref a0, l1, l2, l3] [] σ = ru d 91 46 [.ref a0, l1, l2, l3] [.ref a0] σ := q_aload_n t91_45 rfl
theorem t91_46 : decode (mb 91) 46 = .ok (.iconst 1, 1) := by decide +kernel
theorem s91_46 (d : Nat) (l0 : Value) (l1 : Value) (l2 : Value) (l3 : Value) (w0 : Value) (σ : Hs) : ru d 91 46 [l0, l1, l2, l3] [w0] σ = ru d 91 47 [l0, l1, l2, l3] [.int 1, w0] σ := q_iconst t91_46 (by decide +kernel)
theorem t91_47 : decode (mb 91) 47 = .ok (.invokevirtual 65, 3) := by decide +kernel
theorem s91_47_o0 (d : Nat) (l0 : Value) (l1 : Value) (l2 : Value) (l3 : Value) (v1 : Value) (σ : Hs) : ru d 91 47 [l0, l1, l2, l3] [v1, .ref 0] σ = kont (callD d 100 [.ref 0, v1] σ) d 91 50 [l0, l1, l2, l3] [] := q_invv t91_47 mo91 K7_65 mj100 rfl rfl rfl rfl (Nat.le_of_ble_eq_true rfl)
theorem t91_50 : decode (mb 91) 50 = .ok (.ireturn, 1) := by decide +kernel
theorem s91_50 (d : Nat) (l0 : Value) (l1 : Value) (l2 : Value) (l3 : Value) (x : Int32) (σ : Hs) : ru d 91 50 [l0, l1, l2, l3] [.int x] σ = some (some (.int x), σ) := q_ireti t91_50 mr91
theorem t91_51 : decode (mb 91) 51 = .ok (.aload_n 0, 1) := by decide +kernel
theorem s91_51 (d : Nat) (a0 : Nat) (l1 : Value) (l2 : Value) (l3 : Value) (σ : Hs) : ru d 91 51 [.ref a0, l1, l2, l3] [] σ = ru d 91 52 [.ref a0, l1, l2, l3] [.ref a0] σ := q_aload_n t91_51 rfl
theorem t91_52 : decode (mb 91) 52 = .ok (.getfield 42, 3) := by decide +kernel
theorem s91_52_o0 (d : Nat) (l0 : Value) (l1 : Value) (l2 : Value) (l3 : Value) (σ : Hs) : ru d 91 52 [l0, l1, l2, l3] [.ref 0] σ = ru d 91 55 [l0, l1, l2, l3] [.ref 76] σ := q_getf t91_52 mo91 F7_42 rfl rfl
theorem t91_55 : decode (mb 91) 55 = .ok (.iload_n 1, 1) := by decide +kernel
theorem s91_55 (d : Nat) (l0 : Value) (i1 : Int32) (l2 : Value) (l3 : Value) (w0 : Value) (σ : Hs) : ru d 91 55 [l0, .int i1, l2, l3] [w0] σ = ru d 91 56 [l0, .int i1, l2, l3] [.int i1, w0] σ := q_iload_n t91_55 rfl
theorem t91_56 : decode (mb 91) 56 = .ok (.aaload, 1) := by decide +kernel
theorem s91_56_o76 (d : Nat) (l0 : Value) (l1 : Value) (l2 : Value) (l3 : Value) (i : Int32) (σ : Hs) : ru d 91 56 [l0, l1, l2, l3] [.int i, .ref 76] σ = gd (vp_in i 4) (ru d 91 57 [l0, l1, l2, l3] [.ref (cr 76 i.toNatClampNeg)] σ) := q_aald t91_56 (by decide +kernel) (by decide +kernel) rfl
theorem t91_57 : decode (mb 91) 57 = .ok (.iload_n 2, 1) := by decide +kernel
theorem s91_57 (d : Nat) (l0 : Value) (l1 : Value) (i2 : Int32) (l3 : Value) (w0 : Value) (σ : Hs) : ru d 91 57 [l0, l1, .int i2, l3] [w0] σ = ru d 91 58 [l0, l1, .int i2, l3] [.int i2, w0] σ := q_iload_n t91_57 rfl
theorem t91_58 : decode (mb 91) 58 = .ok (.iload_n 3, 1) := by decide +kernel
theorem s91_58 (d : Nat) (l0 : Value) (l1 : Value) (l2 : Value) (i3 : Int32) (w0 w1 : Value) (σ : Hs) : ru d 91 58 [l0, l1, l2, .int i3] [w0, w1] σ = ru d 91 59 [l0, l1, l2, .int i3] [.int i3, w0, w1] σ := q_iload_n t91_58 rfl
theorem t91_59 : decode (mb 91) 59 = .ok (.invokevirtual 263, 3) := by decide +kernel
theorem s91_59_o77 (d : Nat) (l0 : Value) (l1 : Value) (l2 : Value) (l3 : Value) (v1 v2 : Value) (σ : Hs) : ru d 91 59 [l0, l1, l2, l3] [v2, v1, .ref 77] σ = kont (callD d 50 [.ref 77, v1, v2] σ) d 91 62 [l0, l1, l2, l3] [] := q_invv t91_59 mo91 K7_263 mj50 rfl rfl rfl rfl (Nat.le_of_ble_eq_true rfl)
theorem s91_59_o79 (d : Nat) (l0 : Value) (l1 : Value) (l2 : Value) (l3 : Value) (v1 v2 : Value) (σ : Hs) : ru d 91 59 [l0, l1, l2, l3] [v2, v1, .ref 79] σ = kont (callD d 50 [.ref 79, v1, v2] σ) d 91 62 [l0, l1, l2, l3] [] := q_invv t91_59 mo91 K7_263 mj50 rfl rfl rfl rfl (Nat.le_of_ble_eq_true rfl)
theorem s91_59_o81 (d : Nat) (l0 : Value) (l1 : Value) (l2 : Value) (l3 : Value) (v1 v2 : Value) (σ : Hs) : ru d 91 59 [l0, l1, l2, l3] [v2, v1, .ref 81] σ = kont (callD d 50 [.ref 81, v1, v2] σ) d 91 62 [l0, l1, l2, l3] [] := q_invv t91_59 mo91 K7_263 mj50 rfl rfl rfl rfl (Nat.le_of_ble_eq_true rfl)
theorem s91_59_o83 (d : Nat) (l0 : Value) (l1 : Value) (l2 : Value) (l3 : Value) (v1 v2 : Value) (σ : Hs) : ru d 91 59 [l0, l1, l2, l3] [v2, v1, .ref 83] σ = kont (callD d 50 [.ref 83, v1, v2] σ) d 91 62 [l0, l1, l2, l3] [] := q_invv t91_59 mo91 K7_263 mj50 rfl rfl rfl rfl (Nat.le_of_ble_eq_true rfl)
theorem t91_62 : decode (mb 91) 62 = .ok (.iconst 1, 1) := by decide +kernel
theorem s91_62 (d : Nat) (l0 : Value) (l1 : Value) (l2 : Value) (l3 : Value) (σ : Hs) : ru d 91 62 [l0, l1, l2, l3] [] σ = ru d 91 63 [l0, l1, l2, l3] [.int 1] σ := q_iconst t91_62 (by decide +kernel)
theorem t91_63 : decode (mb 91) 63 = .ok (.ireturn, 1) := by decide +kernel
theorem s91_63 (d : Nat) (l0 : Value) (l1 : Value) (l2 : Value) (l3 : Value) (x : Int32) (σ : Hs) : ru d 91 63 [l0, l1, l2, l3] [.int x] σ = some (some (.int x), σ) := q_ireti t91_63 mr91
theorem c91 (d : Nat) (x0 : Nat) (x1 : Int32) (x2 : Int32) (x3 : Int32) (σ : Hs) : callD (d + 1) 91 [.ref x0, .int x1, .int x2, .int x3] σ = ru d 91 0 [.ref x0, .int x1, .int x2, .int x3] [] σ := callD_ru ml91 rfl rfl (Nat.le_of_ble_eq_true rfl)
-- 92: SmokyHeap.move(IIIII)I
theorem t92_0 : decode (mb 92) 0 = .ok (.iload_n 1, 1) := by decide +kernel
theorem s92_0 (d : Nat) (l0 : Value) (i1 : Int32) (l2 : Value) (l3 : Value) (l4 : Value) (l5 : Value) (l6 : Value) (l7 : Value) (σ : Hs) : ru d 92 0 [l0, .int i1, l2, l3, l4, l5, l6, l7] [] σ = ru d 92 1 [l0, .int i1, l2, l3, l4, l5, l6, l7] [.int i1] σ := q_iload_n t92_0 rfl
theorem t92_1 : decode (mb 92) 1 = .ok (.invokestatic 252, 3) := by decide +kernel
theorem s92_1 (d : Nat) (l0 : Value) (l1 : Value) (l2 : Value) (l3 : Value) (l4 : Value) (l5 : Value) (l6 : Value) (l7 : Value) (v0 : Value) (σ : Hs) : ru d 92 1 [l0, l1, l2, l3, l4, l5, l6, l7] [v0] σ = kont (callD d 108 [v0] σ) d 92 4 [l0, l1, l2, l3, l4, l5, l6, l7] [] := q_invs t92_1 mo92 (by decide +kernel) K7_252 mj108 (Nat.le_of_ble_eq_true rfl) rfl rfl (Nat.le_of_ble_eq_true rfl)
theorem t92_4 : decode (mb 92) 4 = .ok (.ifCond .eq 10, 3) := by decide +kernel
theorem s92_4 (d : Nat) (l0 : Value) (l1 : Value) (l2 : Value) (l3 : Value) (l4 : Value) (l5 : Value) (l6 : Value) (l7 : Value) (x : Int32) (σ : Hs) : ru d 92 4 [l0, l1, l2, l3, l4, l5, l6, l7] [.int x] σ = if x = 0 then ru d 92 14 [l0, l1, l2, l3, l4, l5, l6, l7] [] σ else ru d 92 7 [l0, l1, l2, l3, l4, l5, l6, l7] [] σ := q_if_eq t92_4 (by decide +kernel)
theorem t92_7 : decode (mb 92) 7 = .ok (.iload_n 3, 1) := by decide +kernel
theorem s92_7 (d : Nat) (l0 : Value) (l1 : Value) (l2 : Value) (i3 : Int32) (l4 : Value) (l5 : Value) (l6 : Value) (l7 : Value) (σ : Hs) : ru d 92 7 [l0, l1, l2, .int i3, l4, l5, l6, l7] [] σ = ru d 92 8 [l0, l1, l2, .int i3, l4, l5, l6, l7] [.int i3] σ := q_iload_n t92_7 rfl
theorem t92_8 : decode (mb 92) 8 = .ok (.invokestatic 252, 3) := by decide +kernel
theorem s92_8 (d : Nat) (l0 : Value) (l1 : Value) (l2 : Value) (l3 : Value) (l4 : Value) (l5 : Value) (l6 : Value) (l7 : Value) (v0 : Value) (σ : Hs) : ru d 92 8 [l0, l1, l2, l3, l4, l5, l6, l7] [v0] σ = kont (callD d 108 [v0] σ) d 92 11 [l0, l1, l2, l3, l4, l5, l6, l7] [] := q_invs t92_8 mo92 (by decide +kernel) K7_252 mj108 (Nat.le_of_ble_eq_true rfl) rfl rfl (Nat.le_of_ble_eq_true rfl)
theorem t92_11 : decode (mb 92) 11 = .ok (.ifCond .ne 9, 3) := by decide +kernel
theorem s92_11 (d : Nat) (l0 : Value) (l1 : Value) (l2 : Value) (l3 : Value) (l4 : Value) (l5 : Value) (l6 : Value) (l7 : Value) (x : Int32) (σ : Hs) : ru d 92 11 [l0, l1, l2, l3, l4, l5, l6, l7] [.int x] σ = if x = 0 then ru d 92 14 [l0, l1, l2, l3, l4, l5, l6, l7] [] σ else ru d 92 20 [l0, l1, l2, l3, l4, l5, l6, l7] [] σ := q_if_ne t92_11 (by decide +kernel)
theorem t92_14 : decode (mb 92) 14 = .ok (.aload_n 0, 1) := by decide +kernel
theorem s92_14 (d : Nat) (a0 : Nat) (l1 : Value) (l2 : Value) (l3 : Value) (l4 : Value) (l5 : Value) (l6 : Value) (l7 : Value) (σ : Hs) : ru d 92 14 [.ref a0, l1, l2, l3, l4, l5, l6, l7] [] σ = ru d 92 15 [.ref a0, l1, l2, l3, l4, l5, l6, l7] [.ref a0] σ := q_aload_n t92_14 rfl
theorem t92_15 : decode (mb 92) 15 = .ok (.iconst 1, 1) := by decide +kernel
theorem s92_15 (d : Nat) (l0 : Value) (l1 : Value) (l2 : Value) (l3 : Value) (l4 : Value) (l5 : Value) (l6 : Value) (l7 : Value) (w0 : Value) (σ : Hs) : ru d 92 15 [l0, l1, l2, l3, l4, l5, l6, l7] [w0] σ = ru d 92 16 [l0, l1, l2, l3, l4, l5, l6, l7] [.int 1, w0] σ := q_iconst t92_15 (by decide +kernel)
theorem t92_16 : decode (mb 92) 16 = .ok (.invokevirtual 65, 3) := by decide +kernel
theorem s92_16_o0 (d : Nat) (l0 : Value) (l1 : Value) (l2 : Value) (l3 : Value) (l4 : Value) (l5 : Value) (l6 : Value) (l7 : Value) (v1 : Value) (σ : Hs) : ru d 92 16 [l0, l1, l2, l3, l4, l5, l6, l7] [v1, .ref 0] σ = kont (callD d 100 [.ref 0, v1] σ) d 92 19 [l0, l1, l2, l3, l4, l5, l6, l7] [] := q_invv t92_16 mo92 K7_65 mj100 rfl rfl rfl rfl (Nat.le_of_ble_eq_true rfl)
theorem t92_19 : decode (mb 92) 19 = .ok (.ireturn, 1) := by decide +kernel
theorem s92_19 (d : Nat) (l0 : Value) (l1 : Value) (l2 : Value) (l3 : Value) (l4 : Value) (l5 : Value) (l6 : Value) (l7 : Value) (x : Int32) (σ : Hs) : ru d 92 19 [l0, l1, l2, l3, l4, l5, l6, l7] [.int x] σ = some (some (.int x), σ) := q_ireti t92_19 mr92
theorem t92_20 : decode (mb 92) 20 = .ok (.aload_n 0, 1) := by decide +kernel
theorem s92_20 (d : Nat) (a0 : Nat) (l1 : Value) (l2 : Value) (l3 : Value) (l4 : Value) (l5 : Value) (l6 : Value) (l7 : Value) (σ : Hs) : ru d 92 20 [.ref a0, l1, l2, l3, l4, l5, l6, l7] [] σ = ru d 92 21 [.ref a0, l1, l2, l3, l4, l5, l6, l7] [.ref a0] σ := q_aload_n t92_20 rfl
theorem t92_21 : decode (mb 92) 21 = .ok (.getfield 42, 3) := by decide +kernel
theorem s92_21_o0 (d : Nat) (l0 : Value) (l1 : Value) (l2 : Value) (l3 : Value) (l4 : Value) (l5 : Value) (l6 : Value) (l7 : Value) (σ : Hs) : ru d 92 21 [l0, l1, l2, l3, l4, l5, l6, l7] [.ref 0] σ = ru d 92 24 [l0, l1, l2, l3, l4, l5, l6, l7] [.ref 76] σ := q_getf t92_21 mo92 F7_42 rfl rfl
theorem t92_24 : decode (mb 92) 24 = .ok (.iload_n 1, 1) := by decide +kernel
theorem s92_24 (d : Nat) (l0 : Value) (i1 : Int32) (l2 : Value) (l3 : Value) (l4 : Value) (l5 : Value) (l6 : Value) (l7 : Value) (w0 : Value) (σ : Hs) : ru d 92 24 [l0, .int i1, l2, l3, l4, l5, l6, l7] [w0] σ = ru d 92 25 [l0, .int i1, l2, l3, l4, l5, l6, l7] [.int i1, w0] σ := q_iload_n t92_24 rfl
theorem t92_25 : decode (mb 92) 25 = .ok (.aaload, 1) := by decide +kernel
theorem s92_25_o76 (d : Nat) (l0 : Value) (l1 : Value) (l2 : Value) (l3 : Value) (l4 : Value) (l5 : Value) (l6 : Value) (l7 : Value) (i : Int32) (σ : Hs) : ru d 92 25 [l0, l1, l2, l3, l4, l5, l6, l7] [.int i, .ref 76] σ = gd (vp_in i 4) (ru d 92 26 [l0, l1, l2, l3, l4, l5, l6, l7] [.ref (cr 76 i.toNatClampNeg)] σ) := q_aald t92_25 (by decide +kernel) (by decide +kernel) rfl
theorem t92_26 : decode (mb 92) 26 = .ok (.astore 6, 2) := by decide +kernel
theorem s92_26 (d : Nat) (l0 : Value) (l1 : Value) (l2 : Value) (l3 : Value) (l4 : Value) (i5 : Int32) (l6 : Value) (l7 : Value) (x : Nat) (σ : Hs) : ru d 92 26 [l0, l1, l2, l3, l4, .int i5, l6, l7] [.ref x] σ = ru d 92 28 [l0, l1, l2, l3, l4, .int i5, .ref x, l7] [] σ := q_astore t92_26 ⟨Nat.le_of_ble_eq_true rfl, rfl⟩ rfl
theorem t92_28 : decode (mb 92) 28 = .ok (.aload_n 0, 1) := by decide +kernel
theorem s92_28 (d : Nat) (a0 : Nat) (l1 : Value) (l2 : Value) (l3 : Value) (l4 : Value) (l5 : Value) (l6 : Value) (l7 : Value) (σ : Hs) : ru d 92 28 [.ref a0, l1, l2, l3, l4, l5, l6, l7] [] σ = ru d 92 29 [.ref a0, l1, l2, l3, l4, l5, l6, l7] [.ref a0] σ := q_aload_n t92_28 rfl
theorem t92_29 : decode (mb 92) 29 = .ok (.getfield 42, 3) := by decide +kernel
theorem s92_29_o0 (d : Nat) (l0 : Value) (l1 : Value) (l2 : Value) (l3 : Value) (l4 : Value) (l5 : Value) (l6 : Value) (l7 : Value) (σ : Hs) : ru d 92 29 [l0, l1, l2, l3, l4, l5, l6, l7] [.ref 0] σ = ru d 92 32 [l0, l1, l2, l3, l4, l5, l6, l7] [.ref 76] σ := q_getf t92_29 mo92 F7_42 rfl rfl
theorem t92_32 : decode (mb 92) 32 = .ok (.iload_n 3, 1) := by decide +kernel
theorem s92_32 (d : Nat) (l0 : Value) (l1 : Value) (l2 : Value) (i3 : Int32) (l4 : Value) (l5 : Value) (l6 : Value) (l7 : Value) (w0 : Value) (σ : Hs) : ru d 92 32 [l0, l1, l2, .int i3, l4, l5, l6, l7] [w0] σ = ru d 92 33 [l0, l1, l2, .int i3, l4, l5, l6, l7] [.int i3, w0] σ := q_iload_n t92_32 rfl
theorem t92_33 : decode (mb 92) 33 = .ok (.aaload, 1) := by decide +kernel
theorem s92_33_o76 (d : Nat) (l0 : Value) (l1 : Value) (l2 : Value) (l3 : Value) (l4 : Value) (l5 : Value) (l6 : Value) (l7 : Value) (i : Int32) (σ : Hs) : ru d 92 33 [l0, l1, l2, l3, l4, l5, l6, l7] [.int i, .ref 76] σ = gd (vp_in i 4) (ru d 92 34 [l0, l1, l2, l3, l4, l5, l6, l7] [.ref (cr 76 i.toNatClampNeg)] σ) := q_aald t92_33 (by decide +kernel) (by decide +kernel) rfl
theorem t92_34 : decode (mb 92) 34 = .ok (.astore 7, 2) := by decide +kernel
theorem s92_34 (d : Nat) (l0 : Value) (l1 : Value) (l2 : Value) (l3 : Value) (l4 : Value) (l5 : Value) (a6 : Nat) (l7 : Value) (x : Nat) (σ : Hs) : ru d 92 34 [l0, l1, l2, l3, l4, l5, .ref a6, l7] [.ref x] σ = ru d 92 36 [l0, l1, l2, l3, l4, l5, .ref a6, .ref x] [] σ := q_astore t92_34 ⟨Nat.le_of_ble_eq_true rfl, rfl⟩ rfl
theorem t92_36 : decode (mb 92) 36 = .ok (.aload 6, 2) := by decide +kernel
theorem s92_36 (d : Nat) (l0 : Value) (l1 : Value) (l2 : Value) (l3 : Value) (l4 : Value) (l5 : Value) (a6 : Nat) (l7 : Value) (σ : Hs) : ru d 92 36 [l0, l1, l2, l3, l4, l5, .ref a6, l7] [] σ = ru d 92 38 [l0, l1, l2, l3, l4, l5, .ref a6, l7] [.ref a6] σ := q_aload t92_36 rfl
theorem t92_38 : decode (mb 92) 38 = .ok (.invokevirtual 257, 3) := by decide +kernel
theorem s92_38_o77 (d : Nat) (l0 : Value) (l1 : Value) (l2 : Value) (l3 : Value) (l4 : Value) (l5 : Value) (l6 : Value) (l7 : Value) (σ : Hs) : ru d 92 38 [l0, l1, l2, l3, l4, l5, l6, l7] [.ref 77] σ = kont (callD d 47 [.ref 77] σ) d 92 41 [l0, l1, l2, l3, l4, l5, l6, l7] [] := q_invv t92_38 mo92 K7_257 mj47 rfl rfl rfl rfl (Nat.le_of_ble_eq_true rfl)
theorem s92_38_o79 (d : Nat) (l0 : Value) (l1 : Value) (l2 : Value) (l3 : Value) (l4 : Value) (l5 : Value) (l6 : Value) (l7 : Value) (σ : Hs) : ru d 92 38 [l0, l1, l2, l3, l4, l5, l6, l7] [.ref 79] σ = kont (callD d 47 [.ref 79] σ) d 92 41 [l0, l1, l2, l3, l4, l5, l6, l7] [] := q_invv t92_38 mo92 K7_257 mj47 rfl rfl rfl rfl (Nat.le_of_ble_eq_true rfl)
theorem s92_38_o81 (d : Nat) (l0 : Value) (l1 : Value) (l2 : Value) (l3 : Value) (l4 : Value) (l5 : Value) (l6 : Value) (l7 : Value) (σ : Hs) : ru d 92 38 [l0, l1, l2, l3, l4, l5, l6, l7] [.ref 81] σ = kont (callD d 47 [.ref 81] σ) d 92 41 [l0, l1, l2, l3, l4, l5, l6, l7] [] := q_invv t92_38 mo92 K7_257 mj47 rfl rfl rfl rfl (Nat.le_of_ble_eq_true rfl)
theorem s92_38_o83 (d : Nat) (l0 : Value) (l1 : Value) (l2 : Value) (l3 : Value) (l4 : Value) (l5 : Value) (l6 : Value) (l7 : Value) (σ : Hs) : ru d 92 38 [l0, l1, l2, l3, l4, l5, l6, l7] [.ref 83] σ = kont (callD d 47 [.ref 83] σ) d 92 41 [l0, l1, l2, l3, l4, l5, l6, l7] [] := q_invv t92_38 mo92 K7_257 mj47 rfl rfl rfl rfl (Nat.le_of_ble_eq_true rfl)
theorem t92_41 : decode (mb 92) 41 = .ok (.ifCond .ne 11, 3) := by decide +kernel
theorem s92_41 (d : Nat) (l0 : Value) (l1 : Value) (l2 : Value) (l3 : Value) (l4 : Value) (l5 : Value) (l6 : Value) (l7 : Value) (x : Int32) (σ : Hs) : ru d 92 41 [l0, l1, l2, l3, l4, l5, l6, l7] [.int x] σ = if x = 0 then ru d 92 44 [l0, l1, l2, l3, l4, l5, l6, l7] [] σ else ru d 92 52 [l0, l1, l2, l3, l4, l5, l6, l7] [] σ := q_if_ne t92_41 (by decide +kernel)
theorem t92_44 : decode (mb 92) 44 = .ok (.aload 7, 2) := by decide +kernel
theorem s92_44 (d : Nat) (l0 : Value) (l1 : Value) (l2 : Value) (l3 : Value) (l4 : Value) (l5 : Value) (l6 : Value) (a7 : Nat) (σ : Hs) : ru d 92 44 [l0, l1, l2, l3, l4, l5, l6, .ref a7] [] σ = ru d 92 46 [l0, l1, l2, l3, l4, l5, l6, .ref a7] [.ref a7] σ := q_aload t92_44 rfl
theorem t92_46 : decode (mb 92) 46 = .ok (.invokevirtual 257, 3) := by decide +kernel
theorem s92_46_o77 (d : Nat) (l0 : Value) (l1 : Value) (l2 : Value) (l3 : Value) (l4 : Value) (l5 : Value) (l6 : Value) (l7 : Value) (σ : Hs) : ru d 92 46 [l0, l1, l2, l3, l4, l5, l6, l7] [.ref 77] σ = kont (callD d 47 [.ref 77] σ) d 92 49 [l0, l1, l2, l3, l4, l5, l6, l7] [] := q_invv t92_46 mo92 K7_257 mj47 rfl rfl rfl rfl (Nat.le_of_ble_eq_true rfl)
theorem s92_46_o79 (d : Nat) (l0 : Value) (l1 : Value) (l2 : Value) (l3 : Value) (l4 : Value) (l5 : Value) (l6 : Value) (l7 : Value) (σ : Hs) : ru d 92 46 [l0, l1, l2, l3, l4, l5, l6, l7] [.ref 79] σ = kont (callD d 47 [.ref 79] σ) d 92 49 [l0, l1, l2, l3, l4, l5, l6, l7] [] := q_invv t92_46 mo92 K7_257 mj47 rfl rfl rfl rfl (Nat.le_of_ble_eq_true rfl)
theorem s92_46_o81 (d : Nat) (l0 : Value) (l1 : Value) (l2 : Value) (l3 : Value) (l4 : Value) (l5 : Value) (l6 : Value) (l7 : Value) (σ : Hs) : ru d 92 46 [l0, l1, l2, l3, l4, l5, l6, l7] [.ref 81] σ = kont (callD d 47 [.ref 81] σ) d 92 49 [l0, l1, l2, l3, l4, l5, l6, l7] [] := q_invv t92_46 mo92 K7_257 mj47 rfl rfl rfl rfl (Nat.le_of_ble_eq_true rfl)
theorem s92_46_o83 (d : Nat) (l0 : Value) (l1 : Value) (l2 : Value) (l3 : Value) (l4 : Value) (l5 : Value) (l6 : Value) (l7 : Value) (σ : Hs) : ru d 92 46 [l0, l1, l2, l3, l4, l5, l6, l7] [.ref 83] σ = kont (callD d 47 [.ref 83] σ) d 92 49 [l0, l1, l2, l3, l4, l5, l6, l7] [] := q_invv t92_46 mo92 K7_257 mj47 rfl rfl rfl rfl (Nat.le_of_ble_eq_true rfl)
theorem t92_49 : decode (mb 92) 49 = .ok (.ifCond .eq 9, 3) := by decide +kernel
theorem s92_49 (d : Nat) (l0 : Value) (l1 : Value) (l2 : Value) (l3 : Value) (l4 : Value) (l5 : Value) (l6 : Value) (l7 : Value) (x : Int32) (σ : Hs) : ru d 92 49 [l0, l1, l2, l3, l4, l5, l6, l7] [.int x] σ = if x = 0 then ru d 92 58 [l0, l1, l2, l3, l4, l5, l6, l7] [] σ else ru d 92 52 [l0, l1, l2, l3, l4, l5, l6, l7] [] σ := q_if_eq t92_49 (by decide +kernel)
theorem t92_52 : decode (mb 92) 52 = .ok (.aload_n 0, 1) := by decide +kernel
theorem s92_52 (d : Nat) (a0 : Nat) (l1 : Value) (l2 : Value) (l3 : Value) (l4 : Value) (l5 : Value) (l6 : Value) (l7 : Value) (σ : Hs) : ru d 92 52 [.ref a0, l1, l2, l3, l4, l5, l6, l7] [] σ = ru d 92 53 [.ref a0, l1, l2, l3, l4, l5, l6, l7] [.ref a0] σ := q_aload_n t92_52 rfl
theorem t92_53 : decode (mb 92) 53 = .ok (.iconst 2, 1) := by decide +kernel
theorem s92_53 (d : Nat) (l0 : Value) (l1 : Value) (l2 : Value) (l3 : Value) (l4 : Value) (l5 : Value) (l6 : Value) (l7 : Value) (w0 : Value) (σ : Hs) : ru d 92 53 [l0, l1, l2, l3, l4, l5, l6, l7] [w0] σ = ru d 92 54 [l0, l1, l2, l3, l4, l5, l6, l7] [.int 2, w0] σ := q_iconst t92_53 (by decide +kernel)
theorem t92_54 : decode (mb 92) 54 = .ok (.invokevirtual 65, 3) := by decide +kernel
theorem s92_54_o0 (d : Nat) (l0 : Value) (l1 : Value) (l2 : Value) (l3 : Value) (l4 : Value) (l5 : Value) (l6 : Value) (l7 : Value) (v1 : Value) (σ : Hs) : ru d 92 54 [l0, l1, l2, l3, l4, l5, l6, l7] [v1, .ref 0] σ = kont (callD d 100 [.ref 0, v1] σ) d 92 57 [l0, l1, l2, l3, l4, l5, l6, l7] [] := q_invv t92_54 mo92 K7_65 mj100 rfl rfl rfl rfl (Nat.le_of_ble_eq_true rfl)
theorem t92_57 : decode (mb 92) 57 = .ok (.ireturn, 1) := by decide +kernel
theorem s92_57 (d : Nat) (l0 : Value) (l1 : Value) (l2 : Value) (l3 : Value) (l4 : Value) (l5 : Value) (l6 : Value) (l7 : Value) (x : Int32) (σ : Hs) : ru d 92 57 [l0, l1, l2, l3, l4, l5, l6, l7] [.int x] σ = some (some (.int x), σ) := q_ireti t92_57 mr92
theorem t92_58 : decode (mb 92) 58 = .ok (.aload 6, 2) := by decide +kernel
theorem s92_58 (d : Nat) (l0 : Value) (l1 : Value) (l2 : Value) (l3 : Value) (l4 : Value) (l5 : Value) (a6 : Nat) (l7 : Value) (σ : Hs) : ru d 92 58 [l0, l1, l2, l3, l4, l5, .ref a6, l7] [] σ = ru d 92 60 [l0, l1, l2, l3, l4, l5, .ref a6, l7] [.ref a6] σ := q_aload t92_58 rfl
theorem t92_60 : decode (mb 92) 60 = .ok (.getfield 266, 3) := by decide +kernel
theorem s92_60_o77 (d : Nat) (l0 : Value) (l1 : Value) (l2 : Value) (l3 : Value) (l4 : Value) (l5 : Value) (l6 : Value) (l7 : Value) (σ : Hs) : ru d 92 60 [l0, l1, l2, l3, l4, l5, l6, l7] [.ref 77] σ = ru d 92 63 [l0, l1, l2, l3, l4, l5, l6, l7] [.int (σ 77 1)] σ := q_getf t92_60 mo92 F7_266 rfl rfl
theorem s92_60_o79 (d : Nat) (l0 : Value) (l1 : Value) (l2 : Value) (l3 : Value) (l4 : Value) (l5 : Value) (l6 : Value) (l7 : Value) (σ : Hs) : ru d 92 60 [l0, l1, l2, l3, l4, l5, l6, l7] [.ref 79] σ = ru d 92 63 [l0, l1, l2, l3, l4, l5, l6, l7] [.int (σ 79 1)] σ := q_getf t92_60 mo92 F7_266 rfl rfl
theorem s92_60_o81 (d : Nat) (l0 : Value) (l1 : Value) (l2 : Value) (l3 : Value) (l4 : Value) (l5 : Value) (l6 : Value) (l7 : Value) (σ : Hs) : ru d 92 60 [l0, l1, l2, l3, l4, l5, l6, l7] [.ref 81] σ = ru d 92 63 [l0, l1, l2, l3, l4, l5, l6, l7] [.int (σ 81 1)] σ := q_getf t92_60 mo92 F7_266 rfl rfl
theorem s92_60_o83 (d : Nat) (l0 : Value) (l1 : Value) (l2 : Value) (l3 : Value) (l4 : Value) (l5 : Value) (l6 : Value) (l7 : Value) (σ : Hs) : ru d 92 60 [l0, l1, l2, l3, l4, l5, l6, l7] [.ref 83] σ = ru d 92 63 [l0, l1, l2, l3, l4, l5, l6, l7] [.int (σ 83 1)] σ := q_getf t92_60 mo92 F7_266 rfl rfl
theorem t92_63 : decode (mb 92) 63 = .ok (.aload 7, 2) := by decide +kernel
theorem s92_63 (d : Nat) (l0 : Value) (l1 : Value) (l2 : Value) (l3 : Value) (l4 : Value) (l5 : Value) (l6 : Value) (a7 : Nat) (w0 : Value) (σ : Hs) : ru d 92 63 [l0, l1, l2, l3, l4, l5, l6, .ref a7] [w0] σ = ru d 92 65 [l0, l1, l2, l3, l4, l5, l6, .ref a7] [.ref a7, w0] σ := q_aload t92_63 rfl
theorem t92_65 : decode (mb 92) 65 = .ok (.getfield 266, 3) := by decide +kernel
theorem s92_65_o77 (d : Nat) (l0 : Value) (l1 : Value) (l2 : Value) (l3 : Value) (l4 : Value) (l5 : Value) (l6 : Value) (l7 : Value) (w0 : Value) (σ : Hs) : ru d 92 65 [l0, l1, l2, l3, l4, l5, l6, l7] [.ref 77, w0] σ = ru d 92 68 [l0, l1, l2, l3, l4, l5, l6, l7] [.int (σ 77 1), w0] σ := q_getf t92_65 mo92 F7_266 rfl rfl
theorem s92_65_o79 (d : Nat) (l0 : Value) (l1 : Value) (l2 : Value) (l3 : Value) (l4 : Value) (l5 : Value) (l6 : Value) (l7 : Value) (w0 : Value) (σ : Hs) : ru d 92 65 [l0, l1, l2, l3, l4, l5, l6, l7] [.ref 79, w0] σ = ru d 92 68 [l0, l1, l2, l3, l4, l5, l6, l7] [.int (σ 79 1), w0] σ := q_getf t92_65 mo92 F7_266 rfl rfl
theorem s92_65_o81 (d : Nat) (l0 : Value) (l1 : Value) (l2 : Value) (l3 : Value) (l4 : Value) (l5 : Value) (l6 : Value) (l7 : Value) (w0 : Value) (σ : Hs) : ru d 92 65 [l0, l1, l2, l3, l4, l5, l6, l7] [.ref 81, w0] σ = ru d 92 68 [l0, l1, l2, l3, l4, l5, l6, l7] [.int (σ 81 1), w0] σ := q_getf t92_65 mo92 F7_266 rfl rfl
theorem s92_65_o83 (d : Nat) (l0 : Value) (l1 : Value) (l2 : Value) (l3 : Value) (l4 : Value) (l5 : Value) (l6 : Value) (l7 : Value) (w0 : Value) (σ : Hs) : ru d 92 65 [l0, l1, l2, l3, l4, l5, l6, l7] [.ref 83, w0] σ = ru d 92 68 [l0, l1, l2, l3, l4, l5, l6, l7] [.int (σ 83 1), w0] σ := q_getf t92_65 mo92 F7_266 rfl rfl
theorem t92_68 : decode (mb 92) 68 = .ok (.if_icmp .eq 9, 3) := by decide +kernel
theorem s92_68 (d : Nat) (l0 : Value) (l1 : Value) (l2 : Value) (l3 : Value) (l4 : Value) (l5 : Value) (l6 : Value) (l7 : Value) (x y : Int32) (σ : Hs) : ru d 92 68 [l0, l1, l2, l3, l4, l5, l6, l7] [.int y, .int x] σ = if x = y then ru d 92 77 [l0, l1, l2, l3, l4, l5, l6, l7] [] σ else ru d 92 71 [l0, l1, l2, l3, l4, l5, l6, l7] [] σ := q_ic_eq t92_68 (by decide +kernel)
theorem t92_71 : decode (mb 92) 71 = .ok (.aload_n 0, 1) := by decide +kernel
theorem s92_71 (d : Nat) (a0 : Nat) (l1 : Value) (l2 : Value) (l3 : Value) (l4 : Value) (l5 : Value) (l6 : Value) (l7 : Value) (σ : Hs) : ru d 92 71 [.ref a0, l1, l2, l3, l4, l5, l6, l7] [] σ = ru d 92 72 [.ref a0, l1, l2, l3, l4, l5, l6, l7] [.ref a0] σ := q_aload_n t92_71 rfl
theorem t92_72 : decode (mb 92) 72 = .ok (.iconst 5, 1) := by decide +kernel
theorem s92_72 (d : Nat) (l0 : Value) (l1 : Value) (l2 : Value) (l3 : Value) (l4 : Value) (l5 : Value) (l6 : Value) (l7 : Value) (w0 : Value) (σ : Hs) : ru d 92 72 [l0, l1, l2, l3, l4, l5, l6, l7] [w0] σ = ru d 92 73 [l0, l1, l2, l3, l4, l5, l6, l7] [.int 5, w0] σ := q_iconst t92_72 (by decide +kernel)
theorem t92_73 : decode (mb 92) 73 = .ok (.invokevirtual 65, 3) := by decide +kernel
theorem s92_73_o0 (d : Nat) (l0 : Value) (l1 : Value) (l2 : Value) (l3 : Value) (l4 : Value) (l5 : Value) (l6 : Value) (l7 : Value) (v1 : Value) (σ : Hs) : ru d 92 73 [l0, l1, l2, l3, l4, l5, l6, l7] [v1, .ref 0] σ = kont (callD d 100 [.ref 0, v1] σ) d 92 76 [l0, l1, l2, l3, l4, l5, l6, l7] [] := q_invv t92_73 mo92 K7_65 mj100 rfl rfl rfl rfl (Nat.le_of_ble_eq_true rfl)
theorem t92_76 : decode (mb 92) 76 = .ok (.ireturn, 1) := by decide +kernel
theorem s92_76 (d : Nat) (l0 : Value) (l1 : Value) (l2 : Value) (l3 : Value) (l4 : Value) (l5 : Value) (l6 : Value) (l7 : Value) (x : Int32) (σ : Hs) : ru d 92 76 [l0, l1, l2, l3, l4, l5, l6, l7] [.int x] σ = some (some (.int x), σ) := q_ireti t92_76 mr92
theorem t92_77 : decode (mb 92) 77 = .ok (.aload 6, 2) := by decide +kernel
theorem s92_77 (d : Nat) (l0 : Value) (l1 : Value) (l2 : Value) (l3 : Value) (l4 : Value) (l5 : Value) (a6 : Nat) (l7 : Value) (σ : Hs) : ru d 92 77 [l0, l1, l2, l3, l4, l5, .ref a6, l7] [] σ = ru d 92 79 [l0, l1, l2, l3, l4, l5, .ref a6, l7] [.ref a6] σ := q_aload t92_77 rfl
theorem t92_79 : decode (mb 92) 79 = .ok (.iload_n 2, 1) := by decide +kernel
theorem s92_79 (d : Nat) (l0 : Value) (l1 : Value) (i2 : Int32) (l3 : Value) (l4 : Value) (l5 : Value) (l6 : Value) (l7 : Value) (w0 : Value) (σ : Hs) : ru d 92 79 [l0, l1, .int i2, l3, l4, l5, l6, l7] [w0] σ = ru d 92 80 [l0, l1, .int i2, l3, l4, l5, l6, l7] [.int i2, w0] σ := q_iload_n t92_79 rfl
theorem t92_80 : decode (mb 92) 80 = .ok (.iload 5, 2) := by decide +kernel
theorem s92_80 (d : Nat) (l0 : Value) (l1 : Value) (l2 : Value) (l3 : Value) (l4 : Value) (i5 : Int32) (l6 : Value) (l7 : Value) (w0 w1 : Value) (σ : Hs) : ru d 92 80 [l0, l1, l2, l3, l4, .int i5, l6, l7] [w0, w1] σ = ru d 92 82 [l0, l1, l2, l3, l4, .int i5, l6, l7] [.int i5, w0, w1] σ := q_iload t92_80 rfl
theorem t92_82 : decode (mb 92) 82 = .ok (.invokevirtual 260, 3) := by decide +kernel
theorem s92_82_o77 (d : Nat) (l0 : Value) (l1 : Value) (l2 : Value) (l3 : Value) (l4 : Value) (l5 : Value) (l6 : Value) (l7 : Value) (v1 v2 : Value) (σ : Hs) : ru d 92 82 [l0, l1, l2, l3, l4, l5, l6, l7] [v2, v1, .ref 77] σ = kont (callD d 49 [.ref 77, v1, v2] σ) d 92 85 [l0, l1, l2, l3, l4, l5, l6, l7] [] := q_invv t92_82 mo92 K7_260 mj49 rfl rfl rfl rfl (Nat.le_of_ble_eq_true rfl)
theorem s92_82_o79 (d : Nat) (l0 : Value) (l1 : Value) (l2 : Value) (l3 : Value) (l4 : Value) (l5 : Value) (l6 : Value) (l7 : Value) (v1 v2 : Value) (σ : Hs) : ru d 92 82 [l0, l1, l2, l3, l4, l5, l6, l7] [v2, v1, .ref 79] σ = kont (callD d 49 [.ref 79, v1, v2] σ) d 92 85 [l0, l1, l2, l3, l4, l5, l6, l7] [] := q_invv t92_82 mo92 K7_260 mj49 rfl rfl rfl rfl (Nat.le_of_ble_eq_true rfl)
theorem s92_82_o81 (d : Nat) (l0 : Value) (l1 : Value) (l2 : Value) (l3 : Value) (l4 : Value) (l5 : Value) (l6 : Value) (l7 : Value) (v1 v2 : Value) (σ : Hs) : ru d 92 82 [l0, l1, l2, l3, l4, l5, l6, l7] [v2, v1, .ref 81] σ = kont (callD d 49 [.ref 81, v1, v2] σ) d 92 85 [l0, l1, l2, l3, l4, l5, l6, l7] [] := q_invv t92_82 mo92 K7_260 mj49 rfl rfl rfl rfl (Nat.le_of_ble_eq_true rfl)
theorem s92_82_o83 (d : Nat) (l0 : Value) (l1 : Value) (l2 : Value) (l3 : Value) (l4 : Value) (l5 : Value) (l6 : Value) (l7 : Value) (v1 v2 : Value) (σ : Hs) : ru d 92 82 [l0, l1, l2, l3, l4, l5, l6, l7] [v2, v1, .ref 83] σ = kont (callD d 49 [.ref 83, v1, v2] σ) d 92 85 [l0, l1, l2, l3, l4, l5, l6, l7] [] := q_invv t92_82 mo92 K7_260 mj49 rfl rfl rfl rfl (Nat.le_of_ble_eq_true rfl)
theorem t92_85 : decode (mb 92) 85 = .ok (.ifCond .eq 15, 3) := by decide +kernel
theorem s92_85 (d : Nat) (l0 : Value) (l1 : Value) (l2 : Value) (l3 : Value) (l4 : Value) (l5 : Value) (l6 : Value) (l7 : Value) (x : Int32) (σ : Hs) : ru d 92 85 [l0, l1, l2, l3, l4, l5, l6, l7] [.int x] σ = if x = 0 then ru d 92 100 [l0, l1, l2, l3, l4, l5, l6, l7] [] σ else ru d 92 88 [l0, l1, l2, l3, l4, l5, l6, l7] [] σ := q_if_eq t92_85 (by decide +kernel)
theorem t92_88 : decode (mb 92) 88 = .ok (.aload 7, 2) := by decide +kernel
theorem s92_88 (d : Nat) (l0 : Value) (l1 : Value) (l2 : Value) (l3 : Value) (l4 : Value) (l5 : Value) (l6 : Value) (a7 : Nat) (σ : Hs) : ru d 92 88 [l0, l1, l2, l3, l4, l5, l6, .ref a7] [] σ = ru d 92 90 [l0, l1, l2, l3, l4, l5, l6, .ref a7] [.ref a7] σ := q_aload t92_88 rfl
theorem t92_90 : decode (mb 92) 90 = .ok (.iload 4, 2) := by decide +kernel
theorem s92_90 (d : Nat) (l0 : Value) (l1 : Value) (l2 : Value) (l3 : Value) (i4 : Int32) (l5 : Value) (l6 : Value) (l7 : Value) (w0 : Value) (σ : Hs) : ru d 92 90 [l0, l1, l2, l3, .int i4, l5, l6, l7] [w0] σ = ru d 92 92 [l0, l1, l2, l3, .int i4, l5, l6, l7] [.int i4, w0] σ := q_iload t92_90 rfl
theorem t92_92 : decode (mb 92) 92 = .ok (.iload 5, 2) := by decide +kernel
theorem s92_92 (d : Nat) (l0 : Value) (l1 : Value) (l2 : Value) (l3 : Value) (l4 : Value) (i5 : Int32) (l6 : Value) (l7 : Value) (w0 w1 : Value) (σ : Hs) : ru d 92 92 [l0, l1, l2, l3, l4, .int i5, l6, l7] [w0, w1] σ = ru d 92 94 [l0, l1, l2, l3, l4, .int i5, l6, l7] [.int i5, w0, w1] σ := q_iload t92_92 rfl
theorem t92_94 : decode (mb 92) 94 = .ok (.invokevirtual 260, 3) := by decide +kernel
theorem s92_94_o77 (d : Nat) (l0 : Value) (l1 : Value) (l2 : Value) (l3 : Value) (l4 : Value) (l5 : Value) (l6 : Value) (l7 : Value) (v1 v2 : Value) (σ : Hs) : ru d 92 94 [l0, l1, l2, l3, l4, l5, l6, l7] [v2, v1, .ref 77] σ = kont (callD d 49 [.ref 77, v1, v2] σ) d 92 97 [l0, l1, l2, l3, l4, l5, l6, l7] [] := q_invv t92_94 mo92 K7_260 mj49 rfl rfl rfl rfl (Nat.le_of_ble_eq_true rfl)
theorem s92_94_o79 (d : Nat) (l0 : Value) (l1 : Value) (l2 : Value) (l3 : Value) (l4 : Value) (l5 : Value) (l6 : Value) (l7 : Value) (v1 v2 : Value) (σ : Hs) : ru d 92 94 [l0, l1, l2, l3, l4, l5, l6, l7] [v2, v1, .ref 79] σ = kont (callD d 49 [.ref 79, v1, v2] σ) d 92 97 [l0, l1, l2, l3, l4, l5, l6, l7] [] := q_invv t92_94 mo92 K7_260 mj49 rfl rfl rfl rfl (Nat.le_of_ble_eq_true rfl)
theorem s92_94_o81 (d : Nat) (l0 : Value) (l1 : Value) (l2 : Value) (l3 : Value) (l4 : Value) (l5 : Value) (l6 : Value) (l7 : Value) (v1 v2 : Value) (σ : Hs) : ru d 92 94 [l0, l1, l2, l3, l4, l5, l6, l7] [v2, v1, .ref 81] σ = kont (callD d 49 [.ref 81, v1, v2] σ) d 92 97 [l0, l1, l2, l3, l4, l5, l6, l7] [] := q_invv t92_94 mo92 K7_260 mj49 rfl rfl rfl rfl (Nat.le_of_ble_eq_true rfl)
theorem s92_94_o83 (d : Nat) (l0 : Value) (l1 : Value) (l2 : Value) (l3 : Value) (l4 : Value) (l5 : Value) (l6 : Value) (l7 : Value) (v1 v2 : Value) (σ : Hs) : ru d 92 94 [l0, l1, l2, l3, l4, l5, l6, l7] [v2, v1, .ref 83] σ = kont (callD d 49 [.ref 83, v1, v2] σ) d 92 97 [l0, l1, l2, l3, l4, l5, l6, l7] [] := q_invv t92_94 mo92 K7_260 mj49 rfl rfl rfl rfl (Nat.le_of_ble_eq_true rfl)
theorem t92_97 : decode (mb 92) 97 = .ok (.ifCond .ne 9, 3) := by decide +kernel
theorem s92_97 (d : Nat) (l0 : Value) (l1 : Value) (l2 : Value) (l3 : Value) (l4 : Value) (l5 : Value) (l6 : Value) (l7 : Value) (x : Int32) (σ : Hs) : ru d 92 97 [l0, l1, l2, l3, l4, l5, l6, l7] [.int x] σ = if x = 0 then ru d 92 100 [l0, l1, l2, l3, l4, l5, l6, l7] [] σ else ru d 92 106 [l0, l1, l2, l3, l4, l5, l6, l7] [] σ := q_if_ne t92_97 (by decide +kernel)
theorem t92_100 : decode (mb 92) 100 = .ok (.aload_n 0, 1) := by decide +kernel
theorem s92_100 (d : Nat) (a0 : Nat) (l1 : Value) (l2 : Value) (l3 : Value) (l4 : Value) (l5 : Value) (l6 : Value) (l7 : Value) (σ : Hs) : ru d 92 100 [.ref a0, l1, l2, l3, l4, l5, l6, l7] [] σ = ru d 92 101 [.ref a0, l1, l2, l3, l4, l5, l6, l7] [.ref a0] σ := q_aload_n t92_100 rfl
theorem t92_101 : decode (mb 92) 101 = .ok (.iconst 1, 1) := by decide +kernel
theorem s92_101 (d : Nat) (l0 : Value) (l1 : Value) (l2 : Value) (l3 : Value) (l4 : Value) (l5 : Value) (l6 : Value) (l7 : Value) (w0 : Value) (σ : Hs) : ru d 92 101 [l0, l1, l2, l3, l4, l5, l6, l7] [w0] σ = ru d 92 102 [l0, l1, l2, l3, l4, l5, l6, l7] [.int 1, w0] σ := q_iconst t92_101 (by decide +kernel)
theorem t92_102 : decode (mb 92) 102 = .ok (.invokevirtual 65, 3) := by decide +kernel
theorem s92_102_o0 (d : Nat) (l0 : Value) (l1 : Value) (l2 : Value) (l3 : Value) (l4 : Value) (l5 : Value) (l6 : Value) (l7 : Value) (v1 : Value) (σ : Hs) : ru d 92 102 [l0, l1, l2, l3, l4, l5, l6, l7] [v1, .ref 0] σ = kont (callD d 100 [.ref 0, v1] σ) d 92 105 [l0, l1, l2, l3, l4, l5, l6, l7] [] := q_invv t92_102 mo92 K7_65 mj100 rfl rfl rfl rfl (Nat.le_of_ble_eq_true rfl)
theorem t92_105 : decode (mb 92) 105 = .ok (.ireturn, 1) := by decide +kernel
theorem s92_105 (d : Nat) (l0 : Value) (l1 : Value) (l2 : Value) (l3 : Value) (l4 : Value) (l5 : Value) (l6 : Value) (l7 : Value) (x : Int32) (σ : Hs) : ru d 92 105 [l0, l1, l2, l3, l4, l5, l6, l7] [.int x] σ = some (some (.int x), σ) := q_ireti t92_105 mr92
theorem t92_106 : decode (mb 92) 106 = .ok (.aload 6, 2) := by decide +kernel
theorem s92_106 (d : Nat) (l0 : Value) (l1 : Value) (l2 : Value) (l3 : Value) (l4 : Value) (l5 : Value) (a6 : Nat) (l7 : Value) (σ : Hs) : ru d 92 106 [l0, l1, l2, l3, l4, l5, .ref a6, l7] [] σ = ru d 92 108 [l0, l1, l2, l3, l4, l5, .ref a6, l7] [.ref a6] σ := q_aload t92_106 rfl
theorem t92_108 : decode (mb 92) 108 = .ok (.getfield 269, 3) := by decide +kernel
theorem s92_108_o77 (d : Nat) (l0 : Value) (l1 : Value) (l2 : Value) (l3 : Value) (l4 : Value) (l5 : Value) (l6 : Value) (l7 : Value) (σ : Hs) : ru d 92 108 [l0, l1, l2, l3, l4, l5, l6, l7] [.ref 77] σ = ru d 92 111 [l0, l1, l2, l3, l4, l5, l6, l7] [.ref 78] σ := q_getf t92_108 mo92 F7_269 rfl rfl
theorem s92_108_o79 (d : Nat) (l0 : Value) (l1 : Value) (l2 : Value) (l3 : Value) (l4 : Value) (l5 : Value) (l6 : Value) (l7 : Value) (σ : Hs) : ru d 92 108 [l0, l1, l2, l3, l4, l5, l6, l7] [.ref 79] σ = ru d 92 111 [l0, l1, l2, l3, l4, l5, l6, l7] [.ref 80] σ := q_getf t92_108 mo92 F7_269 rfl rfl
theorem s92_108_o81 (d : Nat) (l0 : Value) (l1 : Value) (l2 : Value) (l3 : Value) (l4 : Value) (l5 : Value) (l6 : Value) (l7 : Value) (σ : Hs) : ru d 92 108 [l0, l1, l2, l3, l4, l5, l6, l7] [.ref 81] σ = ru d 92 111 [l0, l1, l2, l3, l4, l5, l6, l7] [.ref 82] σ := q_getf t92_108 mo92 F7_269 rfl rfl
theorem s92_108_o83 (d : Nat) (l0 : Value) (l1 : Value) (l2 : Value) (l3 : Value) (l4 : Value) (l5 : Value) (l6 : Value) (l7 : Value) (σ : Hs) : ru d 92 108 [l0, l1, l2, l3, l4, l5, l6, l7] [.ref 83] σ = ru d 92 111 [l0, l1, l2, l3, l4, l5, l6, l7] [.ref 84] σ := q_getf t92_108 mo92 F7_269 rfl rfl
theorem t92_111 : decode (mb 92) 111 = .ok (.iload_n 2, 1) := by decide +kernel
theorem s92_111 (d : Nat) (l0 : Value) (l1 : Value) (i2 : Int32) (l3 : Value) (l4 : Value) (l5 : Value) (l6 : Value) (l7 : Value) (w0 : Value) (σ : Hs) : ru d 92 111 [l0, l1, .int i2, l3, l4, l5, l6, l7] [w0] σ = ru d 92 112 [l0, l1, .int i2, l3, l4, l5, l6, l7] [.int i2, w0] σ := q_iload_n t92_111 rfl
theorem t92_112 : decode (mb 92) 112 = .ok (.aload 7, 2) := by decide +kernel
theorem s92_112 (d : Nat) (l0 : Value) (l1 : Value) (l2 : Value) (l3 : Value) (l4 : Value) (l5 : Value) (l6 : Value) (a7 : Nat) (w0 w1 : Value) (σ : Hs) : ru d 92 112 [l0, l1, l2, l3, l4, l5, l6, .ref a7] [w0, w1] σ = ru d 92 114 [l0, l1, l2, l3, l4, l5, l6, .ref a7] [.ref a7, w0, w1] σ := q_aload t92_112 rfl
theorem t92_114 : decode (mb 92) 114 = .ok (.getfield 269, 3) := by decide +kernel
theorem s92_114_o77 (d : Nat) (l0 : Value) (l1 : Value) (l2 : Value) (l3 : Value) (l4 : Value) (l5 : Value) (l6 : Value) (l7 : Value) (w0 w1 : Value) (σ : Hs) : ru d 92 114 [l0, l1, l2, l3, l4, l5, l6, l7] [.ref 77, w0, w1] σ = ru d 92 117 [l0, l1, l2, l3, l4, l5, l6, l7] [.ref 78, w0, w1] σ := q_getf t92_114 mo92 F7_269 rfl rfl
theorem s92_114_o79 (d : Nat) (l0 : Value) (l1 : Value) (l2 : Value) (l3 : Value) (l4 : Value) (l5 : Value) (l6 : Value) (l7 : Value) (w0 w1 : Value) (σ : Hs) : ru d 92 114 [l0, l1, l2, l3, l4, l5, l6, l7] [.ref 79, w0, w1] σ = ru d 92 117 [l0, l1, l2, l3, l4, l5, l6, l7] [.ref 80, w0, w1] σ := q_getf t92_114 mo92 F7_269 rfl rfl
theorem s92_114_o81 (d : Nat) (l0 : Value) (l1 : Value) (l2 : Value) (l3 : Value) (l4 : Value) (l5 : Value) (l6 : Value) (l7 : Value) (w0 w1 : Value) (σ : Hs) : ru d 92 114 [l0, l1, l2, l3, l4, l5, l6, l7] [.ref 81, w0, w1] σ = ru d 92 117 [l0, l1, l2, l3, l4, l5, l6, l7] [.ref 82, w0, w1] σ := q_getf t92_114 mo92 F7_269 rfl rfl
theorem s92_114_o83 (d : Nat) (l0 : Value) (l1 : Value) (l2 : Value) (l3 : Value) (l4 : Value) (l5 : Value) (l6 : Value) (l7 : Value) (w0 w1 : Value) (σ : Hs) : ru d 92 114 [l0, l1, l2, l3, l4, l5, l6, l7] [.ref 83, w0, w1] σ = ru d 92 117 [l0, l1, l2, l3, l4, l5, l6, l7] [.ref 84, w0, w1] σ := q_getf t92_114 mo92 F7_269 rfl rfl
theorem t92_117 : decode (mb 92) 117 = .ok (.iload 4, 2) := by decide +kernel
theorem s92_117 (d : Nat) (l0 : Value) (l1 : Value) (l2 : Value) (l3 : Value) (i4 : Int32) (l5 : Value) (l6 : Value) (l7 : Value) (w0 w1 w2 : Value) (σ : Hs) : ru d 92 117 [l0, l1, l2, l3, .int i4, l5, l6, l7] [w0, w1, w2] σ = ru d 92 119 [l0, l1, l2, l3, .int i4, l5, l6, l7] [.int i4, w0, w1, w2] σ := q_iload t92_117 rfl
theorem t92_119 : decode (mb 92) 119 = .ok (.iload 5, 2) := by decide +kernel
theorem s92_119 (d : Nat) (l0 : Value) (l1 : Value) (l2 : Value) (l3 : Value) (l4 : Value) (i5 : Int32) (l6 : Value) (l7 : Value) (w0 w1 w2 w3 : Value) (σ : Hs) : ru d 92 119 [l0, l1, l2, l3, l4, .int i5, l6, l7] [w0, w1, w2, w3] σ = ru d 92 121 [l0, l1, l2, l3, l4, .int i5, l6, l7] [.int i5, w0, w1, w2, w3] σ := q_iload t92_119 rfl
theorem t92_121 : decode (mb 92) 121 = .ok (.invokestatic 272, 3) := by decide +kernel
theorem s92_121 (d : Nat) (l0 : Value) (l1 : Value) (l2 : Value) (l3 : Value) (l4 : Value) (l5 : Value) (l6 : Value) (l7 : Value) (n dp sp : Int32) (a b : Nat) (σ : Hs) : ru d 92 121 [l0, l1, l2, l3, l4, l5, l6, l7] [.int n, .int dp, .ref a, .int sp, .ref b] σ = gd (bndC σ a b sp dp n) (ru d 92 124 [l0, l1, l2, l3, l4, l5, l6, l7] [] (cp2 σ b a sp.toNatClampNeg dp.toNatClampNeg n.toNatClampNeg)) := q_acp t92_121 mo92 (by decide +kernel)
theorem t92_124 : decode (mb 92) 124 = .ok (.iload 5, 2) := by decide +kernel
theorem s92_124 (d : Nat) (l0 : Value) (l1 : Value) (l2 : Value) (l3 : Value) (l4 : Value) (i5 : Int32) (l6 : Value) (l7 : Value) (σ : Hs) : ru d 92 124 [l0, l1, l2, l3, l4, .int i5, l6, l7] [] σ = ru d 92 126 [l0, l1, l2, l3, l4, .int i5, l6, l7] [.int i5] σ := q_iload t92_124 rfl
theorem t92_126 : decode (mb 92) 126 = .ok (.ireturn, 1) := by decide +kernel
theorem s92_126 (d : Nat) (l0 : Value) (l1 : Value) (l2 : Value) (l3 : Value) (l4 : Value) (l5 : Value) (l6 : Value) (l7 : Value) (x : Int32) (σ : Hs) : ru d 92 126 [l0, l1, l2, l3, l4, l5, l6, l7] [.int x] σ = some (some (.int x), σ) := q_ireti t92_126 mr92
theorem c92 (d : Nat) (x0 : Nat) (x1 : Int32) (x2 : Int32) (x3 : Int32) (x4 : Int32) (x5 : Int32) (σ : Hs) : callD (d + 1) 92 [.ref x0, .int x1, .int x2, .int x3, .int x4, .int x5] σ = ru d 92 0 [.ref x0, .int x1, .int x2, .int x3, .int x4, .int x5, uu, uu] [] σ := callD_ru ml92 rfl rfl (Nat.le_of_ble_eq_true rfl)
-- 93: SmokyHeap.armfuls(I)I
theorem t93_0 : decode (mb 93) 0 = .ok (.iload_n 1, 1) := by decide +kernel
theorem s93_0 (d : Nat) (l0 : Value) (i1 : Int32) (l2 : Value) (l3 : Value) (l4 : Value) (σ : Hs) : ru d 93 0 [l0, .int i1, l2, l3, l4] [] σ = ru d 93 1 [l0, .int i1, l2, l3, l4] [.int i1] σ := q_iload_n t93_0 rfl
theorem t93_1 : decode (mb 93) 1 = .ok (.invokestatic 252, 3) := by decide +kernel
theorem s93_1 (d : Nat) (l0 : Value) (l1 : Value) (l2 : Value) (l3 : Value) (l4 : Value) (v0 : Value) (σ : Hs) : ru d 93 1 [l0, l1, l2, l3, l4] [v0] σ = kont (callD d 108 [v0] σ) d 93 4 [l0, l1, l2, l3, l4] [] := q_invs t93_1 mo93 (by decide +kernel) K7_252 mj108 (Nat.le_of_ble_eq_true rfl) rfl rfl (Nat.le_of_ble_eq_true rfl)
theorem t93_4 : decode (mb 93) 4 = .ok (.ifCond .ne 9, 3) := by decide +kernel
theorem s93_4 (d : Nat) (l0 : Value) (l1 : Value) (l2 : Value) (l3 : Value) (l4 : Value) (x : Int32) (σ : Hs) : ru d 93 4 [l0, l1, l2, l3, l4] [.int x] σ = if x = 0 then ru d 93 7 [l0, l1, l2, l3, l4] [] σ else ru d 93 13 [l0, l1, l2, l3, l4] [] σ := q_if_ne t93_4 (by decide +kernel)
theorem t93_7 : decode (mb 93) 7 = .ok (.aload_n 0, 1) := by decide +kernel
theorem s93_7 (d : Nat) (a0 : Nat) (l1 : Value) (l2 : Value) (l3 : Value) (l4 : Value) (σ : Hs) : ru d 93 7 [.ref a0, l1, l2, l3, l4] [] σ = ru d 93 8 [.ref a0, l1, l2, l3, l4] [.ref a0] σ := q_aload_n t93_7 rfl
theorem t93_8 : decode (mb 93) 8 = .ok (.iconst 1, 1) := by decide +kernel
theorem s93_8 (d : Nat) (l0 : Value) (l1 : Value) (l2 : Value) (l3 : Value) (l4 : Value) (w0 : Value) (σ : Hs) : ru d 93 8 [l0, l1, l2, l3, l4] [w0] σ = ru d 93 9 [l0, l1, l2, l3, l4] [.int 1, w0] σ := q_iconst t93_8 (by decide +kernel)
theorem t93_9 : decode (mb 93) 9 = .ok (.invokevirtual 65, 3) := by decide +kernel
theorem s93_9_o0 (d : Nat) (l0 : Value) (l1 : Value) (l2 : Value) (l3 : Value) (l4 : Value) (v1 : Value) (σ : Hs) : ru d 93 9 [l0, l1, l2, l3, l4] [v1, .ref 0] σ = kont (callD d 100 [.ref 0, v1] σ) d 93 12 [l0, l1, l2, l3, l4] [] := q_invv t93_9 mo93 K7_65 mj100 rfl rfl rfl rfl (Nat.le_of_ble_eq_true rfl)
theorem t93_12 : decode (mb 93) 12 = .ok (.ireturn, 1) := by decide +kernel
theorem s93_12 (d : Nat) (l0 : Value) (l1 : Value) (l2 : Value) (l3 : Value) (l4 : Value) (x : Int32) (σ : Hs) : ru d 93 12 [l0, l1, l2, l3, l4] [.int x] σ = some (some (.int x), σ) := q_ireti t93_12 mr93
theorem t93_13 : decode (mb 93) 13 = .ok (.aload_n 0, 1) := by decide +kernel
theorem s93_13 (d : Nat) (a0 : Nat) (l1 : Value) (l2 : Value) (l3 : Value) (l4 : Value) (σ : Hs) : ru d 93 13 [.ref a0, l1, l2, l3, l4] [] σ = ru d 93 14 [.ref a0, l1, l2, l3, l4] [.ref a0] σ := q_aload_n t93_13 rfl
theorem t93_14 : decode (mb 93) 14 = .ok (.getfield 42, 3) := by decide +kernel
theorem s93_14_o0 (d : Nat) (l0 : Value) (l1 : Value) (l2 : Value) (l3 : Value) (l4 : Value) (σ : Hs) : ru d 93 14 [l0, l1, l2, l3, l4] [.ref 0] σ = ru d 93 17 [l0, l1, l2, l3, l4] [.ref 76] σ := q_getf t93_14 mo93 F7_42 rfl rfl
theorem t93_17 : decode (mb 93) 17 = .ok (.iload_n 1, 1) := by decide +kernel
theorem s93_17 (d : Nat) (l0 : Value) (i1 : Int32) (l2 : Value) (l3 : Value) (l4 : Value) (w0 : Value) (σ : Hs) : ru d 93 17 [l0, .int i1, l2, l3, l4] [w0] σ = ru d 93 18 [l0, .int i1, l2, l3, l4] [.int i1, w0] σ := q_iload_n t93_17 rfl
theorem t93_18 : decode (mb 93) 18 = .ok (.aaload, 1) := by decide +kernel
theorem s93_18_o76 (d : Nat) (l0 : Value) (l1 : Value) (l2 : Value) (l3 : Value) (l4 : Value) (i : Int32) (σ : Hs) : ru d 93 18 [l0, l1, l2, l3, l4] [.int i, .ref 76] σ = gd (vp_in i 4) (ru d 93 19 [l0, l1, l2, l3, l4] [.ref (cr 76 i.toNatClampNeg)] σ) := q_aald t93_18 (by decide +kernel) (by decide +kernel) rfl
theorem t93_19 : decode (mb 93) 19 = .ok (.invokevirtual 257, 3) := by decide +kernel
theorem s93_19_o77 (d : Nat) (l0 : Value) (l1 : Value) (l2 : Value) (l3 : Value) (l4 : Value) (σ : Hs) : ru d 93 19 [l0, l1, l2, l3, l4] [.ref 77] σ = kont (callD d 47 [.ref 77] σ) d 93 22 [l0, l1, l2, l3, l4] [] := q_invv t93_19 mo93 K7_257 mj47 rfl rfl rfl rfl (Nat.le_of_ble_eq_true rfl)
theorem s93_19_o79 (d : Nat) (l0 : Value) (l1 : Value) (l2 : Value) (l3 : Value) (l4 : Value) (σ : Hs) : ru d 93 19 [l0, l1, l2, l3, l4] [.ref 79] σ = kont (callD d 47 [.ref 79] σ) d 93 22 [l0, l1, l2, l3, l4] [] := q_invv t93_19 mo93 K7_257 mj47 rfl rfl rfl rfl (Nat.le_of_ble_eq_true rfl)
theorem s93_19_o81 (d : Nat) (l0 : Value) (l1 : Value) (l2 : Value) (l3 : Value) (l4 : Value) (σ : Hs) : ru d 93 19 [l0, l1, l2, l3, l4] [.ref 81] σ = kont (callD d 47 [.ref 81] σ) d 93 22 [l0, l1, l2, l3, l4] [] := q_invv t93_19 mo93 K7_257 mj47 rfl rfl rfl rfl (Nat.le_of_ble_eq_true rfl)
theorem s93_19_o83 (d : Nat) (l0 : Value) (l1 : Value) (l2 : Value) (l3 : Value) (l4 : Value) (σ : Hs) : ru d 93 19 [l0, l1, l2, l3, l4] [.ref 83] σ = kont (callD d 47 [.ref 83] σ) d 93 22 [l0, l1, l2, l3, l4] [] := q_invv t93_19 mo93 K7_257 mj47 rfl rfl rfl rfl (Nat.le_of_ble_eq_true rfl)
theorem t93_22 : decode (mb 93) 22 = .ok (.ifCond .eq 9, 3) := by decide +kernel
theorem s93_22 (d : Nat) (l0 : Value) (l1 : Value) (l2 : Value) (l3 : Value) (l4 : Value) (x : Int32) (σ : Hs) : ru d 93 22 [l0, l1, l2, l3, l4] [.int x] σ = if x = 0 then ru d 93 31 [l0, l1, l2, l3, l4] [] σ else ru d 93 25 [l0, l1, l2, l3, l4] [] σ := q_if_eq t93_22 (by decide +kernel)
theorem t93_25 : decode (mb 93) 25 = .ok (.aload_n 0, 1) := by decide +kernel
theorem s93_25 (d : Nat) (a0 : Nat) (l1 : Value) (l2 : Value) (l3 : Value) (l4 : Value) (σ : Hs) : ru d 93 25 [.ref a0, l1, l2, l3, l4] [] σ = ru d 93 26 [.ref a0, l1, l2, l3, l4] [.ref a0] σ := q_aload_n t93_25 rfl
theorem t93_26 : decode (mb 93) 26 = .ok (.iconst 2, 1) := by decide +kernel
theorem s93_26 (d : Nat) (l0 : Value) (l1 : Value) (l2 : Value) (l3 : Value) (l4 : Value) (w0 : Value) (σ : Hs) : ru d 93 26 [l0, l1, l2, l3, l4] [w0] σ = ru d 93 27 [l0, l1, l2, l3, l4] [.int 2, w0] σ := q_iconst t93_26 (by decide +kernel)
theorem t93_27 : decode (mb 93) 27 = .ok (.invokevirtual 65, 3) := by decide +kernel
theorem s93_27_o0 (d : Nat) (l0 : Value) (l1 : Value) (l2 : Value) (l3 : Value) (l4 : Value) (v1 : Value) (σ : Hs) : ru d 93 27 [l0, l1, l2, l3, l4] [v1, .ref 0] σ = kont (callD d 100 [.ref 0, v1] σ) d 93 30 [l0, l1, l2, l3, l4] [] := q_invv t93_27 mo93 K7_65 mj100 rfl rfl rfl rfl (Nat.le_of_ble_eq_true rfl)
theorem t93_30 : decode (mb 93) 30 = .ok (.ireturn, 1) := by decide +kernel
theorem s93_30 (d : Nat) (l0 : Value) (l1 : Value) (l2 : Value) (l3 : Value) (l4 : Value) (x : Int32) (σ : Hs) : ru d 93 30 [l0, l1, l2, l3, l4] [.int x] σ = some (some (.int x), σ) := q_ireti t93_30 mr93
theorem t93_31 : decode (mb 93) 31 = .ok (.iconst 0, 1) := by decide +kernel
theorem s93_31 (d : Nat) (l0 : Value) (l1 : Value) (l2 : Value) (l3 : Value) (l4 : Value) (σ : Hs) : ru d 93 31 [l0, l1, l2, l3, l4] [] σ = ru d 93 32 [l0, l1, l2, l3, l4] [.int 0] σ := q_iconst t93_31 (by decide +kernel)
theorem t93_32 : decode (mb 93) 32 = .ok (.istore_n 2, 1) := by decide +kernel
theorem s93_32 (d : Nat) (l0 : Value) (i1 : Int32) (l2 : Value) (l3 : Value) (l4 : Value) (x : Int32) (σ : Hs) : ru d 93 32 [l0, .int i1, l2, l3, l4] [.int x] σ = ru d 93 33 [l0, .int i1, .int x, l3, l4] [] σ := q_istore_n t93_32 ⟨Nat.le_of_ble_eq_true rfl, rfl⟩ rfl
theorem t93_33 : decode (mb 93) 33 = .ok (.aload_n 0, 1) := by decide +kernel
theorem s93_33 (d : Nat) (a0 : Nat) (l1 : Value) (l2 : Value) (l3 : Value) (l4 : Value) (σ : Hs) : ru d 93 33 [.ref a0, l1, l2, l3, l4] [] σ = ru d 93 34 [.ref a0, l1, l2, l3, l4] [.ref a0] σ := q_aload_n t93_33 rfl
theorem t93_34 : decode (mb 93) 34 = .ok (.getfield 42, 3) := by decide +kernel
theorem s93_34_o0 (d : Nat) (l0 : Value) (l1 : Value) (l2 : Value) (l3 : Value) (l4 : Value) (σ : Hs) : ru d 93 34 [l0, l1, l2, l3, l4] [.ref 0] σ = ru d 93 37 [l0, l1, l2, l3, l4] [.ref 76] σ := q_getf t93_34 mo93 F7_42 rfl rfl
theorem t93_37 : decode (mb 93) 37 = .ok (.iload_n 1, 1) := by decide +kernel
theorem s93_37 (d : Nat) (l0 : Value) (i1 : Int32) (l2 : Value) (l3 : Value) (l4 : Value) (w0 : Value) (σ : Hs) : ru d 93 37 [l0, .int i1, l2, l3, l4] [w0] σ = ru d 93 38 [l0, .int i1, l2, l3, l4] [.int i1, w0] σ := q_iload_n t93_37 rfl
theorem t93_38 : decode (mb 93) 38 = .ok (.aaload, 1) := by decide +kernel
theorem s93_38_o76 (d : Nat) (l0 : Value) (l1 : Value) (l2 : Value) (l3 : Value) (l4 : Value) (i : Int32) (σ : Hs) : ru d 93 38 [l0, l1, l2, l3, l4] [.int i, .ref 76] σ = gd (vp_in i 4) (ru d 93 39 [l0, l1, l2, l3, l4] [.ref (cr 76 i.toNatClampNeg)] σ) := q_aald t93_38 (by decide +kernel) (by decide +kernel) rfl
theorem t93_39 : decode (mb 93) 39 = .ok (.getfield 269, 3) := by decide +kernel
theorem s93_39_o77 (d : Nat) (l0 : Value) (l1 : Value) (l2 : Value) (l3 : Value) (l4 : Value) (σ : Hs) : ru d 93 39 [l0, l1, l2, l3, l4] [.ref 77] σ = ru d 93 42 [l0, l1, l2, l3, l4] [.ref 78] σ := q_getf t93_39 mo93 F7_269 rfl rfl
theorem s93_39_o79 (d : Nat) (l0 : Value) (l1 : Value) (l2 : Value) (l3 : Value) (l4 : Value) (σ : Hs) : ru d 93 39 [l0, l1, l2, l3, l4] [.ref 79] σ = ru d 93 42 [l0, l1, l2, l3, l4] [.ref 80] σ := q_getf t93_39 mo93 F7_269 rfl rfl
theorem s93_39_o81 (d : Nat) (l0 : Value) (l1 : Value) (l2 : Value) (l3 : Value) (l4 : Value) (σ : Hs) : ru d 93 39 [l0, l1, l2, l3, l4] [.ref 81] σ = ru d 93 42 [l0, l1, l2, l3, l4] [.ref 82] σ := q_getf t93_39 mo93 F7_269 rfl rfl
theorem s93_39_o83 (d : Nat) (l0 : Value) (l1 : Value) (l2 : Value) (l3 : Value) (l4 : Value) (σ : Hs) : ru d 93 39 [l0, l1, l2, l3, l4] [.ref 83] σ = ru d 93 42 [l0, l1, l2, l3, l4] [.ref 84] σ := q_getf t93_39 mo93 F7_269 rfl rfl
theorem t93_42 : decode (mb 93) 42 = .ok (.astore_n 3, 1) := by decide +kernel
theorem s93_42 (d : Nat) (l0 : Value) (l1 : Value) (i2 : Int32) (l3 : Value) (l4 : Value) (x : Nat) (σ : Hs) : ru d 93 42 [l0, l1, .int i2, l3, l4] [.ref x] σ = ru d 93 43 [l0, l1, .int i2, .ref x, l4] [] σ := q_astore_n t93_42 ⟨Nat.le_of_ble_eq_true rfl, rfl⟩ rfl
theorem t93_43 : decode (mb 93) 43 = .ok (.iconst 0, 1) := by decide +kernel
theorem s93_43 (d : Nat) (l0 : Value) (l1 : Value) (l2 : Value) (l3 : Value) (l4 : Value) (σ : Hs) : ru d 93 43 [l0, l1, l2, l3, l4] [] σ = ru d 93 44 [l0, l1, l2, l3, l4] [.int 0] σ := q_iconst t93_43 (by decide +kernel)
theorem t93_44 : decode (mb 93) 44 = .ok (.istore 4, 2) := by decide +kernel
theorem s93_44 (d : Nat) (l0 : Value) (l1 : Value) (l2 : Value) (a3 : Nat) (l4 : Value) (x : Int32) (σ : Hs) : ru d 93 44 [l0, l1, l2, .ref a3, l4] [.int x] σ = ru d 93 46 [l0, l1, l2, .ref a3, .int x] [] σ := q_istore t93_44 ⟨Nat.le_of_ble_eq_true rfl, rfl⟩ rfl
theorem t93_46 : decode (mb 93) 46 = .ok (.iload 4, 2) := by decide +kernel
theorem s93_46 (d : Nat) (l0 : Value) (l1 : Value) (l2 : Value) (l3 : Value) (i4 : Int32) (σ : Hs) : ru d 93 46 [l0, l1, l2, l3, .int i4] [] σ = ru d 93 48 [l0, l1, l2, l3, .int i4] [.int i4] σ := q_iload t93_46 rfl
theorem t93_48 : decode (mb 93) 48 = .ok (.bipush 24, 2) := by decide +kernel
theorem s93_48 (d : Nat) (l0 : Value) (l1 : Value) (l2 : Value) (l3 : Value) (l4 : Value) (w0 : Value) (σ : Hs) : ru d 93 48 [l0, l1, l2, l3, l4] [w0] σ = ru d 93 50 [l0, l1, l2, l3, l4] [.int 24, w0] σ := q_bipush t93_48 (by decide +kernel)
theorem t93_50 : decode (mb 93) 50 = .ok (.if_icmp .ge 64, 3) := by decide +kernel
theorem s93_50 (d : Nat) (l0 : Value) (l1 : Value) (l2 : Value) (l3 : Value) (l4 : Value) (x y : Int32) (σ : Hs) : ru d 93 50 [l0, l1, l2, l3, l4] [.int y, .int x] σ = if y ≤ x then ru d 93 114 [l0, l1, l2, l3, l4] [] σ else ru d 93 53 [l0, l1, l2, l3, l4] [] σ := q_ic_ge t93_50 (by decide +kernel)
theorem t93_53 : decode (mb 93) 53 = .ok (.aload_n 0, 1) := by decide +kernel
theorem s93_53 (d : Nat) (a0 : Nat) (l1 : Value) (l2 : Value) (l3 : Value) (l4 : Value) (σ : Hs) : ru d 93 53 [.ref a0, l1, l2, l3, l4] [] σ = ru d 93 54 [.ref a0, l1, l2, l3, l4] [.ref a0] σ := q_aload_n t93_53 rfl
theorem t93_54 : decode (mb 93) 54 = .ok (.getfield 42, 3) := by decide +kernel
theorem s93_54_o0 (d : Nat) (l0 : Value) (l1 : Value) (l2 : Value) (l3 : Value) (l4 : Value) (σ : Hs) : ru d 93 54 [l0, l1, l2, l3, l4] [.ref 0] σ = ru d 93 57 [l0, l1, l2, l3, l4] [.ref 76] σ := q_getf t93_54 mo93 F7_42 rfl rfl
theorem t93_57 : decode (mb 93) 57 = .ok (.iload_n 1, 1) := by decide +kernel
theorem s93_57 (d : Nat) (l0 : Value) (i1 : Int32) (l2 : Value) (l3 : Value) (l4 : Value) (w0 : Value) (σ : Hs) : ru d 93 57 [l0, .int i1, l2, l3, l4] [w0] σ = ru d 93 58 [l0, .int i1, l2, l3, l4] [.int i1, w0] σ := q_iload_n t93_57 rfl
theorem t93_58 : decode (mb 93) 58 = .ok (.aaload, 1) := by decide +kernel
theorem s93_58_o76 (d : Nat) (l0 : Value) (l1 : Value) (l2 : Value) (l3 : Value) (l4 : Value) (i : Int32) (σ : Hs) : ru d 93 58 [l0, l1, l2, l3, l4] [.int i, .ref 76] σ = gd (vp_in i 4) (ru d 93 59 [l0, l1, l2, l3, l4] [.ref (cr 76 i.toNatClampNeg)] σ) := q_aald t93_58 (by decide +kernel) (by decide +kernel) rfl
theorem t93_59 : decode (mb 93) 59 = .ok (.iload 4, 2) := by decide +kernel
theorem s93_59 (d : Nat) (l0 : Value) (l1 : Value) (l2 : Value) (l3 : Value) (i4 : Int32) (w0 : Value) (σ : Hs) : ru d 93 59 [l0, l1, l2, l3, .int i4] [w0] σ = ru d 93 61 [l0, l1, l2, l3, .int i4] [.int i4, w0] σ := q_iload t93_59 rfl
theorem t93_61 : decode (mb 93) 61 = .ok (.iconst 4, 1) := by decide +kernel
theorem s93_61 (d : Nat) (l0 : Value) (l1 : Value) (l2 : Value) (l3 : Value) (l4 : Value) (w0 w1 : Value) (σ : Hs) : ru d 93 61 [l0, l1, l2, l3, l4] [w0, w1] σ = ru d 93 62 [l0, l1, l2, l3, l4] [.int 4, w0, w1] σ := q_iconst t93_61 (by decide +kernel)
theorem t93_62 : decode (mb 93) 62 = .ok (.invokevirtual 260, 3) := by decide +kernel
theorem s93_62_o77 (d : Nat) (l0 : Value) (l1 : Value) (l2 : Value) (l3 : Value) (l4 : Value) (v1 v2 : Value) (σ : Hs) : ru d 93 62 [l0, l1, l2, l3, l4] [v2, v1, .ref 77] σ = kont (callD d 49 [.ref 77, v1, v2] σ) d 93 65 [l0, l1, l2, l3, l4] [] := q_invv t93_62 mo93 K7_260 mj49 rfl rfl rfl rfl (Nat.le_of_ble_eq_true rfl)
theorem s93_62_o79 (d : Nat) (l0 : Value) (l1 : Value) (l2 : Value) (l3 : Value) (l4 : Value) (v1 v2 : Value) (σ : Hs) : ru d 93 62 [l0, l1, l2, l3, l4] [v2, v1, .ref 79] σ = kont (callD d 49 [.ref 79, v1, v2] σ) d 93 65 [l0, l1, l2, l3, l4] [] := q_invv t93_62 mo93 K7_260 mj49 rfl rfl rfl rfl (Nat.le_of_ble_eq_true rfl)
theorem s93_62_o81 (d : Nat) (l0 : Value) (l1 : Value) (l2 : Value) (l3 : Value) (l4 : Value) (v1 v2 : Value) (σ : Hs) : ru d 93 62 [l0, l1, l2, l3, l4] [v2, v1, .ref 81] σ = kont (callD d 49 [.ref 81, v1, v2] σ) d 93 65 [l0, l1, l2, l3, l4] [] := q_invv t93_62 mo93 K7_260 mj49 rfl rfl rfl rfl (Nat.le_of_ble_eq_true rfl)
theorem s93_62_o83 (d : Nat) (l0 : Value) (l1 : Value) (l2 : Value) (l3 : Value) (l4 : Value) (v1 v2 : Value) (σ : Hs) : ru d 93 62 [l0, l1, l2, l3, l4] [v2, v1, .ref 83] σ = kont (callD d 49 [.ref 83, v1, v2] σ) d 93 65 [l0, l1, l2, l3, l4] [] := q_invv t93_62 mo93 K7_260 mj49 rfl rfl rfl rfl (Nat.le_of_ble_eq_true rfl)
theorem t93_65 : decode (mb 93) 65 = .ok (.ifCond .eq 49, 3) := by decide +kernel
theorem s93_65 (d : Nat) (l0 : Value) (l1 : Value) (l2 : Value) (l3 : Value) (l4 : Value) (x : Int32) (σ : Hs) : ru d 93 65 [l0, l1, l2, l3, l4] [.int x] σ = if x = 0 then ru d 93 114 [l0, l1, l2, l3, l4] [] σ else ru d 93 68 [l0, l1, l2, l3, l4] [] σ := q_if_eq t93_65 (by decide +kernel)
theorem t93_68 : decode (mb 93) 68 = .ok (.aload_n 0, 1) := by decide +kernel
theorem s93_68 (d : Nat) (a0 : Nat) (l1 : Value) (l2 : Value) (l3 : Value) (l4 : Value) (σ : Hs) : ru d 93 68 [.ref a0, l1, l2, l3, l4] [] σ = ru d 93 69 [.ref a0, l1, l2, l3, l4] [.ref a0] σ := q_aload_n t93_68 rfl
theorem t93_69 : decode (mb 93) 69 = .ok (.getfield 10, 3) := by decide +kernel
theorem s93_69_o0 (d : Nat) (l0 : Value) (l1 : Value) (l2 : Value) (l3 : Value) (l4 : Value) (σ : Hs) : ru d 93 69 [l0, l1, l2, l3, l4] [.ref 0] σ = ru d 93 72 [l0, l1, l2, l3, l4] [.ref 1] σ := q_getf t93_69 mo93 F7_10 rfl rfl
theorem t93_72 : decode (mb 93) 72 = .ok (.getfield 58, 3) := by decide +kernel
theorem s93_72_o1 (d : Nat) (l0 : Value) (l1 : Value) (l2 : Value) (l3 : Value) (l4 : Value) (σ : Hs) : ru d 93 72 [l0, l1, l2, l3, l4] [.ref 1] σ = ru d 93 75 [l0, l1, l2, l3, l4] [.ref 2] σ := q_getf t93_72 mo93 F7_58 rfl rfl
theorem t93_75 : decode (mb 93) 75 = .ok (.aload_n 3, 1) := by decide +kernel
theorem s93_75 (d : Nat) (l0 : Value) (l1 : Value) (l2 : Value) (a3 : Nat) (l4 : Value) (w0 : Value) (σ : Hs) : ru d 93 75 [l0, l1, l2, .ref a3, l4] [w0] σ = ru d 93 76 [l0, l1, l2, .ref a3, l4] [.ref a3, w0] σ := q_aload_n t93_75 rfl
theorem t93_76 : decode (mb 93) 76 = .ok (.iload 4, 2) := by decide +kernel
theorem s93_76 (d : Nat) (l0 : Value) (l1 : Value) (l2 : Value) (l3 : Value) (i4 : Int32) (w0 w1 : Value) (σ : Hs) : ru d 93 76 [l0, l1, l2, l3, .int i4] [w0, w1] σ = ru d 93 78 [l0, l1, l2, l3, .int i4] [.int i4, w0, w1] σ := q_iload t93_76 rfl
theorem t93_78 : decode (mb 93) 78 = .ok (.iaload, 1) := by decide +kernel
theorem s93_78_o78 (d : Nat) (l0 : Value) (l1 : Value) (l2 : Value) (l3 : Value) (l4 : Value) (i : Int32) (w0 : Value) (σ : Hs) : ru d 93 78 [l0, l1, l2, l3, l4] [.int i, .ref 78, w0] σ = gd (vp_in i 24) (ru d 93 79 [l0, l1, l2, l3, l4] [.int (σ 78 i.toNatClampNeg), w0] σ) := q_iald t93_78 rfl (by decide +kernel) rfl
theorem s93_78_o80 (d : Nat) (l0 : Value) (l1 : Value) (l2 : Value) (l3 : Value) (l4 : Value) (i : Int32) (w0 : Value) (σ : Hs) : ru d 93 78 [l0, l1, l2, l3, l4] [.int i, .ref 80, w0] σ = gd (vp_in i 24) (ru d 93 79 [l0, l1, l2, l3, l4] [.int (σ 80 i.toNatClampNeg), w0] σ) := q_iald t93_78 rfl (by decide +kernel) rfl
theorem s93_78_o82 (d : Nat) (l0 : Value) (l1 : Value) (l2 : Value) (l3 : Value) (l4 : Value) (i : Int32) (w0 : Value) (σ : Hs) : ru d 93 78 [l0, l1, l2, l3, l4] [.int i, .ref 82, w0] σ = gd (vp_in i 24) (ru d 93 79 [l0, l1, l2, l3, l4] [.int (σ 82 i.toNatClampNeg), w0] σ) := q_iald t93_78 rfl (by decide +kernel) rfl
theorem s93_78_o84 (d : Nat) (l0 : Value) (l1 : Value) (l2 : Value) (l3 : Value) (l4 : Value) (i : Int32) (w0 : Value) (σ : Hs) : ru d 93 78 [l0, l1, l2, l3, l4] [.int i, .ref 84, w0] σ = gd (vp_in i 24) (ru d 93 79 [l0, l1, l2, l3, l4] [.int (σ 84 i.toNatClampNeg), w0] σ) := q_iald t93_78 rfl (by decide +kernel) rfl
theorem t93_79 : decode (mb 93) 79 = .ok (.aload_n 3, 1) := by decide +kernel
theorem s93_79 (d : Nat) (l0 : Value) (l1 : Value) (l2 : Value) (a3 : Nat) (l4 : Value) (w0 w1 : Value) (σ : Hs) : ru d 93 79 [l0, l1, l2, .ref a3, l4] [w0, w1] σ = ru d 93 80 [l0, l1, l2, .ref a3, l4] [.ref a3, w0, w1] σ := q_aload_n t93_79 rfl
theorem t93_80 : decode (mb 93) 80 = .ok (.iload 4, 2) := by decide +kernel
theorem s93_80 (d : Nat) (l0 : Value) (l1 : Value) (l2 : Value) (l3 : Value) (i4 : Int32) (w0 w1 w2 : Value) (σ : Hs) : ru d 93 80 [l0, l1, l2, l3, .int i4] [w0, w1, w2] σ = ru d 93 82 [l0, l1, l2, l3, .int i4] [.int i4, w0, w1, w2] σ := q_iload t93_80 rfl
theorem t93_82 : decode (mb 93) 82 = .ok (.iconst 1, 1) := by decide +kernel
theorem s93_82 (d : Nat) (l0 : Value) (l1 : Value) (l2 : Value) (l3 : Value) (l4 : Value) (w0 w1 w2 w3 : Value) (σ : Hs) : ru d 93 82 [l0, l1, l2, l3, l4] [w0, w1, w2, w3] σ = ru d 93 83 [l0, l1, l2, l3, l4] [.int 1, w0, w1, w2, w3] σ := q_iconst t93_82 (by decide +kernel)
theorem t93_83 : decode (mb 93) 83 = .ok (.iadd, 1) := by decide +kernel
theorem s93_83 (d : Nat) (l0 : Value) (l1 : Value) (l2 : Value) (l3 : Value) (l4 : Value) (x y : Int32) (w0 w1 w2 : Value) (σ : Hs) : ru d 93 83 [l0, l1, l2, l3, l4] [.int y, .int x, w0, w1, w2] σ = ru d 93 84 [l0, l1, l2, l3, l4] [.int (x + y), w0, w1, w2] σ := q_iadd t93_83
theorem t93_84 : decode (mb 93) 84 = .ok (.iaload, 1) := by decide +kernel
theorem s93_84_o78 (d : Nat) (l0 : Value) (l1 : Value) (l2 : Value) (l3 : Value) (l4 : Value) (i : Int32) (w0 w1 : Value) (σ : Hs) : ru d 93 84 [l0, l1, l2, l3, l4] [.int i, .ref 78, w0, w1] σ = gd (vp_in i 24) (ru d 93 85 [l0, l1, l2, l3, l4] [.int (σ 78 i.toNatClampNeg), w0, w1] σ) := q_iald t93_84 rfl (by decide +kernel) rfl
theorem s93_84_o80 (d : Nat) (l0 : Value) (l1 : Value) (l2 : Value) (l3 : Value) (l4 : Value) (i : Int32) (w0 w1 : Value) (σ : Hs) : ru d 93 84 [l0, l1, l2, l3, l4] [.int i, .ref 80, w0, w1] σ = gd (vp_in i 24) (ru d 93 85 [l0, l1, l2, l3, l4] [.int (σ 80 i.toNatClampNeg), w0, w1] σ) := q_iald t93_84 rfl (by decide +kernel) rfl
theorem s93_84_o82 (d : Nat) (l0 : Value) (l1 : Value) (l2 : Value) (l3 : Value) (l4 : Value) (i : Int32) (w0 w1 : Value) (σ : Hs) : ru d 93 84 [l0, l1, l2, l3, l4] [.int i, .ref 82, w0, w1] σ = gd (vp_in i 24) (ru d 93 85 [l0, l1, l2, l3, l4] [.int (σ 82 i.toNatClampNeg), w0, w1] σ) := q_iald t93_84 rfl (by decide +kernel) rfl
theorem s93_84_o84 (d : Nat) (l0 : Value) (l1 : Value) (l2 : Value) (l3 : Value) (l4 : Value) (i : Int32) (w0 w1 : Value) (σ : Hs) : ru d 93 84 [l0, l1, l2, l3, l4] [.int i, .ref 84, w0, w1] σ = gd (vp_in i 24) (ru d 93 85 [l0, l1, l2, l3, l4] [.int (σ 84 i.toNatClampNeg), w0, w1] σ) := q_iald t93_84 rfl (by decide +kernel) rfl
theorem t93_85 : decode (mb 93) 85 = .ok (.aload_n 3, 1) := by decide +kernel
theorem s93_85 (d : Nat) (l0 : Value) (l1 : Value) (l2 : Value) (a3 : Nat) (l4 : Value) (w0 w1 w2 : Value) (σ : Hs) : ru d 93 85 [l0, l1, l2, .ref a3, l4] [w0, w1, w2] σ = ru d 93 86 [l0, l1, l2, .ref a3, l4] [.ref a3, w0, w1, w2] σ := q_aload_n t93_85 rfl
theorem t93_86 : decode (mb 93) 86 = .ok (.iload 4, 2) := by decide +kernel
theorem s93_86 (d : Nat) (l0 : Value) (l1 : Value) (l2 : Value) (l3 : Value) (i4 : Int32) (w0 w1 w2 w3 : Value) (σ : Hs) : ru d 93 86 [l0, l1, l2, l3, .int i4] [w0, w1, w2, w3] σ = ru d 93 88 [l0, l1, l2, l3, .int i4] [.int i4, w0, w1, w2, w3] σ := q_iload t93_86 rfl
theorem t93_88 : decode (mb 93) 88 = .ok (.iconst 2, 1) := by decide +kernel
theorem s93_88 (d : Nat) (l0 : Value) (l1 : Value) (l2 : Value) (l3 : Value) (l4 : Value) (w0 w1 w2 w3 w4 : Value) (σ : Hs) : ru d 93 88 [l0, l1, l2, l3, l4] [w0, w1, w2, w3, w4] σ = ru d 93 89 [l0, l1, l2, l3, l4] [.int 2, w0, w1, w2, w3, w4] σ := q_iconst t93_88 (by decide +kernel)
theorem t93_89 : decode (mb 93) 89 = .ok (.iadd, 1) := by decide +kernel
theorem s93_89 (d : Nat) (l0 : Value) (l1 : Value) (l2 : Value) (l3 : Value) (l4 : Value) (x y : Int32) (w0 w1 w2 w3 : Value) (σ : Hs) : ru d 93 89 [l0, l1, l2, l3, l4] [.int y, .int x, w0, w1, w2, w3] σ = ru d 93 90 [l0, l1, l2, l3, l4] [.int (x + y), w0, w1, w2, w3] σ := q_iadd t93_89
theorem t93_90 : decode (mb 93) 90 = .ok (.iaload, 1) := by decide +kernel
theorem s93_90_o78 (d : Nat) (l0 : Value) (l1 : Value) (l2 : Value) (l3 : Value) (l4 : Value) (i : Int32) (w0 w1 w2 : Value) (σ : Hs) : ru d 93 90 [l0, l1, l2, l3, l4] [.int i, .ref 78, w0, w1, w2] σ = gd (vp_in i 24) (ru d 93 91 [l0, l1, l2, l3, l4] [.int (σ 78 i.toNatClampNeg), w0, w1, w2] σ) := q_iald t93_90 rfl (by decide +kernel) rfl
theorem s93_90_o80 (d : Nat) (l0 : Value) (l1 : Value) (l2 : Value) (l3 : Value) (l4 : Value) (i : Int32) (w0 w1 w2 : Value) (σ : Hs) : ru d 93 90 [l0, l1, l2, l3, l4] [.int i, .ref 80, w0, w1, w2] σ = gd (vp_in i 24) (ru d 93 91 [l0, l1, l2, l3, l4] [.int (σ 80 i.toNatClampNeg), w0, w1, w2] σ) := q_iald t93_90 rfl (by decide +kernel) rfl
theorem s93_90_o82 (d : Nat) (l0 : Value) (l1 : Value) (l2 : Value) (l3 : Value) (l4 : Value) (i : Int32) (w0 w1 w2 : Value) (σ : Hs) : ru d 93 90 [l0, l1, l2, l3, l4] [.int i, .ref 82, w0, w1, w2] σ = gd (vp_in i 24) (ru d 93 91 [l0, l1, l2, l3, l4] [.int (σ 82 i.toNatClampNeg), w0, w1, w2] σ) := q_iald t93_90 rfl (by decide +kernel) rfl
theorem s93_90_o84 (d : Nat) (l0 : Value) (l1 : Value) (l2 : Value) (l3 : Value) (l4 : Value) (i : Int32) (w0 w1 w2 : Value) (σ : Hs) : ru d 93 90 [l0, l1, l2, l3, l4] [.int i, .ref 84, w0, w1, w2] σ = gd (vp_in i 24) (ru d 93 91 [l0, l1, l2, l3, l4] [.int (σ 84 i.toNatClampNeg), w0, w1, w2] σ) := q_iald t93_90 rfl (by decide +kernel) rfl
theorem t93_91 : decode (mb 93) 91 = .ok (.aload_n 3, 1) := by decide +kernel
theorem s93_91 (d : Nat) (l0 : Value) (l1 : Value) (l2 : Value) (a3 : Nat) (l4 : Value) (w0 w1 w2 w3 : Value) (σ : Hs) : ru d 93 91 [l0, l1, l2, .ref a3, l4] [w0, w1, w2, w3] σ = ru d 93 92 [l0, l1, l2, .ref a3, l4] [.ref a3, w0, w1, w2, w3] σ := q_aload_n t93_91 rfl
theorem t93_92 : decode (mb 93) 92 = .ok (.iload 4, 2) := by decide +kernel
theorem s93_92 (d : Nat) (l0 : Value) (l1 : Value) (l2 : Value) (l3 : Value) (i4 : Int32) (w0 w1 w2 w3 w4 : Value) (σ : Hs) : ru d 93 92 [l0, l1, l2, l3, .int i4] [w0, w1, w2, w3, w4] σ = ru d 93 94 [l0, l1, l2, l3, .int i4] [.int i4, w0, w1, w2, w3, w4] σ := q_iload t93_92 rfl
theorem t93_94 : decode (mb 93) 94 = .ok (.iconst 3, 1) := by decide +kernel
theorem s93_94 (d : Nat) (l0 : Value) (l1 : Value) (l2 : Value) (l3 : Value) (l4 : Value) (w0 w1 w2 w3 w4 w5 : Value) (σ : Hs) : ru d 93 94 [l0, l1, l2, l3, l4] [w0, w1, w2, w3, w4, w5] σ = ru d 93 95 [l0, l1, l2, l3, l4] [.int 3, w0, w1, w2, w3, w4, w5] σ := q_iconst t93_94 (by decide +kernel)
theorem t93_95 : decode (mb 93) 95 = .ok (.iadd, 1) := by decide +kernel
theorem s93_95 (d : Nat) (l0 : Value) (l1 : Value) (l2 : Value) (l3 : Value) (l4 : Value) (x y : Int32) (w0 w1 w2 w3 w4 : Value) (σ : Hs) : ru d 93 95 [l0, l1, l2, l3, l4] [.int y, .int x, w0, w1, w2, w3, w4] σ = ru d 93 96 [l0, l1, l2, l3, l4] [.int (x + y), w0, w1, w2, w3, w4] σ := q_iadd t93_95
theorem t93_96 : decode (mb 93) 96 = .ok (.iaload, 1) := by decide +kernel
theorem s93_96_o78 (d : Nat) (l0 : Value) (l1 : Value) (l2 : Value) (l3 : Value) (l4 : Value) (i : Int32) (w0 w1 w2 w3 : Value) (σ : Hs) : ru d 93 96 [l0, l1, l2, l3, l4] [.int i, .ref 78, w0, w1, w2, w3] σ = gd (vp_in i 24) (ru d 93 97 [l0, l1, l2, l3, l4] [.int (σ 78 i.toNatClampNeg), w0, w1, w2, w3] σ) := q_iald t93_96 rfl (by decide +kernel) rfl
theorem s93_96_o80 (d : Nat) (l0 : Value) (l1 : Value) (l2 : Value) (l3 : Value) (l4 : Value) (i : Int32) (w0 w1 w2 w3 : Value) (σ : Hs) : ru d 93 96 [l0, l1, l2, l3, l4] [.int i, .ref 80, w0, w1, w2, w3] σ = gd (vp_in i 24) (ru d 93 97 [l0, l1, l2, l3, l4] [.int (σ 80 i.toNatClampNeg), w0, w1, w2, w3] σ) := q_iald t93_96 rfl (by decide +kernel) rfl
theorem s93_96_o82 (d : Nat) (l0 : Value) (l1 : Value) (l2 : Value) (l3 : Value) (l4 : Value) (i : Int32) (w0 w1 w2 w3 : Value) (σ : Hs) : ru d 93 96 [l0, l1, l2, l3, l4] [.int i, .ref 82, w0, w1, w2, w3] σ = gd (vp_in i 24) (ru d 93 97 [l0, l1, l2, l3, l4] [.int (σ 82 i.toNatClampNeg), w0, w1, w2, w3] σ) := q_iald t93_96 rfl (by decide +kernel) rfl
theorem s93_96_o84 (d : Nat) (l0 : Value) (l1 : Value) (l2 : Value) (l3 : Value) (l4 : Value) (i : Int32) (w0 w1 w2 w3 : Value) (σ : Hs) : ru d 93 96 [l0, l1, l2, l3, l4] [.int i, .ref 84, w0, w1, w2, w3] σ = gd (vp_in i 24) (ru d 93 97 [l0, l1, l2, l3, l4] [.int (σ 84 i.toNatClampNeg), w0, w1, w2, w3] σ) := q_iald t93_96 rfl (by decide +kernel) rfl
theorem t93_97 : decode (mb 93) 97 = .ok (.invokevirtual 61, 3) := by decide +kernel
theorem s93_97_o2 (d : Nat) (l0 : Value) (l1 : Value) (l2 : Value) (l3 : Value) (l4 : Value) (v1 v2 v3 v4 : Value) (σ : Hs) : ru d 93 97 [l0, l1, l2, l3, l4] [v4, v3, v2, v1, .ref 2] σ = kont (callD d 2 [.ref 2, v1, v2, v3, v4] σ) d 93 100 [l0, l1, l2, l3, l4] [] := q_invv t93_97 mo93 K7_61 mj2 rfl rfl rfl rfl (Nat.le_of_ble_eq_true rfl)
theorem t93_100 : decode (mb 93) 100 = .ok (.ifCond .ge 5, 3) := by decide +kernel
theorem s93_100 (d : Nat) (l0 : Value) (l1 : Value) (l2 : Value) (l3 : Value) (l4 : Value) (x : Int32) (σ : Hs) : ru d 93 100 [l0, l1, l2, l3, l4] [.int x] σ = if 0 ≤ x then ru d 93 105 [l0, l1, l2, l3, l4] [] σ else ru d 93 103 [l0, l1, l2, l3, l4] [] σ := q_if_ge t93_100 (by decide +kernel)
theorem t93_103 : decode (mb 93) 103 = .ok (.iload_n 2, 1) := by decide +kernel
theorem s93_103 (d : Nat) (l0 : Value) (l1 : Value) (i2 : Int32) (l3 : Value) (l4 : Value) (σ : Hs) : ru d 93 103 [l0, l1, .int i2, l3, l4] [] σ = ru d 93 104 [l0, l1, .int i2, l3, l4] [.int i2] σ := q_iload_n t93_103 rfl
theorem t93_104 : decode (mb 93) 104 = .ok (.ireturn, 1) := by decide +kernel
theorem s93_104 (d : Nat) (l0 : Value) (l1 : Value) (l2 : Value) (l3 : Value) (l4 : Value) (x : Int32) (σ : Hs) : ru d 93 104 [l0, l1, l2, l3, l4] [.int x] σ = some (some (.int x), σ) := q_ireti t93_104 mr93
theorem t93_105 : decode (mb 93) 105 = .ok (.iinc 2 1, 3) := by decide +kernel
theorem s93_105 (d : Nat) (l0 : Value) (i1 : Int32) (i2 : Int32) (l3 : Value) (l4 : Value) (σ : Hs) : ru d 93 105 [l0, .int i1, .int i2, l3, l4] [] σ = ru d 93 108 [l0, .int i1, .int (i2 + 1), l3, l4] [] σ := q_iinc t93_105 ⟨Nat.le_of_ble_eq_true rfl, rfl⟩ rfl (by decide +kernel) rfl
theorem t93_108 : decode (mb 93) 108 = .ok (.iinc 4 4, 3) := by decide +kernel
theorem s93_108 (d : Nat) (l0 : Value) (l1 : Value) (l2 : Value) (a3 : Nat) (i4 : Int32) (σ : Hs) : ru d 93 108 [l0, l1, l2, .ref a3, .int i4] [] σ = ru d 93 111 [l0, l1, l2, .ref a3, .int (i4 + 4)] [] σ := q_iinc t93_108 ⟨Nat.le_of_ble_eq_true rfl, rfl⟩ rfl (by decide +kernel) rfl
theorem t93_111 : decode (mb 93) 111 = .ok (.goto (-65), 3) := by decide +kernel
theorem s93_111 (d : Nat) (l0 : Value) (l1 : Value) (l2 : Value) (l3 : Value) (l4 : Value) (σ : Hs) : ru d 93 111 [l0, l1, l2, l3, l4] [] σ = ru d 93 46 [l0, l1, l2, l3, l4] [] σ := q_goto t93_111 (by decide +kernel)
theorem t93_114 : decode (mb 93) 114 = .ok (.iload_n 2, 1) := by decide +kernel
theorem s93_114 (d : Nat) (l0 : Value) (l1 : Value) (i2 : Int32) (l3 : Value) (l4 : Value) (σ : Hs) : ru d 93 114 [l0, l1, .int i2, l3, l4] [] σ = ru d 93 115 [l0, l1, .int i2, l3, l4] [.int i2] σ := q_iload_n t93_114 rfl
theorem t93_115 : decode (mb 93) 115 = .ok (.ireturn, 1) := by decide +kernel
theorem s93_115 (d : Nat) (l0 : Value) (l1 : Value) (l2 : Value) (l3 : Value) (l4 : Value) (x : Int32) (σ : Hs) : ru d 93 115 [l0, l1, l2, l3, l4] [.int x] σ = some (some (.int x), σ) := q_ireti t93_115 mr93
theorem c93 (d : Nat) (x0 : Nat) (x1 : Int32) (σ : Hs) : callD (d + 1) 93 [.ref x0, .int x1] σ = ru d 93 0 [.ref x0, .int x1, uu, uu, uu] [] σ := callD_ru ml93 rfl rfl (Nat.le_of_ble_eq_true rfl)
-- 94: SmokyHeap.image()I
theorem t94_0 : decode (mb 94) 0 = .ok (.aload_n 0, 1) := by decide +kernel
theorem s94_0 (d : Nat) (a0 : Nat) (σ : Hs) : ru d 94 0 [.ref a0] [] σ = ru d 94 1 [.ref a0] [.ref a0] σ := q_aload_n t94_0 rfl
theorem t94_1 : decode (mb 94) 1 = .ok (.getfield 16, 3) := by decide +kernel
theorem s94_1_o0 (d : Nat) (l0 : Value) (σ : Hs) : ru d 94 1 [l0] [.ref 0] σ = ru d 94 4 [l0] [.ref 30] σ := q_getf t94_1 mo94 F7_16 rfl rfl
theorem t94_4 : decode (mb 94) 4 = .ok (.aload_n 0, 1) := by decide +kernel
theorem s94_4 (d : Nat) (a0 : Nat) (w0 : Value) (σ : Hs) : ru d 94 4 [.ref a0] [w0] σ = ru d 94 5 [.ref a0] [.ref a0, w0] σ := q_aload_n t94_4 rfl
theorem t94_5 : decode (mb 94) 5 = .ok (.getfield 10, 3) := by decide +kernel
theorem s94_5_o0 (d : Nat) (l0 : Value) (w0 : Value) (σ : Hs) : ru d 94 5 [l0] [.ref 0, w0] σ = ru d 94 8 [l0] [.ref 1, w0] σ := q_getf t94_5 mo94 F7_10 rfl rfl
theorem t94_8 : decode (mb 94) 8 = .ok (.invokevirtual 278, 3) := by decide +kernel
theorem s94_8_o30 (d : Nat) (l0 : Value) (v1 : Value) (σ : Hs) : ru d 94 8 [l0] [v1, .ref 30] σ = kont (callD d 51 [.ref 30, v1] σ) d 94 11 [l0] [] := q_invv t94_8 mo94 K7_278 mj51 rfl rfl rfl rfl (Nat.le_of_ble_eq_true rfl)
theorem t94_11 : decode (mb 94) 11 = .ok (.aload_n 0, 1) := by decide +kernel
theorem s94_11 (d : Nat) (a0 : Nat) (σ : Hs) : ru d 94 11 [.ref a0] [] σ = ru d 94 12 [.ref a0] [.ref a0] σ := q_aload_n t94_11 rfl
theorem t94_12 : decode (mb 94) 12 = .ok (.dup, 1) := by decide +kernel
theorem s94_12 (d : Nat) (l0 : Value) (x : Nat) (σ : Hs) : ru d 94 12 [l0] [.ref x] σ = ru d 94 13 [l0] [.ref x, .ref x] σ := q_dup t94_12 rfl
theorem t94_13 : decode (mb 94) 13 = .ok (.getfield 54, 3) := by decide +kernel
theorem s94_13_o0 (d : Nat) (l0 : Value) (w0 : Value) (σ : Hs) : ru d 94 13 [l0] [.ref 0, w0] σ = ru d 94 16 [l0] [.int (σ 0 8), w0] σ := q_getf t94_13 mo94 F7_54 rfl rfl
theorem t94_16 : decode (mb 94) 16 = .ok (.iconst 1, 1) := by decide +kernel
theorem s94_16 (d : Nat) (l0 : Value) (w0 w1 : Value) (σ : Hs) : ru d 94 16 [l0] [w0, w1] σ = ru d 94 17 [l0] [.int 1, w0, w1] σ := q_iconst t94_16 (by decide +kernel)
theorem t94_17 : decode (mb 94) 17 = .ok (.iadd, 1) := by decide +kernel
theorem s94_17 (d : Nat) (l0 : Value) (x y : Int32) (w0 : Value) (σ : Hs) : ru d 94 17 [l0] [.int y, .int x, w0] σ = ru d 94 18 [l0] [.int (x + y), w0] σ := q_iadd t94_17
theorem t94_18 : decode (mb 94) 18 = .ok (.putfield 54, 3) := by decide +kernel
theorem s94_18_o0 (d : Nat) (l0 : Value) (x : Int32) (σ : Hs) : ru d 94 18 [l0] [.int x, .ref 0] σ = ru d 94 21 [l0] [] (up2 σ 0 8 x) := q_puti t94_18 mo94 F7_54 (by decide +kernel) rfl rfl
theorem t94_21 : decode (mb 94) 21 = .ok (.aload_n 0, 1) := by decide +kernel
theorem s94_21 (d : Nat) (a0 : Nat) (σ : Hs) : ru d 94 21 [.ref a0] [] σ = ru d 94 22 [.ref a0] [.ref a0] σ := q_aload_n t94_21 rfl
theorem t94_22 : decode (mb 94) 22 = .ok (.getfield 54, 3) := by decide +kernel
theorem s94_22_o0 (d : Nat) (l0 : Value) (σ : Hs) : ru d 94 22 [l0] [.ref 0] σ = ru d 94 25 [l0] [.int (σ 0 8)] σ := q_getf t94_22 mo94 F7_54 rfl rfl
theorem t94_25 : decode (mb 94) 25 = .ok (.ireturn, 1) := by decide +kernel
theorem s94_25 (d : Nat) (l0 : Value) (x : Int32) (σ : Hs) : ru d 94 25 [l0] [.int x] σ = some (some (.int x), σ) := q_ireti t94_25 mr94
theorem c94 (d : Nat) (x0 : Nat) (σ : Hs) : callD (d + 1) 94 [.ref x0] σ = ru d 94 0 [.ref x0] [] σ := callD_ru ml94 rfl rfl (Nat.le_of_ble_eq_true rfl)
-- 95: SmokyHeap.restore()I
theorem t95_0 : decode (mb 95) 0 = .ok (.aload_n 0, 1) := by decide +kernel
theorem s95_0 (d : Nat) (a0 : Nat) (σ : Hs) : ru d 95 0 [.ref a0] [] σ = ru d 95 1 [.ref a0] [.ref a0] σ := q_aload_n t95_0 rfl
theorem t95_1 : decode (mb 95) 1 = .ok (.getfield 54, 3) := by decide +kernel
theorem s95_1_o0 (d : Nat) (l0 : Value) (σ : Hs) : ru d 95 1 [l0] [.ref 0] σ = ru d 95 4 [l0] [.int (σ 0 8)] σ := q_getf t95_1 mo95 F7_54 rfl rfl
theorem t95_4 : decode (mb 95) 4 = .ok (.ifCond .ne 9, 3) := by decide +kernel
theorem s95_4 (d : Nat) (l0 : Value) (x : Int32) (σ : Hs) : ru d 95 4 [l0] [.int x] σ = if x = 0 then ru d 95 7 [l0] [] σ else ru d 95 13 [l0] [] σ := q_if_ne t95_4 (by decide +kernel)
theorem t95_7 : decode (mb 95) 7 = .ok (.aload_n 0, 1) := by decide +kernel
theorem s95_7 (d : Nat) (a0 : Nat) (σ : Hs) : ru d 95 7 [.ref a0] [] σ = ru d 95 8 [.ref a0] [.ref a0] σ := q_aload_n t95_7 rfl
theorem t95_8 : decode (mb 95) 8 = .ok (.iconst 2, 1) := by decide +kernel
theorem s95_8 (d : Nat) (l0 : Value) (w0 : Value) (σ : Hs) : ru d 95 8 [l0] [w0] σ = ru d 95 9 [l0] [.int 2, w0] σ := q_iconst t95_8 (by decide +kernel)
theorem t95_9 : decode (mb 95) 9 = .ok (.invokevirtual 65, 3) := by decide +kernel
theorem s95_9_o0 (d : Nat) (l0 : Value) (v1 : Value) (σ : Hs) : ru d 95 9 [l0] [v1, .ref 0] σ = kont (callD d 100 [.ref 0, v1] σ) d 95 12 [l0] [] := q_invv t95_9 mo95 K7_65 mj100 rfl rfl rfl rfl (Nat.le_of_ble_eq_true rfl)
theorem t95_12 : decode (mb 95) 12 = .ok (.ireturn, 1) := by decide +kernel
theorem s95_12 (d : Nat) (l0 : Value) (x : Int32) (σ : Hs) : ru d 95 12 [l0] [.int x] σ = some (some (.int x), σ) := q_ireti t95_12 mr95
theorem t95_13 : decode (mb 95) 13 = .ok (.aload_n 0, 1) := by decide +kernel
theorem s95_13 (d : Nat) (a0 : Nat) (σ : Hs) : ru d 95 13 [.ref a0] [] σ = ru d 95 14 [.ref a0] [.ref a0] σ := q_aload_n t95_13 rfl
theorem t95_14 : decode (mb 95) 14 = .ok (.getfield 10, 3) := by decide +kernel
theorem s95_14_o0 (d : Nat) (l0 : Value) (σ : Hs) : ru d 95 14 [l0] [.ref 0] σ = ru d 95 17 [l0] [.ref 1] σ := q_getf t95_14 mo95 F7_10 rfl rfl
theorem t95_17 : decode (mb 95) 17 = .ok (.aload_n 0, 1) := by decide +kernel
theorem s95_17 (d : Nat) (a0 : Nat) (w0 : Value) (σ : Hs) : ru d 95 17 [.ref a0] [w0] σ = ru d 95 18 [.ref a0] [.ref a0, w0] σ := q_aload_n t95_17 rfl
theorem t95_18 : decode (mb 95) 18 = .ok (.getfield 16, 3) := by decide +kernel
theorem s95_18_o0 (d : Nat) (l0 : Value) (w0 : Value) (σ : Hs) : ru d 95 18 [l0] [.ref 0, w0] σ = ru d 95 21 [l0] [.ref 30, w0] σ := q_getf t95_18 mo95 F7_16 rfl rfl
theorem t95_21 : decode (mb 95) 21 = .ok (.invokevirtual 278, 3) := by decide +kernel
theorem s95_21_o1 (d : Nat) (l0 : Value) (v1 : Value) (σ : Hs) : ru d 95 21 [l0] [v1, .ref 1] σ = kont (callD d 51 [.ref 1, v1] σ) d 95 24 [l0] [] := q_invv t95_21 mo95 K7_278 mj51 rfl rfl rfl rfl (Nat.le_of_ble_eq_true rfl)
theorem t95_24 : decode (mb 95) 24 = .ok (.aload_n 0, 1) := by decide +kernel
theorem s95_24 (d : Nat) (a0 : Nat) (σ : Hs) : ru d 95 24 [.ref a0] [] σ = ru d 95 25 [.ref a0] [.ref a0] σ := q_aload_n t95_24 rfl
theorem t95_25 : decode (mb 95) 25 = .ok (.getfield 10, 3) := by decide +kernel
theorem s95_25_o0 (d : Nat) (l0 : Value) (σ : Hs) : ru d 95 25 [l0] [.ref 0] σ = ru d 95 28 [l0] [.ref 1] σ := q_getf t95_25 mo95 F7_10 rfl rfl
theorem t95_28 : decode (mb 95) 28 = .ok (.getfield 58, 3) := by decide +kernel
theorem s95_28_o1 (d : Nat) (l0 : Value) (σ : Hs) : ru d 95 28 [l0] [.ref 1] σ = ru d 95 31 [l0] [.ref 2] σ := q_getf t95_28 mo95 F7_58 rfl rfl
theorem t95_31 : decode (mb 95) 31 = .ok (.getfield 164, 3) := by decide +kernel
theorem s95_31_o2 (d : Nat) (l0 : Value) (σ : Hs) : ru d 95 31 [l0] [.ref 2] σ = ru d 95 34 [l0] [.int (σ 2 13)] σ := q_getf t95_31 mo95 F7_164 rfl rfl
theorem t95_34 : decode (mb 95) 34 = .ok (.ireturn, 1) := by decide +kernel
theorem s95_34 (d : Nat) (l0 : Value) (x : Int32) (σ : Hs) : ru d 95 34 [l0] [.int x] σ = some (some (.int x), σ) := q_ireti t95_34 mr95
theorem c95 (d : Nat) (x0 : Nat) (σ : Hs) : callD (d + 1) 95 [.ref x0] σ = ru d 95 0 [.ref x0] [] σ := callD_ru ml95 rfl rfl (Nat.le_of_ble_eq_true rfl)
-- 96: SmokyHeap.tell(I)I
theorem t96_0 : decode (mb 96) 0 = .ok (.aload_n 0, 1) := by decide +kernel
theorem s96_0 (d : Nat) (a0 : Nat) (l1 : Value) (σ : Hs) : ru d 96 0 [.ref a0, l1] [] σ = ru d 96 1 [.ref a0, l1] [.ref a0] σ := q_aload_n t96_0 rfl
theorem t96_1 : decode (mb 96) 1 = .ok (.getfield 10, 3) := by decide +kernel
theorem s96_1_o0 (d : Nat) (l0 : Value) (l1 : Value) (σ : Hs) : ru d 96 1 [l0, l1] [.ref 0] σ = ru d 96 4 [l0, l1] [.ref 1] σ := q_getf t96_1 mo96 F7_10 rfl rfl
theorem t96_4 : decode (mb 96) 4 = .ok (.getfield 281, 3) := by decide +kernel
theorem s96_4_o1 (d : Nat) (l0 : Value) (l1 : Value) (σ : Hs) : ru d 96 4 [l0, l1] [.ref 1] σ = ru d 96 7 [l0, l1] [.ref 28] σ := q_getf t96_4 mo96 F7_281 rfl rfl
theorem t96_7 : decode (mb 96) 7 = .ok (.iload_n 1, 1) := by decide +kernel
theorem s96_7 (d : Nat) (l0 : Value) (i1 : Int32) (w0 : Value) (σ : Hs) : ru d 96 7 [l0, .int i1] [w0] σ = ru d 96 8 [l0, .int i1] [.int i1, w0] σ := q_iload_n t96_7 rfl
theorem t96_8 : decode (mb 96) 8 = .ok (.invokevirtual 136, 3) := by decide +kernel
theorem s96_8_o28 (d : Nat) (l0 : Value) (l1 : Value) (v1 : Value) (σ : Hs) : ru d 96 8 [l0, l1] [v1, .ref 28] σ = kont (callD d 45 [.ref 28, v1] σ) d 96 11 [l0, l1] [] := q_invv t96_8 mo96 K7_136 mj45 rfl rfl rfl rfl (Nat.le_of_ble_eq_true rfl)
theorem t96_11 : decode (mb 96) 11 = .ok (.ifCond .eq 16, 3) := by decide +kernel
theorem s96_11 (d : Nat) (l0 : Value) (l1 : Value) (x : Int32) (σ : Hs) : ru d 96 11 [l0, l1] [.int x] σ = if x = 0 then ru d 96 27 [l0, l1] [] σ else ru d 96 14 [l0, l1] [] σ := q_if_eq t96_11 (by decide +kernel)
theorem t96_14 : decode (mb 96) 14 = .ok (.aload_n 0, 1) := by decide +kernel
theorem s96_14 (d : Nat) (a0 : Nat) (l1 : Value) (σ : Hs) : ru d 96 14 [.ref a0, l1] [] σ = ru d 96 15 [.ref a0, l1] [.ref a0] σ := q_aload_n t96_14 rfl
theorem t96_15 : decode (mb 96) 15 = .ok (.getfield 10, 3) := by decide +kernel
theorem s96_15_o0 (d : Nat) (l0 : Value) (l1 : Value) (σ : Hs) : ru d 96 15 [l0, l1] [.ref 0] σ = ru d 96 18 [l0, l1] [.ref 1] σ := q_getf t96_15 mo96 F7_10 rfl rfl
theorem t96_18 : decode (mb 96) 18 = .ok (.getfield 281, 3) := by decide +kernel
theorem s96_18_o1 (d : Nat) (l0 : Value) (l1 : Value) (σ : Hs) : ru d 96 18 [l0, l1] [.ref 1] σ = ru d 96 21 [l0, l1] [.ref 28] σ := q_getf t96_18 mo96 F7_281 rfl rfl
theorem t96_21 : decode (mb 96) 21 = .ok (.getfield 131, 3) := by decide +kernel
theorem s96_21_o28 (d : Nat) (l0 : Value) (l1 : Value) (σ : Hs) : ru d 96 21 [l0, l1] [.ref 28] σ = ru d 96 24 [l0, l1] [.int (σ 28 1)] σ := q_getf t96_21 mo96 F7_131 rfl rfl
theorem t96_24 : decode (mb 96) 24 = .ok (.goto 8, 3) := by decide +kernel
theorem s96_24 (d : Nat) (l0 : Value) (l1 : Value) (w0 : Value) (σ : Hs) : ru d 96 24 [l0, l1] [w0] σ = ru d 96 32 [l0, l1] [w0] σ := q_goto t96_24 (by decide +kernel)
theorem t96_27 : decode (mb 96) 27 = .ok (.aload_n 0, 1) := by decide +kernel
theorem s96_27 (d : Nat) (a0 : Nat) (l1 : Value) (σ : Hs) : ru d 96 27 [.ref a0, l1] [] σ = ru d 96 28 [.ref a0, l1] [.ref a0] σ := q_aload_n t96_27 rfl
theorem t96_28 : decode (mb 96) 28 = .ok (.iconst 4, 1) := by decide +kernel
theorem s96_28 (d : Nat) (l0 : Value) (l1 : Value) (w0 : Value) (σ : Hs) : ru d 96 28 [l0, l1] [w0] σ = ru d 96 29 [l0, l1] [.int 4, w0] σ := q_iconst t96_28 (by decide +kernel)
theorem t96_29 : decode (mb 96) 29 = .ok (.invokevirtual 65, 3) := by decide +kernel
theorem s96_29_o0 (d : Nat) (l0 : Value) (l1 : Value) (v1 : Value) (σ : Hs) : ru d 96 29 [l0, l1] [v1, .ref 0] σ = kont (callD d 100 [.ref 0, v1] σ) d 96 32 [l0, l1] [] := q_invv t96_29 mo96 K7_65 mj100 rfl rfl rfl rfl (Nat.le_of_ble_eq_true rfl)
theorem t96_32 : decode (mb 96) 32 = .ok (.ireturn, 1) := by decide +kernel
theorem s96_32 (d : Nat) (l0 : Value) (l1 : Value) (x : Int32) (σ : Hs) : ru d 96 32 [l0, l1] [.int x] σ = some (some (.int x), σ) := q_ireti t96_32 mr96
theorem c96 (d : Nat) (x0 : Nat) (x1 : Int32) (σ : Hs) : callD (d + 1) 96 [.ref x0, .int x1] σ = ru d 96 0 [.ref x0, .int x1] [] σ := callD_ru ml96 rfl rfl (Nat.le_of_ble_eq_true rfl)
-- 97: SmokyHeap.check(I)I
theorem t97_0 : decode (mb 97) 0 = .ok (.aload_n 0, 1) := by decide +kernel
theorem s97_0 (d : Nat) (a0 : Nat) (l1 : Value) (l2 : Value) (l3 : Value) (l4 : Value) (l5 : Value) (σ : Hs) : ru d 97 0 [.ref a0, l1, l2, l3, l4, l5] [] σ = ru d 97 1 [.ref a0, l1, l2, l3, l4, l5] [.ref a0] σ := q_aload_n t97_0 rfl
theorem t97_1 : decode (mb 97) 1 = .ok (.getfield 10, 3) := by decide +kernel
theorem s97_1_o0 (d : Nat) (l0 : Value) (l1 : Value) (l2 : Value) (l3 : Value) (l4 : Value) (l5 : Value) (σ : Hs) : ru d 97 1 [l0, l1, l2, l3, l4, l5] [.ref 0] σ = ru d 97 4 [l0, l1, l2, l3, l4, l5] [.ref 1] σ := q_getf t97_1 mo97 F7_10 rfl rfl
theorem t97_4 : decode (mb 97) 4 = .ok (.getfield 281, 3) := by decide +kernel
theorem s97_4_o1 (d : Nat) (l0 : Value) (l1 : Value) (l2 : Value) (l3 : Value) (l4 : Value) (l5 : Value) (σ : Hs) : ru d 97 4 [l0, l1, l2, l3, l4, l5] [.ref 1] σ = ru d 97 7 [l0, l1, l2, l3, l4, l5] [.ref 28] σ := q_getf t97_4 mo97 F7_281 rfl rfl
theorem t97_7 : decode (mb 97) 7 = .ok (.getfield 131, 3) := by decide +kernel
theorem s97_7_o28 (d : Nat) (l0 : Value) (l1 : Value) (l2 : Value) (l3 : Value) (l4 : Value) (l5 : Value) (σ : Hs) : ru d 97 7 [l0, l1, l2, l3, l4, l5] [.ref 28] σ = ru d 97 10 [l0, l1, l2, l3, l4, l5] [.int (σ 28 1)] σ := q_getf t97_7 mo97 F7_131 rfl rfl
theorem t97_10 : decode (mb 97) 10 = .ok (.istore_n 2, 1) := by decide +kernel
theorem s97_10 (d : Nat) (l0 : Value) (i1 : Int32) (l2 : Value) (l3 : Value) (l4 : Value) (l5 : Value) (x : Int32) (σ : Hs) : ru d 97 10 [l0, .int i1, l2, l3, l4, l5] [.int x] σ = ru d 97 11 [l0, .int i1, .int x, l3, l4, l5] [] σ := q_istore_n t97_10 ⟨Nat.le_of_ble_eq_true rfl, rfl⟩ rfl
theorem t97_11 : decode (mb 97) 11 = .ok (.aload_n 0, 1) := by decide +kernel
theorem s97_11 (d : Nat) (a0 : Nat) (l1 : Value) (l2 : Value) (l3 : Value) (l4 : Value) (l5 : Value) (σ : Hs) : ru d 97 11 [.ref a0, l1, l2, l3, l4, l5] [] σ = ru d 97 12 [.ref a0, l1, l2, l3, l4, l5] [.ref a0] σ := q_aload_n t97_11 rfl
theorem t97_12 : decode (mb 97) 12 = .ok (.getfield 10, 3) := by decide +kernel
theorem s97_12_o0 (d : Nat) (l0 : Value) (l1 : Value) (l2 : Value) (l3 : Value) (l4 : Value) (l5 : Value) (σ : Hs) : ru d 97 12 [l0, l1, l2, l3, l4, l5] [.ref 0] σ = ru d 97 15 [l0, l1, l2, l3, l4, l5] [.ref 1] σ := q_getf t97_12 mo97 F7_10 rfl rfl
theorem t97_15 : decode (mb 97) 15 = .ok (.getfield 281, 3) := by decide +kernel
theorem s97_15_o1 (d : Nat) (l0 : Value) (l1 : Value) (l2 : Value) (l3 : Value) (l4 : Value) (l5 : Value) (σ : Hs) : ru d 97 15 [l0, l1, l2, l3, l4, l5] [.ref 1] σ = ru d 97 18 [l0, l1, l2, l3, l4, l5] [.ref 28] σ := q_getf t97_15 mo97 F7_281 rfl rfl
theorem t97_18 : decode (mb 97) 18 = .ok (.iconst 0, 1) := by decide +kernel
theorem s97_18 (d : Nat) (l0 : Value) (l1 : Value) (l2 : Value) (l3 : Value) (l4 : Value) (l5 : Value) (w0 : Value) (σ : Hs) : ru d 97 18 [l0, l1, l2, l3, l4, l5] [w0] σ = ru d 97 19 [l0, l1, l2, l3, l4, l5] [.int 0, w0] σ := q_iconst t97_18 (by decide +kernel)
theorem t97_19 : decode (mb 97) 19 = .ok (.putfield 131, 3) := by decide +kernel
theorem s97_19_o28 (d : Nat) (l0 : Value) (l1 : Value) (l2 : Value) (l3 : Value) (l4 : Value) (l5 : Value) (x : Int32) (σ : Hs) : ru d 97 19 [l0, l1, l2, l3, l4, l5] [.int x, .ref 28] σ = ru d 97 22 [l0, l1, l2, l3, l4, l5] [] (up2 σ 28 1 x) := q_puti t97_19 mo97 F7_131 (by decide +kernel) rfl rfl
theorem t97_22 : decode (mb 97) 22 = .ok (.iload_n 1, 1) := by decide +kernel
theorem s97_22 (d : Nat) (l0 : Value) (i1 : Int32) (l2 : Value) (l3 : Value) (l4 : Value) (l5 : Value) (σ : Hs) : ru d 97 22 [l0, .int i1, l2, l3, l4, l5] [] σ = ru d 97 23 [l0, .int i1, l2, l3, l4, l5] [.int i1] σ := q_iload_n t97_22 rfl
theorem t97_23 : decode (mb 97) 23 = .ok (.iconst 0, 1) := by decide +kernel
theorem s97_23 (d : Nat) (l0 : Value) (l1 : Value) (l2 : Value) (l3 : Value) (l4 : Value) (l5 : Value) (w0 : Value) (σ : Hs) : ru d 97 23 [l0, l1, l2, l3, l4, l5] [w0] σ = ru d 97 24 [l0, l1, l2, l3, l4, l5] [.int 0, w0] σ := q_iconst t97_23 (by decide +kernel)
theorem t97_24 : decode (mb 97) 24 = .ok (.iconst 5, 1) := by decide +kernel
theorem s97_24 (d : Nat) (l0 : Value) (l1 : Value) (l2 : Value) (l3 : Value) (l4 : Value) (l5 : Value) (w0 w1 : Value) (σ : Hs) : ru d 97 24 [l0, l1, l2, l3, l4, l5] [w0, w1] σ = ru d 97 25 [l0, l1, l2, l3, l4, l5] [.int 5, w0, w1] σ := q_iconst t97_24 (by decide +kernel)
theorem t97_25 : decode (mb 97) 25 = .ok (.invokestatic 83, 3) := by decide +kernel
theorem s97_25 (d : Nat) (l0 : Value) (l1 : Value) (l2 : Value) (l3 : Value) (l4 : Value) (l5 : Value) (v0 v1 v2 : Value) (σ : Hs) : ru d 97 25 [l0, l1, l2, l3, l4, l5] [v2, v1, v0] σ = kont (callD d 103 [v0, v1, v2] σ) d 97 28 [l0, l1, l2, l3, l4, l5] [] := q_invs t97_25 mo97 (by decide +kernel) K7_83 mj103 (Nat.le_of_ble_eq_true rfl) rfl rfl (Nat.le_of_ble_eq_true rfl)
theorem t97_28 : decode (mb 97) 28 = .ok (.ifCond .ne 9, 3) := by decide +kernel
theorem s97_28 (d : Nat) (l0 : Value) (l1 : Value) (l2 : Value) (l3 : Value) (l4 : Value) (l5 : Value) (x : Int32) (σ : Hs) : ru d 97 28 [l0, l1, l2, l3, l4, l5] [.int x] σ = if x = 0 then ru d 97 31 [l0, l1, l2, l3, l4, l5] [] σ else ru d 97 37 [l0, l1, l2, l3, l4, l5] [] σ := q_if_ne t97_28 (by decide +kernel)
theorem t97_31 : decode (mb 97) 31 = .ok (.aload_n 0, 1) := by decide +kernel
theorem s97_31 (d : Nat) (a0 : Nat) (l1 : Value) (l2 : Value) (l3 : Value) (l4 : Value) (l5 : Value) (σ : Hs) : ru d 97 31 [.ref a0, l1, l2, l3, l4, l5] [] σ = ru d 97 32 [.ref a0, l1, l2, l3, l4, l5] [.ref a0] σ := q_aload_n t97_31 rfl
theorem t97_32 : decode (mb 97) 32 = .ok (.iconst 1, 1) := by decide +kernel
theorem s97_32 (d : Nat) (l0 : Value) (l1 : Value) (l2 : Value) (l3 : Value) (l4 : Value) (l5 : Value) (w0 : Value) (σ : Hs) : ru d 97 32 [l0, l1, l2, l3, l4, l5] [w0] σ = ru d 97 33 [l0, l1, l2, l3, l4, l5] [.int 1, w0] σ := q_iconst t97_32 (by decide +kernel)
theorem t97_33 : decode (mb 97) 33 = .ok (.invokevirtual 65, 3) := by decide +kernel
theorem s97_33_o0 (d : Nat) (l0 : Value) (l1 : Value) (l2 : Value) (l3 : Value) (l4 : Value) (l5 : Value) (v1 : Value) (σ : Hs) : ru d 97 33 [l0, l1, l2, l3, l4, l5] [v1, .ref 0] σ = kont (callD d 100 [.ref 0, v1] σ) d 97 36 [l0, l1, l2, l3, l4, l5] [] := q_invv t97_33 mo97 K7_65 mj100 rfl rfl rfl rfl (Nat.le_of_ble_eq_true rfl)
theorem t97_36 : decode (mb 97) 36 = .ok (.ireturn, 1) := by decide +kernel
theorem s97_36 (d : Nat) (l0 : Value) (l1 : Value) (l2 : Value) (l3 : Value) (l4 : Value) (l5 : Value) (x : Int32) (σ : Hs) : ru d 97 36 [l0, l1, l2, l3, l4, l5] [.int x] σ = some (some (.int x), σ) := q_ireti t97_36 mr97
theorem t97_37 : decode (mb 97) 37 = .ok (.aload_n 0, 1) := by decide +kernel
theorem s97_37 (d : Nat) (a0 : Nat) (l1 : Value) (l2 : Value) (l3 : Value) (l4 : Value) (l5 : Value) (σ : Hs) : ru d 97 37 [.ref a0, l1, l2, l3, l4, l5] [] σ = ru d 97 38 [.ref a0, l1, l2, l3, l4, l5] [.ref a0] σ := q_aload_n t97_37 rfl
theorem t97_38 : decode (mb 97) 38 = .ok (.getfield 10, 3) := by decide +kernel
theorem s97_38_o0 (d : Nat) (l0 : Value) (l1 : Value) (l2 : Value) (l3 : Value) (l4 : Value) (l5 : Value) (σ : Hs) : ru d 97 38 [l0, l1, l2, l3, l4, l5] [.ref 0] σ = ru d 97 41 [l0, l1, l2, l3, l4, l5] [.ref 1] σ := q_getf t97_38 mo97 F7_10 rfl rfl
theorem t97_41 : decode (mb 97) 41 = .ok (.getfield 58, 3) := by decide +kernel
theorem s97_41_o1 (d : Nat) (l0 : Value) (l1 : Value) (l2 : Value) (l3 : Value) (l4 : Value) (l5 : Value) (σ : Hs) : ru d 97 41 [l0, l1, l2, l3, l4, l5] [.ref 1] σ = ru d 97 44 [l0, l1, l2, l3, l4, l5] [.ref 2] σ := q_getf t97_41 mo97 F7_58 rfl rfl
theorem t97_44 : decode (mb 97) 44 = .ok (.iload_n 1, 1) := by decide +kernel
theorem s97_44 (d : Nat) (l0 : Value) (i1 : Int32) (l2 : Value) (l3 : Value) (l4 : Value) (l5 : Value) (w0 : Value) (σ : Hs) : ru d 97 44 [l0, .int i1, l2, l3, l4, l5] [w0] σ = ru d 97 45 [l0, .int i1, l2, l3, l4, l5] [.int i1, w0] σ := q_iload_n t97_44 rfl
theorem t97_45 : decode (mb 97) 45 = .ok (.invokevirtual 284, 3) := by decide +kernel
theorem s97_45_o2 (d : Nat) (l0 : Value) (l1 : Value) (l2 : Value) (l3 : Value) (l4 : Value) (l5 : Value) (v1 : Value) (σ : Hs) : ru d 97 45 [l0, l1, l2, l3, l4, l5] [v1, .ref 2] σ = kont (callD d 4 [.ref 2, v1] σ) d 97 48 [l0, l1, l2, l3, l4, l5] [] := q_invv t97_45 mo97 K7_284 mj4 rfl rfl rfl rfl (Nat.le_of_ble_eq_true rfl)
theorem t97_48 : decode (mb 97) 48 = .ok (.istore_n 3, 1) := by decide +kernel
theorem s97_48 (d : Nat) (l0 : Value) (l1 : Value) (i2 : Int32) (l3 : Value) (l4 : Value) (l5 : Value) (x : Int32) (σ : Hs) : ru d 97 48 [l0, l1, .int i2, l3, l4, l5] [.int x] σ = ru d 97 49 [l0, l1, .int i2, .int x, l4, l5] [] σ := q_istore_n t97_48 ⟨Nat.le_of_ble_eq_true rfl, rfl⟩ rfl
theorem t97_49 : decode (mb 97) 49 = .ok (.iload_n 2, 1) := by decide +kernel
theorem s97_49 (d : Nat) (l0 : Value) (l1 : Value) (i2 : Int32) (l3 : Value) (l4 : Value) (l5 : Value) (σ : Hs) : ru d 97 49 [l0, l1, .int i2, l3, l4, l5] [] σ = ru d 97 50 [l0, l1, .int i2, l3, l4, l5] [.int i2] σ := q_iload_n t97_49 rfl
theorem t97_50 : decode (mb 97) 50 = .ok (.iload_n 3, 1) := by decide +kernel
theorem s97_50 (d : Nat) (l0 : Value) (l1 : Value) (l2 : Value) (i3 : Int32) (l4 : Value) (l5 : Value) (w0 : Value) (σ : Hs) : ru d 97 50 [l0, l1, l2, .int i3, l4, l5] [w0] σ = ru d 97 51 [l0, l1, l2, .int i3, l4, l5] [.int i3, w0] σ := q_iload_n t97_50 rfl
theorem t97_51 : decode (mb 97) 51 = .ok (.invokestatic 287, 3) := by decide +kernel
theorem s97_51 (d : Nat) (l0 : Value) (l1 : Value) (l2 : Value) (l3 : Value) (l4 : Value) (l5 : Value) (x y : Int32) (σ : Hs) : ru d 97 51 [l0, l1, l2, l3, l4, l5] [.int y, .int x] σ = ru d 97 54 [l0, l1, l2, l3, l4, l5] [.int (jmin x y)] σ := q_mi t97_51 mo97 (by decide +kernel) (by decide +kernel) (by decide +kernel) (Nat.le_of_ble_eq_true rfl)
theorem t97_54 : decode (mb 97) 54 = .ok (.istore 4, 2) := by decide +kernel
theorem s97_54 (d : Nat) (l0 : Value) (l1 : Value) (l2 : Value) (i3 : Int32) (l4 : Value) (l5 : Value) (x : Int32) (σ : Hs) : ru d 97 54 [l0, l1, l2, .int i3, l4, l5] [.int x] σ = ru d 97 56 [l0, l1, l2, .int i3, .int x, l5] [] σ := q_istore t97_54 ⟨Nat.le_of_ble_eq_true rfl, rfl⟩ rfl
theorem t97_56 : decode (mb 97) 56 = .ok (.iconst 0, 1) := by decide +kernel
theorem s97_56 (d : Nat) (l0 : Value) (l1 : Value) (l2 : Value) (l3 : Value) (l4 : Value) (l5 : Value) (σ : Hs) : ru d 97 56 [l0, l1, l2, l3, l4, l5] [] σ = ru d 97 57 [l0, l1, l2, l3, l4, l5] [.int 0] σ := q_iconst t97_56 (by decide +kernel)
theorem t97_57 : decode (mb 97) 57 = .ok (.istore 5, 2) := by decide +kernel
theorem s97_57 (d : Nat) (l0 : Value) (l1 : Value) (l2 : Value) (l3 : Value) (i4 : Int32) (l5 : Value) (x : Int32) (σ : Hs) : ru d 97 57 [l0, l1, l2, l3, .int i4, l5] [.int x] σ = ru d 97 59 [l0, l1, l2, l3, .int i4, .int x] [] σ := q_istore t97_57 ⟨Nat.le_of_ble_eq_true rfl, rfl⟩ rfl
theorem t97_59 : decode (mb 97) 59 = .ok (.iload 5, 2) := by decide +kernel
theorem s97_59 (d : Nat) (l0 : Value) (l1 : Value) (l2 : Value) (l3 : Value) (l4 : Value) (i5 : Int32) (σ : Hs) : ru d 97 59 [l0, l1, l2, l3, l4, .int i5] [] σ = ru d 97 61 [l0, l1, l2, l3, l4, .int i5] [.int i5] σ := q_iload t97_59 rfl
theorem t97_61 : decode (mb 97) 61 = .ok (.iload 4, 2) := by decide +kernel
theorem s97_61 (d : Nat) (l0 : Value) (l1 : Value) (l2 : Value) (l3 : Value) (i4 : Int32) (l5 : Value) (w0 : Value) (σ : Hs) : ru d 97 61 [l0, l1, l2, l3, .int i4, l5] [w0] σ = ru d 97 63 [l0, l1, l2, l3, .int i4, l5] [.int i4, w0] σ := q_iload t97_61 rfl
theorem t97_63 : decode (mb 97) 63 = .ok (.if_icmp .ge 48, 3) := by decide +kernel
theorem s97_63 (d : Nat) (l0 : Value) (l1 : Value) (l2 : Value) (l3 : Value) (l4 : Value) (l5 : Value) (x y : Int32) (σ : Hs) : ru d 97 63 [l0, l1, l2, l3, l4, l5] [.int y, .int x] σ = if y ≤ x then ru d 97 111 [l0, l1, l2, l3, l4, l5] [] σ else ru d 97 66 [l0, l1, l2, l3, l4, l5] [] σ := q_ic_ge t97_63 (by decide +kernel)
theorem t97_66 : decode (mb 97) 66 = .ok (.aload_n 0, 1) := by decide +kernel
theorem s97_66 (d : Nat) (a0 : Nat) (l1 : Value) (l2 : Value) (l3 : Value) (l4 : Value) (l5 : Value) (σ : Hs) : ru d 97 66 [.ref a0, l1, l2, l3, l4, l5] [] σ = ru d 97 67 [.ref a0, l1, l2, l3, l4, l5] [.ref a0] σ := q_aload_n t97_66 rfl
theorem t97_67 : decode (mb 97) 67 = .ok (.getfield 10, 3) := by decide +kernel
theorem s97_67_o0 (d : Nat) (l0 : Value) (l1 : Value) (l2 : Value) (l3 : Value) (l4 : Value) (l5 : Value) (σ : Hs) : ru d 97 67 [l0, l1, l2, l3, l4, l5] [.ref 0] σ = ru d 97 70 [l0, l1, l2, l3, l4, l5] [.ref 1] σ := q_getf t97_67 mo97 F7_10 rfl rfl
theorem t97_70 : decode (mb 97) 70 = .ok (.getfield 281, 3) := by decide +kernel
theorem s97_70_o1 (d : Nat) (l0 : Value) (l1 : Value) (l2 : Value) (l3 : Value) (l4 : Value) (l5 : Value) (σ : Hs) : ru d 97 70 [l0, l1, l2, l3, l4, l5] [.ref 1] σ = ru d 97 73 [l0, l1, l2, l3, l4, l5] [.ref 28] σ := q_getf t97_70 mo97 F7_281 rfl rfl
theorem t97_73 : decode (mb 97) 73 = .ok (.getfield 249, 3) := by decide +kernel
theorem s97_73_o28 (d : Nat) (l0 : Value) (l1 : Value) (l2 : Value) (l3 : Value) (l4 : Value) (l5 : Value) (σ : Hs) : ru d 97 73 [l0, l1, l2, l3, l4, l5] [.ref 28] σ = ru d 97 76 [l0, l1, l2, l3, l4, l5] [.ref 29] σ := q_getf t97_73 mo97 F7_249 rfl rfl
theorem t97_76 : decode (mb 97) 76 = .ok (.iload 5, 2) := by decide +kernel
theorem s97_76 (d : Nat) (l0 : Value) (l1 : Value) (l2 : Value) (l3 : Value) (l4 : Value) (i5 : Int32) (w0 : Value) (σ : Hs) : ru d 97 76 [l0, l1, l2, l3, l4, .int i5] [w0] σ = ru d 97 78 [l0, l1, l2, l3, l4, .int i5] [.int i5, w0] σ := q_iload t97_76 rfl
theorem t97_78 : decode (mb 97) 78 = .ok (.iaload, 1) := by decide +kernel
theorem s97_78_o29 (d : Nat) (l0 : Value) (l1 : Value) (l2 : Value) (l3 : Value) (l4 : Value) (l5 : Value) (i : Int32) (σ : Hs) : ru d 97 78 [l0, l1, l2, l3, l4, l5] [.int i, .ref 29] σ = gd (vp_in i 24) (ru d 97 79 [l0, l1, l2, l3, l4, l5] [.int (σ 29 i.toNatClampNeg)] σ) := q_iald t97_78 rfl (by decide +kernel) rfl
theorem t97_79 : decode (mb 97) 79 = .ok (.aload_n 0, 1) := by decide +kernel
theorem s97_79 (d : Nat) (a0 : Nat) (l1 : Value) (l2 : Value) (l3 : Value) (l4 : Value) (l5 : Value) (w0 : Value) (σ : Hs) : ru d 97 79 [.ref a0, l1, l2, l3, l4, l5] [w0] σ = ru d 97 80 [.ref a0, l1, l2, l3, l4, l5] [.ref a0, w0] σ := q_aload_n t97_79 rfl
theorem t97_80 : decode (mb 97) 80 = .ok (.getfield 10, 3) := by decide +kernel
theorem s97_80_o0 (d : Nat) (l0 : Value) (l1 : Value) (l2 : Value) (l3 : Value) (l4 : Value) (l5 : Value) (w0 : Value) (σ : Hs) : ru d 97 80 [l0, l1, l2, l3, l4, l5] [.ref 0, w0] σ = ru d 97 83 [l0, l1, l2, l3, l4, l5] [.ref 1, w0] σ := q_getf t97_80 mo97 F7_10 rfl rfl
theorem t97_83 : decode (mb 97) 83 = .ok (.getfield 58, 3) := by decide +kernel
theorem s97_83_o1 (d : Nat) (l0 : Value) (l1 : Value) (l2 : Value) (l3 : Value) (l4 : Value) (l5 : Value) (w0 : Value) (σ : Hs) : ru d 97 83 [l0, l1, l2, l3, l4, l5] [.ref 1, w0] σ = ru d 97 86 [l0, l1, l2, l3, l4, l5] [.ref 2, w0] σ := q_getf t97_83 mo97 F7_58 rfl rfl
theorem t97_86 : decode (mb 97) 86 = .ok (.getfield 94, 3) := by decide +kernel
theorem s97_86_o2 (d : Nat) (l0 : Value) (l1 : Value) (l2 : Value) (l3 : Value) (l4 : Value) (l5 : Value) (w0 : Value) (σ : Hs) : ru d 97 86 [l0, l1, l2, l3, l4, l5] [.ref 2, w0] σ = ru d 97 89 [l0, l1, l2, l3, l4, l5] [.ref 3, w0] σ := q_getf t97_86 mo97 F7_94 rfl rfl
theorem t97_89 : decode (mb 97) 89 = .ok (.bipush 6, 2) := by decide +kernel
theorem s97_89 (d : Nat) (l0 : Value) (l1 : Value) (l2 : Value) (l3 : Value) (l4 : Value) (l5 : Value) (w0 w1 : Value) (σ : Hs) : ru d 97 89 [l0, l1, l2, l3, l4, l5] [w0, w1] σ = ru d 97 91 [l0, l1, l2, l3, l4, l5] [.int 6, w0, w1] σ := q_bipush t97_89 (by decide +kernel)
theorem t97_91 : decode (mb 97) 91 = .ok (.iload 5, 2) := by decide +kernel
theorem s97_91 (d : Nat) (l0 : Value) (l1 : Value) (l2 : Value) (l3 : Value) (l4 : Value) (i5 : Int32) (w0 w1 w2 : Value) (σ : Hs) : ru d 97 91 [l0, l1, l2, l3, l4, .int i5] [w0, w1, w2] σ = ru d 97 93 [l0, l1, l2, l3, l4, .int i5] [.int i5, w0, w1, w2] σ := q_iload t97_91 rfl
theorem t97_93 : decode (mb 97) 93 = .ok (.imul, 1) := by decide +kernel
theorem s97_93 (d : Nat) (l0 : Value) (l1 : Value) (l2 : Value) (l3 : Value) (l4 : Value) (l5 : Value) (x y : Int32) (w0 w1 : Value) (σ : Hs) : ru d 97 93 [l0, l1, l2, l3, l4, l5] [.int y, .int x, w0, w1] σ = ru d 97 94 [l0, l1, l2, l3, l4, l5] [.int (x * y), w0, w1] σ := q_imul t97_93
theorem t97_94 : decode (mb 97) 94 = .ok (.iload_n 1, 1) := by decide +kernel
theorem s97_94 (d : Nat) (l0 : Value) (i1 : Int32) (l2 : Value) (l3 : Value) (l4 : Value) (l5 : Value) (w0 w1 w2 : Value) (σ : Hs) : ru d 97 94 [l0, .int i1, l2, l3, l4, l5] [w0, w1, w2] σ = ru d 97 95 [l0, .int i1, l2, l3, l4, l5] [.int i1, w0, w1, w2] σ := q_iload_n t97_94 rfl
theorem t97_95 : decode (mb 97) 95 = .ok (.iadd, 1) := by decide +kernel
theorem s97_95 (d : Nat) (l0 : Value) (l1 : Value) (l2 : Value) (l3 : Value) (l4 : Value) (l5 : Value) (x y : Int32) (w0 w1 : Value) (σ : Hs) : ru d 97 95 [l0, l1, l2, l3, l4, l5] [.int y, .int x, w0, w1] σ = ru d 97 96 [l0, l1, l2, l3, l4, l5] [.int (x + y), w0, w1] σ := q_iadd t97_95
theorem t97_96 : decode (mb 97) 96 = .ok (.iaload, 1) := by decide +kernel
theorem s97_96_o3 (d : Nat) (l0 : Value) (l1 : Value) (l2 : Value) (l3 : Value) (l4 : Value) (l5 : Value) (i : Int32) (w0 : Value) (σ : Hs) : ru d 97 96 [l0, l1, l2, l3, l4, l5] [.int i, .ref 3, w0] σ = gd (vp_in i 30) (ru d 97 97 [l0, l1, l2, l3, l4, l5] [.int (σ 3 i.toNatClampNeg), w0] σ) := q_iald t97_96 rfl (by decide +kernel) rfl
theorem t97_97 : decode (mb 97) 97 = .ok (.if_icmp .eq 8, 3) := by decide +kernel
theorem s97_97 (d : Nat) (l0 : Value) (l1 : Value) (l2 : Value) (l3 : Value) (l4 : Value) (l5 : Value) (x y : Int32) (σ : Hs) : ru d 97 97 [l0, l1, l2, l3, l4, l5] [.int y, .int x] σ = if x = y then ru d 97 105 [l0, l1, l2, l3, l4, l5] [] σ else ru d 97 100 [l0, l1, l2, l3, l4, l5] [] σ := q_ic_eq t97_97 (by decide +kernel)
theorem t97_100 : decode (mb 97) 100 = .ok (.iconst 1, 1) := by decide +kernel
theorem s97_100 (d : Nat) (l0 : Value) (l1 : Value) (l2 : Value) (l3 : Value) (l4 : Value) (l5 : Value) (σ : Hs) : ru d 97 100 [l0, l1, l2, l3, l4, l5] [] σ = ru d 97 101 [l0, l1, l2, l3, l4, l5] [.int 1] σ := q_iconst t97_100 (by decide +kernel)
theorem t97_101 : decode (mb 97) 101 = .ok (.iload 5, 2) := by decide +kernel
theorem s97_101 (d : Nat) (l0 : Value) (l1 : Value) (l2 : Value) (l3 : Value) (l4 : Value) (i5 : Int32) (w0 : Value) (σ : Hs) : ru d 97 101 [l0, l1, l2, l3, l4, .int i5] [w0] σ = ru d 97 103 [l0, l1, l2, l3, l4, .int i5] [.int i5, w0] σ := q_iload t97_101 rfl
theorem t97_103 : decode (mb 97) 103 = .ok (.iadd, 1) := by decide +kernel
theorem s97_103 (d : Nat) (l0 : Value) (l1 : Value) (l2 : Value) (l3 : Value) (l4 : Value) (l5 : Value) (x y : Int32) (σ : Hs) : ru d 97 103 [l0, l1, l2, l3, l4, l5] [.int y, .int x] σ = ru d 97 104 [l0, l1, l2, l3, l4, l5] [.int (x + y)] σ := q_iadd t97_103
theorem t97_104 : decode (mb 97) 104 = .ok (.ireturn, 1) := by decide +kernel
theorem s97_104 (d : Nat) (l0 : Value) (l1 : Value) (l2 : Value) (l3 : Value) (l4 : Value) (l5 : Value) (x : Int32) (σ : Hs) : ru d 97 104 [l0, l1, l2, l3, l4, l5] [.int x] σ = some (some (.int x), σ) := q_ireti t97_104 mr97
theorem t97_105 : decode (mb 97) 105 = .ok (.iinc 5 1, 3) := by decide +kernel
theorem s97_105 (d : Nat) (l0 : Value) (l1 : Value) (l2 : Value) (l3 : Value) (i4 : Int32) (i5 : Int32) (σ : Hs) : ru d 97 105 [l0, l1, l2, l3, .int i4, .int i5] [] σ = ru d 97 108 [l0, l1, l2, l3, .int i4, .int (i5 + 1)] [] σ := q_iinc t97_105 ⟨Nat.le_of_ble_eq_true rfl, rfl⟩ rfl (by decide +kernel) rfl
theorem t97_108 : decode (mb 97) 108 = .ok (.goto (-49), 3) := by decide +kernel
theorem s97_108 (d : Nat) (l0 : Value) (l1 : Value) (l2 : Value) (l3 : Value) (l4 : Value) (l5 : Value) (σ : Hs) : ru d 97 108 [l0, l1, l2, l3, l4, l5] [] σ = ru d 97 59 [l0, l1, l2, l3, l4, l5] [] σ := q_goto t97_108 (by decide +kernel)
theorem t97_111 : decode (mb 97) 111 = .ok (.iload_n 2, 1) := by decide +kernel
theorem s97_111 (d : Nat) (l0 : Value) (l1 : Value) (i2 : Int32) (l3 : Value) (l4 : Value) (l5 : Value) (σ : Hs) : ru d 97 111 [l0, l1, .int i2, l3, l4, l5] [] σ = ru d 97 112 [l0, l1, .int i2, l3, l4, l5] [.int i2] σ := q_iload_n t97_111 rfl
theorem t97_112 : decode (mb 97) 112 = .ok (.iload_n 3, 1) := by decide +kernel
theorem s97_112 (d : Nat) (l0 : Value) (l1 : Value) (l2 : Value) (i3 : Int32) (l4 : Value) (l5 : Value) (w0 : Value) (σ : Hs) : ru d 97 112 [l0, l1, l2, .int i3, l4, l5] [w0] σ = ru d 97 113 [l0, l1, l2, .int i3, l4, l5] [.int i3, w0] σ := q_iload_n t97_112 rfl
theorem t97_113 : decode (mb 97) 113 = .ok (.if_icmp .ne 7, 3) := by decide +kernel
theorem s97_113 (d : Nat) (l0 : Value) (l1 : Value) (l2 : Value) (l3 : Value) (l4 : Value) (l5 : Value) (x y : Int32) (σ : Hs) : ru d 97 113 [l0, l1, l2, l3, l4, l5] [.int y, .int x] σ = if x = y then ru d 97 116 [l0, l1, l2, l3, l4, l5] [] σ else ru d 97 120 [l0, l1, l2, l3, l4, l5] [] σ := q_ic_ne t97_113 (by decide +kernel)
theorem t97_116 : decode (mb 97) 116 = .ok (.iconst 0, 1) := by decide +kernel
theorem s97_116 (d : Nat) (l0 : Value) (l1 : Value) (l2 : Value) (l3 : Value) (l4 : Value) (l5 : Value) (σ : Hs) : ru d 97 116 [l0, l1, l2, l3, l4, l5] [] σ = ru d 97 117 [l0, l1, l2, l3, l4, l5] [.int 0] σ := q_iconst t97_116 (by decide +kernel)
theorem t97_117 : decode (mb 97) 117 = .ok (.goto 7, 3) := by decide +kernel
theorem s97_117 (d : Nat) (l0 : Value) (l1 : Value) (l2 : Value) (l3 : Value) (l4 : Value) (l5 : Value) (w0 : Value) (σ : Hs) : ru d 97 117 [l0, l1, l2, l3, l4, l5] [w0] σ = ru d 97 124 [l0, l1, l2, l3, l4, l5] [w0] σ := q_goto t97_117 (by decide +kernel)
theorem t97_120 : decode (mb 97) 120 = .ok (.iconst 1, 1) := by decide +kernel
theorem s97_120 (d : Nat) (l0 : Value) (l1 : Value) (l2 : Value) (l3 : Value) (l4 : Value) (l5 : Value) (σ : Hs) : ru d 97 120 [l0, l1, l2, l3, l4, l5] [] σ = ru d 97 121 [l0, l1, l2, l3, l4, l5] [.int 1] σ := q_iconst t97_120 (by decide +kernel)
theorem t97_121 : decode (mb 97) 121 = .ok (.iload 4, 2) := by decide +kernel
theorem s97_121 (d : Nat) (l0 : Value) (l1 : Value) (l2 : Value) (l3 : Value) (i4 : Int32) (l5 : Value) (w0 : Value) (σ : Hs) : ru d 97 121 [l0, l1, l2, l3, .int i4, l5] [w0] σ = ru d 97 123 [l0, l1, l2, l3, .int i4, l5] [.int i4, w0] σ := q_iload t97_121 rfl
theorem t97_123 : decode (mb 97) 123 = .ok (.iadd, 1) := by decide +kernel
theorem s97_123 (d : Nat) (l0 : Value) (l1 : Value) (l2 : Value) (l3 : Value) (l4 : Value) (l5 : Value) (x y : Int32) (σ : Hs) : ru d 97 123 [l0, l1, l2, l3, l4, l5] [.int y, .int x] σ = ru d 97 124 [l0, l1, l2, l3, l4, l5] [.int (x + y)] σ := q_iadd t97_123
theorem t97_124 : decode (mb 97) 124 = .ok (.ireturn, 1) := by decide +kernel
theorem s97_124 (d : Nat) (l0 : Value) (l1 : Value) (l2 : Value) (l3 : Value) (l4 : Value) (l5 : Value) (x : Int32) (σ : Hs) : ru d 97 124 [l0, l1, l2, l3, l4, l5] [.int x] σ = some (some (.int x), σ) := q_ireti t97_124 mr97
theorem c97 (d : Nat) (x0 : Nat) (x1 : Int32) (σ : Hs) : callD (d + 1) 97 [.ref x0, .int x1] σ = ru d 97 0 [.ref x0, .int x1, uu, uu, uu, uu] [] σ := callD_ru ml97 rfl rfl (Nat.le_of_ble_eq_true rfl)
-- 98: SmokyHeap.count(I)I
theorem t98_0 : decode (mb 98) 0 = .ok (.iload_n 1, 1) := by decide +kernel
theorem s98_0 (d : Nat) (l0 : Value) (i1 : Int32) (σ : Hs) : ru d 98 0 [l0, .int i1] [] σ = ru d 98 1 [l0, .int i1] [.int i1] σ := q_iload_n t98_0 rfl
theorem t98_1 : decode (mb 98) 1 = .ok (.tableswitch 134 0 7 #[47, 58, 69, 80, 93, 104, 115, 126], 47) := by decide +kernel
theorem f98_1 (x : Int32) : (tsw 0 7 #[47, 58, 69, 80, 93, 104, 115, 126] 134 x.toInt).bind (tgt 1) = some (if x = 0 then 48 else (if x = 1 then 59 else (if x = 2 then 70 else (if x = 3 then 81 else (if x = 4 then 94 else (if x = 5 then 105 else (if x = 6 then 116 else (if x = 7 then 127 else 135)))))))) := by
  by_cases h0 : x = 0
  · subst h0; decide +kernel
  by_cases h1 : x = 1
  · subst h1; decide +kernel
  by_cases h2 : x = 2
  · subst h2; decide +kernel
  by_cases h3 : x = 3
  · subst h3; decide +kernel
  by_cases h4 : x = 4
  · subst h4; decide +kernel
  by_cases h5 : x = 5
  · subst h5; decide +kernel
  by_cases h6 : x = 6
  · subst h6; decide +kernel
  by_cases h7 : x = 7
  · subst h7; decide +kernel
  have e0 : ¬ x.toInt = 0 := fun h => h0 (Int32.toInt_inj.mp (h.trans (by decide +kernel)))
  have e1 : ¬ x.toInt = 1 := fun h => h1 (Int32.toInt_inj.mp (h.trans (by decide +kernel)))
  have e2 : ¬ x.toInt = 2 := fun h => h2 (Int32.toInt_inj.mp (h.trans (by decide +kernel)))
  have e3 : ¬ x.toInt = 3 := fun h => h3 (Int32.toInt_inj.mp (h.trans (by decide +kernel)))
  have e4 : ¬ x.toInt = 4 := fun h => h4 (Int32.toInt_inj.mp (h.trans (by decide +kernel)))
  have e5 : ¬ x.toInt = 5 := fun h => h5 (Int32.toInt_inj.mp (h.trans (by decide +kernel)))
  have e6 : ¬ x.toInt = 6 := fun h => h6 (Int32.toInt_inj.mp (h.trans (by decide +kernel)))
  have e7 : ¬ x.toInt = 7 := fun h => h7 (Int32.toInt_inj.mp (h.trans (by decide +kernel)))
  have e : x.toInt < 0 ∨ 7 < x.toInt := by omega
  unfold tsw
  rw [if_pos e, if_neg h0, if_neg h1, if_neg h2, if_neg h3, if_neg h4, if_neg h5, if_neg h6, if_neg h7]
  decide +kernel
theorem s98_1 (d : Nat) (l0 : Value) (l1 : Value) (x : Int32) (σ : Hs) : ru d 98 1 [l0, l1] [.int x] σ = if x = 0 then ru d 98 48 [l0, l1] [] σ else if x = 1 then ru d 98 59 [l0, l1] [] σ else if x = 2 then ru d 98 70 [l0, l1] [] σ else if x = 3 then ru d 98 81 [l0, l1] [] σ else if x = 4 then ru d 98 94 [l0, l1] [] σ else if x = 5 then ru d 98 105 [l0, l1] [] σ else if x = 6 then ru d 98 116 [l0, l1] [] σ else if x = 7 then ru d 98 127 [l0, l1] [] σ else ru d 98 135 [l0, l1] [] σ := by
  refine (q_tsw t98_1 (fun x => (if x = 0 then 48 else (if x = 1 then 59 else (if x = 2 then 70 else (if x = 3 then 81 else (if x = 4 then 94 else (if x = 5 then 105 else (if x = 6 then 116 else (if x = 7 then 127 else 135))))))))) (f98_1 x)).trans ?_
  by_cases h0 : x = 0
  · rw [if_pos h0, if_pos h0]
  rw [if_neg h0, if_neg h0]
  by_cases h1 : x = 1
  · rw [if_pos h1, if_pos h1]
  rw [if_neg h1, if_neg h1]
  by_cases h2 : x = 2
  · rw [if_pos h2, if_pos h2]
  rw [if_neg h2, if_neg h2]
  by_cases h3 : x = 3
  · rw [if_pos h3, if_pos h3]
  rw [if_neg h3, if_neg h3]
  by_cases h4 : x = 4
  · rw [if_pos h4, if_pos h4]
  rw [if_neg h4, if_neg h4]
  by_cases h5 : x = 5
  · rw [if_pos h5, if_pos h5]
  rw [if_neg h5, if_neg h5]
  by_cases h6 : x = 6
  · rw [if_pos h6, if_pos h6]
  rw [if_neg h6, if_neg h6]
  by_cases h7 : x = 7
  · rw [if_pos h7, if_pos h7]
  rw [if_neg h7, if_neg h7]
theorem t98_48 : decode (mb 98) 48 = .ok (.aload_n 0, 1) := by decide +kernel
theorem s98_48 (d : Nat) (a0 : Nat) (l1 : Value) (σ : Hs) : ru d 98 48 [.ref a0, l1] [] σ = ru d 98 49 [.ref a0, l1] [.ref a0] σ := q_aload_n t98_48 rfl
theorem t98_49 : decode (mb 98) 49 = .ok (.getfield 10, 3) := by decide +kernel
theorem s98_49_o0 (d : Nat) (l0 : Value) (l1 : Value) (σ : Hs) : ru d 98 49 [l0, l1] [.ref 0] σ = ru d 98 52 [l0, l1] [.ref 1] σ := q_getf t98_49 mo98 F7_10 rfl rfl
theorem t98_52 : decode (mb 98) 52 = .ok (.getfield 58, 3) := by decide +kernel
theorem s98_52_o1 (d : Nat) (l0 : Value) (l1 : Value) (σ : Hs) : ru d 98 52 [l0, l1] [.ref 1] σ = ru d 98 55 [l0, l1] [.ref 2] σ := q_getf t98_52 mo98 F7_58 rfl rfl
theorem t98_55 : decode (mb 98) 55 = .ok (.invokevirtual 292, 3) := by decide +kernel
theorem s98_55_o2 (d : Nat) (l0 : Value) (l1 : Value) (σ : Hs) : ru d 98 55 [l0, l1] [.ref 2] σ = kont (callD d 6 [.ref 2] σ) d 98 58 [l0, l1] [] := q_invv t98_55 mo98 K7_292 mj6 rfl rfl rfl rfl (Nat.le_of_ble_eq_true rfl)
theorem t98_58 : decode (mb 98) 58 = .ok (.ireturn, 1) := by decide +kernel
theorem s98_58 (d : Nat) (l0 : Value) (l1 : Value) (x : Int32) (σ : Hs) : ru d 98 58 [l0, l1] [.int x] σ = some (some (.int x), σ) := q_ireti t98_58 mr98
theorem t98_59 : decode (mb 98) 59 = .ok (.aload_n 0, 1) := by decide +kernel
theorem s98_59 (d : Nat) (a0 : Nat) (l1 : Value) (σ : Hs) : ru d 98 59 [.ref a0, l1] [] σ = ru d 98 60 [.ref a0, l1] [.ref a0] σ := q_aload_n t98_59 rfl
theorem t98_60 : decode (mb 98) 60 = .ok (.getfield 10, 3) := by decide +kernel
theorem s98_60_o0 (d : Nat) (l0 : Value) (l1 : Value) (σ : Hs) : ru d 98 60 [l0, l1] [.ref 0] σ = ru d 98 63 [l0, l1] [.ref 1] σ := q_getf t98_60 mo98 F7_10 rfl rfl
theorem t98_63 : decode (mb 98) 63 = .ok (.getfield 58, 3) := by decide +kernel
theorem s98_63_o1 (d : Nat) (l0 : Value) (l1 : Value) (σ : Hs) : ru d 98 63 [l0, l1] [.ref 1] σ = ru d 98 66 [l0, l1] [.ref 2] σ := q_getf t98_63 mo98 F7_58 rfl rfl
theorem t98_66 : decode (mb 98) 66 = .ok (.getfield 164, 3) := by decide +kernel
theorem s98_66_o2 (d : Nat) (l0 : Value) (l1 : Value) (σ : Hs) : ru d 98 66 [l0, l1] [.ref 2] σ = ru d 98 69 [l0, l1] [.int (σ 2 13)] σ := q_getf t98_66 mo98 F7_164 rfl rfl
theorem t98_69 : decode (mb 98) 69 = .ok (.ireturn, 1) := by decide +kernel
theorem s98_69 (d : Nat) (l0 : Value) (l1 : Value) (x : Int32) (σ : Hs) : ru d 98 69 [l0, l1] [.int x] σ = some (some (.int x), σ) := q_ireti t98_69 mr98
theorem t98_70 : decode (mb 98) 70 = .ok (.aload_n 0, 1) := by decide +kernel
theorem s98_70 (d : Nat) (a0 : Nat) (l1 : Value) (σ : Hs) : ru d 98 70 [.ref a0, l1] [] σ = ru d 98 71 [.ref a0, l1] [.ref a0] σ := q_aload_n t98_70 rfl
theorem t98_71 : decode (mb 98) 71 = .ok (.getfield 10, 3) := by decide +kernel
theorem s98_71_o0 (d : Nat) (l0 : Value) (l1 : Value) (σ : Hs) : ru d 98 71 [l0, l1] [.ref 0] σ = ru d 98 74 [l0, l1] [.ref 1] σ := q_getf t98_71 mo98 F7_10 rfl rfl
theorem t98_74 : decode (mb 98) 74 = .ok (.getfield 225, 3) := by decide +kernel
theorem s98_74_o1 (d : Nat) (l0 : Value) (l1 : Value) (σ : Hs) : ru d 98 74 [l0, l1] [.ref 1] σ = ru d 98 77 [l0, l1] [.ref 24] σ := q_getf t98_74 mo98 F7_225 rfl rfl
theorem t98_77 : decode (mb 98) 77 = .ok (.getfield 131, 3) := by decide +kernel
theorem s98_77_o24 (d : Nat) (l0 : Value) (l1 : Value) (σ : Hs) : ru d 98 77 [l0, l1] [.ref 24] σ = ru d 98 80 [l0, l1] [.int (σ 24 1)] σ := q_getf t98_77 mo98 F7_131 rfl rfl
theorem t98_80 : decode (mb 98) 80 = .ok (.ireturn, 1) := by decide +kernel
theorem s98_80 (d : Nat) (l0 : Value) (l1 : Value) (x : Int32) (σ : Hs) : ru d 98 80 [l0, l1] [.int x] σ = some (some (.int x), σ) := q_ireti t98_80 mr98
theorem t98_81 : decode (mb 98) 81 = .ok (.aload_n 0, 1) := by decide +kernel
theorem s98_81 (d : Nat) (a0 : Nat) (l1 : Value) (σ : Hs) : ru d 98 81 [.ref a0, l1] [] σ = ru d 98 82 [.ref a0, l1] [.ref a0] σ := q_aload_n t98_81 rfl
theorem t98_82 : decode (mb 98) 82 = .ok (.getfield 10, 3) := by decide +kernel
theorem s98_82_o0 (d : Nat) (l0 : Value) (l1 : Value) (σ : Hs) : ru d 98 82 [l0, l1] [.ref 0] σ = ru d 98 85 [l0, l1] [.ref 1] σ := q_getf t98_82 mo98 F7_10 rfl rfl
theorem t98_85 : decode (mb 98) 85 = .ok (.getfield 58, 3) := by decide +kernel
theorem s98_85_o1 (d : Nat) (l0 : Value) (l1 : Value) (σ : Hs) : ru d 98 85 [l0, l1] [.ref 1] σ = ru d 98 88 [l0, l1] [.ref 2] σ := q_getf t98_85 mo98 F7_58 rfl rfl
theorem t98_88 : decode (mb 98) 88 = .ok (.getfield 124, 3) := by decide +kernel
theorem s98_88_o2 (d : Nat) (l0 : Value) (l1 : Value) (σ : Hs) : ru d 98 88 [l0, l1] [.ref 2] σ = ru d 98 91 [l0, l1] [.ref 9] σ := q_getf t98_88 mo98 F7_124 rfl rfl
theorem t98_91 : decode (mb 98) 91 = .ok (.iconst 0, 1) := by decide +kernel
theorem s98_91 (d : Nat) (l0 : Value) (l1 : Value) (w0 : Value) (σ : Hs) : ru d 98 91 [l0, l1] [w0] σ = ru d 98 92 [l0, l1] [.int 0, w0] σ := q_iconst t98_91 (by decide +kernel)
theorem t98_92 : decode (mb 98) 92 = .ok (.iaload, 1) := by decide +kernel
theorem s98_92_o9 (d : Nat) (l0 : Value) (l1 : Value) (i : Int32) (σ : Hs) : ru d 98 92 [l0, l1] [.int i, .ref 9] σ = gd (vp_in i 5) (ru d 98 93 [l0, l1] [.int (σ 9 i.toNatClampNeg)] σ) := q_iald t98_92 rfl (by decide +kernel) rfl
theorem t98_93 : decode (mb 98) 93 = .ok (.ireturn, 1) := by decide +kernel
theorem s98_93 (d : Nat) (l0 : Value) (l1 : Value) (x : Int32) (σ : Hs) : ru d 98 93 [l0, l1] [.int x] σ = some (some (.int x), σ) := q_ireti t98_93 mr98
theorem t98_94 : decode (mb 98) 94 = .ok (.aload_n 0, 1) := by decide +kernel
theorem s98_94 (d : Nat) (a0 : Nat) (l1 : Value) (σ : Hs) : ru d 98 94 [.ref a0, l1] [] σ = ru d 98 95 [.ref a0, l1] [.ref a0] σ := q_aload_n t98_94 rfl
theorem t98_95 : decode (mb 98) 95 = .ok (.getfield 10, 3) := by decide +kernel
theorem s98_95_o0 (d : Nat) (l0 : Value) (l1 : Value) (σ : Hs) : ru d 98 95 [l0, l1] [.ref 0] σ = ru d 98 98 [l0, l1] [.ref 1] σ := q_getf t98_95 mo98 F7_10 rfl rfl
theorem t98_98 : decode (mb 98) 98 = .ok (.getfield 127, 3) := by decide +kernel
theorem s98_98_o1 (d : Nat) (l0 : Value) (l1 : Value) (σ : Hs) : ru d 98 98 [l0, l1] [.ref 1] σ = ru d 98 101 [l0, l1] [.ref 22] σ := q_getf t98_98 mo98 F7_127 rfl rfl
theorem t98_101 : decode (mb 98) 101 = .ok (.getfield 131, 3) := by decide +kernel
theorem s98_101_o22 (d : Nat) (l0 : Value) (l1 : Value) (σ : Hs) : ru d 98 101 [l0, l1] [.ref 22] σ = ru d 98 104 [l0, l1] [.int (σ 22 1)] σ := q_getf t98_101 mo98 F7_131 rfl rfl
theorem t98_104 : decode (mb 98) 104 = .ok (.ireturn, 1) := by decide +kernel
theorem s98_104 (d : Nat) (l0 : Value) (l1 : Value) (x : Int32) (σ : Hs) : ru d 98 104 [l0, l1] [.int x] σ = some (some (.int x), σ) := q_ireti t98_104 mr98
theorem t98_105 : decode (mb 98) 105 = .ok (.aload_n 0, 1) := by decide +kernel
theorem s98_105 (d : Nat) (a0 : Nat) (l1 : Value) (σ : Hs) : ru d 98 105 [.ref a0, l1] [] σ = ru d 98 106 [.ref a0, l1] [.ref a0] σ := q_aload_n t98_105 rfl
theorem t98_106 : decode (mb 98) 106 = .ok (.getfield 10, 3) := by decide +kernel
theorem s98_106_o0 (d : Nat) (l0 : Value) (l1 : Value) (σ : Hs) : ru d 98 106 [l0, l1] [.ref 0] σ = ru d 98 109 [l0, l1] [.ref 1] σ := q_getf t98_106 mo98 F7_10 rfl rfl
theorem t98_109 : decode (mb 98) 109 = .ok (.getfield 281, 3) := by decide +kernel
theorem s98_109_o1 (d : Nat) (l0 : Value) (l1 : Value) (σ : Hs) : ru d 98 109 [l0, l1] [.ref 1] σ = ru d 98 112 [l0, l1] [.ref 28] σ := q_getf t98_109 mo98 F7_281 rfl rfl
theorem t98_112 : decode (mb 98) 112 = .ok (.getfield 131, 3) := by decide +kernel
theorem s98_112_o28 (d : Nat) (l0 : Value) (l1 : Value) (σ : Hs) : ru d 98 112 [l0, l1] [.ref 28] σ = ru d 98 115 [l0, l1] [.int (σ 28 1)] σ := q_getf t98_112 mo98 F7_131 rfl rfl
theorem t98_115 : decode (mb 98) 115 = .ok (.ireturn, 1) := by decide +kernel
theorem s98_115 (d : Nat) (l0 : Value) (l1 : Value) (x : Int32) (σ : Hs) : ru d 98 115 [l0, l1] [.int x] σ = some (some (.int x), σ) := q_ireti t98_115 mr98
theorem t98_116 : decode (mb 98) 116 = .ok (.aload_n 0, 1) := by decide +kernel
theorem s98_116 (d : Nat) (a0 : Nat) (l1 : Value) (σ : Hs) : ru d 98 116 [.ref a0, l1] [] σ = ru d 98 117 [.ref a0, l1] [.ref a0] σ := q_aload_n t98_116 rfl
theorem t98_117 : decode (mb 98) 117 = .ok (.getfield 36, 3) := by decide +kernel
theorem s98_117_o0 (d : Nat) (l0 : Value) (l1 : Value) (σ : Hs) : ru d 98 117 [l0, l1] [.ref 0] σ = ru d 98 120 [l0, l1] [.ref 73] σ := q_getf t98_117 mo98 F7_36 rfl rfl
theorem t98_120 : decode (mb 98) 120 = .ok (.getfield 245, 3) := by decide +kernel
theorem s98_120_o73 (d : Nat) (l0 : Value) (l1 : Value) (σ : Hs) : ru d 98 120 [l0, l1] [.ref 73] σ = ru d 98 123 [l0, l1] [.ref 74] σ := q_getf t98_120 mo98 F7_245 rfl rfl
theorem t98_123 : decode (mb 98) 123 = .ok (.getfield 131, 3) := by decide +kernel
theorem s98_123_o74 (d : Nat) (l0 : Value) (l1 : Value) (σ : Hs) : ru d 98 123 [l0, l1] [.ref 74] σ = ru d 98 126 [l0, l1] [.int (σ 74 1)] σ := q_getf t98_123 mo98 F7_131 rfl rfl
theorem t98_126 : decode (mb 98) 126 = .ok (.ireturn, 1) := by decide +kernel
theorem s98_126 (d : Nat) (l0 : Value) (l1 : Value) (x : Int32) (σ : Hs) : ru d 98 126 [l0, l1] [.int x] σ = some (some (.int x), σ) := q_ireti t98_126 mr98
theorem t98_127 : decode (mb 98) 127 = .ok (.aload_n 0, 1) := by decide +kernel
theorem s98_127 (d : Nat) (a0 : Nat) (l1 : Value) (σ : Hs) : ru d 98 127 [.ref a0, l1] [] σ = ru d 98 128 [.ref a0, l1] [.ref a0] σ := q_aload_n t98_127 rfl
theorem t98_128 : decode (mb 98) 128 = .ok (.getfield 10, 3) := by decide +kernel
theorem s98_128_o0 (d : Nat) (l0 : Value) (l1 : Value) (σ : Hs) : ru d 98 128 [l0, l1] [.ref 0] σ = ru d 98 131 [l0, l1] [.ref 1] σ := q_getf t98_128 mo98 F7_10 rfl rfl
theorem t98_131 : decode (mb 98) 131 = .ok (.getfield 176, 3) := by decide +kernel
theorem s98_131_o1 (d : Nat) (l0 : Value) (l1 : Value) (σ : Hs) : ru d 98 131 [l0, l1] [.ref 1] σ = ru d 98 134 [l0, l1] [.int (σ 1 6)] σ := q_getf t98_131 mo98 F7_176 rfl rfl
theorem t98_134 : decode (mb 98) 134 = .ok (.ireturn, 1) := by decide +kernel
theorem s98_134 (d : Nat) (l0 : Value) (l1 : Value) (x : Int32) (σ : Hs) : ru d 98 134 [l0, l1] [.int x] σ = some (some (.int x), σ) := q_ireti t98_134 mr98
theorem t98_135 : decode (mb 98) 135 = .ok (.aload_n 0, 1) := by decide +kernel
theorem s98_135 (d : Nat) (a0 : Nat) (l1 : Value) (σ : Hs) : ru d 98 135 [.ref a0, l1] [] σ = ru d 98 136 [.ref a0, l1] [.ref a0] σ := q_aload_n t98_135 rfl
theorem t98_136 : decode (mb 98) 136 = .ok (.iconst 1, 1) := by decide +kernel
theorem s98_136 (d : Nat) (l0 : Value) (l1 : Value) (w0 : Value) (σ : Hs) : ru d 98 136 [l0, l1] [w0] σ = ru d 98 137 [l0, l1] [.int 1, w0] σ := q_iconst t98_136 (by decide +kernel)
theorem t98_137 : decode (mb 98) 137 = .ok (.invokevirtual 65, 3) := by decide +kernel
theorem s98_137_o0 (d : Nat) (l0 : Value) (l1 : Value) (v1 : Value) (σ : Hs) : ru d 98 137 [l0, l1] [v1, .ref 0] σ = kont (callD d 100 [.ref 0, v1] σ) d 98 140 [l0, l1] [] := q_invv t98_137 mo98 K7_65 mj100 rfl rfl rfl rfl (Nat.le_of_ble_eq_true rfl)
theorem t98_140 : decode (mb 98) 140 = .ok (.ireturn, 1) := by decide +kernel
theorem s98_140 (d : Nat) (l0 : Value) (l1 : Value) (x : Int32) (σ : Hs) : ru d 98 140 [l0, l1] [.int x] σ = some (some (.int x), σ) := q_ireti t98_140 mr98
theorem c98 (d : Nat) (x0 : Nat) (x1 : Int32) (σ : Hs) : callD (d + 1) 98 [.ref x0, .int x1] σ = ru d 98 0 [.ref x0, .int x1] [] σ := callD_ru ml98 rfl rfl (Nat.le_of_ble_eq_true rfl)
-- 99: SmokyHeap.told(I)I
theorem t99_0 : decode (mb 99) 0 = .ok (.iload_n 1, 1) := by decide +kernel
theorem s99_0 (d : Nat) (l0 : Value) (i1 : Int32) (σ : Hs) : ru d 99 0 [l0, .int i1] [] σ = ru d 99 1 [l0, .int i1] [.int i1] σ := q_iload_n t99_0 rfl
theorem t99_1 : decode (mb 99) 1 = .ok (.iconst 1, 1) := by decide +kernel
theorem s99_1 (d : Nat) (l0 : Value) (l1 : Value) (w0 : Value) (σ : Hs) : ru d 99 1 [l0, l1] [w0] σ = ru d 99 2 [l0, l1] [.int 1, w0] σ := q_iconst t99_1 (by decide +kernel)
theorem t99_2 : decode (mb 99) 2 = .ok (.bipush 6, 2) := by decide +kernel
theorem s99_2 (d : Nat) (l0 : Value) (l1 : Value) (w0 w1 : Value) (σ : Hs) : ru d 99 2 [l0, l1] [w0, w1] σ = ru d 99 4 [l0, l1] [.int 6, w0, w1] σ := q_bipush t99_2 (by decide +kernel)
theorem t99_4 : decode (mb 99) 4 = .ok (.invokestatic 83, 3) := by decide +kernel
theorem s99_4 (d : Nat) (l0 : Value) (l1 : Value) (v0 v1 v2 : Value) (σ : Hs) : ru d 99 4 [l0, l1] [v2, v1, v0] σ = kont (callD d 103 [v0, v1, v2] σ) d 99 7 [l0, l1] [] := q_invs t99_4 mo99 (by decide +kernel) K7_83 mj103 (Nat.le_of_ble_eq_true rfl) rfl rfl (Nat.le_of_ble_eq_true rfl)
theorem t99_7 : decode (mb 99) 7 = .ok (.ifCond .eq 12, 3) := by decide +kernel
theorem s99_7 (d : Nat) (l0 : Value) (l1 : Value) (x : Int32) (σ : Hs) : ru d 99 7 [l0, l1] [.int x] σ = if x = 0 then ru d 99 19 [l0, l1] [] σ else ru d 99 10 [l0, l1] [] σ := q_if_eq t99_7 (by decide +kernel)
theorem t99_10 : decode (mb 99) 10 = .ok (.aload_n 0, 1) := by decide +kernel
theorem s99_10 (d : Nat) (a0 : Nat) (l1 : Value) (σ : Hs) : ru d 99 10 [.ref a0, l1] [] σ = ru d 99 11 [.ref a0, l1] [.ref a0] σ := q_aload_n t99_10 rfl
theorem t99_11 : decode (mb 99) 11 = .ok (.getfield 47, 3) := by decide +kernel
theorem s99_11_o0 (d : Nat) (l0 : Value) (l1 : Value) (σ : Hs) : ru d 99 11 [l0, l1] [.ref 0] σ = ru d 99 14 [l0, l1] [.ref 85] σ := q_getf t99_11 mo99 F7_47 rfl rfl
theorem t99_14 : decode (mb 99) 14 = .ok (.iload_n 1, 1) := by decide +kernel
theorem s99_14 (d : Nat) (l0 : Value) (i1 : Int32) (w0 : Value) (σ : Hs) : ru d 99 14 [l0, .int i1] [w0] σ = ru d 99 15 [l0, .int i1] [.int i1, w0] σ := q_iload_n t99_14 rfl
theorem t99_15 : decode (mb 99) 15 = .ok (.iaload, 1) := by decide +kernel
theorem s99_15_o85 (d : Nat) (l0 : Value) (l1 : Value) (i : Int32) (σ : Hs) : ru d 99 15 [l0, l1] [.int i, .ref 85] σ = gd (vp_in i 7) (ru d 99 16 [l0, l1] [.int (σ 85 i.toNatClampNeg)] σ) := q_iald t99_15 rfl (by decide +kernel) rfl
theorem t99_16 : decode (mb 99) 16 = .ok (.goto 8, 3) := by decide +kernel
theorem s99_16 (d : Nat) (l0 : Value) (l1 : Value) (w0 : Value) (σ : Hs) : ru d 99 16 [l0, l1] [w0] σ = ru d 99 24 [l0, l1] [w0] σ := q_goto t99_16 (by decide +kernel)
theorem t99_19 : decode (mb 99) 19 = .ok (.aload_n 0, 1) := by decide +kernel
theorem s99_19 (d : Nat) (a0 : Nat) (l1 : Value) (σ : Hs) : ru d 99 19 [.ref a0, l1] [] σ = ru d 99 20 [.ref a0, l1] [.ref a0] σ := q_aload_n t99_19 rfl
theorem t99_20 : decode (mb 99) 20 = .ok (.iconst 1, 1) := by decide +kernel
theorem s99_20 (d : Nat) (l0 : Value) (l1 : Value) (w0 : Value) (σ : Hs) : ru d 99 20 [l0, l1] [w0] σ = ru d 99 21 [l0, l1] [.int 1, w0] σ := q_iconst t99_20 (by decide +kernel)
theorem t99_21 : decode (mb 99) 21 = .ok (.invokevirtual 65, 3) := by decide +kernel
theorem s99_21_o0 (d : Nat) (l0 : Value) (l1 : Value) (v1 : Value) (σ : Hs) : ru d 99 21 [l0, l1] [v1, .ref 0] σ = kont (callD d 100 [.ref 0, v1] σ) d 99 24 [l0, l1] [] := q_invv t99_21 mo99 K7_65 mj100 rfl rfl rfl rfl (Nat.le_of_ble_eq_true rfl)
theorem t99_24 : decode (mb 99) 24 = .ok (.ireturn, 1) := by decide +kernel
theorem s99_24 (d : Nat) (l0 : Value) (l1 : Value) (x : Int32) (σ : Hs) : ru d 99 24 [l0, l1] [.int x] σ = some (some (.int x), σ) := q_ireti t99_24 mr99
theorem c99 (d : Nat) (x0 : Nat) (x1 : Int32) (σ : Hs) : callD (d + 1) 99 [.ref x0, .int x1] σ = ru d 99 0 [.ref x0, .int x1] [] σ := callD_ru ml99 rfl rfl (Nat.le_of_ble_eq_true rfl)
-- 100: SmokyHeap.failed(I)I
theorem t100_0 : decode (mb 100) 0 = .ok (.iload_n 1, 1) := by decide +kernel
theorem s100_0 (d : Nat) (l0 : Value) (i1 : Int32) (σ : Hs) : ru d 100 0 [l0, .int i1] [] σ = ru d 100 1 [l0, .int i1] [.int i1] σ := q_iload_n t100_0 rfl
theorem t100_1 : decode (mb 100) 1 = .ok (.iconst 1, 1) := by decide +kernel
theorem s100_1 (d : Nat) (l0 : Value) (l1 : Value) (w0 : Value) (σ : Hs) : ru d 100 1 [l0, l1] [w0] σ = ru d 100 2 [l0, l1] [.int 1, w0] σ := q_iconst t100_1 (by decide +kernel)
theorem t100_2 : decode (mb 100) 2 = .ok (.bipush 6, 2) := by decide +kernel
theorem s100_2 (d : Nat) (l0 : Value) (l1 : Value) (w0 w1 : Value) (σ : Hs) : ru d 100 2 [l0, l1] [w0, w1] σ = ru d 100 4 [l0, l1] [.int 6, w0, w1] σ := q_bipush t100_2 (by decide +kernel)
theorem t100_4 : decode (mb 100) 4 = .ok (.invokestatic 83, 3) := by decide +kernel
theorem s100_4 (d : Nat) (l0 : Value) (l1 : Value) (v0 v1 v2 : Value) (σ : Hs) : ru d 100 4 [l0, l1] [v2, v1, v0] σ = kont (callD d 103 [v0, v1, v2] σ) d 100 7 [l0, l1] [] := q_invs t100_4 mo100 (by decide +kernel) K7_83 mj103 (Nat.le_of_ble_eq_true rfl) rfl rfl (Nat.le_of_ble_eq_true rfl)
theorem t100_7 : decode (mb 100) 7 = .ok (.ifCond .eq 13, 3) := by decide +kernel
theorem s100_7 (d : Nat) (l0 : Value) (l1 : Value) (x : Int32) (σ : Hs) : ru d 100 7 [l0, l1] [.int x] σ = if x = 0 then ru d 100 20 [l0, l1] [] σ else ru d 100 10 [l0, l1] [] σ := q_if_eq t100_7 (by decide +kernel)
theorem t100_10 : decode (mb 100) 10 = .ok (.aload_n 0, 1) := by decide +kernel
theorem s100_10 (d : Nat) (a0 : Nat) (l1 : Value) (σ : Hs) : ru d 100 10 [.ref a0, l1] [] σ = ru d 100 11 [.ref a0, l1] [.ref a0] σ := q_aload_n t100_10 rfl
theorem t100_11 : decode (mb 100) 11 = .ok (.getfield 47, 3) := by decide +kernel
theorem s100_11_o0 (d : Nat) (l0 : Value) (l1 : Value) (σ : Hs) : ru d 100 11 [l0, l1] [.ref 0] σ = ru d 100 14 [l0, l1] [.ref 85] σ := q_getf t100_11 mo100 F7_47 rfl rfl
theorem t100_14 : decode (mb 100) 14 = .ok (.iload_n 1, 1) := by decide +kernel
theorem s100_14 (d : Nat) (l0 : Value) (i1 : Int32) (w0 : Value) (σ : Hs) : ru d 100 14 [l0, .int i1] [w0] σ = ru d 100 15 [l0, .int i1] [.int i1, w0] σ := q_iload_n t100_14 rfl
theorem t100_15 : decode (mb 100) 15 = .ok (.dup2, 1) := by decide +kernel
theorem s100_15 (d : Nat) (l0 : Value) (l1 : Value) (x0 : Int32) (x1 : Nat) (σ : Hs) : ru d 100 15 [l0, l1] [.int x0, .ref x1] σ = ru d 100 16 [l0, l1] [.int x0, .ref x1, .int x0, .ref x1] σ := q_dup2 t100_15 rfl rfl
theorem t100_16 : decode (mb 100) 16 = .ok (.iaload, 1) := by decide +kernel
theorem s100_16_o85 (d : Nat) (l0 : Value) (l1 : Value) (i : Int32) (w0 w1 : Value) (σ : Hs) : ru d 100 16 [l0, l1] [.int i, .ref 85, w0, w1] σ = gd (vp_in i 7) (ru d 100 17 [l0, l1] [.int (σ 85 i.toNatClampNeg), w0, w1] σ) := q_iald t100_16 rfl (by decide +kernel) rfl
theorem t100_17 : decode (mb 100) 17 = .ok (.iconst 1, 1) := by decide +kernel
theorem s100_17 (d : Nat) (l0 : Value) (l1 : Value) (w0 w1 w2 : Value) (σ : Hs) : ru d 100 17 [l0, l1] [w0, w1, w2] σ = ru d 100 18 [l0, l1] [.int 1, w0, w1, w2] σ := q_iconst t100_17 (by decide +kernel)
theorem t100_18 : decode (mb 100) 18 = .ok (.iadd, 1) := by decide +kernel
theorem s100_18 (d : Nat) (l0 : Value) (l1 : Value) (x y : Int32) (w0 w1 : Value) (σ : Hs) : ru d 100 18 [l0, l1] [.int y, .int x, w0, w1] σ = ru d 100 19 [l0, l1] [.int (x + y), w0, w1] σ := q_iadd t100_18
theorem t100_19 : decode (mb 100) 19 = .ok (.iastore, 1) := by decide +kernel
theorem s100_19_o85 (d : Nat) (l0 : Value) (l1 : Value) (i x : Int32) (σ : Hs) : ru d 100 19 [l0, l1] [.int x, .int i, .ref 85] σ = gd (vp_in i 7) (ru d 100 20 [l0, l1] [] (up2 σ 85 i.toNatClampNeg x)) := q_iast t100_19 (by decide +kernel) rfl rfl
theorem t100_20 : decode (mb 100) 20 = .ok (.ldc_w 295, 3) := by decide +kernel
theorem s100_20 (d : Nat) (l0 : Value) (l1 : Value) (σ : Hs) : ru d 100 20 [l0, l1] [] σ = ru d 100 23 [l0, l1] [.int (-1000000)] σ := q_ldcw t100_20 mo100 C7_295
theorem t100_23 : decode (mb 100) 23 = .ok (.iload_n 1, 1) := by decide +kernel
theorem s100_23 (d : Nat) (l0 : Value) (i1 : Int32) (w0 : Value) (σ : Hs) : ru d 100 23 [l0, .int i1] [w0] σ = ru d 100 24 [l0, .int i1] [.int i1, w0] σ := q_iload_n t100_23 rfl
theorem t100_24 : decode (mb 100) 24 = .ok (.isub, 1) := by decide +kernel
theorem s100_24 (d : Nat) (l0 : Value) (l1 : Value) (x y : Int32) (σ : Hs) : ru d 100 24 [l0, l1] [.int y, .int x] σ = ru d 100 25 [l0, l1] [.int (x - y)] σ := q_isub t100_24
theorem t100_25 : decode (mb 100) 25 = .ok (.ireturn, 1) := by decide +kernel
theorem s100_25 (d : Nat) (l0 : Value) (l1 : Value) (x : Int32) (σ : Hs) : ru d 100 25 [l0, l1] [.int x] σ = some (some (.int x), σ) := q_ireti t100_25 mr100
theorem c100 (d : Nat) (x0 : Nat) (x1 : Int32) (σ : Hs) : callD (d + 1) 100 [.ref x0, .int x1] σ = ru d 100 0 [.ref x0, .int x1] [] σ := callD_ru ml100 rfl rfl (Nat.le_of_ble_eq_true rfl)
-- 101: SmokyHeap.bylawLets()Z
theorem t101_0 : decode (mb 101) 0 = .ok (.aload_n 0, 1) := by decide +kernel
theorem s101_0 (d : Nat) (a0 : Nat) (l1 : Value) (σ : Hs) : ru d 101 0 [.ref a0, l1] [] σ = ru d 101 1 [.ref a0, l1] [.ref a0] σ := q_aload_n t101_0 rfl
theorem t101_1 : decode (mb 101) 1 = .ok (.getfield 10, 3) := by decide +kernel
theorem s101_1_o0 (d : Nat) (l0 : Value) (l1 : Value) (σ : Hs) : ru d 101 1 [l0, l1] [.ref 0] σ = ru d 101 4 [l0, l1] [.ref 1] σ := q_getf t101_1 mo101 F7_10 rfl rfl
theorem t101_4 : decode (mb 101) 4 = .ok (.getfield 146, 3) := by decide +kernel
theorem s101_4_o1 (d : Nat) (l0 : Value) (l1 : Value) (σ : Hs) : ru d 101 4 [l0, l1] [.ref 1] σ = ru d 101 7 [l0, l1] [.ref 13] σ := q_getf t101_4 mo101 F7_146 rfl rfl
theorem t101_7 : decode (mb 101) 7 = .ok (.iconst 1, 1) := by decide +kernel
theorem s101_7 (d : Nat) (l0 : Value) (l1 : Value) (w0 : Value) (σ : Hs) : ru d 101 7 [l0, l1] [w0] σ = ru d 101 8 [l0, l1] [.int 1, w0] σ := q_iconst t101_7 (by decide +kernel)
theorem t101_8 : decode (mb 101) 8 = .ok (.invokevirtual 163, 3) := by decide +kernel
theorem s101_8_o13 (d : Nat) (l0 : Value) (l1 : Value) (v1 : Value) (σ : Hs) : ru d 101 8 [l0, l1] [v1, .ref 13] σ = kont (callD d 31 [.ref 13, v1] σ) d 101 11 [l0, l1] [] := q_invv t101_8 mo101 K7_163 mj31 rfl rfl rfl rfl (Nat.le_of_ble_eq_true rfl)
theorem t101_11 : decode (mb 101) 11 = .ok (.ifCond .ne 5, 3) := by decide +kernel
theorem s101_11 (d : Nat) (l0 : Value) (l1 : Value) (x : Int32) (σ : Hs) : ru d 101 11 [l0, l1] [.int x] σ = if x = 0 then ru d 101 14 [l0, l1] [] σ else ru d 101 16 [l0, l1] [] σ := q_if_ne t101_11 (by decide +kernel)
theorem t101_14 : decode (mb 101) 14 = .ok (.iconst 1, 1) := by decide +kernel
theorem s101_14 (d : Nat) (l0 : Value) (l1 : Value) (σ : Hs) : ru d 101 14 [l0, l1] [] σ = ru d 101 15 [l0, l1] [.int 1] σ := q_iconst t101_14 (by decide +kernel)
theorem t101_15 : decode (mb 101) 15 = .ok (.ireturn, 1) := by decide +kernel
theorem s101_15 (d : Nat) (l0 : Value) (l1 : Value) (x : Int32) (hx : isB x) (σ : Hs) : ru d 101 15 [l0, l1] [.int x] σ = some (some (.int x), σ) := q_iretz t101_15 mr101 hx
theorem t101_16 : decode (mb 101) 16 = .ok (.aload_n 0, 1) := by decide +kernel
theorem s101_16 (d : Nat) (a0 : Nat) (l1 : Value) (σ : Hs) : ru d 101 16 [.ref a0, l1] [] σ = ru d 101 17 [.ref a0, l1] [.ref a0] σ := q_aload_n t101_16 rfl
theorem t101_17 : decode (mb 101) 17 = .ok (.getfield 10, 3) := by decide +kernel
theorem s101_17_o0 (d : Nat) (l0 : Value) (l1 : Value) (σ : Hs) : ru d 101 17 [l0, l1] [.ref 0] σ = ru d 101 20 [l0, l1] [.ref 1] σ := q_getf t101_17 mo101 F7_10 rfl rfl
theorem t101_20 : decode (mb 101) 20 = .ok (.getfield 58, 3) := by decide +kernel
theorem s101_20_o1 (d : Nat) (l0 : Value) (l1 : Value) (σ : Hs) : ru d 101 20 [l0, l1] [.ref 1] σ = ru d 101 23 [l0, l1] [.ref 2] σ := q_getf t101_20 mo101 F7_58 rfl rfl
theorem t101_23 : decode (mb 101) 23 = .ok (.astore_n 1, 1) := by decide +kernel
theorem s101_23 (d : Nat) (a0 : Nat) (l1 : Value) (x : Nat) (σ : Hs) : ru d 101 23 [.ref a0, l1] [.ref x] σ = ru d 101 24 [.ref a0, .ref x] [] σ := q_astore_n t101_23 ⟨Nat.le_of_ble_eq_true rfl, rfl⟩ rfl
theorem t101_24 : decode (mb 101) 24 = .ok (.aload_n 0, 1) := by decide +kernel
theorem s101_24 (d : Nat) (a0 : Nat) (l1 : Value) (σ : Hs) : ru d 101 24 [.ref a0, l1] [] σ = ru d 101 25 [.ref a0, l1] [.ref a0] σ := q_aload_n t101_24 rfl
theorem t101_25 : decode (mb 101) 25 = .ok (.getfield 10, 3) := by decide +kernel
theorem s101_25_o0 (d : Nat) (l0 : Value) (l1 : Value) (σ : Hs) : ru d 101 25 [l0, l1] [.ref 0] σ = ru d 101 28 [l0, l1] [.ref 1] σ := q_getf t101_25 mo101 F7_10 rfl rfl
theorem t101_28 : decode (mb 101) 28 = .ok (.getfield 146, 3) := by decide +kernel
theorem s101_28_o1 (d : Nat) (l0 : Value) (l1 : Value) (σ : Hs) : ru d 101 28 [l0, l1] [.ref 1] σ = ru d 101 31 [l0, l1] [.ref 13] σ := q_getf t101_28 mo101 F7_146 rfl rfl
theorem t101_31 : decode (mb 101) 31 = .ok (.iconst 1, 1) := by decide +kernel
theorem s101_31 (d : Nat) (l0 : Value) (l1 : Value) (w0 : Value) (σ : Hs) : ru d 101 31 [l0, l1] [w0] σ = ru d 101 32 [l0, l1] [.int 1, w0] σ := q_iconst t101_31 (by decide +kernel)
theorem t101_32 : decode (mb 101) 32 = .ok (.aload_n 1, 1) := by decide +kernel
theorem s101_32 (d : Nat) (l0 : Value) (a1 : Nat) (w0 w1 : Value) (σ : Hs) : ru d 101 32 [l0, .ref a1] [w0, w1] σ = ru d 101 33 [l0, .ref a1] [.ref a1, w0, w1] σ := q_aload_n t101_32 rfl
theorem t101_33 : decode (mb 101) 33 = .ok (.invokevirtual 296, 3) := by decide +kernel
theorem s101_33_o2 (d : Nat) (l0 : Value) (l1 : Value) (w0 : Int32) (w1 : Nat) (σ : Hs) : ru d 101 33 [l0, l1] [.ref 2, .int w0, .ref w1] σ = kont (callD d 5 [.ref 2] σ) d 101 36 [l0, l1] [.int w0, .ref w1] := q_invv t101_33 mo101 K7_296 mj5 rfl rfl rfl rfl (Nat.le_of_ble_eq_true rfl)
theorem t101_36 : decode (mb 101) 36 = .ok (.aload_n 1, 1) := by decide +kernel
theorem s101_36 (d : Nat) (l0 : Value) (a1 : Nat) (w0 w1 w2 : Value) (σ : Hs) : ru d 101 36 [l0, .ref a1] [w0, w1, w2] σ = ru d 101 37 [l0, .ref a1] [.ref a1, w0, w1, w2] σ := q_aload_n t101_36 rfl
theorem t101_37 : decode (mb 101) 37 = .ok (.getfield 124, 3) := by decide +kernel
theorem s101_37_o2 (d : Nat) (l0 : Value) (l1 : Value) (w0 w1 w2 : Value) (σ : Hs) : ru d 101 37 [l0, l1] [.ref 2, w0, w1, w2] σ = ru d 101 40 [l0, l1] [.ref 9, w0, w1, w2] σ := q_getf t101_37 mo101 F7_124 rfl rfl
theorem t101_40 : decode (mb 101) 40 = .ok (.iconst 1, 1) := by decide +kernel
theorem s101_40 (d : Nat) (l0 : Value) (l1 : Value) (w0 w1 w2 w3 : Value) (σ : Hs) : ru d 101 40 [l0, l1] [w0, w1, w2, w3] σ = ru d 101 41 [l0, l1] [.int 1, w0, w1, w2, w3] σ := q_iconst t101_40 (by decide +kernel)
theorem t101_41 : decode (mb 101) 41 = .ok (.iaload, 1) := by decide +kernel
theorem s101_41_o9 (d : Nat) (l0 : Value) (l1 : Value) (i : Int32) (w0 w1 w2 : Value) (σ : Hs) : ru d 101 41 [l0, l1] [.int i, .ref 9, w0, w1, w2] σ = gd (vp_in i 5) (ru d 101 42 [l0, l1] [.int (σ 9 i.toNatClampNeg), w0, w1, w2] σ) := q_iald t101_41 rfl (by decide +kernel) rfl
theorem t101_42 : decode (mb 101) 42 = .ok (.aload_n 1, 1) := by decide +kernel
theorem s101_42 (d : Nat) (l0 : Value) (a1 : Nat) (w0 w1 w2 w3 : Value) (σ : Hs) : ru d 101 42 [l0, .ref a1] [w0, w1, w2, w3] σ = ru d 101 43 [l0, .ref a1] [.ref a1, w0, w1, w2, w3] σ := q_aload_n t101_42 rfl
theorem t101_43 : decode (mb 101) 43 = .ok (.invokevirtual 215, 3) := by decide +kernel
theorem s101_43_o2 (d : Nat) (l0 : Value) (l1 : Value) (w0 : Int32) (w1 : Int32) (w2 : Int32) (w3 : Nat) (σ : Hs) : ru d 101 43 [l0, l1] [.ref 2, .int w0, .int w1, .int w2, .ref w3] σ = kont (callD d 7 [.ref 2] σ) d 101 46 [l0, l1] [.int w0, .int w1, .int w2, .ref w3] := q_invv t101_43 mo101 K7_215 mj7 rfl rfl rfl rfl (Nat.le_of_ble_eq_true rfl)
theorem t101_46 : decode (mb 101) 46 = .ok (.aload_n 1, 1) := by decide +kernel
theorem s101_46 (d : Nat) (l0 : Value) (a1 : Nat) (w0 w1 w2 w3 w4 : Value) (σ : Hs) : ru d 101 46 [l0, .ref a1] [w0, w1, w2, w3, w4] σ = ru d 101 47 [l0, .ref a1] [.ref a1, w0, w1, w2, w3, w4] σ := q_aload_n t101_46 rfl
theorem t101_47 : decode (mb 101) 47 = .ok (.invokevirtual 292, 3) := by decide +kernel
theorem s101_47_o2 (d : Nat) (l0 : Value) (l1 : Value) (w0 : Int32) (w1 : Int32) (w2 : Int32) (w3 : Int32) (w4 : Nat) (σ : Hs) : ru d 101 47 [l0, l1] [.ref 2, .int w0, .int w1, .int w2, .int w3, .ref w4] σ = kont (callD d 6 [.ref 2] σ) d 101 50 [l0, l1] [.int w0, .int w1, .int w2, .int w3, .ref w4] := q_invv t101_47 mo101 K7_292 mj6 rfl rfl rfl rfl (Nat.le_of_ble_eq_true rfl)
theorem t101_50 : decode (mb 101) 50 = .ok (.invokevirtual 299, 3) := by decide +kernel
theorem s101_50_o13 (d : Nat) (l0 : Value) (l1 : Value) (v1 v2 v3 v4 v5 : Value) (σ : Hs) : ru d 101 50 [l0, l1] [v5, v4, v3, v2, v1, .ref 13] σ = kont (callD d 33 [.ref 13, v1, v2, v3, v4, v5] σ) d 101 53 [l0, l1] [] := q_invv t101_50 mo101 K7_299 mj33 rfl rfl rfl rfl (Nat.le_of_ble_eq_true rfl)
theorem t101_53 : decode (mb 101) 53 = .ok (.ifCond .eq 7, 3) := by decide +kernel
theorem s101_53 (d : Nat) (l0 : Value) (l1 : Value) (x : Int32) (σ : Hs) : ru d 101 53 [l0, l1] [.int x] σ = if x = 0 then ru d 101 60 [l0, l1] [] σ else ru d 101 56 [l0, l1] [] σ := q_if_eq t101_53 (by decide +kernel)
theorem t101_56 : decode (mb 101) 56 = .ok (.iconst 1, 1) := by decide +kernel
theorem s101_56 (d : Nat) (l0 : Value) (l1 : Value) (σ : Hs) : ru d 101 56 [l0, l1] [] σ = ru d 101 57 [l0, l1] [.int 1] σ := q_iconst t101_56 (by decide +kernel)
theorem t101_57 : decode (mb 101) 57 = .ok (.goto 4, 3) := by decide +kernel
theorem s101_57 (d : Nat) (l0 : Value) (l1 : Value) (w0 : Value) (σ : Hs) : ru d 101 57 [l0, l1] [w0] σ = ru d 101 61 [l0, l1] [w0] σ := q_goto t101_57 (by decide +kernel)
theorem t101_60 : decode (mb 101) 60 = .ok (.iconst 0, 1) := by decide +kernel
theorem s101_60 (d : Nat) (l0 : Value) (l1 : Value) (σ : Hs) : ru d 101 60 [l0, l1] [] σ = ru d 101 61 [l0, l1] [.int 0] σ := q_iconst t101_60 (by decide +kernel)
theorem t101_61 : decode (mb 101) 61 = .ok (.ireturn, 1) := by decide +kernel
theorem s101_61 (d : Nat) (l0 : Value) (l1 : Value) (x : Int32) (hx : isB x) (σ : Hs) : ru d 101 61 [l0, l1] [.int x] σ = some (some (.int x), σ) := q_iretz t101_61 mr101 hx
theorem c101 (d : Nat) (x0 : Nat) (σ : Hs) : callD (d + 1) 101 [.ref x0] σ = ru d 101 0 [.ref x0, uu] [] σ := callD_ru ml101 rfl rfl (Nat.le_of_ble_eq_true rfl)
-- 102: SmokyHeap.botheredFrom(II)I
theorem t102_0 : decode (mb 102) 0 = .ok (.aload_n 0, 1) := by decide +kernel
theorem s102_0 (d : Nat) (a0 : Nat) (l1 : Value) (l2 : Value) (l3 : Value) (σ : Hs) : ru d 102 0 [.ref a0, l1, l2, l3] [] σ = ru d 102 1 [.ref a0, l1, l2, l3] [.ref a0] σ := q_aload_n t102_0 rfl
theorem t102_1 : decode (mb 102) 1 = .ok (.getfield 22, 3) := by decide +kernel
theorem s102_1_o0 (d : Nat) (l0 : Value) (l1 : Value) (l2 : Value) (l3 : Value) (σ : Hs) : ru d 102 1 [l0, l1, l2, l3] [.ref 0] σ = ru d 102 4 [l0, l1, l2, l3] [.ref 59] σ := q_getf t102_1 mo102 F7_22 rfl rfl
theorem t102_4 : decode (mb 102) 4 = .ok (.getfield 124, 3) := by decide +kernel
theorem s102_4_o59 (d : Nat) (l0 : Value) (l1 : Value) (l2 : Value) (l3 : Value) (σ : Hs) : ru d 102 4 [l0, l1, l2, l3] [.ref 59] σ = ru d 102 7 [l0, l1, l2, l3] [.ref 66] σ := q_getf t102_4 mo102 F7_124 rfl rfl
theorem t102_7 : decode (mb 102) 7 = .ok (.iconst 0, 1) := by decide +kernel
theorem s102_7 (d : Nat) (l0 : Value) (l1 : Value) (l2 : Value) (l3 : Value) (w0 : Value) (σ : Hs) : ru d 102 7 [l0, l1, l2, l3] [w0] σ = ru d 102 8 [l0, l1, l2, l3] [.int 0, w0] σ := q_iconst t102_7 (by decide +kernel)
theorem t102_8 : decode (mb 102) 8 = .ok (.bipush 60, 2) := by decide +kernel
theorem s102_8 (d : Nat) (l0 : Value) (l1 : Value) (l2 : Value) (l3 : Value) (w0 w1 : Value) (σ : Hs) : ru d 102 8 [l0, l1, l2, l3] [w0, w1] σ = ru d 102 10 [l0, l1, l2, l3] [.int 60, w0, w1] σ := q_bipush t102_8 (by decide +kernel)
theorem t102_10 : decode (mb 102) 10 = .ok (.iload_n 1, 1) := by decide +kernel
theorem s102_10 (d : Nat) (l0 : Value) (i1 : Int32) (l2 : Value) (l3 : Value) (w0 w1 w2 : Value) (σ : Hs) : ru d 102 10 [l0, .int i1, l2, l3] [w0, w1, w2] σ = ru d 102 11 [l0, .int i1, l2, l3] [.int i1, w0, w1, w2] σ := q_iload_n t102_10 rfl
theorem t102_11 : decode (mb 102) 11 = .ok (.imul, 1) := by decide +kernel
theorem s102_11 (d : Nat) (l0 : Value) (l1 : Value) (l2 : Value) (l3 : Value) (x y : Int32) (w0 w1 : Value) (σ : Hs) : ru d 102 11 [l0, l1, l2, l3] [.int y, .int x, w0, w1] σ = ru d 102 12 [l0, l1, l2, l3] [.int (x * y), w0, w1] σ := q_imul t102_11
theorem t102_12 : decode (mb 102) 12 = .ok (.iastore, 1) := by decide +kernel
theorem s102_12_o66 (d : Nat) (l0 : Value) (l1 : Value) (l2 : Value) (l3 : Value) (i x : Int32) (σ : Hs) : ru d 102 12 [l0, l1, l2, l3] [.int x, .int i, .ref 66] σ = gd (vp_in i 5) (ru d 102 13 [l0, l1, l2, l3] [] (up2 σ 66 i.toNatClampNeg x)) := q_iast t102_12 (by decide +kernel) rfl rfl
theorem t102_13 : decode (mb 102) 13 = .ok (.aload_n 0, 1) := by decide +kernel
theorem s102_13 (d : Nat) (a0 : Nat) (l1 : Value) (l2 : Value) (l3 : Value) (σ : Hs) : ru d 102 13 [.ref a0, l1, l2, l3] [] σ = ru d 102 14 [.ref a0, l1, l2, l3] [.ref a0] σ := q_aload_n t102_13 rfl
theorem t102_14 : decode (mb 102) 14 = .ok (.getfield 22, 3) := by decide +kernel
theorem s102_14_o0 (d : Nat) (l0 : Value) (l1 : Value) (l2 : Value) (l3 : Value) (σ : Hs) : ru d 102 14 [l0, l1, l2, l3] [.ref 0] σ = ru d 102 17 [l0, l1, l2, l3] [.ref 59] σ := q_getf t102_14 mo102 F7_22 rfl rfl
theorem t102_17 : decode (mb 102) 17 = .ok (.invokevirtual 303, 3) := by decide +kernel
theorem s102_17_o59 (d : Nat) (l0 : Value) (l1 : Value) (l2 : Value) (l3 : Value) (σ : Hs) : ru d 102 17 [l0, l1, l2, l3] [.ref 59] σ = kont (callD d 22 [.ref 59] σ) d 102 20 [l0, l1, l2, l3] [] := q_invv t102_17 mo102 K7_303 mj22 rfl rfl rfl rfl (Nat.le_of_ble_eq_true rfl)
theorem t102_20 : decode (mb 102) 20 = .ok (.iconst 0, 1) := by decide +kernel
theorem s102_20 (d : Nat) (l0 : Value) (l1 : Value) (l2 : Value) (l3 : Value) (σ : Hs) : ru d 102 20 [l0, l1, l2, l3] [] σ = ru d 102 21 [l0, l1, l2, l3] [.int 0] σ := q_iconst t102_20 (by decide +kernel)
theorem t102_21 : decode (mb 102) 21 = .ok (.istore_n 3, 1) := by decide +kernel
theorem s102_21 (d : Nat) (l0 : Value) (l1 : Value) (i2 : Int32) (l3 : Value) (x : Int32) (σ : Hs) : ru d 102 21 [l0, l1, .int i2, l3] [.int x] σ = ru d 102 22 [l0, l1, .int i2, .int x] [] σ := q_istore_n t102_21 ⟨Nat.le_of_ble_eq_true rfl, rfl⟩ rfl
theorem t102_22 : decode (mb 102) 22 = .ok (.iload_n 3, 1) := by decide +kernel
theorem s102_22 (d : Nat) (l0 : Value) (l1 : Value) (l2 : Value) (i3 : Int32) (σ : Hs) : ru d 102 22 [l0, l1, l2, .int i3] [] σ = ru d 102 23 [l0, l1, l2, .int i3] [.int i3] σ := q_iload_n t102_22 rfl
theorem t102_23 : decode (mb 102) 23 = .ok (.iload_n 2, 1) := by decide +kernel
theorem s102_23 (d : Nat) (l0 : Value) (l1 : Value) (i2 : Int32) (l3 : Value) (w0 : Value) (σ : Hs) : ru d 102 23 [l0, l1, .int i2, l3] [w0] σ = ru d 102 24 [l0, l1, .int i2, l3] [.int i2, w0] σ := q_iload_n t102_23 rfl
theorem t102_24 : decode (mb 102) 24 = .ok (.if_icmp .ge 29, 3) := by decide +kernel
theorem s102_24 (d : Nat) (l0 : Value) (l1 : Value) (l2 : Value) (l3 : Value) (x y : Int32) (σ : Hs) : ru d 102 24 [l0, l1, l2, l3] [.int y, .int x] σ = if y ≤ x then ru d 102 53 [l0, l1, l2, l3] [] σ else ru d 102 27 [l0, l1, l2, l3] [] σ := q_ic_ge t102_24 (by decide +kernel)
theorem t102_27 : decode (mb 102) 27 = .ok (.aload_n 0, 1) := by decide +kernel
theorem s102_27 (d : Nat) (a0 : Nat) (l1 : Value) (l2 : Value) (l3 : Value) (σ : Hs) : ru d 102 27 [.ref a0, l1, l2, l3] [] σ = ru d 102 28 [.ref a0, l1, l2, l3] [.ref a0] σ := q_aload_n t102_27 rfl
theorem t102_28 : decode (mb 102) 28 = .ok (.getfield 22, 3) := by decide +kernel
theorem s102_28_o0 (d : Nat) (l0 : Value) (l1 : Value) (l2 : Value) (l3 : Value) (σ : Hs) : ru d 102 28 [l0, l1, l2, l3] [.ref 0] σ = ru d 102 31 [l0, l1, l2, l3] [.ref 59] σ := q_getf t102_28 mo102 F7_22 rfl rfl
theorem t102_31 : decode (mb 102) 31 = .ok (.aload_n 0, 1) := by decide +kernel
theorem s102_31 (d : Nat) (a0 : Nat) (l1 : Value) (l2 : Value) (l3 : Value) (w0 : Value) (σ : Hs) : ru d 102 31 [.ref a0, l1, l2, l3] [w0] σ = ru d 102 32 [.ref a0, l1, l2, l3] [.ref a0, w0] σ := q_aload_n t102_31 rfl
theorem t102_32 : decode (mb 102) 32 = .ok (.getfield 51, 3) := by decide +kernel
theorem s102_32_o0 (d : Nat) (l0 : Value) (l1 : Value) (l2 : Value) (l3 : Value) (w0 : Value) (σ : Hs) : ru d 102 32 [l0, l1, l2, l3] [.ref 0, w0] σ = ru d 102 35 [l0, l1, l2, l3] [.ref 86, w0] σ := q_getf t102_32 mo102 F7_51 rfl rfl
theorem t102_35 : decode (mb 102) 35 = .ok (.iload_n 3, 1) := by decide +kernel
theorem s102_35 (d : Nat) (l0 : Value) (l1 : Value) (l2 : Value) (i3 : Int32) (w0 w1 : Value) (σ : Hs) : ru d 102 35 [l0, l1, l2, .int i3] [w0, w1] σ = ru d 102 36 [l0, l1, l2, .int i3] [.int i3, w0, w1] σ := q_iload_n t102_35 rfl
theorem t102_36 : decode (mb 102) 36 = .ok (.iaload, 1) := by decide +kernel
theorem s102_36_o86 (d : Nat) (l0 : Value) (l1 : Value) (l2 : Value) (l3 : Value) (i : Int32) (w0 : Value) (σ : Hs) : ru d 102 36 [l0, l1, l2, l3] [.int i, .ref 86, w0] σ = gd (vp_in i 60) (ru d 102 37 [l0, l1, l2, l3] [.int (σ 86 i.toNatClampNeg), w0] σ) := q_iald t102_36 rfl (by decide +kernel) rfl
theorem t102_37 : decode (mb 102) 37 = .ok (.aload_n 0, 1) := by decide +kernel
theorem s102_37 (d : Nat) (a0 : Nat) (l1 : Value) (l2 : Value) (l3 : Value) (w0 w1 : Value) (σ : Hs) : ru d 102 37 [.ref a0, l1, l2, l3] [w0, w1] σ = ru d 102 38 [.ref a0, l1, l2, l3] [.ref a0, w0, w1] σ := q_aload_n t102_37 rfl
theorem t102_38 : decode (mb 102) 38 = .ok (.getfield 10, 3) := by decide +kernel
theorem s102_38_o0 (d : Nat) (l0 : Value) (l1 : Value) (l2 : Value) (l3 : Value) (w0 w1 : Value) (σ : Hs) : ru d 102 38 [l0, l1, l2, l3] [.ref 0, w0, w1] σ = ru d 102 41 [l0, l1, l2, l3] [.ref 1, w0, w1] σ := q_getf t102_38 mo102 F7_10 rfl rfl
theorem t102_41 : decode (mb 102) 41 = .ok (.getfield 146, 3) := by decide +kernel
theorem s102_41_o1 (d : Nat) (l0 : Value) (l1 : Value) (l2 : Value) (l3 : Value) (w0 w1 : Value) (σ : Hs) : ru d 102 41 [l0, l1, l2, l3] [.ref 1, w0, w1] σ = ru d 102 44 [l0, l1, l2, l3] [.ref 13, w0, w1] σ := q_getf t102_41 mo102 F7_146 rfl rfl
theorem t102_44 : decode (mb 102) 44 = .ok (.invokevirtual 306, 3) := by decide +kernel
theorem s102_44_o59 (d : Nat) (l0 : Value) (l1 : Value) (l2 : Value) (l3 : Value) (v1 v2 : Value) (σ : Hs) : ru d 102 44 [l0, l1, l2, l3] [v2, v1, .ref 59] σ = kont (callD d 20 [.ref 59, v1, v2] σ) d 102 47 [l0, l1, l2, l3] [] := q_invv t102_44 mo102 K7_306 mj20 rfl rfl rfl rfl (Nat.le_of_ble_eq_true rfl)
theorem t102_47 : decode (mb 102) 47 = .ok (.iinc 3 1, 3) := by decide +kernel
theorem s102_47 (d : Nat) (l0 : Value) (l1 : Value) (i2 : Int32) (i3 : Int32) (σ : Hs) : ru d 102 47 [l0, l1, .int i2, .int i3] [] σ = ru d 102 50 [l0, l1, .int i2, .int (i3 + 1)] [] σ := q_iinc t102_47 ⟨Nat.le_of_ble_eq_true rfl, rfl⟩ rfl (by decide +kernel) rfl
theorem t102_50 : decode (mb 102) 50 = .ok (.goto (-28), 3) := by decide +kernel
theorem s102_50 (d : Nat) (l0 : Value) (l1 : Value) (l2 : Value) (l3 : Value) (σ : Hs) : ru d 102 50 [l0, l1, l2, l3] [] σ = ru d 102 22 [l0, l1, l2, l3] [] σ := q_goto t102_50 (by decide +kernel)
theorem t102_53 : decode (mb 102) 53 = .ok (.aload_n 0, 1) := by decide +kernel
theorem s102_53 (d : Nat) (a0 : Nat) (l1 : Value) (l2 : Value) (l3 : Value) (σ : Hs) : ru d 102 53 [.ref a0, l1, l2, l3] [] σ = ru d 102 54 [.ref a0, l1, l2, l3] [.ref a0] σ := q_aload_n t102_53 rfl
theorem t102_54 : decode (mb 102) 54 = .ok (.getfield 22, 3) := by decide +kernel
theorem s102_54_o0 (d : Nat) (l0 : Value) (l1 : Value) (l2 : Value) (l3 : Value) (σ : Hs) : ru d 102 54 [l0, l1, l2, l3] [.ref 0] σ = ru d 102 57 [l0, l1, l2, l3] [.ref 59] σ := q_getf t102_54 mo102 F7_22 rfl rfl
theorem t102_57 : decode (mb 102) 57 = .ok (.invokevirtual 309, 3) := by decide +kernel
theorem s102_57_o59 (d : Nat) (l0 : Value) (l1 : Value) (l2 : Value) (l3 : Value) (σ : Hs) : ru d 102 57 [l0, l1, l2, l3] [.ref 59] σ = kont (callD d 23 [.ref 59] σ) d 102 60 [l0, l1, l2, l3] [] := q_invv t102_57 mo102 K7_309 mj23 rfl rfl rfl rfl (Nat.le_of_ble_eq_true rfl)
theorem t102_60 : decode (mb 102) 60 = .ok (.ireturn, 1) := by decide +kernel
theorem s102_60 (d : Nat) (l0 : Value) (l1 : Value) (l2 : Value) (l3 : Value) (x : Int32) (σ : Hs) : ru d 102 60 [l0, l1, l2, l3] [.int x] σ = some (some (.int x), σ) := q_ireti t102_60 mr102
theorem c102 (d : Nat) (x0 : Nat) (x1 : Int32) (x2 : Int32) (σ : Hs) : callD (d + 1) 102 [.ref x0, .int x1, .int x2] σ = ru d 102 0 [.ref x0, .int x1, .int x2, uu] [] σ := callD_ru ml102 rfl rfl (Nat.le_of_ble_eq_true rfl)
-- 103: SmokyHeap.within(III)Z
theorem t103_0 : decode (mb 103) 0 = .ok (.iload_n 0, 1) := by decide +kernel
theorem s103_0 (d : Nat) (i0 : Int32) (l1 : Value) (l2 : Value) (σ : Hs) : ru d 103 0 [.int i0, l1, l2] [] σ = ru d 103 1 [.int i0, l1, l2] [.int i0] σ := q_iload_n t103_0 rfl
theorem t103_1 : decode (mb 103) 1 = .ok (.iload_n 1, 1) := by decide +kernel
theorem s103_1 (d : Nat) (l0 : Value) (i1 : Int32) (l2 : Value) (w0 : Value) (σ : Hs) : ru d 103 1 [l0, .int i1, l2] [w0] σ = ru d 103 2 [l0, .int i1, l2] [.int i1, w0] σ := q_iload_n t103_1 rfl
theorem t103_2 : decode (mb 103) 2 = .ok (.if_icmp .lt 12, 3) := by decide +kernel
theorem s103_2 (d : Nat) (l0 : Value) (l1 : Value) (l2 : Value) (x y : Int32) (σ : Hs) : ru d 103 2 [l0, l1, l2] [.int y, .int x] σ = if x < y then ru d 103 14 [l0, l1, l2] [] σ else ru d 103 5 [l0, l1, l2] [] σ := q_ic_lt t103_2 (by decide +kernel)
theorem t103_5 : decode (mb 103) 5 = .ok (.iload_n 0, 1) := by decide +kernel
theorem s103_5 (d : Nat) (i0 : Int32) (l1 : Value) (l2 : Value) (σ : Hs) : ru d 103 5 [.int i0, l1, l2] [] σ = ru d 103 6 [.int i0, l1, l2] [.int i0] σ := q_iload_n t103_5 rfl
theorem t103_6 : decode (mb 103) 6 = .ok (.iload_n 2, 1) := by decide +kernel
theorem s103_6 (d : Nat) (l0 : Value) (l1 : Value) (i2 : Int32) (w0 : Value) (σ : Hs) : ru d 103 6 [l0, l1, .int i2] [w0] σ = ru d 103 7 [l0, l1, .int i2] [.int i2, w0] σ := q_iload_n t103_6 rfl
theorem t103_7 : decode (mb 103) 7 = .ok (.if_icmp .gt 7, 3) := by decide +kernel
theorem s103_7 (d : Nat) (l0 : Value) (l1 : Value) (l2 : Value) (x y : Int32) (σ : Hs) : ru d 103 7 [l0, l1, l2] [.int y, .int x] σ = if y < x then ru d 103 14 [l0, l1, l2] [] σ else ru d 103 10 [l0, l1, l2] [] σ := q_ic_gt t103_7 (by decide +kernel)
theorem t103_10 : decode (mb 103) 10 = .ok (.iconst 1, 1) := by decide +kernel
theorem s103_10 (d : Nat) (l0 : Value) (l1 : Value) (l2 : Value) (σ : Hs) : ru d 103 10 [l0, l1, l2] [] σ = ru d 103 11 [l0, l1, l2] [.int 1] σ := q_iconst t103_10 (by decide +kernel)
theorem t103_11 : decode (mb 103) 11 = .ok (.goto 4, 3) := by decide +kernel
theorem s103_11 (d : Nat) (l0 : Value) (l1 : Value) (l2 : Value) (w0 : Value) (σ : Hs) : ru d 103 11 [l0, l1, l2] [w0] σ = ru d 103 15 [l0, l1, l2] [w0] σ := q_goto t103_11 (by decide +kernel)
theorem t103_14 : decode (mb 103) 14 = .ok (.iconst 0, 1) := by decide +kernel
theorem s103_14 (d : Nat) (l0 : Value) (l1 : Value) (l2 : Value) (σ : Hs) : ru d 103 14 [l0, l1, l2] [] σ = ru d 103 15 [l0, l1, l2] [.int 0] σ := q_iconst t103_14 (by decide +kernel)
theorem t103_15 : decode (mb 103) 15 = .ok (.ireturn, 1) := by decide +kernel
theorem s103_15 (d : Nat) (l0 : Value) (l1 : Value) (l2 : Value) (x : Int32) (hx : isB x) (σ : Hs) : ru d 103 15 [l0, l1, l2] [.int x] σ = some (some (.int x), σ) := q_iretz t103_15 mr103 hx
theorem c103 (d : Nat) (x0 : Int32) (x1 : Int32) (x2 : Int32) (σ : Hs) : callD (d + 1) 103 [.int x0, .int x1, .int x2] σ = ru d 103 0 [.int x0, .int x1, .int x2] [] σ := callD_ru ml103 rfl rfl (Nat.le_of_ble_eq_true rfl)
-- 104: SmokyHeap.isPlace(I)Z
theorem t104_0 : decode (mb 104) 0 = .ok (.iload_n 0, 1) := by decide +kernel
theorem s104_0 (d : Nat) (i0 : Int32) (σ : Hs) : ru d 104 0 [.int i0] [] σ = ru d 104 1 [.int i0] [.int i0] σ := q_iload_n t104_0 rfl
theorem t104_1 : decode (mb 104) 1 = .ok (.ifCond .lt 13, 3) := by decide +kernel
theorem s104_1 (d : Nat) (l0 : Value) (x : Int32) (σ : Hs) : ru d 104 1 [l0] [.int x] σ = if x < 0 then ru d 104 14 [l0] [] σ else ru d 104 4 [l0] [] σ := q_if_lt t104_1 (by decide +kernel)
theorem t104_4 : decode (mb 104) 4 = .ok (.iload_n 0, 1) := by decide +kernel
theorem s104_4 (d : Nat) (i0 : Int32) (σ : Hs) : ru d 104 4 [.int i0] [] σ = ru d 104 5 [.int i0] [.int i0] σ := q_iload_n t104_4 rfl
theorem t104_5 : decode (mb 104) 5 = .ok (.bipush 30, 2) := by decide +kernel
theorem s104_5 (d : Nat) (l0 : Value) (w0 : Value) (σ : Hs) : ru d 104 5 [l0] [w0] σ = ru d 104 7 [l0] [.int 30, w0] σ := q_bipush t104_5 (by decide +kernel)
theorem t104_7 : decode (mb 104) 7 = .ok (.if_icmp .ge 7, 3) := by decide +kernel
theorem s104_7 (d : Nat) (l0 : Value) (x y : Int32) (σ : Hs) : ru d 104 7 [l0] [.int y, .int x] σ = if y ≤ x then ru d 104 14 [l0] [] σ else ru d 104 10 [l0] [] σ := q_ic_ge t104_7 (by decide +kernel)
theorem t104_10 : decode (mb 104) 10 = .ok (.iconst 1, 1) := by decide +kernel
theorem s104_10 (d : Nat) (l0 : Value) (σ : Hs) : ru d 104 10 [l0] [] σ = ru d 104 11 [l0] [.int 1] σ := q_iconst t104_10 (by decide +kernel)
theorem t104_11 : decode (mb 104) 11 = .ok (.goto 4, 3) := by decide +kernel
theorem s104_11 (d : Nat) (l0 : Value) (w0 : Value) (σ : Hs) : ru d 104 11 [l0] [w0] σ = ru d 104 15 [l0] [w0] σ := q_goto t104_11 (by decide +kernel)
theorem t104_14 : decode (mb 104) 14 = .ok (.iconst 0, 1) := by decide +kernel
theorem s104_14 (d : Nat) (l0 : Value) (σ : Hs) : ru d 104 14 [l0] [] σ = ru d 104 15 [l0] [.int 0] σ := q_iconst t104_14 (by decide +kernel)
theorem t104_15 : decode (mb 104) 15 = .ok (.ireturn, 1) := by decide +kernel
theorem s104_15 (d : Nat) (l0 : Value) (x : Int32) (hx : isB x) (σ : Hs) : ru d 104 15 [l0] [.int x] σ = some (some (.int x), σ) := q_iretz t104_15 mr104 hx
theorem c104 (d : Nat) (x0 : Int32) (σ : Hs) : callD (d + 1) 104 [.int x0] σ = ru d 104 0 [.int x0] [] σ := callD_ru ml104 rfl rfl (Nat.le_of_ble_eq_true rfl)
-- 105: SmokyHeap.isKind(I)Z
theorem t105_0 : decode (mb 105) 0 = .ok (.iload_n 0, 1) := by decide +kernel
theorem s105_0 (d : Nat) (i0 : Int32) (σ : Hs) : ru d 105 0 [.int i0] [] σ = ru d 105 1 [.int i0] [.int i0] σ := q_iload_n t105_0 rfl
theorem t105_1 : decode (mb 105) 1 = .ok (.ifCond .lt 13, 3) := by decide +kernel
theorem s105_1 (d : Nat) (l0 : Value) (x : Int32) (σ : Hs) : ru d 105 1 [l0] [.int x] σ = if x < 0 then ru d 105 14 [l0] [] σ else ru d 105 4 [l0] [] σ := q_if_lt t105_1 (by decide +kernel)
theorem t105_4 : decode (mb 105) 4 = .ok (.iload_n 0, 1) := by decide +kernel
theorem s105_4 (d : Nat) (i0 : Int32) (σ : Hs) : ru d 105 4 [.int i0] [] σ = ru d 105 5 [.int i0] [.int i0] σ := q_iload_n t105_4 rfl
theorem t105_5 : decode (mb 105) 5 = .ok (.bipush 7, 2) := by decide +kernel
theorem s105_5 (d : Nat) (l0 : Value) (w0 : Value) (σ : Hs) : ru d 105 5 [l0] [w0] σ = ru d 105 7 [l0] [.int 7, w0] σ := q_bipush t105_5 (by decide +kernel)
theorem t105_7 : decode (mb 105) 7 = .ok (.if_icmp .ge 7, 3) := by decide +kernel
theorem s105_7 (d : Nat) (l0 : Value) (x y : Int32) (σ : Hs) : ru d 105 7 [l0] [.int y, .int x] σ = if y ≤ x then ru d 105 14 [l0] [] σ else ru d 105 10 [l0] [] σ := q_ic_ge t105_7 (by decide +kernel)
theorem t105_10 : decode (mb 105) 10 = .ok (.iconst 1, 1) := by decide +kernel
theorem s105_10 (d : Nat) (l0 : Value) (σ : Hs) : ru d 105 10 [l0] [] σ = ru d 105 11 [l0] [.int 1] σ := q_iconst t105_10 (by decide +kernel)
theorem t105_11 : decode (mb 105) 11 = .ok (.goto 4, 3) := by decide +kernel
theorem s105_11 (d : Nat) (l0 : Value) (w0 : Value) (σ : Hs) : ru d 105 11 [l0] [w0] σ = ru d 105 15 [l0] [w0] σ := q_goto t105_11 (by decide +kernel)
theorem t105_14 : decode (mb 105) 14 = .ok (.iconst 0, 1) := by decide +kernel
theorem s105_14 (d : Nat) (l0 : Value) (σ : Hs) : ru d 105 14 [l0] [] σ = ru d 105 15 [l0] [.int 0] σ := q_iconst t105_14 (by decide +kernel)
theorem t105_15 : decode (mb 105) 15 = .ok (.ireturn, 1) := by decide +kernel
theorem s105_15 (d : Nat) (l0 : Value) (x : Int32) (hx : isB x) (σ : Hs) : ru d 105 15 [l0] [.int x] σ = some (some (.int x), σ) := q_iretz t105_15 mr105 hx
theorem c105 (d : Nat) (x0 : Int32) (σ : Hs) : callD (d + 1) 105 [.int x0] σ = ru d 105 0 [.int x0] [] σ := callD_ru ml105 rfl rfl (Nat.le_of_ble_eq_true rfl)
-- 106: SmokyHeap.isUse(I)Z
theorem t106_0 : decode (mb 106) 0 = .ok (.iload_n 0, 1) := by decide +kernel
theorem s106_0 (d : Nat) (i0 : Int32) (σ : Hs) : ru d 106 0 [.int i0] [] σ = ru d 106 1 [.int i0] [.int i0] σ := q_iload_n t106_0 rfl
theorem t106_1 : decode (mb 106) 1 = .ok (.ifCond .lt 12, 3) := by decide +kernel
theorem s106_1 (d : Nat) (l0 : Value) (x : Int32) (σ : Hs) : ru d 106 1 [l0] [.int x] σ = if x < 0 then ru d 106 13 [l0] [] σ else ru d 106 4 [l0] [] σ := q_if_lt t106_1 (by decide +kernel)
theorem t106_4 : decode (mb 106) 4 = .ok (.iload_n 0, 1) := by decide +kernel
theorem s106_4 (d : Nat) (i0 : Int32) (σ : Hs) : ru d 106 4 [.int i0] [] σ = ru d 106 5 [.int i0] [.int i0] σ := q_iload_n t106_4 rfl
theorem t106_5 : decode (mb 106) 5 = .ok (.iconst 3, 1) := by decide +kernel
theorem s106_5 (d : Nat) (l0 : Value) (w0 : Value) (σ : Hs) : ru d 106 5 [l0] [w0] σ = ru d 106 6 [l0] [.int 3, w0] σ := q_iconst t106_5 (by decide +kernel)
theorem t106_6 : decode (mb 106) 6 = .ok (.if_icmp .ge 7, 3) := by decide +kernel
theorem s106_6 (d : Nat) (l0 : Value) (x y : Int32) (σ : Hs) : ru d 106 6 [l0] [.int y, .int x] σ = if y ≤ x then ru d 106 13 [l0] [] σ else ru d 106 9 [l0] [] σ := q_ic_ge t106_6 (by decide +kernel)
theorem t106_9 : decode (mb 106) 9 = .ok (.iconst 1, 1) := by decide +kernel
theorem s106_9 (d : Nat) (l0 : Value) (σ : Hs) : ru d 106 9 [l0] [] σ = ru d 106 10 [l0] [.int 1] σ := q_iconst t106_9 (by decide +kernel)
theorem t106_10 : decode (mb 106) 10 = .ok (.goto 4, 3) := by decide +kernel
theorem s106_10 (d : Nat) (l0 : Value) (w0 : Value) (σ : Hs) : ru d 106 10 [l0] [w0] σ = ru d 106 14 [l0] [w0] σ := q_goto t106_10 (by decide +kernel)
theorem t106_13 : decode (mb 106) 13 = .ok (.iconst 0, 1) := by decide +kernel
theorem s106_13 (d : Nat) (l0 : Value) (σ : Hs) : ru d 106 13 [l0] [] σ = ru d 106 14 [l0] [.int 0] σ := q_iconst t106_13 (by decide +kernel)
theorem t106_14 : decode (mb 106) 14 = .ok (.ireturn, 1) := by decide +kernel
theorem s106_14 (d : Nat) (l0 : Value) (x : Int32) (hx : isB x) (σ : Hs) : ru d 106 14 [l0] [.int x] σ = some (some (.int x), σ) := q_iretz t106_14 mr106 hx
theorem c106 (d : Nat) (x0 : Int32) (σ : Hs) : callD (d + 1) 106 [.int x0] σ = ru d 106 0 [.int x0] [] σ := callD_ru ml106 rfl rfl (Nat.le_of_ble_eq_true rfl)
-- 107: SmokyHeap.isGarden(I)Z
theorem t107_0 : decode (mb 107) 0 = .ok (.iload_n 0, 1) := by decide +kernel
theorem s107_0 (d : Nat) (i0 : Int32) (σ : Hs) : ru d 107 0 [.int i0] [] σ = ru d 107 1 [.int i0] [.int i0] σ := q_iload_n t107_0 rfl
theorem t107_1 : decode (mb 107) 1 = .ok (.ifCond .lt 13, 3) := by decide +kernel
theorem s107_1 (d : Nat) (l0 : Value) (x : Int32) (σ : Hs) : ru d 107 1 [l0] [.int x] σ = if x < 0 then ru d 107 14 [l0] [] σ else ru d 107 4 [l0] [] σ := q_if_lt t107_1 (by decide +kernel)
theorem t107_4 : decode (mb 107) 4 = .ok (.iload_n 0, 1) := by decide +kernel
theorem s107_4 (d : Nat) (i0 : Int32) (σ : Hs) : ru d 107 4 [.int i0] [] σ = ru d 107 5 [.int i0] [.int i0] σ := q_iload_n t107_4 rfl
theorem t107_5 : decode (mb 107) 5 = .ok (.bipush 9, 2) := by decide +kernel
theorem s107_5 (d : Nat) (l0 : Value) (w0 : Value) (σ : Hs) : ru d 107 5 [l0] [w0] σ = ru d 107 7 [l0] [.int 9, w0] σ := q_bipush t107_5 (by decide +kernel)
theorem t107_7 : decode (mb 107) 7 = .ok (.if_icmp .ge 7, 3) := by decide +kernel
theorem s107_7 (d : Nat) (l0 : Value) (x y : Int32) (σ : Hs) : ru d 107 7 [l0] [.int y, .int x] σ = if y ≤ x then ru d 107 14 [l0] [] σ else ru d 107 10 [l0] [] σ := q_ic_ge t107_7 (by decide +kernel)
theorem t107_10 : decode (mb 107) 10 = .ok (.iconst 1, 1) := by decide +kernel
theorem s107_10 (d : Nat) (l0 : Value) (σ : Hs) : ru d 107 10 [l0] [] σ = ru d 107 11 [l0] [.int 1] σ := q_iconst t107_10 (by decide +kernel)
theorem t107_11 : decode (mb 107) 11 = .ok (.goto 4, 3) := by decide +kernel
theorem s107_11 (d : Nat) (l0 : Value) (w0 : Value) (σ : Hs) : ru d 107 11 [l0] [w0] σ = ru d 107 15 [l0] [w0] σ := q_goto t107_11 (by decide +kernel)
theorem t107_14 : decode (mb 107) 14 = .ok (.iconst 0, 1) := by decide +kernel
theorem s107_14 (d : Nat) (l0 : Value) (σ : Hs) : ru d 107 14 [l0] [] σ = ru d 107 15 [l0] [.int 0] σ := q_iconst t107_14 (by decide +kernel)
theorem t107_15 : decode (mb 107) 15 = .ok (.ireturn, 1) := by decide +kernel
theorem s107_15 (d : Nat) (l0 : Value) (x : Int32) (hx : isB x) (σ : Hs) : ru d 107 15 [l0] [.int x] σ = some (some (.int x), σ) := q_iretz t107_15 mr107 hx
theorem c107 (d : Nat) (x0 : Int32) (σ : Hs) : callD (d + 1) 107 [.int x0] σ = ru d 107 0 [.int x0] [] σ := callD_ru ml107 rfl rfl (Nat.le_of_ble_eq_true rfl)
-- 108: SmokyHeap.isSheet(I)Z
theorem t108_0 : decode (mb 108) 0 = .ok (.iload_n 0, 1) := by decide +kernel
theorem s108_0 (d : Nat) (i0 : Int32) (σ : Hs) : ru d 108 0 [.int i0] [] σ = ru d 108 1 [.int i0] [.int i0] σ := q_iload_n t108_0 rfl
theorem t108_1 : decode (mb 108) 1 = .ok (.ifCond .lt 12, 3) := by decide +kernel
theorem s108_1 (d : Nat) (l0 : Value) (x : Int32) (σ : Hs) : ru d 108 1 [l0] [.int x] σ = if x < 0 then ru d 108 13 [l0] [] σ else ru d 108 4 [l0] [] σ := q_if_lt t108_1 (by decide +kernel)
theorem t108_4 : decode (mb 108) 4 = .ok (.iload_n 0, 1) := by decide +kernel
theorem s108_4 (d : Nat) (i0 : Int32) (σ : Hs) : ru d 108 4 [.int i0] [] σ = ru d 108 5 [.int i0] [.int i0] σ := q_iload_n t108_4 rfl
theorem t108_5 : decode (mb 108) 5 = .ok (.iconst 4, 1) := by decide +kernel
theorem s108_5 (d : Nat) (l0 : Value) (w0 : Value) (σ : Hs) : ru d 108 5 [l0] [w0] σ = ru d 108 6 [l0] [.int 4, w0] σ := q_iconst t108_5 (by decide +kernel)
theorem t108_6 : decode (mb 108) 6 = .ok (.if_icmp .ge 7, 3) := by decide +kernel
theorem s108_6 (d : Nat) (l0 : Value) (x y : Int32) (σ : Hs) : ru d 108 6 [l0] [.int y, .int x] σ = if y ≤ x then ru d 108 13 [l0] [] σ else ru d 108 9 [l0] [] σ := q_ic_ge t108_6 (by decide +kernel)
theorem t108_9 : decode (mb 108) 9 = .ok (.iconst 1, 1) := by decide +kernel
theorem s108_9 (d : Nat) (l0 : Value) (σ : Hs) : ru d 108 9 [l0] [] σ = ru d 108 10 [l0] [.int 1] σ := q_iconst t108_9 (by decide +kernel)
theorem t108_10 : decode (mb 108) 10 = .ok (.goto 4, 3) := by decide +kernel
theorem s108_10 (d : Nat) (l0 : Value) (w0 : Value) (σ : Hs) : ru d 108 10 [l0] [w0] σ = ru d 108 14 [l0] [w0] σ := q_goto t108_10 (by decide +kernel)
theorem t108_13 : decode (mb 108) 13 = .ok (.iconst 0, 1) := by decide +kernel
theorem s108_13 (d : Nat) (l0 : Value) (σ : Hs) : ru d 108 13 [l0] [] σ = ru d 108 14 [l0] [.int 0] σ := q_iconst t108_13 (by decide +kernel)
theorem t108_14 : decode (mb 108) 14 = .ok (.ireturn, 1) := by decide +kernel
theorem s108_14 (d : Nat) (l0 : Value) (x : Int32) (hx : isB x) (σ : Hs) : ru d 108 14 [l0] [.int x] σ = some (some (.int x), σ) := q_iretz t108_14 mr108 hx
theorem c108 (d : Nat) (x0 : Int32) (σ : Hs) : callD (d + 1) 108 [.int x0] σ = ru d 108 0 [.int x0] [] σ := callD_ru ml108 rfl rfl (Nat.le_of_ble_eq_true rfl)
-- 109: SmokyHeap.isAhead(I)Z
theorem t109_0 : decode (mb 109) 0 = .ok (.iload_n 0, 1) := by decide +kernel
theorem s109_0 (d : Nat) (i0 : Int32) (σ : Hs) : ru d 109 0 [.int i0] [] σ = ru d 109 1 [.int i0] [.int i0] σ := q_iload_n t109_0 rfl
theorem t109_1 : decode (mb 109) 1 = .ok (.ifCond .lt 13, 3) := by decide +kernel
theorem s109_1 (d : Nat) (l0 : Value) (x : Int32) (σ : Hs) : ru d 109 1 [l0] [.int x] σ = if x < 0 then ru d 109 14 [l0] [] σ else ru d 109 4 [l0] [] σ := q_if_lt t109_1 (by decide +kernel)
theorem t109_4 : decode (mb 109) 4 = .ok (.iload_n 0, 1) := by decide +kernel
theorem s109_4 (d : Nat) (i0 : Int32) (σ : Hs) : ru d 109 4 [.int i0] [] σ = ru d 109 5 [.int i0] [.int i0] σ := q_iload_n t109_4 rfl
theorem t109_5 : decode (mb 109) 5 = .ok (.bipush 60, 2) := by decide +kernel
theorem s109_5 (d : Nat) (l0 : Value) (w0 : Value) (σ : Hs) : ru d 109 5 [l0] [w0] σ = ru d 109 7 [l0] [.int 60, w0] σ := q_bipush t109_5 (by decide +kernel)
theorem t109_7 : decode (mb 109) 7 = .ok (.if_icmp .gt 7, 3) := by decide +kernel
theorem s109_7 (d : Nat) (l0 : Value) (x y : Int32) (σ : Hs) : ru d 109 7 [l0] [.int y, .int x] σ = if y < x then ru d 109 14 [l0] [] σ else ru d 109 10 [l0] [] σ := q_ic_gt t109_7 (by decide +kernel)
theorem t109_10 : decode (mb 109) 10 = .ok (.iconst 1, 1) := by decide +kernel
theorem s109_10 (d : Nat) (l0 : Value) (σ : Hs) : ru d 109 10 [l0] [] σ = ru d 109 11 [l0] [.int 1] σ := q_iconst t109_10 (by decide +kernel)
theorem t109_11 : decode (mb 109) 11 = .ok (.goto 4, 3) := by decide +kernel
theorem s109_11 (d : Nat) (l0 : Value) (w0 : Value) (σ : Hs) : ru d 109 11 [l0] [w0] σ = ru d 109 15 [l0] [w0] σ := q_goto t109_11 (by decide +kernel)
theorem t109_14 : decode (mb 109) 14 = .ok (.iconst 0, 1) := by decide +kernel
theorem s109_14 (d : Nat) (l0 : Value) (σ : Hs) : ru d 109 14 [l0] [] σ = ru d 109 15 [l0] [.int 0] σ := q_iconst t109_14 (by decide +kernel)
theorem t109_15 : decode (mb 109) 15 = .ok (.ireturn, 1) := by decide +kernel
theorem s109_15 (d : Nat) (l0 : Value) (x : Int32) (hx : isB x) (σ : Hs) : ru d 109 15 [l0] [.int x] σ = some (some (.int x), σ) := q_iretz t109_15 mr109 hx
theorem c109 (d : Nat) (x0 : Int32) (σ : Hs) : callD (d + 1) 109 [.int x0] σ = ru d 109 0 [.int x0] [] σ := callD_ru ml109 rfl rfl (Nat.le_of_ble_eq_true rfl)
-- 110: SmokyHeap.isOfKind(II)Z
theorem t110_0 : decode (mb 110) 0 = .ok (.iload_n 0, 1) := by decide +kernel
theorem s110_0 (d : Nat) (i0 : Int32) (l1 : Value) (l2 : Value) (l3 : Value) (σ : Hs) : ru d 110 0 [.int i0, l1, l2, l3] [] σ = ru d 110 1 [.int i0, l1, l2, l3] [.int i0] σ := q_iload_n t110_0 rfl
theorem t110_1 : decode (mb 110) 1 = .ok (.istore_n 2, 1) := by decide +kernel
theorem s110_1 (d : Nat) (l0 : Value) (i1 : Int32) (l2 : Value) (l3 : Value) (x : Int32) (σ : Hs) : ru d 110 1 [l0, .int i1, l2, l3] [.int x] σ = ru d 110 2 [l0, .int i1, .int x, l3] [] σ := q_istore_n t110_1 ⟨Nat.le_of_ble_eq_true rfl, rfl⟩ rfl
theorem t110_2 : decode (mb 110) 2 = .ok (.iconst 0, 1) := by decide +kernel
theorem s110_2 (d : Nat) (l0 : Value) (l1 : Value) (l2 : Value) (l3 : Value) (σ : Hs) : ru d 110 2 [l0, l1, l2, l3] [] σ = ru d 110 3 [l0, l1, l2, l3] [.int 0] σ := q_iconst t110_2 (by decide +kernel)
theorem t110_3 : decode (mb 110) 3 = .ok (.istore_n 3, 1) := by decide +kernel
theorem s110_3 (d : Nat) (l0 : Value) (l1 : Value) (i2 : Int32) (l3 : Value) (x : Int32) (σ : Hs) : ru d 110 3 [l0, l1, .int i2, l3] [.int x] σ = ru d 110 4 [l0, l1, .int i2, .int x] [] σ := q_istore_n t110_3 ⟨Nat.le_of_ble_eq_true rfl, rfl⟩ rfl
theorem t110_4 : decode (mb 110) 4 = .ok (.iload_n 3, 1) := by decide +kernel
theorem s110_4 (d : Nat) (l0 : Value) (l1 : Value) (l2 : Value) (i3 : Int32) (σ : Hs) : ru d 110 4 [l0, l1, l2, .int i3] [] σ = ru d 110 5 [l0, l1, l2, .int i3] [.int i3] σ := q_iload_n t110_4 rfl
theorem t110_5 : decode (mb 110) 5 = .ok (.bipush 7, 2) := by decide +kernel
theorem s110_5 (d : Nat) (l0 : Value) (l1 : Value) (l2 : Value) (l3 : Value) (w0 : Value) (σ : Hs) : ru d 110 5 [l0, l1, l2, l3] [w0] σ = ru d 110 7 [l0, l1, l2, l3] [.int 7, w0] σ := q_bipush t110_5 (by decide +kernel)
theorem t110_7 : decode (mb 110) 7 = .ok (.if_icmp .ge 29, 3) := by decide +kernel
theorem s110_7 (d : Nat) (l0 : Value) (l1 : Value) (l2 : Value) (l3 : Value) (x y : Int32) (σ : Hs) : ru d 110 7 [l0, l1, l2, l3] [.int y, .int x] σ = if y ≤ x then ru d 110 36 [l0, l1, l2, l3] [] σ else ru d 110 10 [l0, l1, l2, l3] [] σ := q_ic_ge t110_7 (by decide +kernel)
theorem t110_10 : decode (mb 110) 10 = .ok (.iload_n 2, 1) := by decide +kernel
theorem s110_10 (d : Nat) (l0 : Value) (l1 : Value) (i2 : Int32) (l3 : Value) (σ : Hs) : ru d 110 10 [l0, l1, .int i2, l3] [] σ = ru d 110 11 [l0, l1, .int i2, l3] [.int i2] σ := q_iload_n t110_10 rfl
theorem t110_11 : decode (mb 110) 11 = .ok (.invokestatic 91, 3) := by decide +kernel
theorem s110_11 (d : Nat) (l0 : Value) (l1 : Value) (l2 : Value) (l3 : Value) (v0 : Value) (σ : Hs) : ru d 110 11 [l0, l1, l2, l3] [v0] σ = kont (callD d 105 [v0] σ) d 110 14 [l0, l1, l2, l3] [] := q_invs t110_11 mo110 (by decide +kernel) K7_91 mj105 (Nat.le_of_ble_eq_true rfl) rfl rfl (Nat.le_of_ble_eq_true rfl)
theorem t110_14 : decode (mb 110) 14 = .ok (.ifCond .eq 22, 3) := by decide +kernel
theorem s110_14 (d : Nat) (l0 : Value) (l1 : Value) (l2 : Value) (l3 : Value) (x : Int32) (σ : Hs) : ru d 110 14 [l0, l1, l2, l3] [.int x] σ = if x = 0 then ru d 110 36 [l0, l1, l2, l3] [] σ else ru d 110 17 [l0, l1, l2, l3] [] σ := q_if_eq t110_14 (by decide +kernel)
theorem t110_17 : decode (mb 110) 17 = .ok (.iload_n 2, 1) := by decide +kernel
theorem s110_17 (d : Nat) (l0 : Value) (l1 : Value) (i2 : Int32) (l3 : Value) (σ : Hs) : ru d 110 17 [l0, l1, .int i2, l3] [] σ = ru d 110 18 [l0, l1, .int i2, l3] [.int i2] σ := q_iload_n t110_17 rfl
theorem t110_18 : decode (mb 110) 18 = .ok (.iload_n 1, 1) := by decide +kernel
theorem s110_18 (d : Nat) (l0 : Value) (i1 : Int32) (l2 : Value) (l3 : Value) (w0 : Value) (σ : Hs) : ru d 110 18 [l0, .int i1, l2, l3] [w0] σ = ru d 110 19 [l0, .int i1, l2, l3] [.int i1, w0] σ := q_iload_n t110_18 rfl
theorem t110_19 : decode (mb 110) 19 = .ok (.if_icmp .ne 5, 3) := by decide +kernel
theorem s110_19 (d : Nat) (l0 : Value) (l1 : Value) (l2 : Value) (l3 : Value) (x y : Int32) (σ : Hs) : ru d 110 19 [l0, l1, l2, l3] [.int y, .int x] σ = if x = y then ru d 110 22 [l0, l1, l2, l3] [] σ else ru d 110 24 [l0, l1, l2, l3] [] σ := q_ic_ne t110_19 (by decide +kernel)
theorem t110_22 : decode (mb 110) 22 = .ok (.iconst 1, 1) := by decide +kernel
theorem s110_22 (d : Nat) (l0 : Value) (l1 : Value) (l2 : Value) (l3 : Value) (σ : Hs) : ru d 110 22 [l0, l1, l2, l3] [] σ = ru d 110 23 [l0, l1, l2, l3] [.int 1] σ := q_iconst t110_22 (by decide +kernel)
theorem t110_23 : decode (mb 110) 23 = .ok (.ireturn, 1) := by decide +kernel
theorem s110_23 (d : Nat) (l0 : Value) (l1 : Value) (l2 : Value) (l3 : Value) (x : Int32) (hx : isB x) (σ : Hs) : ru d 110 23 [l0, l1, l2, l3] [.int x] σ = some (some (.int x), σ) := q_iretz t110_23 mr110 hx
theorem t110_24 : decode (mb 110) 24 = .ok (.getstatic 312, 3) := by decide +kernel
theorem s110_24 (d : Nat) (l0 : Value) (l1 : Value) (l2 : Value) (l3 : Value) (σ : Hs) : ru d 110 24 [l0, l1, l2, l3] [] σ = ru d 110 27 [l0, l1, l2, l3] [.ref 104] σ := q_gets t110_24 mo110 S7_312 rfl
theorem t110_27 : decode (mb 110) 27 = .ok (.iload_n 2, 1) := by decide +kernel
theorem s110_27 (d : Nat) (l0 : Value) (l1 : Value) (i2 : Int32) (l3 : Value) (w0 : Value) (σ : Hs) : ru d 110 27 [l0, l1, .int i2, l3] [w0] σ = ru d 110 28 [l0, l1, .int i2, l3] [.int i2, w0] σ := q_iload_n t110_27 rfl
theorem t110_28 : decode (mb 110) 28 = .ok (.iaload, 1) := by decide +kernel
theorem s110_28_o104 (d : Nat) (l0 : Value) (l1 : Value) (l2 : Value) (l3 : Value) (i : Int32) (σ : Hs) : ru d 110 28 [l0, l1, l2, l3] [.int i, .ref 104] σ = gd (vp_in i 7) (ru d 110 29 [l0, l1, l2, l3] [.int (([(-1), 0, 0, 1, 2, 0, 5] : List Int32).getD i.toNatClampNeg 0)] σ) := q_ials t110_28 rfl (by decide +kernel) rfl rfl
theorem t110_29 : decode (mb 110) 29 = .ok (.istore_n 2, 1) := by decide +kernel
theorem s110_29 (d : Nat) (l0 : Value) (i1 : Int32) (l2 : Value) (l3 : Value) (x : Int32) (σ : Hs) : ru d 110 29 [l0, .int i1, l2, l3] [.int x] σ = ru d 110 30 [l0, .int i1, .int x, l3] [] σ := q_istore_n t110_29 ⟨Nat.le_of_ble_eq_true rfl, rfl⟩ rfl
theorem t110_30 : decode (mb 110) 30 = .ok (.iinc 3 1, 3) := by decide +kernel
theorem s110_30 (d : Nat) (l0 : Value) (l1 : Value) (i2 : Int32) (i3 : Int32) (σ : Hs) : ru d 110 30 [l0, l1, .int i2, .int i3] [] σ = ru d 110 33 [l0, l1, .int i2, .int (i3 + 1)] [] σ := q_iinc t110_30 ⟨Nat.le_of_ble_eq_true rfl, rfl⟩ rfl (by decide +kernel) rfl
theorem t110_33 : decode (mb 110) 33 = .ok (.goto (-29), 3) := by decide +kernel
theorem s110_33 (d : Nat) (l0 : Value) (l1 : Value) (l2 : Value) (l3 : Value) (σ : Hs) : ru d 110 33 [l0, l1, l2, l3] [] σ = ru d 110 4 [l0, l1, l2, l3] [] σ := q_goto t110_33 (by decide +kernel)
theorem t110_36 : decode (mb 110) 36 = .ok (.iconst 0, 1) := by decide +kernel
theorem s110_36 (d : Nat) (l0 : Value) (l1 : Value) (l2 : Value) (l3 : Value) (σ : Hs) : ru d 110 36 [l0, l1, l2, l3] [] σ = ru d 110 37 [l0, l1, l2, l3] [.int 0] σ := q_iconst t110_36 (by decide +kernel)
theorem t110_37 : decode (mb 110) 37 = .ok (.ireturn, 1) := by decide +kernel
theorem s110_37 (d : Nat) (l0 : Value) (l1 : Value) (l2 : Value) (l3 : Value) (x : Int32) (hx : isB x) (σ : Hs) : ru d 110 37 [l0, l1, l2, l3] [.int x] σ = some (some (.int x), σ) := q_iretz t110_37 mr110 hx
theorem c110 (d : Nat) (x0 : Int32) (x1 : Int32) (σ : Hs) : callD (d + 1) 110 [.int x0, .int x1] σ = ru d 110 0 [.int x0, .int x1, uu, uu] [] σ := callD_ru ml110 rfl rfl (Nat.le_of_ble_eq_true rfl)
-- 111: SmokyHeap.nextGarden(II)I
theorem t111_0 : decode (mb 111) 0 = .ok (.iload_n 0, 1) := by decide +kernel
theorem s111_0 (d : Nat) (i0 : Int32) (l1 : Value) (l2 : Value) (l3 : Value) (σ : Hs) : ru d 111 0 [.int i0, l1, l2, l3] [] σ = ru d 111 1 [.int i0, l1, l2, l3] [.int i0] σ := q_iload_n t111_0 rfl
theorem t111_1 : decode (mb 111) 1 = .ok (.iconst 3, 1) := by decide +kernel
theorem s111_1 (d : Nat) (l0 : Value) (l1 : Value) (l2 : Value) (l3 : Value) (w0 : Value) (σ : Hs) : ru d 111 1 [l0, l1, l2, l3] [w0] σ = ru d 111 2 [l0, l1, l2, l3] [.int 3, w0] σ := q_iconst t111_1 (by decide +kernel)
theorem t111_2 : decode (mb 111) 2 = .ok (.irem, 1) := by decide +kernel
theorem s111_2 (d : Nat) (l0 : Value) (l1 : Value) (l2 : Value) (l3 : Value) (x y : Int32) (σ : Hs) : ru d 111 2 [l0, l1, l2, l3] [.int y, .int x] σ = gd (¬ y = 0) (ru d 111 3 [l0, l1, l2, l3] [.int (x - x / y * y)] σ) := q_irem t111_2
theorem t111_3 : decode (mb 111) 3 = .ok (.istore_n 2, 1) := by decide +kernel
theorem s111_3 (d : Nat) (l0 : Value) (i1 : Int32) (l2 : Value) (l3 : Value) (x : Int32) (σ : Hs) : ru d 111 3 [l0, .int i1, l2, l3] [.int x] σ = ru d 111 4 [l0, .int i1, .int x, l3] [] σ := q_istore_n t111_3 ⟨Nat.le_of_ble_eq_true rfl, rfl⟩ rfl
theorem t111_4 : decode (mb 111) 4 = .ok (.iload_n 1, 1) := by decide +kernel
theorem s111_4 (d : Nat) (l0 : Value) (i1 : Int32) (l2 : Value) (l3 : Value) (σ : Hs) : ru d 111 4 [l0, .int i1, l2, l3] [] σ = ru d 111 5 [l0, .int i1, l2, l3] [.int i1] σ := q_iload_n t111_4 rfl
theorem t111_5 : decode (mb 111) 5 = .ok (.ifCond .ne 16, 3) := by decide +kernel
theorem s111_5 (d : Nat) (l0 : Value) (l1 : Value) (l2 : Value) (l3 : Value) (x : Int32) (σ : Hs) : ru d 111 5 [l0, l1, l2, l3] [.int x] σ = if x = 0 then ru d 111 8 [l0, l1, l2, l3] [] σ else ru d 111 21 [l0, l1, l2, l3] [] σ := q_if_ne t111_5 (by decide +kernel)
theorem t111_8 : decode (mb 111) 8 = .ok (.iload_n 2, 1) := by decide +kernel
theorem s111_8 (d : Nat) (l0 : Value) (l1 : Value) (i2 : Int32) (l3 : Value) (σ : Hs) : ru d 111 8 [l0, l1, .int i2, l3] [] σ = ru d 111 9 [l0, l1, .int i2, l3] [.int i2] σ := q_iload_n t111_8 rfl
theorem t111_9 : decode (mb 111) 9 = .ok (.iconst 2, 1) := by decide +kernel
theorem s111_9 (d : Nat) (l0 : Value) (l1 : Value) (l2 : Value) (l3 : Value) (w0 : Value) (σ : Hs) : ru d 111 9 [l0, l1, l2, l3] [w0] σ = ru d 111 10 [l0, l1, l2, l3] [.int 2, w0] σ := q_iconst t111_9 (by decide +kernel)
theorem t111_10 : decode (mb 111) 10 = .ok (.if_icmp .ge 9, 3) := by decide +kernel
theorem s111_10 (d : Nat) (l0 : Value) (l1 : Value) (l2 : Value) (l3 : Value) (x y : Int32) (σ : Hs) : ru d 111 10 [l0, l1, l2, l3] [.int y, .int x] σ = if y ≤ x then ru d 111 19 [l0, l1, l2, l3] [] σ else ru d 111 13 [l0, l1, l2, l3] [] σ := q_ic_ge t111_10 (by decide +kernel)
theorem t111_13 : decode (mb 111) 13 = .ok (.iload_n 0, 1) := by decide +kernel
theorem s111_13 (d : Nat) (i0 : Int32) (l1 : Value) (l2 : Value) (l3 : Value) (σ : Hs) : ru d 111 13 [.int i0, l1, l2, l3] [] σ = ru d 111 14 [.int i0, l1, l2, l3] [.int i0] σ := q_iload_n t111_13 rfl
theorem t111_14 : decode (mb 111) 14 = .ok (.iconst 1, 1) := by decide +kernel
theorem s111_14 (d : Nat) (l0 : Value) (l1 : Value) (l2 : Value) (l3 : Value) (w0 : Value) (σ : Hs) : ru d 111 14 [l0, l1, l2, l3] [w0] σ = ru d 111 15 [l0, l1, l2, l3] [.int 1, w0] σ := q_iconst t111_14 (by decide +kernel)
theorem t111_15 : decode (mb 111) 15 = .ok (.iadd, 1) := by decide +kernel
theorem s111_15 (d : Nat) (l0 : Value) (l1 : Value) (l2 : Value) (l3 : Value) (x y : Int32) (σ : Hs) : ru d 111 15 [l0, l1, l2, l3] [.int y, .int x] σ = ru d 111 16 [l0, l1, l2, l3] [.int (x + y)] σ := q_iadd t111_15
theorem t111_16 : decode (mb 111) 16 = .ok (.goto 4, 3) := by decide +kernel
theorem s111_16 (d : Nat) (l0 : Value) (l1 : Value) (l2 : Value) (l3 : Value) (w0 : Value) (σ : Hs) : ru d 111 16 [l0, l1, l2, l3] [w0] σ = ru d 111 20 [l0, l1, l2, l3] [w0] σ := q_goto t111_16 (by decide +kernel)
theorem t111_19 : decode (mb 111) 19 = .ok (.iconst (-1), 1) := by decide +kernel
theorem s111_19 (d : Nat) (l0 : Value) (l1 : Value) (l2 : Value) (l3 : Value) (σ : Hs) : ru d 111 19 [l0, l1, l2, l3] [] σ = ru d 111 20 [l0, l1, l2, l3] [.int (-1)] σ := q_iconst t111_19 (by decide +kernel)
theorem t111_20 : decode (mb 111) 20 = .ok (.ireturn, 1) := by decide +kernel
theorem s111_20 (d : Nat) (l0 : Value) (l1 : Value) (l2 : Value) (l3 : Value) (x : Int32) (σ : Hs) : ru d 111 20 [l0, l1, l2, l3] [.int x] σ = some (some (.int x), σ) := q_ireti t111_20 mr111
theorem t111_21 : decode (mb 111) 21 = .ok (.iload_n 1, 1) := by decide +kernel
theorem s111_21 (d : Nat) (l0 : Value) (i1 : Int32) (l2 : Value) (l3 : Value) (σ : Hs) : ru d 111 21 [l0, .int i1, l2, l3] [] σ = ru d 111 22 [l0, .int i1, l2, l3] [.int i1] σ := q_iload_n t111_21 rfl
theorem t111_22 : decode (mb 111) 22 = .ok (.iconst 2, 1) := by decide +kernel
theorem s111_22 (d : Nat) (l0 : Value) (l1 : Value) (l2 : Value) (l3 : Value) (w0 : Value) (σ : Hs) : ru d 111 22 [l0, l1, l2, l3] [w0] σ = ru d 111 23 [l0, l1, l2, l3] [.int 2, w0] σ := q_iconst t111_22 (by decide +kernel)
theorem t111_23 : decode (mb 111) 23 = .ok (.if_icmp .ne 15, 3) := by decide +kernel
theorem s111_23 (d : Nat) (l0 : Value) (l1 : Value) (l2 : Value) (l3 : Value) (x y : Int32) (σ : Hs) : ru d 111 23 [l0, l1, l2, l3] [.int y, .int x] σ = if x = y then ru d 111 26 [l0, l1, l2, l3] [] σ else ru d 111 38 [l0, l1, l2, l3] [] σ := q_ic_ne t111_23 (by decide +kernel)
theorem t111_26 : decode (mb 111) 26 = .ok (.iload_n 2, 1) := by decide +kernel
theorem s111_26 (d : Nat) (l0 : Value) (l1 : Value) (i2 : Int32) (l3 : Value) (σ : Hs) : ru d 111 26 [l0, l1, .int i2, l3] [] σ = ru d 111 27 [l0, l1, .int i2, l3] [.int i2] σ := q_iload_n t111_26 rfl
theorem t111_27 : decode (mb 111) 27 = .ok (.ifCond .le 9, 3) := by decide +kernel
theorem s111_27 (d : Nat) (l0 : Value) (l1 : Value) (l2 : Value) (l3 : Value) (x : Int32) (σ : Hs) : ru d 111 27 [l0, l1, l2, l3] [.int x] σ = if x ≤ 0 then ru d 111 36 [l0, l1, l2, l3] [] σ else ru d 111 30 [l0, l1, l2, l3] [] σ := q_if_le t111_27 (by decide +kernel)
theorem t111_30 : decode (mb 111) 30 = .ok (.iload_n 0, 1) := by decide +kernel
theorem s111_30 (d : Nat) (i0 : Int32) (l1 : Value) (l2 : Value) (l3 : Value) (σ : Hs) : ru d 111 30 [.int i0, l1, l2, l3] [] σ = ru d 111 31 [.int i0, l1, l2, l3] [.int i0] σ := q_iload_n t111_30 rfl
theorem t111_31 : decode (mb 111) 31 = .ok (.iconst 1, 1) := by decide +kernel
theorem s111_31 (d : Nat) (l0 : Value) (l1 : Value) (l2 : Value) (l3 : Value) (w0 : Value) (σ : Hs) : ru d 111 31 [l0, l1, l2, l3] [w0] σ = ru d 111 32 [l0, l1, l2, l3] [.int 1, w0] σ := q_iconst t111_31 (by decide +kernel)
theorem t111_32 : decode (mb 111) 32 = .ok (.isub, 1) := by decide +kernel
theorem s111_32 (d : Nat) (l0 : Value) (l1 : Value) (l2 : Value) (l3 : Value) (x y : Int32) (σ : Hs) : ru d 111 32 [l0, l1, l2, l3] [.int y, .int x] σ = ru d 111 33 [l0, l1, l2, l3] [.int (x - y)] σ := q_isub t111_32
theorem t111_33 : decode (mb 111) 33 = .ok (.goto 4, 3) := by decide +kernel
theorem s111_33 (d : Nat) (l0 : Value) (l1 : Value) (l2 : Value) (l3 : Value) (w0 : Value) (σ : Hs) : ru d 111 33 [l0, l1, l2, l3] [w0] σ = ru d 111 37 [l0, l1, l2, l3] [w0] σ := q_goto t111_33 (by decide +kernel)
theorem t111_36 : decode (mb 111) 36 = .ok (.iconst (-1), 1) := by decide +kernel
theorem s111_36 (d : Nat) (l0 : Value) (l1 : Value) (l2 : Value) (l3 : Value) (σ : Hs) : ru d 111 36 [l0, l1, l2, l3] [] σ = ru d 111 37 [l0, l1, l2, l3] [.int (-1)] σ := q_iconst t111_36 (by decide +kernel)
theorem t111_37 : decode (mb 111) 37 = .ok (.ireturn, 1) := by decide +kernel
theorem s111_37 (d : Nat) (l0 : Value) (l1 : Value) (l2 : Value) (l3 : Value) (x : Int32) (σ : Hs) : ru d 111 37 [l0, l1, l2, l3] [.int x] σ = some (some (.int x), σ) := q_ireti t111_37 mr111
theorem t111_38 : decode (mb 111) 38 = .ok (.iload_n 1, 1) := by decide +kernel
theorem s111_38 (d : Nat) (l0 : Value) (i1 : Int32) (l2 : Value) (l3 : Value) (σ : Hs) : ru d 111 38 [l0, .int i1, l2, l3] [] σ = ru d 111 39 [l0, .int i1, l2, l3] [.int i1] σ := q_iload_n t111_38 rfl
theorem t111_39 : decode (mb 111) 39 = .ok (.iconst 1, 1) := by decide +kernel
theorem s111_39 (d : Nat) (l0 : Value) (l1 : Value) (l2 : Value) (l3 : Value) (w0 : Value) (σ : Hs) : ru d 111 39 [l0, l1, l2, l3] [w0] σ = ru d 111 40 [l0, l1, l2, l3] [.int 1, w0] σ := q_iconst t111_39 (by decide +kernel)
theorem t111_40 : decode (mb 111) 40 = .ok (.if_icmp .ne 9, 3) := by decide +kernel
theorem s111_40 (d : Nat) (l0 : Value) (l1 : Value) (l2 : Value) (l3 : Value) (x y : Int32) (σ : Hs) : ru d 111 40 [l0, l1, l2, l3] [.int y, .int x] σ = if x = y then ru d 111 43 [l0, l1, l2, l3] [] σ else ru d 111 49 [l0, l1, l2, l3] [] σ := q_ic_ne t111_40 (by decide +kernel)
theorem t111_43 : decode (mb 111) 43 = .ok (.iload_n 0, 1) := by decide +kernel
theorem s111_43 (d : Nat) (i0 : Int32) (l1 : Value) (l2 : Value) (l3 : Value) (σ : Hs) : ru d 111 43 [.int i0, l1, l2, l3] [] σ = ru d 111 44 [.int i0, l1, l2, l3] [.int i0] σ := q_iload_n t111_43 rfl
theorem t111_44 : decode (mb 111) 44 = .ok (.iconst 3, 1) := by decide +kernel
theorem s111_44 (d : Nat) (l0 : Value) (l1 : Value) (l2 : Value) (l3 : Value) (w0 : Value) (σ : Hs) : ru d 111 44 [l0, l1, l2, l3] [w0] σ = ru d 111 45 [l0, l1, l2, l3] [.int 3, w0] σ := q_iconst t111_44 (by decide +kernel)
theorem t111_45 : decode (mb 111) 45 = .ok (.iadd, 1) := by decide +kernel
theorem s111_45 (d : Nat) (l0 : Value) (l1 : Value) (l2 : Value) (l3 : Value) (x y : Int32) (σ : Hs) : ru d 111 45 [l0, l1, l2, l3] [.int y, .int x] σ = ru d 111 46 [l0, l1, l2, l3] [.int (x + y)] σ := q_iadd t111_45
theorem t111_46 : decode (mb 111) 46 = .ok (.goto 6, 3) := by decide +kernel
theorem s111_46 (d : Nat) (l0 : Value) (l1 : Value) (l2 : Value) (l3 : Value) (w0 : Value) (σ : Hs) : ru d 111 46 [l0, l1, l2, l3] [w0] σ = ru d 111 52 [l0, l1, l2, l3] [w0] σ := q_goto t111_46 (by decide +kernel)
theorem t111_49 : decode (mb 111) 49 = .ok (.iload_n 0, 1) := by decide +kernel
theorem s111_49 (d : Nat) (i0 : Int32) (l1 : Value) (l2 : Value) (l3 : Value) (σ : Hs) : ru d 111 49 [.int i0, l1, l2, l3] [] σ = ru d 111 50 [.int i0, l1, l2, l3] [.int i0] σ := q_iload_n t111_49 rfl
theorem t111_50 : decode (mb 111) 50 = .ok (.iconst 3, 1) := by decide +kernel
theorem s111_50 (d : Nat) (l0 : Value) (l1 : Value) (l2 : Value) (l3 : Value) (w0 : Value) (σ : Hs) : ru d 111 50 [l0, l1, l2, l3] [w0] σ = ru d 111 51 [l0, l1, l2, l3] [.int 3, w0] σ := q_iconst t111_50 (by decide +kernel)
theorem t111_51 : decode (mb 111) 51 = .ok (.isub, 1) := by decide +kernel
theorem s111_51 (d : Nat) (l0 : Value) (l1 : Value) (l2 : Value) (l3 : Value) (x y : Int32) (σ : Hs) : ru d 111 51 [l0, l1, l2, l3] [.int y, .int x] σ = ru d 111 52 [l0, l1, l2, l3] [.int (x - y)] σ := q_isub t111_51
theorem t111_52 : decode (mb 111) 52 = .ok (.istore_n 3, 1) := by decide +kernel
theorem s111_52 (d : Nat) (l0 : Value) (l1 : Value) (i2 : Int32) (l3 : Value) (x : Int32) (σ : Hs) : ru d 111 52 [l0, l1, .int i2, l3] [.int x] σ = ru d 111 53 [l0, l1, .int i2, .int x] [] σ := q_istore_n t111_52 ⟨Nat.le_of_ble_eq_true rfl, rfl⟩ rfl
theorem t111_53 : decode (mb 111) 53 = .ok (.iload_n 3, 1) := by decide +kernel
theorem s111_53 (d : Nat) (l0 : Value) (l1 : Value) (l2 : Value) (i3 : Int32) (σ : Hs) : ru d 111 53 [l0, l1, l2, .int i3] [] σ = ru d 111 54 [l0, l1, l2, .int i3] [.int i3] σ := q_iload_n t111_53 rfl
theorem t111_54 : decode (mb 111) 54 = .ok (.invokestatic 179, 3) := by decide +kernel
theorem s111_54 (d : Nat) (l0 : Value) (l1 : Value) (l2 : Value) (l3 : Value) (v0 : Value) (σ : Hs) : ru d 111 54 [l0, l1, l2, l3] [v0] σ = kont (callD d 107 [v0] σ) d 111 57 [l0, l1, l2, l3] [] := q_invs t111_54 mo111 (by decide +kernel) K7_179 mj107 (Nat.le_of_ble_eq_true rfl) rfl rfl (Nat.le_of_ble_eq_true rfl)
theorem t111_57 : decode (mb 111) 57 = .ok (.ifCond .eq 7, 3) := by decide +kernel
theorem s111_57 (d : Nat) (l0 : Value) (l1 : Value) (l2 : Value) (l3 : Value) (x : Int32) (σ : Hs) : ru d 111 57 [l0, l1, l2, l3] [.int x] σ = if x = 0 then ru d 111 64 [l0, l1, l2, l3] [] σ else ru d 111 60 [l0, l1, l2, l3] [] σ := q_if_eq t111_57 (by decide +kernel)
theorem t111_60 : decode (mb 111) 60 = .ok (.iload_n 3, 1) := by decide +kernel
theorem s111_60 (d : Nat) (l0 : Value) (l1 : Value) (l2 : Value) (i3 : Int32) (σ : Hs) : ru d 111 60 [l0, l1, l2, .int i3] [] σ = ru d 111 61 [l0, l1, l2, .int i3] [.int i3] σ := q_iload_n t111_60 rfl
theorem t111_61 : decode (mb 111) 61 = .ok (.goto 4, 3) := by decide +kernel
theorem s111_61 (d : Nat) (l0 : Value) (l1 : Value) (l2 : Value) (l3 : Value) (w0 : Value) (σ : Hs) : ru d 111 61 [l0, l1, l2, l3] [w0] σ = ru d 111 65 [l0, l1, l2, l3] [w0] σ := q_goto t111_61 (by decide +kernel)
theorem t111_64 : decode (mb 111) 64 = .ok (.iconst (-1), 1) := by decide +kernel
theorem s111_64 (d : Nat) (l0 : Value) (l1 : Value) (l2 : Value) (l3 : Value) (σ : Hs) : ru d 111 64 [l0, l1, l2, l3] [] σ = ru d 111 65 [l0, l1, l2, l3] [.int (-1)] σ := q_iconst t111_64 (by decide +kernel)
theorem t111_65 : decode (mb 111) 65 = .ok (.ireturn, 1) := by decide +kernel
theorem s111_65 (d : Nat) (l0 : Value) (l1 : Value) (l2 : Value) (l3 : Value) (x : Int32) (σ : Hs) : ru d 111 65 [l0, l1, l2, l3] [.int x] σ = some (some (.int x), σ) := q_ireti t111_65 mr111
theorem c111 (d : Nat) (x0 : Int32) (x1 : Int32) (σ : Hs) : callD (d + 1) 111 [.int x0, .int x1] σ = ru d 111 0 [.int x0, .int x1, uu, uu] [] σ := callD_ru ml111 rfl rfl (Nat.le_of_ble_eq_true rfl)
-- 112: Model.finding(I)I
theorem t112_0 : decode (mb 112) 0 = .ok (.aload_n 0, 1) := by decide +kernel
theorem s112_0 (d : Nat) (a0 : Nat) (l1 : Value) (σ : Hs) : ru d 112 0 [.ref a0, l1] [] σ = ru d 112 1 [.ref a0, l1] [.ref a0] σ := q_aload_n t112_0 rfl
theorem t112_1 : decode (mb 112) 1 = .ok (.getfield 19, 3) := by decide +kernel
theorem s112_1_o87 (d : Nat) (l0 : Value) (l1 : Value) (σ : Hs) : ru d 112 1 [l0, l1] [.ref 87] σ = ru d 112 4 [l0, l1] [.ref 91] σ := q_getf t112_1 mo112 F8_19 rfl rfl
theorem t112_4 : decode (mb 112) 4 = .ok (.ldc 67, 2) := by decide +kernel
theorem s112_4 (d : Nat) (l0 : Value) (l1 : Value) (w0 : Value) (σ : Hs) : ru d 112 4 [l0, l1] [w0] σ = ru d 112 6 [l0, l1] [.int (-1000000), w0] σ := q_ldc t112_4 mo112 C8_67
theorem t112_6 : decode (mb 112) 6 = .ok (.iload_n 1, 1) := by decide +kernel
theorem s112_6 (d : Nat) (l0 : Value) (i1 : Int32) (w0 w1 : Value) (σ : Hs) : ru d 112 6 [l0, .int i1] [w0, w1] σ = ru d 112 7 [l0, .int i1] [.int i1, w0, w1] σ := q_iload_n t112_6 rfl
theorem t112_7 : decode (mb 112) 7 = .ok (.isub, 1) := by decide +kernel
theorem s112_7 (d : Nat) (l0 : Value) (l1 : Value) (x y : Int32) (w0 : Value) (σ : Hs) : ru d 112 7 [l0, l1] [.int y, .int x, w0] σ = ru d 112 8 [l0, l1] [.int (x - y), w0] σ := q_isub t112_7
theorem t112_8 : decode (mb 112) 8 = .ok (.dup2, 1) := by decide +kernel
theorem s112_8 (d : Nat) (l0 : Value) (l1 : Value) (x0 : Int32) (x1 : Nat) (σ : Hs) : ru d 112 8 [l0, l1] [.int x0, .ref x1] σ = ru d 112 9 [l0, l1] [.int x0, .ref x1, .int x0, .ref x1] σ := q_dup2 t112_8 rfl rfl
theorem t112_9 : decode (mb 112) 9 = .ok (.iaload, 1) := by decide +kernel
theorem s112_9_o91 (d : Nat) (l0 : Value) (l1 : Value) (i : Int32) (w0 w1 : Value) (σ : Hs) : ru d 112 9 [l0, l1] [.int i, .ref 91, w0, w1] σ = gd (vp_in i 7) (ru d 112 10 [l0, l1] [.int (σ 91 i.toNatClampNeg), w0, w1] σ) := q_iald t112_9 rfl (by decide +kernel) rfl
theorem t112_10 : decode (mb 112) 10 = .ok (.iconst 1, 1) := by decide +kernel
theorem s112_10 (d : Nat) (l0 : Value) (l1 : Value) (w0 w1 w2 : Value) (σ : Hs) : ru d 112 10 [l0, l1] [w0, w1, w2] σ = ru d 112 11 [l0, l1] [.int 1, w0, w1, w2] σ := q_iconst t112_10 (by decide +kernel)
theorem t112_11 : decode (mb 112) 11 = .ok (.iadd, 1) := by decide +kernel
theorem s112_11 (d : Nat) (l0 : Value) (l1 : Value) (x y : Int32) (w0 w1 : Value) (σ : Hs) : ru d 112 11 [l0, l1] [.int y, .int x, w0, w1] σ = ru d 112 12 [l0, l1] [.int (x + y), w0, w1] σ := q_iadd t112_11
theorem t112_12 : decode (mb 112) 12 = .ok (.iastore, 1) := by decide +kernel
theorem s112_12_o91 (d : Nat) (l0 : Value) (l1 : Value) (i x : Int32) (σ : Hs) : ru d 112 12 [l0, l1] [.int x, .int i, .ref 91] σ = gd (vp_in i 7) (ru d 112 13 [l0, l1] [] (up2 σ 91 i.toNatClampNeg x)) := q_iast t112_12 (by decide +kernel) rfl rfl
theorem t112_13 : decode (mb 112) 13 = .ok (.iload_n 1, 1) := by decide +kernel
theorem s112_13 (d : Nat) (l0 : Value) (i1 : Int32) (σ : Hs) : ru d 112 13 [l0, .int i1] [] σ = ru d 112 14 [l0, .int i1] [.int i1] σ := q_iload_n t112_13 rfl
theorem t112_14 : decode (mb 112) 14 = .ok (.ireturn, 1) := by decide +kernel
theorem s112_14 (d : Nat) (l0 : Value) (l1 : Value) (x : Int32) (σ : Hs) : ru d 112 14 [l0, l1] [.int x] σ = some (some (.int x), σ) := q_ireti t112_14 mr112
theorem c112 (d : Nat) (x0 : Nat) (x1 : Int32) (σ : Hs) : callD (d + 1) 112 [.ref x0, .int x1] σ = ru d 112 0 [.ref x0, .int x1] [] σ := callD_ru ml112 rfl rfl (Nat.le_of_ble_eq_true rfl)
-- 113: Model.within(III)Z
theorem t113_0 : decode (mb 113) 0 = .ok (.iload_n 0, 1) := by decide +kernel
theorem s113_0 (d : Nat) (i0 : Int32) (l1 : Value) (l2 : Value) (σ : Hs) : ru d 113 0 [.int i0, l1, l2] [] σ = ru d 113 1 [.int i0, l1, l2] [.int i0] σ := q_iload_n t113_0 rfl
theorem t113_1 : decode (mb 113) 1 = .ok (.iload_n 1, 1) := by decide +kernel
theorem s113_1 (d : Nat) (l0 : Value) (i1 : Int32) (l2 : Value) (w0 : Value) (σ : Hs) : ru d 113 1 [l0, .int i1, l2] [w0] σ = ru d 113 2 [l0, .int i1, l2] [.int i1, w0] σ := q_iload_n t113_1 rfl
theorem t113_2 : decode (mb 113) 2 = .ok (.if_icmp .lt 12, 3) := by decide +kernel
theorem s113_2 (d : Nat) (l0 : Value) (l1 : Value) (l2 : Value) (x y : Int32) (σ : Hs) : ru d 113 2 [l0, l1, l2] [.int y, .int x] σ = if x < y then ru d 113 14 [l0, l1, l2] [] σ else ru d 113 5 [l0, l1, l2] [] σ := q_ic_lt t113_2 (by decide +kernel)
theorem t113_5 : decode (mb 113) 5 = .ok (.iload_n 0, 1) := by decide +kernel
theorem s113_5 (d : Nat) (i0 : Int32) (l1 : Value) (l2 : Value) (σ : Hs) : ru d 113 5 [.int i0, l1, l2] [] σ = ru d 113 6 [.int i0, l1, l2] [.int i0] σ := q_iload_n t113_5 rfl
theorem t113_6 : decode (mb 113) 6 = .ok (.iload_n 2, 1) := by decide +kernel
theorem s113_6 (d : Nat) (l0 : Value) (l1 : Value) (i2 : Int32) (w0 : Value) (σ : Hs) : ru d 113 6 [l0, l1, .int i2] [w0] σ = ru d 113 7 [l0, l1, .int i2] [.int i2, w0] σ := q_iload_n t113_6 rfl
theorem t113_7 : decode (mb 113) 7 = .ok (.if_icmp .gt 7, 3) := by decide +kernel
theorem s113_7 (d : Nat) (l0 : Value) (l1 : Value) (l2 : Value) (x y : Int32) (σ : Hs) : ru d 113 7 [l0, l1, l2] [.int y, .int x] σ = if y < x then ru d 113 14 [l0, l1, l2] [] σ else ru d 113 10 [l0, l1, l2] [] σ := q_ic_gt t113_7 (by decide +kernel)
theorem t113_10 : decode (mb 113) 10 = .ok (.iconst 1, 1) := by decide +kernel
theorem s113_10 (d : Nat) (l0 : Value) (l1 : Value) (l2 : Value) (σ : Hs) : ru d 113 10 [l0, l1, l2] [] σ = ru d 113 11 [l0, l1, l2] [.int 1] σ := q_iconst t113_10 (by decide +kernel)
theorem t113_11 : decode (mb 113) 11 = .ok (.goto 4, 3) := by decide +kernel
theorem s113_11 (d : Nat) (l0 : Value) (l1 : Value) (l2 : Value) (w0 : Value) (σ : Hs) : ru d 113 11 [l0, l1, l2] [w0] σ = ru d 113 15 [l0, l1, l2] [w0] σ := q_goto t113_11 (by decide +kernel)
theorem t113_14 : decode (mb 113) 14 = .ok (.iconst 0, 1) := by decide +kernel
theorem s113_14 (d : Nat) (l0 : Value) (l1 : Value) (l2 : Value) (σ : Hs) : ru d 113 14 [l0, l1, l2] [] σ = ru d 113 15 [l0, l1, l2] [.int 0] σ := q_iconst t113_14 (by decide +kernel)
theorem t113_15 : decode (mb 113) 15 = .ok (.ireturn, 1) := by decide +kernel
theorem s113_15 (d : Nat) (l0 : Value) (l1 : Value) (l2 : Value) (x : Int32) (hx : isB x) (σ : Hs) : ru d 113 15 [l0, l1, l2] [.int x] σ = some (some (.int x), σ) := q_iretz t113_15 mr113 hx
theorem c113 (d : Nat) (x0 : Int32) (x1 : Int32) (x2 : Int32) (σ : Hs) : callD (d + 1) 113 [.int x0, .int x1, .int x2] σ = ru d 113 0 [.int x0, .int x1, .int x2] [] σ := callD_ru ml113 rfl rfl (Nat.le_of_ble_eq_true rfl)
-- 114: Model.has(II)Z
theorem t114_0 : decode (mb 114) 0 = .ok (.iload_n 0, 1) := by decide +kernel
theorem s114_0 (d : Nat) (i0 : Int32) (l1 : Value) (σ : Hs) : ru d 114 0 [.int i0, l1] [] σ = ru d 114 1 [.int i0, l1] [.int i0] σ := q_iload_n t114_0 rfl
theorem t114_1 : decode (mb 114) 1 = .ok (.iload_n 1, 1) := by decide +kernel
theorem s114_1 (d : Nat) (l0 : Value) (i1 : Int32) (w0 : Value) (σ : Hs) : ru d 114 1 [l0, .int i1] [w0] σ = ru d 114 2 [l0, .int i1] [.int i1, w0] σ := q_iload_n t114_1 rfl
theorem t114_2 : decode (mb 114) 2 = .ok (.ishr, 1) := by decide +kernel
theorem s114_2 (d : Nat) (l0 : Value) (l1 : Value) (x y : Int32) (σ : Hs) : ru d 114 2 [l0, l1] [.int y, .int x] σ = ru d 114 3 [l0, l1] [.int (x >>> (y &&& 31))] σ := q_ishr t114_2
theorem t114_3 : decode (mb 114) 3 = .ok (.iconst 1, 1) := by decide +kernel
theorem s114_3 (d : Nat) (l0 : Value) (l1 : Value) (w0 : Value) (σ : Hs) : ru d 114 3 [l0, l1] [w0] σ = ru d 114 4 [l0, l1] [.int 1, w0] σ := q_iconst t114_3 (by decide +kernel)
theorem t114_4 : decode (mb 114) 4 = .ok (.iand, 1) := by decide +kernel
theorem s114_4 (d : Nat) (l0 : Value) (l1 : Value) (x y : Int32) (σ : Hs) : ru d 114 4 [l0, l1] [.int y, .int x] σ = ru d 114 5 [l0, l1] [.int (x &&& y)] σ := q_iand t114_4
theorem t114_5 : decode (mb 114) 5 = .ok (.iconst 1, 1) := by decide +kernel
theorem s114_5 (d : Nat) (l0 : Value) (l1 : Value) (w0 : Value) (σ : Hs) : ru d 114 5 [l0, l1] [w0] σ = ru d 114 6 [l0, l1] [.int 1, w0] σ := q_iconst t114_5 (by decide +kernel)
theorem t114_6 : decode (mb 114) 6 = .ok (.if_icmp .ne 7, 3) := by decide +kernel
theorem s114_6 (d : Nat) (l0 : Value) (l1 : Value) (x y : Int32) (σ : Hs) : ru d 114 6 [l0, l1] [.int y, .int x] σ = if x = y then ru d 114 9 [l0, l1] [] σ else ru d 114 13 [l0, l1] [] σ := q_ic_ne t114_6 (by decide +kernel)
theorem t114_9 : decode (mb 114) 9 = .ok (.iconst 1, 1) := by decide +kernel
theorem s114_9 (d : Nat) (l0 : Value) (l1 : Value) (σ : Hs) : ru d 114 9 [l0, l1] [] σ = ru d 114 10 [l0, l1] [.int 1] σ := q_iconst t114_9 (by decide +kernel)
theorem t114_10 : decode (mb 114) 10 = .ok (.goto 4, 3) := by decide +kernel
theorem s114_10 (d : Nat) (l0 : Value) (l1 : Value) (w0 : Value) (σ : Hs) : ru d 114 10 [l0, l1] [w0] σ = ru d 114 14 [l0, l1] [w0] σ := q_goto t114_10 (by decide +kernel)
theorem t114_13 : decode (mb 114) 13 = .ok (.iconst 0, 1) := by decide +kernel
theorem s114_13 (d : Nat) (l0 : Value) (l1 : Value) (σ : Hs) : ru d 114 13 [l0, l1] [] σ = ru d 114 14 [l0, l1] [.int 0] σ := q_iconst t114_13 (by decide +kernel)
theorem t114_14 : decode (mb 114) 14 = .ok (.ireturn, 1) := by decide +kernel
theorem s114_14 (d : Nat) (l0 : Value) (l1 : Value) (x : Int32) (hx : isB x) (σ : Hs) : ru d 114 14 [l0, l1] [.int x] σ = some (some (.int x), σ) := q_iretz t114_14 mr114 hx
theorem c114 (d : Nat) (x0 : Int32) (x1 : Int32) (σ : Hs) : callD (d + 1) 114 [.int x0, .int x1] σ = ru d 114 0 [.int x0, .int x1] [] σ := callD_ru ml114 rfl rfl (Nat.le_of_ble_eq_true rfl)
-- 115: Model.held(III)I
theorem t115_0 : decode (mb 115) 0 = .ok (.iload_n 1, 1) := by decide +kernel
theorem s115_0 (d : Nat) (l0 : Value) (i1 : Int32) (l2 : Value) (σ : Hs) : ru d 115 0 [l0, .int i1, l2] [] σ = ru d 115 1 [l0, .int i1, l2] [.int i1] σ := q_iload_n t115_0 rfl
theorem t115_1 : decode (mb 115) 1 = .ok (.iload_n 2, 1) := by decide +kernel
theorem s115_1 (d : Nat) (l0 : Value) (l1 : Value) (i2 : Int32) (w0 : Value) (σ : Hs) : ru d 115 1 [l0, l1, .int i2] [w0] σ = ru d 115 2 [l0, l1, .int i2] [.int i2, w0] σ := q_iload_n t115_1 rfl
theorem t115_2 : decode (mb 115) 2 = .ok (.iload_n 0, 1) := by decide +kernel
theorem s115_2 (d : Nat) (i0 : Int32) (l1 : Value) (l2 : Value) (w0 w1 : Value) (σ : Hs) : ru d 115 2 [.int i0, l1, l2] [w0, w1] σ = ru d 115 3 [.int i0, l1, l2] [.int i0, w0, w1] σ := q_iload_n t115_2 rfl
theorem t115_3 : decode (mb 115) 3 = .ok (.invokestatic 68, 3) := by decide +kernel
theorem s115_3 (d : Nat) (l0 : Value) (l1 : Value) (l2 : Value) (x y : Int32) (w0 : Int32) (σ : Hs) : ru d 115 3 [l0, l1, l2] [.int y, .int x, .int w0] σ = ru d 115 6 [l0, l1, l2] [.int (jmin x y), .int w0] σ := q_mi t115_3 mo115 (by decide +kernel) (by decide +kernel) (by decide +kernel) (Nat.le_of_ble_eq_true rfl)
theorem t115_6 : decode (mb 115) 6 = .ok (.invokestatic 74, 3) := by decide +kernel
theorem s115_6 (d : Nat) (l0 : Value) (l1 : Value) (l2 : Value) (x y : Int32) (σ : Hs) : ru d 115 6 [l0, l1, l2] [.int y, .int x] σ = ru d 115 9 [l0, l1, l2] [.int (jmax x y)] σ := q_mx t115_6 mo115 (by decide +kernel) (by decide +kernel) (Nat.le_of_ble_eq_true rfl)
theorem t115_9 : decode (mb 115) 9 = .ok (.ireturn, 1) := by decide +kernel
theorem s115_9 (d : Nat) (l0 : Value) (l1 : Value) (l2 : Value) (x : Int32) (σ : Hs) : ru d 115 9 [l0, l1, l2] [.int x] σ = some (some (.int x), σ) := q_ireti t115_9 mr115
theorem c115 (d : Nat) (x0 : Int32) (x1 : Int32) (x2 : Int32) (σ : Hs) : callD (d + 1) 115 [.int x0, .int x1, .int x2] σ = ru d 115 0 [.int x0, .int x1, .int x2] [] σ := callD_ru ml115 rfl rfl (Nat.le_of_ble_eq_true rfl)
-- 116: Model.copy([I[I)V
theorem t116_0 : decode (mb 116) 0 = .ok (.iconst 0, 1) := by decide +kernel
theorem s116_0 (d : Nat) (l0 : Value) (l1 : Value) (l2 : Value) (σ : Hs) : ru d 116 0 [l0, l1, l2] [] σ = ru d 116 1 [l0, l1, l2] [.int 0] σ := q_iconst t116_0 (by decide +kernel)
theorem t116_1 : decode (mb 116) 1 = .ok (.istore_n 2, 1) := by decide +kernel
theorem s116_1 (d : Nat) (l0 : Value) (a1 : Nat) (l2 : Value) (x : Int32) (σ : Hs) : ru d 116 1 [l0, .ref a1, l2] [.int x] σ = ru d 116 2 [l0, .ref a1, .int x] [] σ := q_istore_n t116_1 ⟨Nat.le_of_ble_eq_true rfl, rfl⟩ rfl
theorem t116_2 : decode (mb 116) 2 = .ok (.iload_n 2, 1) := by decide +kernel
theorem s116_2 (d : Nat) (l0 : Value) (l1 : Value) (i2 : Int32) (σ : Hs) : ru d 116 2 [l0, l1, .int i2] [] σ = ru d 116 3 [l0, l1, .int i2] [.int i2] σ := q_iload_n t116_2 rfl
theorem t116_3 : decode (mb 116) 3 = .ok (.sipush 545, 3) := by decide +kernel
theorem s116_3 (d : Nat) (l0 : Value) (l1 : Value) (l2 : Value) (w0 : Value) (σ : Hs) : ru d 116 3 [l0, l1, l2] [w0] σ = ru d 116 6 [l0, l1, l2] [.int 545, w0] σ := q_sipush t116_3 (by decide +kernel)
theorem t116_6 : decode (mb 116) 6 = .ok (.if_icmp .ge 15, 3) := by decide +kernel
theorem s116_6 (d : Nat) (l0 : Value) (l1 : Value) (l2 : Value) (x y : Int32) (σ : Hs) : ru d 116 6 [l0, l1, l2] [.int y, .int x] σ = if y ≤ x then ru d 116 21 [l0, l1, l2] [] σ else ru d 116 9 [l0, l1, l2] [] σ := q_ic_ge t116_6 (by decide +kernel)
theorem t116_9 : decode (mb 116) 9 = .ok (.aload_n 1, 1) := by decide +kernel
theorem s116_9 (d : Nat) (l0 : Value) (a1 : Nat) (l2 : Value) (σ : Hs) : ru d 116 9 [l0, .ref a1, l2] [] σ = ru d 116 10 [l0, .ref a1, l2] [.ref a1] σ := q_aload_n t116_9 rfl
theorem t116_10 : decode (mb 116) 10 = .ok (.iload_n 2, 1) := by decide +kernel
theorem s116_10 (d : Nat) (l0 : Value) (l1 : Value) (i2 : Int32) (w0 : Value) (σ : Hs) : ru d 116 10 [l0, l1, .int i2] [w0] σ = ru d 116 11 [l0, l1, .int i2] [.int i2, w0] σ := q_iload_n t116_10 rfl
theorem t116_11 : decode (mb 116) 11 = .ok (.aload_n 0, 1) := by decide +kernel
theorem s116_11 (d : Nat) (a0 : Nat) (l1 : Value) (l2 : Value) (w0 w1 : Value) (σ : Hs) : ru d 116 11 [.ref a0, l1, l2] [w0, w1] σ = ru d 116 12 [.ref a0, l1, l2] [.ref a0, w0, w1] σ := q_aload_n t116_11 rfl
theorem t116_12 : decode (mb 116) 12 = .ok (.iload_n 2, 1) := by decide +kernel
theorem s116_12 (d : Nat) (l0 : Value) (l1 : Value) (i2 : Int32) (w0 w1 w2 : Value) (σ : Hs) : ru d 116 12 [l0, l1, .int i2] [w0, w1, w2] σ = ru d 116 13 [l0, l1, .int i2] [.int i2, w0, w1, w2] σ := q_iload_n t116_12 rfl
theorem t116_13 : decode (mb 116) 13 = .ok (.iaload, 1) := by decide +kernel
theorem s116_13_o88 (d : Nat) (l0 : Value) (l1 : Value) (l2 : Value) (i : Int32) (w0 w1 : Value) (σ : Hs) : ru d 116 13 [l0, l1, l2] [.int i, .ref 88, w0, w1] σ = gd (vp_in i 545) (ru d 116 14 [l0, l1, l2] [.int (σ 88 i.toNatClampNeg), w0, w1] σ) := q_iald t116_13 rfl (by decide +kernel) rfl
theorem s116_13_o89 (d : Nat) (l0 : Value) (l1 : Value) (l2 : Value) (i : Int32) (w0 w1 : Value) (σ : Hs) : ru d 116 13 [l0, l1, l2] [.int i, .ref 89, w0, w1] σ = gd (vp_in i 545) (ru d 116 14 [l0, l1, l2] [.int (σ 89 i.toNatClampNeg), w0, w1] σ) := q_iald t116_13 rfl (by decide +kernel) rfl
theorem s116_13_o90 (d : Nat) (l0 : Value) (l1 : Value) (l2 : Value) (i : Int32) (w0 w1 : Value) (σ : Hs) : ru d 116 13 [l0, l1, l2] [.int i, .ref 90, w0, w1] σ = gd (vp_in i 545) (ru d 116 14 [l0, l1, l2] [.int (σ 90 i.toNatClampNeg), w0, w1] σ) := q_iald t116_13 rfl (by decide +kernel) rfl
theorem t116_14 : decode (mb 116) 14 = .ok (.iastore, 1) := by decide +kernel
theorem s116_14_o88 (d : Nat) (l0 : Value) (l1 : Value) (l2 : Value) (i x : Int32) (σ : Hs) : ru d 116 14 [l0, l1, l2] [.int x, .int i, .ref 88] σ = gd (vp_in i 545) (ru d 116 15 [l0, l1, l2] [] (up2 σ 88 i.toNatClampNeg x)) := q_iast t116_14 (by decide +kernel) rfl rfl
theorem s116_14_o89 (d : Nat) (l0 : Value) (l1 : Value) (l2 : Value) (i x : Int32) (σ : Hs) : ru d 116 14 [l0, l1, l2] [.int x, .int i, .ref 89] σ = gd (vp_in i 545) (ru d 116 15 [l0, l1, l2] [] (up2 σ 89 i.toNatClampNeg x)) := q_iast t116_14 (by decide +kernel) rfl rfl
theorem s116_14_o90 (d : Nat) (l0 : Value) (l1 : Value) (l2 : Value) (i x : Int32) (σ : Hs) : ru d 116 14 [l0, l1, l2] [.int x, .int i, .ref 90] σ = gd (vp_in i 545) (ru d 116 15 [l0, l1, l2] [] (up2 σ 90 i.toNatClampNeg x)) := q_iast t116_14 (by decide +kernel) rfl rfl
theorem t116_15 : decode (mb 116) 15 = .ok (.iinc 2 1, 3) := by decide +kernel
theorem s116_15 (d : Nat) (l0 : Value) (a1 : Nat) (i2 : Int32) (σ : Hs) : ru d 116 15 [l0, .ref a1, .int i2] [] σ = ru d 116 18 [l0, .ref a1, .int (i2 + 1)] [] σ := q_iinc t116_15 ⟨Nat.le_of_ble_eq_true rfl, rfl⟩ rfl (by decide +kernel) rfl
theorem t116_18 : decode (mb 116) 18 = .ok (.goto (-16), 3) := by decide +kernel
theorem s116_18 (d : Nat) (l0 : Value) (l1 : Value) (l2 : Value) (σ : Hs) : ru d 116 18 [l0, l1, l2] [] σ = ru d 116 2 [l0, l1, l2] [] σ := q_goto t116_18 (by decide +kernel)
theorem t116_21 : decode (mb 116) 21 = .ok (.return_, 1) := by decide +kernel
theorem s116_21 (d : Nat) (l0 : Value) (l1 : Value) (l2 : Value) (σ : Hs) : ru d 116 21 [l0, l1, l2] [] σ = some (none, σ) := q_vret t116_21 mr116
theorem c116 (d : Nat) (x0 : Nat) (x1 : Nat) (σ : Hs) : callD (d + 1) 116 [.ref x0, .ref x1] σ = ru d 116 0 [.ref x0, .ref x1, uu] [] σ := callD_ru ml116 rfl rfl (Nat.le_of_ble_eq_true rfl)
-- 117: Model.comes(II)I
theorem t117_0 : decode (mb 117) 0 = .ok (.aload_n 0, 1) := by decide +kernel
theorem s117_0 (d : Nat) (a0 : Nat) (l1 : Value) (l2 : Value) (l3 : Value) (σ : Hs) : ru d 117 0 [.ref a0, l1, l2, l3] [] σ = ru d 117 1 [.ref a0, l1, l2, l3] [.ref a0] σ := q_aload_n t117_0 rfl
theorem t117_1 : decode (mb 117) 1 = .ok (.getfield 9, 3) := by decide +kernel
theorem s117_1_o87 (d : Nat) (l0 : Value) (l1 : Value) (l2 : Value) (l3 : Value) (σ : Hs) : ru d 117 1 [l0, l1, l2, l3] [.ref 87] σ = ru d 117 4 [l0, l1, l2, l3] [.ref 88] σ := q_getf t117_1 mo117 F8_9 rfl rfl
theorem t117_4 : decode (mb 117) 4 = .ok (.iload_n 1, 1) := by decide +kernel
theorem s117_4 (d : Nat) (l0 : Value) (i1 : Int32) (l2 : Value) (l3 : Value) (w0 : Value) (σ : Hs) : ru d 117 4 [l0, .int i1, l2, l3] [w0] σ = ru d 117 5 [l0, .int i1, l2, l3] [.int i1, w0] σ := q_iload_n t117_4 rfl
theorem t117_5 : decode (mb 117) 5 = .ok (.iaload, 1) := by decide +kernel
theorem s117_5_o88 (d : Nat) (l0 : Value) (l1 : Value) (l2 : Value) (l3 : Value) (i : Int32) (σ : Hs) : ru d 117 5 [l0, l1, l2, l3] [.int i, .ref 88] σ = gd (vp_in i 545) (ru d 117 6 [l0, l1, l2, l3] [.int (σ 88 i.toNatClampNeg)] σ) := q_iald t117_5 rfl (by decide +kernel) rfl
theorem t117_6 : decode (mb 117) 6 = .ok (.istore_n 3, 1) := by decide +kernel
theorem s117_6 (d : Nat) (l0 : Value) (l1 : Value) (i2 : Int32) (l3 : Value) (x : Int32) (σ : Hs) : ru d 117 6 [l0, l1, .int i2, l3] [.int x] σ = ru d 117 7 [l0, l1, .int i2, .int x] [] σ := q_istore_n t117_6 ⟨Nat.le_of_ble_eq_true rfl, rfl⟩ rfl
theorem t117_7 : decode (mb 117) 7 = .ok (.aload_n 0, 1) := by decide +kernel
theorem s117_7 (d : Nat) (a0 : Nat) (l1 : Value) (l2 : Value) (l3 : Value) (σ : Hs) : ru d 117 7 [.ref a0, l1, l2, l3] [] σ = ru d 117 8 [.ref a0, l1, l2, l3] [.ref a0] σ := q_aload_n t117_7 rfl
theorem t117_8 : decode (mb 117) 8 = .ok (.getfield 9, 3) := by decide +kernel
theorem s117_8_o87 (d : Nat) (l0 : Value) (l1 : Value) (l2 : Value) (l3 : Value) (σ : Hs) : ru d 117 8 [l0, l1, l2, l3] [.ref 87] σ = ru d 117 11 [l0, l1, l2, l3] [.ref 88] σ := q_getf t117_8 mo117 F8_9 rfl rfl
theorem t117_11 : decode (mb 117) 11 = .ok (.iload_n 1, 1) := by decide +kernel
theorem s117_11 (d : Nat) (l0 : Value) (i1 : Int32) (l2 : Value) (l3 : Value) (w0 : Value) (σ : Hs) : ru d 117 11 [l0, .int i1, l2, l3] [w0] σ = ru d 117 12 [l0, .int i1, l2, l3] [.int i1, w0] σ := q_iload_n t117_11 rfl
theorem t117_12 : decode (mb 117) 12 = .ok (.iload_n 2, 1) := by decide +kernel
theorem s117_12 (d : Nat) (l0 : Value) (l1 : Value) (i2 : Int32) (l3 : Value) (w0 w1 : Value) (σ : Hs) : ru d 117 12 [l0, l1, .int i2, l3] [w0, w1] σ = ru d 117 13 [l0, l1, .int i2, l3] [.int i2, w0, w1] σ := q_iload_n t117_12 rfl
theorem t117_13 : decode (mb 117) 13 = .ok (.iastore, 1) := by decide +kernel
theorem s117_13_o88 (d : Nat) (l0 : Value) (l1 : Value) (l2 : Value) (l3 : Value) (i x : Int32) (σ : Hs) : ru d 117 13 [l0, l1, l2, l3] [.int x, .int i, .ref 88] σ = gd (vp_in i 545) (ru d 117 14 [l0, l1, l2, l3] [] (up2 σ 88 i.toNatClampNeg x)) := q_iast t117_13 (by decide +kernel) rfl rfl
theorem t117_14 : decode (mb 117) 14 = .ok (.iload_n 3, 1) := by decide +kernel
theorem s117_14 (d : Nat) (l0 : Value) (l1 : Value) (l2 : Value) (i3 : Int32) (σ : Hs) : ru d 117 14 [l0, l1, l2, .int i3] [] σ = ru d 117 15 [l0, l1, l2, .int i3] [.int i3] σ := q_iload_n t117_14 rfl
theorem t117_15 : decode (mb 117) 15 = .ok (.ireturn, 1) := by decide +kernel
theorem s117_15 (d : Nat) (l0 : Value) (l1 : Value) (l2 : Value) (l3 : Value) (x : Int32) (σ : Hs) : ru d 117 15 [l0, l1, l2, l3] [.int x] σ = some (some (.int x), σ) := q_ireti t117_15 mr117
theorem c117 (d : Nat) (x0 : Nat) (x1 : Int32) (x2 : Int32) (σ : Hs) : callD (d + 1) 117 [.ref x0, .int x1, .int x2] σ = ru d 117 0 [.ref x0, .int x1, .int x2, uu] [] σ := callD_ru ml117 rfl rfl (Nat.le_of_ble_eq_true rfl)
-- 118: Model.back(I)I
theorem t118_0 : decode (mb 118) 0 = .ok (.aload_n 0, 1) := by decide +kernel
theorem s118_0 (d : Nat) (a0 : Nat) (l1 : Value) (σ : Hs) : ru d 118 0 [.ref a0, l1] [] σ = ru d 118 1 [.ref a0, l1] [.ref a0] σ := q_aload_n t118_0 rfl
theorem t118_1 : decode (mb 118) 1 = .ok (.getfield 16, 3) := by decide +kernel
theorem s118_1_o87 (d : Nat) (l0 : Value) (l1 : Value) (σ : Hs) : ru d 118 1 [l0, l1] [.ref 87] σ = ru d 118 4 [l0, l1] [.ref 90] σ := q_getf t118_1 mo118 F8_16 rfl rfl
theorem t118_4 : decode (mb 118) 4 = .ok (.aload_n 0, 1) := by decide +kernel
theorem s118_4 (d : Nat) (a0 : Nat) (l1 : Value) (w0 : Value) (σ : Hs) : ru d 118 4 [.ref a0, l1] [w0] σ = ru d 118 5 [.ref a0, l1] [.ref a0, w0] σ := q_aload_n t118_4 rfl
theorem t118_5 : decode (mb 118) 5 = .ok (.getfield 9, 3) := by decide +kernel
theorem s118_5_o87 (d : Nat) (l0 : Value) (l1 : Value) (w0 : Value) (σ : Hs) : ru d 118 5 [l0, l1] [.ref 87, w0] σ = ru d 118 8 [l0, l1] [.ref 88, w0] σ := q_getf t118_5 mo118 F8_9 rfl rfl
theorem t118_8 : decode (mb 118) 8 = .ok (.invokestatic 77, 3) := by decide +kernel
theorem s118_8 (d : Nat) (l0 : Value) (l1 : Value) (v0 v1 : Value) (σ : Hs) : ru d 118 8 [l0, l1] [v1, v0] σ = kont (callD d 116 [v0, v1] σ) d 118 11 [l0, l1] [] := q_invs t118_8 mo118 (by decide +kernel) K8_77 mj116 (Nat.le_of_ble_eq_true rfl) rfl rfl (Nat.le_of_ble_eq_true rfl)
theorem t118_11 : decode (mb 118) 11 = .ok (.iload_n 1, 1) := by decide +kernel
theorem s118_11 (d : Nat) (l0 : Value) (i1 : Int32) (σ : Hs) : ru d 118 11 [l0, .int i1] [] σ = ru d 118 12 [l0, .int i1] [.int i1] σ := q_iload_n t118_11 rfl
theorem t118_12 : decode (mb 118) 12 = .ok (.ireturn, 1) := by decide +kernel
theorem s118_12 (d : Nat) (l0 : Value) (l1 : Value) (x : Int32) (σ : Hs) : ru d 118 12 [l0, l1] [.int x] σ = some (some (.int x), σ) := q_ireti t118_12 mr118
theorem c118 (d : Nat) (x0 : Nat) (x1 : Int32) (σ : Hs) : callD (d + 1) 118 [.ref x0, .int x1] σ = ru d 118 0 [.ref x0, .int x1] [] σ := callD_ru ml118 rfl rfl (Nat.le_of_ble_eq_true rfl)
-- 119: Model.of(II)I
theorem t119_0 : decode (mb 119) 0 = .ok (.aload_n 0, 1) := by decide +kernel
theorem s119_0 (d : Nat) (a0 : Nat) (l1 : Value) (l2 : Value) (σ : Hs) : ru d 119 0 [.ref a0, l1, l2] [] σ = ru d 119 1 [.ref a0, l1, l2] [.ref a0] σ := q_aload_n t119_0 rfl
theorem t119_1 : decode (mb 119) 1 = .ok (.getfield 9, 3) := by decide +kernel
theorem s119_1_o87 (d : Nat) (l0 : Value) (l1 : Value) (l2 : Value) (σ : Hs) : ru d 119 1 [l0, l1, l2] [.ref 87] σ = ru d 119 4 [l0, l1, l2] [.ref 88] σ := q_getf t119_1 mo119 F8_9 rfl rfl
theorem t119_4 : decode (mb 119) 4 = .ok (.bipush 14, 2) := by decide +kernel
theorem s119_4 (d : Nat) (l0 : Value) (l1 : Value) (l2 : Value) (w0 : Value) (σ : Hs) : ru d 119 4 [l0, l1, l2] [w0] σ = ru d 119 6 [l0, l1, l2] [.int 14, w0] σ := q_bipush t119_4 (by decide +kernel)
theorem t119_6 : decode (mb 119) 6 = .ok (.bipush 7, 2) := by decide +kernel
theorem s119_6 (d : Nat) (l0 : Value) (l1 : Value) (l2 : Value) (w0 w1 : Value) (σ : Hs) : ru d 119 6 [l0, l1, l2] [w0, w1] σ = ru d 119 8 [l0, l1, l2] [.int 7, w0, w1] σ := q_bipush t119_6 (by decide +kernel)
theorem t119_8 : decode (mb 119) 8 = .ok (.iload_n 1, 1) := by decide +kernel
theorem s119_8 (d : Nat) (l0 : Value) (i1 : Int32) (l2 : Value) (w0 w1 w2 : Value) (σ : Hs) : ru d 119 8 [l0, .int i1, l2] [w0, w1, w2] σ = ru d 119 9 [l0, .int i1, l2] [.int i1, w0, w1, w2] σ := q_iload_n t119_8 rfl
theorem t119_9 : decode (mb 119) 9 = .ok (.imul, 1) := by decide +kernel
theorem s119_9 (d : Nat) (l0 : Value) (l1 : Value) (l2 : Value) (x y : Int32) (w0 w1 : Value) (σ : Hs) : ru d 119 9 [l0, l1, l2] [.int y, .int x, w0, w1] σ = ru d 119 10 [l0, l1, l2] [.int (x * y), w0, w1] σ := q_imul t119_9
theorem t119_10 : decode (mb 119) 10 = .ok (.iadd, 1) := by decide +kernel
theorem s119_10 (d : Nat) (l0 : Value) (l1 : Value) (l2 : Value) (x y : Int32) (w0 : Value) (σ : Hs) : ru d 119 10 [l0, l1, l2] [.int y, .int x, w0] σ = ru d 119 11 [l0, l1, l2] [.int (x + y), w0] σ := q_iadd t119_10
theorem t119_11 : decode (mb 119) 11 = .ok (.iload_n 2, 1) := by decide +kernel
theorem s119_11 (d : Nat) (l0 : Value) (l1 : Value) (i2 : Int32) (w0 w1 : Value) (σ : Hs) : ru d 119 11 [l0, l1, .int i2] [w0, w1] σ = ru d 119 12 [l0, l1, .int i2] [.int i2, w0, w1] σ := q_iload_n t119_11 rfl
theorem t119_12 : decode (mb 119) 12 = .ok (.iadd, 1) := by decide +kernel
theorem s119_12 (d : Nat) (l0 : Value) (l1 : Value) (l2 : Value) (x y : Int32) (w0 : Value) (σ : Hs) : ru d 119 12 [l0, l1, l2] [.int y, .int x, w0] σ = ru d 119 13 [l0, l1, l2] [.int (x + y), w0] σ := q_iadd t119_12
theorem t119_13 : decode (mb 119) 13 = .ok (.iaload, 1) := by decide +kernel
theorem s119_13_o88 (d : Nat) (l0 : Value) (l1 : Value) (l2 : Value) (i : Int32) (σ : Hs) : ru d 119 13 [l0, l1, l2] [.int i, .ref 88] σ = gd (vp_in i 545) (ru d 119 14 [l0, l1, l2] [.int (σ 88 i.toNatClampNeg)] σ) := q_iald t119_13 rfl (by decide +kernel) rfl
theorem t119_14 : decode (mb 119) 14 = .ok (.ireturn, 1) := by decide +kernel
theorem s119_14 (d : Nat) (l0 : Value) (l1 : Value) (l2 : Value) (x : Int32) (σ : Hs) : ru d 119 14 [l0, l1, l2] [.int x] σ = some (some (.int x), σ) := q_ireti t119_14 mr119
theorem c119 (d : Nat) (x0 : Nat) (x1 : Int32) (x2 : Int32) (σ : Hs) : callD (d + 1) 119 [.ref x0, .int x1, .int x2] σ = ru d 119 0 [.ref x0, .int x1, .int x2] [] σ := callD_ru ml119 rfl rfl (Nat.le_of_ble_eq_true rfl)
-- 120: Model.tells(III)V
theorem t120_0 : decode (mb 120) 0 = .ok (.aload_n 0, 1) := by decide +kernel
theorem s120_0 (d : Nat) (a0 : Nat) (l1 : Value) (l2 : Value) (l3 : Value) (σ : Hs) : ru d 120 0 [.ref a0, l1, l2, l3] [] σ = ru d 120 1 [.ref a0, l1, l2, l3] [.ref a0] σ := q_aload_n t120_0 rfl
theorem t120_1 : decode (mb 120) 1 = .ok (.getfield 9, 3) := by decide +kernel
theorem s120_1_o87 (d : Nat) (l0 : Value) (l1 : Value) (l2 : Value) (l3 : Value) (σ : Hs) : ru d 120 1 [l0, l1, l2, l3] [.ref 87] σ = ru d 120 4 [l0, l1, l2, l3] [.ref 88] σ := q_getf t120_1 mo120 F8_9 rfl rfl
theorem t120_4 : decode (mb 120) 4 = .ok (.bipush 14, 2) := by decide +kernel
theorem s120_4 (d : Nat) (l0 : Value) (l1 : Value) (l2 : Value) (l3 : Value) (w0 : Value) (σ : Hs) : ru d 120 4 [l0, l1, l2, l3] [w0] σ = ru d 120 6 [l0, l1, l2, l3] [.int 14, w0] σ := q_bipush t120_4 (by decide +kernel)
theorem t120_6 : decode (mb 120) 6 = .ok (.bipush 7, 2) := by decide +kernel
theorem s120_6 (d : Nat) (l0 : Value) (l1 : Value) (l2 : Value) (l3 : Value) (w0 w1 : Value) (σ : Hs) : ru d 120 6 [l0, l1, l2, l3] [w0, w1] σ = ru d 120 8 [l0, l1, l2, l3] [.int 7, w0, w1] σ := q_bipush t120_6 (by decide +kernel)
theorem t120_8 : decode (mb 120) 8 = .ok (.iload_n 1, 1) := by decide +kernel
theorem s120_8 (d : Nat) (l0 : Value) (i1 : Int32) (l2 : Value) (l3 : Value) (w0 w1 w2 : Value) (σ : Hs) : ru d 120 8 [l0, .int i1, l2, l3] [w0, w1, w2] σ = ru d 120 9 [l0, .int i1, l2, l3] [.int i1, w0, w1, w2] σ := q_iload_n t120_8 rfl
theorem t120_9 : decode (mb 120) 9 = .ok (.imul, 1) := by decide +kernel
theorem s120_9 (d : Nat) (l0 : Value) (l1 : Value) (l2 : Value) (l3 : Value) (x y : Int32) (w0 w1 : Value) (σ : Hs) : ru d 120 9 [l0, l1, l2, l3] [.int y, .int x, w0, w1] σ = ru d 120 10 [l0, l1, l2, l3] [.int (x * y), w0, w1] σ := q_imul t120_9
theorem t120_10 : decode (mb 120) 10 = .ok (.iadd, 1) := by decide +kernel
theorem s120_10 (d : Nat) (l0 : Value) (l1 : Value) (l2 : Value) (l3 : Value) (x y : Int32) (w0 : Value) (σ : Hs) : ru d 120 10 [l0, l1, l2, l3] [.int y, .int x, w0] σ = ru d 120 11 [l0, l1, l2, l3] [.int (x + y), w0] σ := q_iadd t120_10
theorem t120_11 : decode (mb 120) 11 = .ok (.iload_n 2, 1) := by decide +kernel
theorem s120_11 (d : Nat) (l0 : Value) (l1 : Value) (i2 : Int32) (l3 : Value) (w0 w1 : Value) (σ : Hs) : ru d 120 11 [l0, l1, .int i2, l3] [w0, w1] σ = ru d 120 12 [l0, l1, .int i2, l3] [.int i2, w0, w1] σ := q_iload_n t120_11 rfl
theorem t120_12 : decode (mb 120) 12 = .ok (.iadd, 1) := by decide +kernel
theorem s120_12 (d : Nat) (l0 : Value) (l1 : Value) (l2 : Value) (l3 : Value) (x y : Int32) (w0 : Value) (σ : Hs) : ru d 120 12 [l0, l1, l2, l3] [.int y, .int x, w0] σ = ru d 120 13 [l0, l1, l2, l3] [.int (x + y), w0] σ := q_iadd t120_12
theorem t120_13 : decode (mb 120) 13 = .ok (.iload_n 3, 1) := by decide +kernel
theorem s120_13 (d : Nat) (l0 : Value) (l1 : Value) (l2 : Value) (i3 : Int32) (w0 w1 : Value) (σ : Hs) : ru d 120 13 [l0, l1, l2, .int i3] [w0, w1] σ = ru d 120 14 [l0, l1, l2, .int i3] [.int i3, w0, w1] σ := q_iload_n t120_13 rfl
theorem t120_14 : decode (mb 120) 14 = .ok (.iastore, 1) := by decide +kernel
theorem s120_14_o88 (d : Nat) (l0 : Value) (l1 : Value) (l2 : Value) (l3 : Value) (i x : Int32) (σ : Hs) : ru d 120 14 [l0, l1, l2, l3] [.int x, .int i, .ref 88] σ = gd (vp_in i 545) (ru d 120 15 [l0, l1, l2, l3] [] (up2 σ 88 i.toNatClampNeg x)) := q_iast t120_14 (by decide +kernel) rfl rfl
theorem t120_15 : decode (mb 120) 15 = .ok (.return_, 1) := by decide +kernel
theorem s120_15 (d : Nat) (l0 : Value) (l1 : Value) (l2 : Value) (l3 : Value) (σ : Hs) : ru d 120 15 [l0, l1, l2, l3] [] σ = some (none, σ) := q_vret t120_15 mr120
theorem c120 (d : Nat) (x0 : Nat) (x1 : Int32) (x2 : Int32) (x3 : Int32) (σ : Hs) : callD (d + 1) 120 [.ref x0, .int x1, .int x2, .int x3] σ = ru d 120 0 [.ref x0, .int x1, .int x2, .int x3] [] σ := callD_ru ml120 rfl rfl (Nat.le_of_ble_eq_true rfl)
-- 121: Model.isPlace(I)Z
theorem t121_0 : decode (mb 121) 0 = .ok (.iload_n 0, 1) := by decide +kernel
theorem s121_0 (d : Nat) (i0 : Int32) (σ : Hs) : ru d 121 0 [.int i0] [] σ = ru d 121 1 [.int i0] [.int i0] σ := q_iload_n t121_0 rfl
theorem t121_1 : decode (mb 121) 1 = .ok (.iconst 0, 1) := by decide +kernel
theorem s121_1 (d : Nat) (l0 : Value) (w0 : Value) (σ : Hs) : ru d 121 1 [l0] [w0] σ = ru d 121 2 [l0] [.int 0, w0] σ := q_iconst t121_1 (by decide +kernel)
theorem t121_2 : decode (mb 121) 2 = .ok (.bipush 29, 2) := by decide +kernel
theorem s121_2 (d : Nat) (l0 : Value) (w0 w1 : Value) (σ : Hs) : ru d 121 2 [l0] [w0, w1] σ = ru d 121 4 [l0] [.int 29, w0, w1] σ := q_bipush t121_2 (by decide +kernel)
theorem t121_4 : decode (mb 121) 4 = .ok (.invokestatic 81, 3) := by decide +kernel
theorem s121_4 (d : Nat) (l0 : Value) (v0 v1 v2 : Value) (σ : Hs) : ru d 121 4 [l0] [v2, v1, v0] σ = kont (callD d 113 [v0, v1, v2] σ) d 121 7 [l0] [] := q_invs t121_4 mo121 (by decide +kernel) K8_81 mj113 (Nat.le_of_ble_eq_true rfl) rfl rfl (Nat.le_of_ble_eq_true rfl)
theorem t121_7 : decode (mb 121) 7 = .ok (.ireturn, 1) := by decide +kernel
theorem s121_7 (d : Nat) (l0 : Value) (x : Int32) (hx : isB x) (σ : Hs) : ru d 121 7 [l0] [.int x] σ = some (some (.int x), σ) := q_iretz t121_7 mr121 hx
theorem c121 (d : Nat) (x0 : Int32) (σ : Hs) : callD (d + 1) 121 [.int x0] σ = ru d 121 0 [.int x0] [] σ := callD_ru ml121 rfl rfl (Nat.le_of_ble_eq_true rfl)
