-- 185: Model.hour(II)I
theorem t185_0 : decode (mb 185) 0 = .ok (.iload_n 1, 1) := by decide +kernel
theorem s185_0 (d : Nat) (l0 : Value) (i1 : Int32) (l2 : Value) (l3 : Value) (l4 : Value) (l5 : Value) (l6 : Value) (l7 : Value) (l8 : Value) (σ : Hs) : ru d 185 0 [l0, .int i1, l2, l3, l4, l5, l6, l7, l8] [] σ = ru d 185 1 [l0, .int i1, l2, l3, l4, l5, l6, l7, l8] [.int i1] σ := q_iload_n t185_0 rfl
theorem t185_1 : decode (mb 185) 1 = .ok (.invokestatic 113, 3) := by decide +kernel
theorem s185_1 (d : Nat) (l0 : Value) (l1 : Value) (l2 : Value) (l3 : Value) (l4 : Value) (l5 : Value) (l6 : Value) (l7 : Value) (l8 : Value) (v0 : Value) (σ : Hs) : ru d 185 1 [l0, l1, l2, l3, l4, l5, l6, l7, l8] [v0] σ = kont (callD d 120 [v0] σ) d 185 4 [l0, l1, l2, l3, l4, l5, l6, l7, l8] [] := q_invs t185_1 mo185 (by decide +kernel) K8_113 mj120 (Nat.le_of_ble_eq_true rfl) rfl rfl (Nat.le_of_ble_eq_true rfl)
theorem t185_4 : decode (mb 185) 4 = .ok (.ifCond .eq 10, 3) := by decide +kernel
theorem s185_4 (d : Nat) (l0 : Value) (l1 : Value) (l2 : Value) (l3 : Value) (l4 : Value) (l5 : Value) (l6 : Value) (l7 : Value) (l8 : Value) (x : Int32) (σ : Hs) : ru d 185 4 [l0, l1, l2, l3, l4, l5, l6, l7, l8] [.int x] σ = if x = 0 then ru d 185 14 [l0, l1, l2, l3, l4, l5, l6, l7, l8] [] σ else ru d 185 7 [l0, l1, l2, l3, l4, l5, l6, l7, l8] [] σ := q_if_eq t185_4 (by decide +kernel)
theorem t185_7 : decode (mb 185) 7 = .ok (.iload_n 2, 1) := by decide +kernel
theorem s185_7 (d : Nat) (l0 : Value) (l1 : Value) (i2 : Int32) (l3 : Value) (l4 : Value) (l5 : Value) (l6 : Value) (l7 : Value) (l8 : Value) (σ : Hs) : ru d 185 7 [l0, l1, .int i2, l3, l4, l5, l6, l7, l8] [] σ = ru d 185 8 [l0, l1, .int i2, l3, l4, l5, l6, l7, l8] [.int i2] σ := q_iload_n t185_7 rfl
theorem t185_8 : decode (mb 185) 8 = .ok (.invokestatic 284, 3) := by decide +kernel
theorem s185_8 (d : Nat) (l0 : Value) (l1 : Value) (l2 : Value) (l3 : Value) (l4 : Value) (l5 : Value) (l6 : Value) (l7 : Value) (l8 : Value) (v0 : Value) (σ : Hs) : ru d 185 8 [l0, l1, l2, l3, l4, l5, l6, l7, l8] [v0] σ = kont (callD d 181 [v0] σ) d 185 11 [l0, l1, l2, l3, l4, l5, l6, l7, l8] [] := q_invs t185_8 mo185 (by decide +kernel) K8_284 mj181 (Nat.le_of_ble_eq_true rfl) rfl rfl (Nat.le_of_ble_eq_true rfl)
theorem t185_11 : decode (mb 185) 11 = .ok (.ifCond .ne 10, 3) := by decide +kernel
theorem s185_11 (d : Nat) (l0 : Value) (l1 : Value) (l2 : Value) (l3 : Value) (l4 : Value) (l5 : Value) (l6 : Value) (l7 : Value) (l8 : Value) (x : Int32) (σ : Hs) : ru d 185 11 [l0, l1, l2, l3, l4, l5, l6, l7, l8] [.int x] σ = if x = 0 then ru d 185 14 [l0, l1, l2, l3, l4, l5, l6, l7, l8] [] σ else ru d 185 21 [l0, l1, l2, l3, l4, l5, l6, l7, l8] [] σ := q_if_ne t185_11 (by decide +kernel)
theorem t185_14 : decode (mb 185) 14 = .ok (.aload_n 0, 1) := by decide +kernel
theorem s185_14 (d : Nat) (a0 : Nat) (l1 : Value) (l2 : Value) (l3 : Value) (l4 : Value) (l5 : Value) (l6 : Value) (l7 : Value) (l8 : Value) (σ : Hs) : ru d 185 14 [.ref a0, l1, l2, l3, l4, l5, l6, l7, l8] [] σ = ru d 185 15 [.ref a0, l1, l2, l3, l4, l5, l6, l7, l8] [.ref a0] σ := q_aload_n t185_14 rfl
theorem t185_15 : decode (mb 185) 15 = .ok (.ldc 104, 2) := by decide +kernel
theorem s185_15 (d : Nat) (l0 : Value) (l1 : Value) (l2 : Value) (l3 : Value) (l4 : Value) (l5 : Value) (l6 : Value) (l7 : Value) (l8 : Value) (w0 : Value) (σ : Hs) : ru d 185 15 [l0, l1, l2, l3, l4, l5, l6, l7, l8] [w0] σ = ru d 185 17 [l0, l1, l2, l3, l4, l5, l6, l7, l8] [.int (-1000001), w0] σ := q_ldc t185_15 mo185 C8_104
theorem t185_17 : decode (mb 185) 17 = .ok (.invokevirtual 105, 3) := by decide +kernel
theorem s185_17_o87 (d : Nat) (l0 : Value) (l1 : Value) (l2 : Value) (l3 : Value) (l4 : Value) (l5 : Value) (l6 : Value) (l7 : Value) (l8 : Value) (v1 : Value) (σ : Hs) : ru d 185 17 [l0, l1, l2, l3, l4, l5, l6, l7, l8] [v1, .ref 87] σ = kont (callD d 111 [.ref 87, v1] σ) d 185 20 [l0, l1, l2, l3, l4, l5, l6, l7, l8] [] := q_invv t185_17 mo185 K8_105 mj111 rfl rfl rfl rfl (Nat.le_of_ble_eq_true rfl)
theorem t185_20 : decode (mb 185) 20 = .ok (.ireturn, 1) := by decide +kernel
theorem s185_20 (d : Nat) (l0 : Value) (l1 : Value) (l2 : Value) (l3 : Value) (l4 : Value) (l5 : Value) (l6 : Value) (l7 : Value) (l8 : Value) (x : Int32) (σ : Hs) : ru d 185 20 [l0, l1, l2, l3, l4, l5, l6, l7, l8] [.int x] σ = some (some (.int x), σ) := q_ireti t185_20 mr185
theorem t185_21 : decode (mb 185) 21 = .ok (.aload_n 0, 1) := by decide +kernel
theorem s185_21 (d : Nat) (a0 : Nat) (l1 : Value) (l2 : Value) (l3 : Value) (l4 : Value) (l5 : Value) (l6 : Value) (l7 : Value) (l8 : Value) (σ : Hs) : ru d 185 21 [.ref a0, l1, l2, l3, l4, l5, l6, l7, l8] [] σ = ru d 185 22 [.ref a0, l1, l2, l3, l4, l5, l6, l7, l8] [.ref a0] σ := q_aload_n t185_21 rfl
theorem t185_22 : decode (mb 185) 22 = .ok (.iload_n 1, 1) := by decide +kernel
theorem s185_22 (d : Nat) (l0 : Value) (i1 : Int32) (l2 : Value) (l3 : Value) (l4 : Value) (l5 : Value) (l6 : Value) (l7 : Value) (l8 : Value) (w0 : Value) (σ : Hs) : ru d 185 22 [l0, .int i1, l2, l3, l4, l5, l6, l7, l8] [w0] σ = ru d 185 23 [l0, .int i1, l2, l3, l4, l5, l6, l7, l8] [.int i1, w0] σ := q_iload_n t185_22 rfl
theorem t185_23 : decode (mb 185) 23 = .ok (.invokevirtual 88, 3) := by decide +kernel
theorem s185_23_o87 (d : Nat) (l0 : Value) (l1 : Value) (l2 : Value) (l3 : Value) (l4 : Value) (l5 : Value) (l6 : Value) (l7 : Value) (l8 : Value) (v1 : Value) (σ : Hs) : ru d 185 23 [l0, l1, l2, l3, l4, l5, l6, l7, l8] [v1, .ref 87] σ = kont (callD d 121 [.ref 87, v1] σ) d 185 26 [l0, l1, l2, l3, l4, l5, l6, l7, l8] [] := q_invv t185_23 mo185 K8_88 mj121 rfl rfl rfl rfl (Nat.le_of_ble_eq_true rfl)
theorem t185_26 : decode (mb 185) 26 = .ok (.ifCond .ne 10, 3) := by decide +kernel
theorem s185_26 (d : Nat) (l0 : Value) (l1 : Value) (l2 : Value) (l3 : Value) (l4 : Value) (l5 : Value) (l6 : Value) (l7 : Value) (l8 : Value) (x : Int32) (σ : Hs) : ru d 185 26 [l0, l1, l2, l3, l4, l5, l6, l7, l8] [.int x] σ = if x = 0 then ru d 185 29 [l0, l1, l2, l3, l4, l5, l6, l7, l8] [] σ else ru d 185 36 [l0, l1, l2, l3, l4, l5, l6, l7, l8] [] σ := q_if_ne t185_26 (by decide +kernel)
theorem t185_29 : decode (mb 185) 29 = .ok (.aload_n 0, 1) := by decide +kernel
theorem s185_29 (d : Nat) (a0 : Nat) (l1 : Value) (l2 : Value) (l3 : Value) (l4 : Value) (l5 : Value) (l6 : Value) (l7 : Value) (l8 : Value) (σ : Hs) : ru d 185 29 [.ref a0, l1, l2, l3, l4, l5, l6, l7, l8] [] σ = ru d 185 30 [.ref a0, l1, l2, l3, l4, l5, l6, l7, l8] [.ref a0] σ := q_aload_n t185_29 rfl
theorem t185_30 : decode (mb 185) 30 = .ok (.ldc 116, 2) := by decide +kernel
theorem s185_30 (d : Nat) (l0 : Value) (l1 : Value) (l2 : Value) (l3 : Value) (l4 : Value) (l5 : Value) (l6 : Value) (l7 : Value) (l8 : Value) (w0 : Value) (σ : Hs) : ru d 185 30 [l0, l1, l2, l3, l4, l5, l6, l7, l8] [w0] σ = ru d 185 32 [l0, l1, l2, l3, l4, l5, l6, l7, l8] [.int (-1000002), w0] σ := q_ldc t185_30 mo185 C8_116
theorem t185_32 : decode (mb 185) 32 = .ok (.invokevirtual 105, 3) := by decide +kernel
theorem s185_32_o87 (d : Nat) (l0 : Value) (l1 : Value) (l2 : Value) (l3 : Value) (l4 : Value) (l5 : Value) (l6 : Value) (l7 : Value) (l8 : Value) (v1 : Value) (σ : Hs) : ru d 185 32 [l0, l1, l2, l3, l4, l5, l6, l7, l8] [v1, .ref 87] σ = kont (callD d 111 [.ref 87, v1] σ) d 185 35 [l0, l1, l2, l3, l4, l5, l6, l7, l8] [] := q_invv t185_32 mo185 K8_105 mj111 rfl rfl rfl rfl (Nat.le_of_ble_eq_true rfl)
theorem t185_35 : decode (mb 185) 35 = .ok (.ireturn, 1) := by decide +kernel
theorem s185_35 (d : Nat) (l0 : Value) (l1 : Value) (l2 : Value) (l3 : Value) (l4 : Value) (l5 : Value) (l6 : Value) (l7 : Value) (l8 : Value) (x : Int32) (σ : Hs) : ru d 185 35 [l0, l1, l2, l3, l4, l5, l6, l7, l8] [.int x] σ = some (some (.int x), σ) := q_ireti t185_35 mr185
theorem t185_36 : decode (mb 185) 36 = .ok (.aload_n 0, 1) := by decide +kernel
theorem s185_36 (d : Nat) (a0 : Nat) (l1 : Value) (l2 : Value) (l3 : Value) (l4 : Value) (l5 : Value) (l6 : Value) (l7 : Value) (l8 : Value) (σ : Hs) : ru d 185 36 [.ref a0, l1, l2, l3, l4, l5, l6, l7, l8] [] σ = ru d 185 37 [.ref a0, l1, l2, l3, l4, l5, l6, l7, l8] [.ref a0] σ := q_aload_n t185_36 rfl
theorem t185_37 : decode (mb 185) 37 = .ok (.getfield 9, 3) := by decide +kernel
theorem s185_37_o87 (d : Nat) (l0 : Value) (l1 : Value) (l2 : Value) (l3 : Value) (l4 : Value) (l5 : Value) (l6 : Value) (l7 : Value) (l8 : Value) (σ : Hs) : ru d 185 37 [l0, l1, l2, l3, l4, l5, l6, l7, l8] [.ref 87] σ = ru d 185 40 [l0, l1, l2, l3, l4, l5, l6, l7, l8] [.ref 88] σ := q_getf t185_37 mo185 F8_9 rfl rfl
theorem t185_40 : decode (mb 185) 40 = .ok (.aload_n 0, 1) := by decide +kernel
theorem s185_40 (d : Nat) (a0 : Nat) (l1 : Value) (l2 : Value) (l3 : Value) (l4 : Value) (l5 : Value) (l6 : Value) (l7 : Value) (l8 : Value) (w0 : Value) (σ : Hs) : ru d 185 40 [.ref a0, l1, l2, l3, l4, l5, l6, l7, l8] [w0] σ = ru d 185 41 [.ref a0, l1, l2, l3, l4, l5, l6, l7, l8] [.ref a0, w0] σ := q_aload_n t185_40 rfl
theorem t185_41 : decode (mb 185) 41 = .ok (.getfield 16, 3) := by decide +kernel
theorem s185_41_o87 (d : Nat) (l0 : Value) (l1 : Value) (l2 : Value) (l3 : Value) (l4 : Value) (l5 : Value) (l6 : Value) (l7 : Value) (l8 : Value) (w0 : Value) (σ : Hs) : ru d 185 41 [l0, l1, l2, l3, l4, l5, l6, l7, l8] [.ref 87, w0] σ = ru d 185 44 [l0, l1, l2, l3, l4, l5, l6, l7, l8] [.ref 90, w0] σ := q_getf t185_41 mo185 F8_16 rfl rfl
theorem t185_44 : decode (mb 185) 44 = .ok (.invokestatic 77, 3) := by decide +kernel
theorem s185_44 (d : Nat) (l0 : Value) (l1 : Value) (l2 : Value) (l3 : Value) (l4 : Value) (l5 : Value) (l6 : Value) (l7 : Value) (l8 : Value) (v0 v1 : Value) (σ : Hs) : ru d 185 44 [l0, l1, l2, l3, l4, l5, l6, l7, l8] [v1, v0] σ = kont (callD d 115 [v0, v1] σ) d 185 47 [l0, l1, l2, l3, l4, l5, l6, l7, l8] [] := q_invs t185_44 mo185 (by decide +kernel) K8_77 mj115 (Nat.le_of_ble_eq_true rfl) rfl rfl (Nat.le_of_ble_eq_true rfl)
theorem t185_47 : decode (mb 185) 47 = .ok (.iconst (-1), 1) := by decide +kernel
theorem s185_47 (d : Nat) (l0 : Value) (l1 : Value) (l2 : Value) (l3 : Value) (l4 : Value) (l5 : Value) (l6 : Value) (l7 : Value) (l8 : Value) (σ : Hs) : ru d 185 47 [l0, l1, l2, l3, l4, l5, l6, l7, l8] [] σ = ru d 185 48 [l0, l1, l2, l3, l4, l5, l6, l7, l8] [.int (-1)] σ := q_iconst t185_47 (by decide +kernel)
theorem t185_48 : decode (mb 185) 48 = .ok (.istore_n 3, 1) := by decide +kernel
theorem s185_48 (d : Nat) (l0 : Value) (l1 : Value) (i2 : Int32) (l3 : Value) (l4 : Value) (l5 : Value) (l6 : Value) (l7 : Value) (l8 : Value) (x : Int32) (σ : Hs) : ru d 185 48 [l0, l1, .int i2, l3, l4, l5, l6, l7, l8] [.int x] σ = ru d 185 49 [l0, l1, .int i2, .int x, l4, l5, l6, l7, l8] [] σ := q_istore_n t185_48 ⟨Nat.le_of_ble_eq_true rfl, rfl⟩ rfl
theorem t185_49 : decode (mb 185) 49 = .ok (.lconst 0, 1) := by decide +kernel
theorem s185_49 (d : Nat) (l0 : Value) (l1 : Value) (l2 : Value) (l3 : Value) (l4 : Value) (l5 : Value) (l6 : Value) (l7 : Value) (l8 : Value) (σ : Hs) : ru d 185 49 [l0, l1, l2, l3, l4, l5, l6, l7, l8] [] σ = ru d 185 50 [l0, l1, l2, l3, l4, l5, l6, l7, l8] [.long 0] σ := q_lconst t185_49 (by decide +kernel)
theorem t185_50 : decode (mb 185) 50 = .ok (.lstore 4, 2) := by decide +kernel
theorem s185_50 (d : Nat) (l0 : Value) (l1 : Value) (l2 : Value) (i3 : Int32) (l4 : Value) (l5 : Value) (l6 : Value) (l7 : Value) (l8 : Value) (x : Int64) (σ : Hs) : ru d 185 50 [l0, l1, l2, .int i3, l4, l5, l6, l7, l8] [.long x] σ = ru d 185 52 [l0, l1, l2, .int i3, .long x, uu, l6, l7, l8] [] σ := q_lstore t185_50 ⟨Nat.le_of_ble_eq_true rfl, rfl⟩ rfl
theorem t185_52 : decode (mb 185) 52 = .ok (.iconst 0, 1) := by decide +kernel
theorem s185_52 (d : Nat) (l0 : Value) (l1 : Value) (l2 : Value) (l3 : Value) (l4 : Value) (l5 : Value) (l6 : Value) (l7 : Value) (l8 : Value) (σ : Hs) : ru d 185 52 [l0, l1, l2, l3, l4, l5, l6, l7, l8] [] σ = ru d 185 53 [l0, l1, l2, l3, l4, l5, l6, l7, l8] [.int 0] σ := q_iconst t185_52 (by decide +kernel)
theorem t185_53 : decode (mb 185) 53 = .ok (.istore 6, 2) := by decide +kernel
theorem s185_53 (d : Nat) (l0 : Value) (l1 : Value) (l2 : Value) (l3 : Value) (l4 : Value) (l6 : Value) (l7 : Value) (l8 : Value) (x : Int32) (σ : Hs) : ru d 185 53 [l0, l1, l2, l3, l4, uu, l6, l7, l8] [.int x] σ = ru d 185 55 [l0, l1, l2, l3, l4, uu, .int x, l7, l8] [] σ := q_istore t185_53 ⟨Nat.le_of_ble_eq_true rfl, rfl⟩ rfl
theorem t185_55 : decode (mb 185) 55 = .ok (.iload 6, 2) := by decide +kernel
theorem s185_55 (d : Nat) (l0 : Value) (l1 : Value) (l2 : Value) (l3 : Value) (l4 : Value) (l5 : Value) (i6 : Int32) (l7 : Value) (l8 : Value) (σ : Hs) : ru d 185 55 [l0, l1, l2, l3, l4, l5, .int i6, l7, l8] [] σ = ru d 185 57 [l0, l1, l2, l3, l4, l5, .int i6, l7, l8] [.int i6] σ := q_iload t185_55 rfl
theorem t185_57 : decode (mb 185) 57 = .ok (.bipush 24, 2) := by decide +kernel
theorem s185_57 (d : Nat) (l0 : Value) (l1 : Value) (l2 : Value) (l3 : Value) (l4 : Value) (l5 : Value) (l6 : Value) (l7 : Value) (l8 : Value) (w0 : Value) (σ : Hs) : ru d 185 57 [l0, l1, l2, l3, l4, l5, l6, l7, l8] [w0] σ = ru d 185 59 [l0, l1, l2, l3, l4, l5, l6, l7, l8] [.int 24, w0] σ := q_bipush t185_57 (by decide +kernel)
theorem t185_59 : decode (mb 185) 59 = .ok (.if_icmp .ge 66, 3) := by decide +kernel
theorem s185_59 (d : Nat) (l0 : Value) (l1 : Value) (l2 : Value) (l3 : Value) (l4 : Value) (l5 : Value) (l6 : Value) (l7 : Value) (l8 : Value) (x y : Int32) (σ : Hs) : ru d 185 59 [l0, l1, l2, l3, l4, l5, l6, l7, l8] [.int y, .int x] σ = if y ≤ x then ru d 185 125 [l0, l1, l2, l3, l4, l5, l6, l7, l8] [] σ else ru d 185 62 [l0, l1, l2, l3, l4, l5, l6, l7, l8] [] σ := q_ic_ge t185_59 (by decide +kernel)
theorem t185_62 : decode (mb 185) 62 = .ok (.aload_n 0, 1) := by decide +kernel
theorem s185_62 (d : Nat) (a0 : Nat) (l1 : Value) (l2 : Value) (l3 : Value) (l4 : Value) (l5 : Value) (l6 : Value) (l7 : Value) (l8 : Value) (σ : Hs) : ru d 185 62 [.ref a0, l1, l2, l3, l4, l5, l6, l7, l8] [] σ = ru d 185 63 [.ref a0, l1, l2, l3, l4, l5, l6, l7, l8] [.ref a0] σ := q_aload_n t185_62 rfl
theorem t185_63 : decode (mb 185) 63 = .ok (.getfield 9, 3) := by decide +kernel
theorem s185_63_o87 (d : Nat) (l0 : Value) (l1 : Value) (l2 : Value) (l3 : Value) (l4 : Value) (l5 : Value) (l6 : Value) (l7 : Value) (l8 : Value) (σ : Hs) : ru d 185 63 [l0, l1, l2, l3, l4, l5, l6, l7, l8] [.ref 87] σ = ru d 185 66 [l0, l1, l2, l3, l4, l5, l6, l7, l8] [.ref 88] σ := q_getf t185_63 mo185 F8_9 rfl rfl
theorem t185_66 : decode (mb 185) 66 = .ok (.iconst 4, 1) := by decide +kernel
theorem s185_66 (d : Nat) (l0 : Value) (l1 : Value) (l2 : Value) (l3 : Value) (l4 : Value) (l5 : Value) (l6 : Value) (l7 : Value) (l8 : Value) (w0 : Value) (σ : Hs) : ru d 185 66 [l0, l1, l2, l3, l4, l5, l6, l7, l8] [w0] σ = ru d 185 67 [l0, l1, l2, l3, l4, l5, l6, l7, l8] [.int 4, w0] σ := q_iconst t185_66 (by decide +kernel)
theorem t185_67 : decode (mb 185) 67 = .ok (.bipush 60, 2) := by decide +kernel
theorem s185_67 (d : Nat) (l0 : Value) (l1 : Value) (l2 : Value) (l3 : Value) (l4 : Value) (l5 : Value) (l6 : Value) (l7 : Value) (l8 : Value) (w0 w1 : Value) (σ : Hs) : ru d 185 67 [l0, l1, l2, l3, l4, l5, l6, l7, l8] [w0, w1] σ = ru d 185 69 [l0, l1, l2, l3, l4, l5, l6, l7, l8] [.int 60, w0, w1] σ := q_bipush t185_67 (by decide +kernel)
theorem t185_69 : decode (mb 185) 69 = .ok (.iload 6, 2) := by decide +kernel
theorem s185_69 (d : Nat) (l0 : Value) (l1 : Value) (l2 : Value) (l3 : Value) (l4 : Value) (l5 : Value) (i6 : Int32) (l7 : Value) (l8 : Value) (w0 w1 w2 : Value) (σ : Hs) : ru d 185 69 [l0, l1, l2, l3, l4, l5, .int i6, l7, l8] [w0, w1, w2] σ = ru d 185 71 [l0, l1, l2, l3, l4, l5, .int i6, l7, l8] [.int i6, w0, w1, w2] σ := q_iload t185_69 rfl
theorem t185_71 : decode (mb 185) 71 = .ok (.imul, 1) := by decide +kernel
theorem s185_71 (d : Nat) (l0 : Value) (l1 : Value) (l2 : Value) (l3 : Value) (l4 : Value) (l5 : Value) (l6 : Value) (l7 : Value) (l8 : Value) (x y : Int32) (w0 w1 : Value) (σ : Hs) : ru d 185 71 [l0, l1, l2, l3, l4, l5, l6, l7, l8] [.int y, .int x, w0, w1] σ = ru d 185 72 [l0, l1, l2, l3, l4, l5, l6, l7, l8] [.int (x * y), w0, w1] σ := q_imul t185_71
theorem t185_72 : decode (mb 185) 72 = .ok (.iastore, 1) := by decide +kernel
theorem s185_72_o88 (d : Nat) (l0 : Value) (l1 : Value) (l2 : Value) (l3 : Value) (l4 : Value) (l5 : Value) (l6 : Value) (l7 : Value) (l8 : Value) (i x : Int32) (σ : Hs) : ru d 185 72 [l0, l1, l2, l3, l4, l5, l6, l7, l8] [.int x, .int i, .ref 88] σ = gd (vp_in i 545) (ru d 185 73 [l0, l1, l2, l3, l4, l5, l6, l7, l8] [] (up2 σ 88 i.toNatClampNeg x)) := q_iast t185_72 (by decide +kernel) rfl rfl
theorem t185_73 : decode (mb 185) 73 = .ok (.aload_n 0, 1) := by decide +kernel
theorem s185_73 (d : Nat) (a0 : Nat) (l1 : Value) (l2 : Value) (l3 : Value) (l4 : Value) (l5 : Value) (l6 : Value) (l7 : Value) (l8 : Value) (σ : Hs) : ru d 185 73 [.ref a0, l1, l2, l3, l4, l5, l6, l7, l8] [] σ = ru d 185 74 [.ref a0, l1, l2, l3, l4, l5, l6, l7, l8] [.ref a0] σ := q_aload_n t185_73 rfl
theorem t185_74 : decode (mb 185) 74 = .ok (.iload_n 1, 1) := by decide +kernel
theorem s185_74 (d : Nat) (l0 : Value) (i1 : Int32) (l2 : Value) (l3 : Value) (l4 : Value) (l5 : Value) (l6 : Value) (l7 : Value) (l8 : Value) (w0 : Value) (σ : Hs) : ru d 185 74 [l0, .int i1, l2, l3, l4, l5, l6, l7, l8] [w0] σ = ru d 185 75 [l0, .int i1, l2, l3, l4, l5, l6, l7, l8] [.int i1, w0] σ := q_iload_n t185_74 rfl
theorem t185_75 : decode (mb 185) 75 = .ok (.invokevirtual 150, 3) := by decide +kernel
theorem s185_75_o87 (d : Nat) (l0 : Value) (l1 : Value) (l2 : Value) (l3 : Value) (l4 : Value) (l5 : Value) (l6 : Value) (l7 : Value) (l8 : Value) (v1 : Value) (σ : Hs) : ru d 185 75 [l0, l1, l2, l3, l4, l5, l6, l7, l8] [v1, .ref 87] σ = kont (callD d 138 [.ref 87, v1] σ) d 185 78 [l0, l1, l2, l3, l4, l5, l6, l7, l8] [] := q_invv t185_75 mo185 K8_150 mj138 rfl rfl rfl rfl (Nat.le_of_ble_eq_true rfl)
theorem t185_78 : decode (mb 185) 78 = .ok (.aload_n 0, 1) := by decide +kernel
theorem s185_78 (d : Nat) (a0 : Nat) (l1 : Value) (l2 : Value) (l3 : Value) (l4 : Value) (l5 : Value) (l6 : Value) (l7 : Value) (l8 : Value) (σ : Hs) : ru d 185 78 [.ref a0, l1, l2, l3, l4, l5, l6, l7, l8] [] σ = ru d 185 79 [.ref a0, l1, l2, l3, l4, l5, l6, l7, l8] [.ref a0] σ := q_aload_n t185_78 rfl
theorem t185_79 : decode (mb 185) 79 = .ok (.iload_n 2, 1) := by decide +kernel
theorem s185_79 (d : Nat) (l0 : Value) (l1 : Value) (i2 : Int32) (l3 : Value) (l4 : Value) (l5 : Value) (l6 : Value) (l7 : Value) (l8 : Value) (w0 : Value) (σ : Hs) : ru d 185 79 [l0, l1, .int i2, l3, l4, l5, l6, l7, l8] [w0] σ = ru d 185 80 [l0, l1, .int i2, l3, l4, l5, l6, l7, l8] [.int i2, w0] σ := q_iload_n t185_79 rfl
theorem t185_80 : decode (mb 185) 80 = .ok (.invokevirtual 271, 3) := by decide +kernel
theorem s185_80_o87 (d : Nat) (l0 : Value) (l1 : Value) (l2 : Value) (l3 : Value) (l4 : Value) (l5 : Value) (l6 : Value) (l7 : Value) (l8 : Value) (v1 : Value) (σ : Hs) : ru d 185 80 [l0, l1, l2, l3, l4, l5, l6, l7, l8] [v1, .ref 87] σ = kont (callD d 170 [.ref 87, v1] σ) d 185 83 [l0, l1, l2, l3, l4, l5, l6, l7, l8] [] := q_invv t185_80 mo185 K8_271 mj170 rfl rfl rfl rfl (Nat.le_of_ble_eq_true rfl)
theorem t185_83 : decode (mb 185) 83 = .ok (.aload_n 0, 1) := by decide +kernel
theorem s185_83 (d : Nat) (a0 : Nat) (l1 : Value) (l2 : Value) (l3 : Value) (l4 : Value) (l5 : Value) (l6 : Value) (l7 : Value) (l8 : Value) (σ : Hs) : ru d 185 83 [.ref a0, l1, l2, l3, l4, l5, l6, l7, l8] [] σ = ru d 185 84 [.ref a0, l1, l2, l3, l4, l5, l6, l7, l8] [.ref a0] σ := q_aload_n t185_83 rfl
theorem t185_84 : decode (mb 185) 84 = .ok (.invokevirtual 290, 3) := by decide +kernel
theorem s185_84_o87 (d : Nat) (l0 : Value) (l1 : Value) (l2 : Value) (l3 : Value) (l4 : Value) (l5 : Value) (l6 : Value) (l7 : Value) (l8 : Value) (σ : Hs) : ru d 185 84 [l0, l1, l2, l3, l4, l5, l6, l7, l8] [.ref 87] σ = kont (callD d 184 [.ref 87] σ) d 185 87 [l0, l1, l2, l3, l4, l5, l6, l7, l8] [] := q_invv t185_84 mo185 K8_290 mj184 rfl rfl rfl rfl (Nat.le_of_ble_eq_true rfl)
theorem t185_87 : decode (mb 185) 87 = .ok (.lstore 7, 2) := by decide +kernel
theorem s185_87 (d : Nat) (l0 : Value) (l1 : Value) (l2 : Value) (l3 : Value) (l4 : Value) (l5 : Value) (i6 : Int32) (l7 : Value) (l8 : Value) (x : Int64) (σ : Hs) : ru d 185 87 [l0, l1, l2, l3, l4, l5, .int i6, l7, l8] [.long x] σ = ru d 185 89 [l0, l1, l2, l3, l4, l5, .int i6, .long x, uu] [] σ := q_lstore t185_87 ⟨Nat.le_of_ble_eq_true rfl, rfl⟩ rfl
theorem t185_89 : decode (mb 185) 89 = .ok (.aload_n 0, 1) := by decide +kernel
theorem s185_89 (d : Nat) (a0 : Nat) (l1 : Value) (l2 : Value) (l3 : Value) (l4 : Value) (l5 : Value) (l6 : Value) (l7 : Value) (l8 : Value) (σ : Hs) : ru d 185 89 [.ref a0, l1, l2, l3, l4, l5, l6, l7, l8] [] σ = ru d 185 90 [.ref a0, l1, l2, l3, l4, l5, l6, l7, l8] [.ref a0] σ := q_aload_n t185_89 rfl
theorem t185_90 : decode (mb 185) 90 = .ok (.getfield 16, 3) := by decide +kernel
theorem s185_90_o87 (d : Nat) (l0 : Value) (l1 : Value) (l2 : Value) (l3 : Value) (l4 : Value) (l5 : Value) (l6 : Value) (l7 : Value) (l8 : Value) (σ : Hs) : ru d 185 90 [l0, l1, l2, l3, l4, l5, l6, l7, l8] [.ref 87] σ = ru d 185 93 [l0, l1, l2, l3, l4, l5, l6, l7, l8] [.ref 90] σ := q_getf t185_90 mo185 F8_16 rfl rfl
theorem t185_93 : decode (mb 185) 93 = .ok (.aload_n 0, 1) := by decide +kernel
theorem s185_93 (d : Nat) (a0 : Nat) (l1 : Value) (l2 : Value) (l3 : Value) (l4 : Value) (l5 : Value) (l6 : Value) (l7 : Value) (l8 : Value) (w0 : Value) (σ : Hs) : ru d 185 93 [.ref a0, l1, l2, l3, l4, l5, l6, l7, l8] [w0] σ = ru d 185 94 [.ref a0, l1, l2, l3, l4, l5, l6, l7, l8] [.ref a0, w0] σ := q_aload_n t185_93 rfl
theorem t185_94 : decode (mb 185) 94 = .ok (.getfield 9, 3) := by decide +kernel
theorem s185_94_o87 (d : Nat) (l0 : Value) (l1 : Value) (l2 : Value) (l3 : Value) (l4 : Value) (l5 : Value) (l6 : Value) (l7 : Value) (l8 : Value) (w0 : Value) (σ : Hs) : ru d 185 94 [l0, l1, l2, l3, l4, l5, l6, l7, l8] [.ref 87, w0] σ = ru d 185 97 [l0, l1, l2, l3, l4, l5, l6, l7, l8] [.ref 88, w0] σ := q_getf t185_94 mo185 F8_9 rfl rfl
theorem t185_97 : decode (mb 185) 97 = .ok (.invokestatic 77, 3) := by decide +kernel
theorem s185_97 (d : Nat) (l0 : Value) (l1 : Value) (l2 : Value) (l3 : Value) (l4 : Value) (l5 : Value) (l6 : Value) (l7 : Value) (l8 : Value) (v0 v1 : Value) (σ : Hs) : ru d 185 97 [l0, l1, l2, l3, l4, l5, l6, l7, l8] [v1, v0] σ = kont (callD d 115 [v0, v1] σ) d 185 100 [l0, l1, l2, l3, l4, l5, l6, l7, l8] [] := q_invs t185_97 mo185 (by decide +kernel) K8_77 mj115 (Nat.le_of_ble_eq_true rfl) rfl rfl (Nat.le_of_ble_eq_true rfl)
theorem t185_100 : decode (mb 185) 100 = .ok (.iload_n 3, 1) := by decide +kernel
theorem s185_100 (d : Nat) (l0 : Value) (l1 : Value) (l2 : Value) (i3 : Int32) (l4 : Value) (l5 : Value) (l6 : Value) (l7 : Value) (l8 : Value) (σ : Hs) : ru d 185 100 [l0, l1, l2, .int i3, l4, l5, l6, l7, l8] [] σ = ru d 185 101 [l0, l1, l2, .int i3, l4, l5, l6, l7, l8] [.int i3] σ := q_iload_n t185_100 rfl
theorem t185_101 : decode (mb 185) 101 = .ok (.ifCond .lt 11, 3) := by decide +kernel
theorem s185_101 (d : Nat) (l0 : Value) (l1 : Value) (l2 : Value) (l3 : Value) (l4 : Value) (l5 : Value) (l6 : Value) (l7 : Value) (l8 : Value) (x : Int32) (σ : Hs) : ru d 185 101 [l0, l1, l2, l3, l4, l5, l6, l7, l8] [.int x] σ = if x < 0 then ru d 185 112 [l0, l1, l2, l3, l4, l5, l6, l7, l8] [] σ else ru d 185 104 [l0, l1, l2, l3, l4, l5, l6, l7, l8] [] σ := q_if_lt t185_101 (by decide +kernel)
theorem t185_104 : decode (mb 185) 104 = .ok (.lload 7, 2) := by decide +kernel
theorem s185_104 (d : Nat) (l0 : Value) (l1 : Value) (l2 : Value) (l3 : Value) (l4 : Value) (l5 : Value) (l6 : Value) (j7 : Int64) (l8 : Value) (σ : Hs) : ru d 185 104 [l0, l1, l2, l3, l4, l5, l6, .long j7, l8] [] σ = ru d 185 106 [l0, l1, l2, l3, l4, l5, l6, .long j7, l8] [.long j7] σ := q_lload t185_104 rfl
theorem t185_106 : decode (mb 185) 106 = .ok (.lload 4, 2) := by decide +kernel
theorem s185_106 (d : Nat) (l0 : Value) (l1 : Value) (l2 : Value) (l3 : Value) (j4 : Int64) (l5 : Value) (l6 : Value) (l7 : Value) (l8 : Value) (w0 : Value) (σ : Hs) : ru d 185 106 [l0, l1, l2, l3, .long j4, l5, l6, l7, l8] [w0] σ = ru d 185 108 [l0, l1, l2, l3, .long j4, l5, l6, l7, l8] [.long j4, w0] σ := q_lload t185_106 rfl
theorem t185_108 : decode (mb 185) 108 = .ok (.lcmp, 1) := by decide +kernel
theorem s185_108 (d : Nat) (l0 : Value) (l1 : Value) (l2 : Value) (l3 : Value) (l4 : Value) (l5 : Value) (l6 : Value) (l7 : Value) (l8 : Value) (x y : Int64) (σ : Hs) : ru d 185 108 [l0, l1, l2, l3, l4, l5, l6, l7, l8] [.long y, .long x] σ = ru d 185 109 [l0, l1, l2, l3, l4, l5, l6, l7, l8] [.int (lg_cmp x y)] σ := q_lcmp t185_108
theorem t185_109 : decode (mb 185) 109 = .ok (.ifCond .ge 10, 3) := by decide +kernel
theorem s185_109 (d : Nat) (l0 : Value) (l1 : Value) (l2 : Value) (l3 : Value) (l4 : Value) (l5 : Value) (l6 : Value) (l7 : Value) (l8 : Value) (x : Int32) (σ : Hs) : ru d 185 109 [l0, l1, l2, l3, l4, l5, l6, l7, l8] [.int x] σ = if 0 ≤ x then ru d 185 119 [l0, l1, l2, l3, l4, l5, l6, l7, l8] [] σ else ru d 185 112 [l0, l1, l2, l3, l4, l5, l6, l7, l8] [] σ := q_if_ge t185_109 (by decide +kernel)
theorem t185_112 : decode (mb 185) 112 = .ok (.iload 6, 2) := by decide +kernel
theorem s185_112 (d : Nat) (l0 : Value) (l1 : Value) (l2 : Value) (l3 : Value) (l4 : Value) (l5 : Value) (i6 : Int32) (l7 : Value) (l8 : Value) (σ : Hs) : ru d 185 112 [l0, l1, l2, l3, l4, l5, .int i6, l7, l8] [] σ = ru d 185 114 [l0, l1, l2, l3, l4, l5, .int i6, l7, l8] [.int i6] σ := q_iload t185_112 rfl
theorem t185_114 : decode (mb 185) 114 = .ok (.istore_n 3, 1) := by decide +kernel
theorem s185_114 (d : Nat) (l0 : Value) (l1 : Value) (i2 : Int32) (l3 : Value) (l4 : Value) (l5 : Value) (l6 : Value) (l7 : Value) (l8 : Value) (x : Int32) (σ : Hs) : ru d 185 114 [l0, l1, .int i2, l3, l4, l5, l6, l7, l8] [.int x] σ = ru d 185 115 [l0, l1, .int i2, .int x, l4, l5, l6, l7, l8] [] σ := q_istore_n t185_114 ⟨Nat.le_of_ble_eq_true rfl, rfl⟩ rfl
theorem t185_115 : decode (mb 185) 115 = .ok (.lload 7, 2) := by decide +kernel
theorem s185_115 (d : Nat) (l0 : Value) (l1 : Value) (l2 : Value) (l3 : Value) (l4 : Value) (l5 : Value) (l6 : Value) (j7 : Int64) (l8 : Value) (σ : Hs) : ru d 185 115 [l0, l1, l2, l3, l4, l5, l6, .long j7, l8] [] σ = ru d 185 117 [l0, l1, l2, l3, l4, l5, l6, .long j7, l8] [.long j7] σ := q_lload t185_115 rfl
theorem t185_117 : decode (mb 185) 117 = .ok (.lstore 4, 2) := by decide +kernel
theorem s185_117 (d : Nat) (l0 : Value) (l1 : Value) (l2 : Value) (i3 : Int32) (l4 : Value) (l5 : Value) (l6 : Value) (l7 : Value) (l8 : Value) (x : Int64) (σ : Hs) : ru d 185 117 [l0, l1, l2, .int i3, l4, l5, l6, l7, l8] [.long x] σ = ru d 185 119 [l0, l1, l2, .int i3, .long x, uu, l6, l7, l8] [] σ := q_lstore t185_117 ⟨Nat.le_of_ble_eq_true rfl, rfl⟩ rfl
theorem t185_119 : decode (mb 185) 119 = .ok (.iinc 6 1, 3) := by decide +kernel
theorem s185_119 (d : Nat) (l0 : Value) (l1 : Value) (l2 : Value) (l3 : Value) (l4 : Value) (i6 : Int32) (l7 : Value) (l8 : Value) (σ : Hs) : ru d 185 119 [l0, l1, l2, l3, l4, uu, .int i6, l7, l8] [] σ = ru d 185 122 [l0, l1, l2, l3, l4, uu, .int (i6 + 1), l7, l8] [] σ := q_iinc t185_119 ⟨Nat.le_of_ble_eq_true rfl, rfl⟩ rfl (by decide +kernel) rfl
theorem t185_122 : decode (mb 185) 122 = .ok (.goto (-67), 3) := by decide +kernel
theorem s185_122 (d : Nat) (l0 : Value) (l1 : Value) (l2 : Value) (l3 : Value) (l4 : Value) (l5 : Value) (l6 : Value) (l7 : Value) (l8 : Value) (σ : Hs) : ru d 185 122 [l0, l1, l2, l3, l4, l5, l6, l7, l8] [] σ = ru d 185 55 [l0, l1, l2, l3, l4, l5, l6, l7, l8] [] σ := q_goto t185_122 (by decide +kernel)
theorem t185_125 : decode (mb 185) 125 = .ok (.iload_n 3, 1) := by decide +kernel
theorem s185_125 (d : Nat) (l0 : Value) (l1 : Value) (l2 : Value) (i3 : Int32) (l4 : Value) (l5 : Value) (l6 : Value) (l7 : Value) (l8 : Value) (σ : Hs) : ru d 185 125 [l0, l1, l2, .int i3, l4, l5, l6, l7, l8] [] σ = ru d 185 126 [l0, l1, l2, .int i3, l4, l5, l6, l7, l8] [.int i3] σ := q_iload_n t185_125 rfl
theorem t185_126 : decode (mb 185) 126 = .ok (.ireturn, 1) := by decide +kernel
theorem s185_126 (d : Nat) (l0 : Value) (l1 : Value) (l2 : Value) (l3 : Value) (l4 : Value) (l5 : Value) (l6 : Value) (l7 : Value) (l8 : Value) (x : Int32) (σ : Hs) : ru d 185 126 [l0, l1, l2, l3, l4, l5, l6, l7, l8] [.int x] σ = some (some (.int x), σ) := q_ireti t185_126 mr185
theorem c185 (d : Nat) (x0 : Nat) (x1 : Int32) (x2 : Int32) (σ : Hs) : callD (d + 1) 185 [.ref x0, .int x1, .int x2] σ = ru d 185 0 [.ref x0, .int x1, .int x2, uu, uu, uu, uu, uu, uu] [] σ := callD_ru ml185 rfl rfl (Nat.le_of_ble_eq_true rfl)
-- 186: Model.spot(I)I
theorem t186_0 : decode (mb 186) 0 = .ok (.iload_n 1, 1) := by decide +kernel
theorem s186_0 (d : Nat) (l0 : Value) (i1 : Int32) (l2 : Value) (l3 : Value) (l4 : Value) (l5 : Value) (σ : Hs) : ru d 186 0 [l0, .int i1, l2, l3, l4, l5] [] σ = ru d 186 1 [l0, .int i1, l2, l3, l4, l5] [.int i1] σ := q_iload_n t186_0 rfl
theorem t186_1 : decode (mb 186) 1 = .ok (.invokestatic 284, 3) := by decide +kernel
theorem s186_1 (d : Nat) (l0 : Value) (l1 : Value) (l2 : Value) (l3 : Value) (l4 : Value) (l5 : Value) (v0 : Value) (σ : Hs) : ru d 186 1 [l0, l1, l2, l3, l4, l5] [v0] σ = kont (callD d 181 [v0] σ) d 186 4 [l0, l1, l2, l3, l4, l5] [] := q_invs t186_1 mo186 (by decide +kernel) K8_284 mj181 (Nat.le_of_ble_eq_true rfl) rfl rfl (Nat.le_of_ble_eq_true rfl)
theorem t186_4 : decode (mb 186) 4 = .ok (.ifCond .ne 10, 3) := by decide +kernel
theorem s186_4 (d : Nat) (l0 : Value) (l1 : Value) (l2 : Value) (l3 : Value) (l4 : Value) (l5 : Value) (x : Int32) (σ : Hs) : ru d 186 4 [l0, l1, l2, l3, l4, l5] [.int x] σ = if x = 0 then ru d 186 7 [l0, l1, l2, l3, l4, l5] [] σ else ru d 186 14 [l0, l1, l2, l3, l4, l5] [] σ := q_if_ne t186_4 (by decide +kernel)
theorem t186_7 : decode (mb 186) 7 = .ok (.aload_n 0, 1) := by decide +kernel
theorem s186_7 (d : Nat) (a0 : Nat) (l1 : Value) (l2 : Value) (l3 : Value) (l4 : Value) (l5 : Value) (σ : Hs) : ru d 186 7 [.ref a0, l1, l2, l3, l4, l5] [] σ = ru d 186 8 [.ref a0, l1, l2, l3, l4, l5] [.ref a0] σ := q_aload_n t186_7 rfl
theorem t186_8 : decode (mb 186) 8 = .ok (.ldc 104, 2) := by decide +kernel
theorem s186_8 (d : Nat) (l0 : Value) (l1 : Value) (l2 : Value) (l3 : Value) (l4 : Value) (l5 : Value) (w0 : Value) (σ : Hs) : ru d 186 8 [l0, l1, l2, l3, l4, l5] [w0] σ = ru d 186 10 [l0, l1, l2, l3, l4, l5] [.int (-1000001), w0] σ := q_ldc t186_8 mo186 C8_104
theorem t186_10 : decode (mb 186) 10 = .ok (.invokevirtual 105, 3) := by decide +kernel
theorem s186_10_o87 (d : Nat) (l0 : Value) (l1 : Value) (l2 : Value) (l3 : Value) (l4 : Value) (l5 : Value) (v1 : Value) (σ : Hs) : ru d 186 10 [l0, l1, l2, l3, l4, l5] [v1, .ref 87] σ = kont (callD d 111 [.ref 87, v1] σ) d 186 13 [l0, l1, l2, l3, l4, l5] [] := q_invv t186_10 mo186 K8_105 mj111 rfl rfl rfl rfl (Nat.le_of_ble_eq_true rfl)
theorem t186_13 : decode (mb 186) 13 = .ok (.ireturn, 1) := by decide +kernel
theorem s186_13 (d : Nat) (l0 : Value) (l1 : Value) (l2 : Value) (l3 : Value) (l4 : Value) (l5 : Value) (x : Int32) (σ : Hs) : ru d 186 13 [l0, l1, l2, l3, l4, l5] [.int x] σ = some (some (.int x), σ) := q_ireti t186_13 mr186
theorem t186_14 : decode (mb 186) 14 = .ok (.aload_n 0, 1) := by decide +kernel
theorem s186_14 (d : Nat) (a0 : Nat) (l1 : Value) (l2 : Value) (l3 : Value) (l4 : Value) (l5 : Value) (σ : Hs) : ru d 186 14 [.ref a0, l1, l2, l3, l4, l5] [] σ = ru d 186 15 [.ref a0, l1, l2, l3, l4, l5] [.ref a0] σ := q_aload_n t186_14 rfl
theorem t186_15 : decode (mb 186) 15 = .ok (.getfield 9, 3) := by decide +kernel
theorem s186_15_o87 (d : Nat) (l0 : Value) (l1 : Value) (l2 : Value) (l3 : Value) (l4 : Value) (l5 : Value) (σ : Hs) : ru d 186 15 [l0, l1, l2, l3, l4, l5] [.ref 87] σ = ru d 186 18 [l0, l1, l2, l3, l4, l5] [.ref 88] σ := q_getf t186_15 mo186 F8_9 rfl rfl
theorem t186_18 : decode (mb 186) 18 = .ok (.aload_n 0, 1) := by decide +kernel
theorem s186_18 (d : Nat) (a0 : Nat) (l1 : Value) (l2 : Value) (l3 : Value) (l4 : Value) (l5 : Value) (w0 : Value) (σ : Hs) : ru d 186 18 [.ref a0, l1, l2, l3, l4, l5] [w0] σ = ru d 186 19 [.ref a0, l1, l2, l3, l4, l5] [.ref a0, w0] σ := q_aload_n t186_18 rfl
theorem t186_19 : decode (mb 186) 19 = .ok (.getfield 16, 3) := by decide +kernel
theorem s186_19_o87 (d : Nat) (l0 : Value) (l1 : Value) (l2 : Value) (l3 : Value) (l4 : Value) (l5 : Value) (w0 : Value) (σ : Hs) : ru d 186 19 [l0, l1, l2, l3, l4, l5] [.ref 87, w0] σ = ru d 186 22 [l0, l1, l2, l3, l4, l5] [.ref 90, w0] σ := q_getf t186_19 mo186 F8_16 rfl rfl
theorem t186_22 : decode (mb 186) 22 = .ok (.invokestatic 77, 3) := by decide +kernel
theorem s186_22 (d : Nat) (l0 : Value) (l1 : Value) (l2 : Value) (l3 : Value) (l4 : Value) (l5 : Value) (v0 v1 : Value) (σ : Hs) : ru d 186 22 [l0, l1, l2, l3, l4, l5] [v1, v0] σ = kont (callD d 115 [v0, v1] σ) d 186 25 [l0, l1, l2, l3, l4, l5] [] := q_invs t186_22 mo186 (by decide +kernel) K8_77 mj115 (Nat.le_of_ble_eq_true rfl) rfl rfl (Nat.le_of_ble_eq_true rfl)
theorem t186_25 : decode (mb 186) 25 = .ok (.iconst (-1), 1) := by decide +kernel
theorem s186_25 (d : Nat) (l0 : Value) (l1 : Value) (l2 : Value) (l3 : Value) (l4 : Value) (l5 : Value) (σ : Hs) : ru d 186 25 [l0, l1, l2, l3, l4, l5] [] σ = ru d 186 26 [l0, l1, l2, l3, l4, l5] [.int (-1)] σ := q_iconst t186_25 (by decide +kernel)
theorem t186_26 : decode (mb 186) 26 = .ok (.istore_n 2, 1) := by decide +kernel
theorem s186_26 (d : Nat) (l0 : Value) (i1 : Int32) (l2 : Value) (l3 : Value) (l4 : Value) (l5 : Value) (x : Int32) (σ : Hs) : ru d 186 26 [l0, .int i1, l2, l3, l4, l5] [.int x] σ = ru d 186 27 [l0, .int i1, .int x, l3, l4, l5] [] σ := q_istore_n t186_26 ⟨Nat.le_of_ble_eq_true rfl, rfl⟩ rfl
theorem t186_27 : decode (mb 186) 27 = .ok (.iconst 0, 1) := by decide +kernel
theorem s186_27 (d : Nat) (l0 : Value) (l1 : Value) (l2 : Value) (l3 : Value) (l4 : Value) (l5 : Value) (σ : Hs) : ru d 186 27 [l0, l1, l2, l3, l4, l5] [] σ = ru d 186 28 [l0, l1, l2, l3, l4, l5] [.int 0] σ := q_iconst t186_27 (by decide +kernel)
theorem t186_28 : decode (mb 186) 28 = .ok (.istore_n 3, 1) := by decide +kernel
theorem s186_28 (d : Nat) (l0 : Value) (l1 : Value) (i2 : Int32) (l3 : Value) (l4 : Value) (l5 : Value) (x : Int32) (σ : Hs) : ru d 186 28 [l0, l1, .int i2, l3, l4, l5] [.int x] σ = ru d 186 29 [l0, l1, .int i2, .int x, l4, l5] [] σ := q_istore_n t186_28 ⟨Nat.le_of_ble_eq_true rfl, rfl⟩ rfl
theorem t186_29 : decode (mb 186) 29 = .ok (.iconst 0, 1) := by decide +kernel
theorem s186_29 (d : Nat) (l0 : Value) (l1 : Value) (l2 : Value) (l3 : Value) (l4 : Value) (l5 : Value) (σ : Hs) : ru d 186 29 [l0, l1, l2, l3, l4, l5] [] σ = ru d 186 30 [l0, l1, l2, l3, l4, l5] [.int 0] σ := q_iconst t186_29 (by decide +kernel)
theorem t186_30 : decode (mb 186) 30 = .ok (.istore 4, 2) := by decide +kernel
theorem s186_30 (d : Nat) (l0 : Value) (l1 : Value) (l2 : Value) (i3 : Int32) (l4 : Value) (l5 : Value) (x : Int32) (σ : Hs) : ru d 186 30 [l0, l1, l2, .int i3, l4, l5] [.int x] σ = ru d 186 32 [l0, l1, l2, .int i3, .int x, l5] [] σ := q_istore t186_30 ⟨Nat.le_of_ble_eq_true rfl, rfl⟩ rfl
theorem t186_32 : decode (mb 186) 32 = .ok (.iload 4, 2) := by decide +kernel
theorem s186_32 (d : Nat) (l0 : Value) (l1 : Value) (l2 : Value) (l3 : Value) (i4 : Int32) (l5 : Value) (σ : Hs) : ru d 186 32 [l0, l1, l2, l3, .int i4, l5] [] σ = ru d 186 34 [l0, l1, l2, l3, .int i4, l5] [.int i4] σ := q_iload t186_32 rfl
theorem t186_34 : decode (mb 186) 34 = .ok (.bipush 30, 2) := by decide +kernel
theorem s186_34 (d : Nat) (l0 : Value) (l1 : Value) (l2 : Value) (l3 : Value) (l4 : Value) (l5 : Value) (w0 : Value) (σ : Hs) : ru d 186 34 [l0, l1, l2, l3, l4, l5] [w0] σ = ru d 186 36 [l0, l1, l2, l3, l4, l5] [.int 30, w0] σ := q_bipush t186_34 (by decide +kernel)
theorem t186_36 : decode (mb 186) 36 = .ok (.if_icmp .ge 58, 3) := by decide +kernel
theorem s186_36 (d : Nat) (l0 : Value) (l1 : Value) (l2 : Value) (l3 : Value) (l4 : Value) (l5 : Value) (x y : Int32) (σ : Hs) : ru d 186 36 [l0, l1, l2, l3, l4, l5] [.int y, .int x] σ = if y ≤ x then ru d 186 94 [l0, l1, l2, l3, l4, l5] [] σ else ru d 186 39 [l0, l1, l2, l3, l4, l5] [] σ := q_ic_ge t186_36 (by decide +kernel)
theorem t186_39 : decode (mb 186) 39 = .ok (.aload_n 0, 1) := by decide +kernel
theorem s186_39 (d : Nat) (a0 : Nat) (l1 : Value) (l2 : Value) (l3 : Value) (l4 : Value) (l5 : Value) (σ : Hs) : ru d 186 39 [.ref a0, l1, l2, l3, l4, l5] [] σ = ru d 186 40 [.ref a0, l1, l2, l3, l4, l5] [.ref a0] σ := q_aload_n t186_39 rfl
theorem t186_40 : decode (mb 186) 40 = .ok (.iload 4, 2) := by decide +kernel
theorem s186_40 (d : Nat) (l0 : Value) (l1 : Value) (l2 : Value) (l3 : Value) (i4 : Int32) (l5 : Value) (w0 : Value) (σ : Hs) : ru d 186 40 [l0, l1, l2, l3, .int i4, l5] [w0] σ = ru d 186 42 [l0, l1, l2, l3, .int i4, l5] [.int i4, w0] σ := q_iload t186_40 rfl
theorem t186_42 : decode (mb 186) 42 = .ok (.invokevirtual 88, 3) := by decide +kernel
theorem s186_42_o87 (d : Nat) (l0 : Value) (l1 : Value) (l2 : Value) (l3 : Value) (l4 : Value) (l5 : Value) (v1 : Value) (σ : Hs) : ru d 186 42 [l0, l1, l2, l3, l4, l5] [v1, .ref 87] σ = kont (callD d 121 [.ref 87, v1] σ) d 186 45 [l0, l1, l2, l3, l4, l5] [] := q_invv t186_42 mo186 K8_88 mj121 rfl rfl rfl rfl (Nat.le_of_ble_eq_true rfl)
theorem t186_45 : decode (mb 186) 45 = .ok (.ifCond .eq 43, 3) := by decide +kernel
theorem s186_45 (d : Nat) (l0 : Value) (l1 : Value) (l2 : Value) (l3 : Value) (l4 : Value) (l5 : Value) (x : Int32) (σ : Hs) : ru d 186 45 [l0, l1, l2, l3, l4, l5] [.int x] σ = if x = 0 then ru d 186 88 [l0, l1, l2, l3, l4, l5] [] σ else ru d 186 48 [l0, l1, l2, l3, l4, l5] [] σ := q_if_eq t186_45 (by decide +kernel)
theorem t186_48 : decode (mb 186) 48 = .ok (.aload_n 0, 1) := by decide +kernel
theorem s186_48 (d : Nat) (a0 : Nat) (l1 : Value) (l2 : Value) (l3 : Value) (l4 : Value) (l5 : Value) (σ : Hs) : ru d 186 48 [.ref a0, l1, l2, l3, l4, l5] [] σ = ru d 186 49 [.ref a0, l1, l2, l3, l4, l5] [.ref a0] σ := q_aload_n t186_48 rfl
theorem t186_49 : decode (mb 186) 49 = .ok (.iload 4, 2) := by decide +kernel
theorem s186_49 (d : Nat) (l0 : Value) (l1 : Value) (l2 : Value) (l3 : Value) (i4 : Int32) (l5 : Value) (w0 : Value) (σ : Hs) : ru d 186 49 [l0, l1, l2, l3, .int i4, l5] [w0] σ = ru d 186 51 [l0, l1, l2, l3, .int i4, l5] [.int i4, w0] σ := q_iload t186_49 rfl
theorem t186_51 : decode (mb 186) 51 = .ok (.invokevirtual 150, 3) := by decide +kernel
theorem s186_51_o87 (d : Nat) (l0 : Value) (l1 : Value) (l2 : Value) (l3 : Value) (l4 : Value) (l5 : Value) (v1 : Value) (σ : Hs) : ru d 186 51 [l0, l1, l2, l3, l4, l5] [v1, .ref 87] σ = kont (callD d 138 [.ref 87, v1] σ) d 186 54 [l0, l1, l2, l3, l4, l5] [] := q_invv t186_51 mo186 K8_150 mj138 rfl rfl rfl rfl (Nat.le_of_ble_eq_true rfl)
theorem t186_54 : decode (mb 186) 54 = .ok (.aload_n 0, 1) := by decide +kernel
theorem s186_54 (d : Nat) (a0 : Nat) (l1 : Value) (l2 : Value) (l3 : Value) (l4 : Value) (l5 : Value) (σ : Hs) : ru d 186 54 [.ref a0, l1, l2, l3, l4, l5] [] σ = ru d 186 55 [.ref a0, l1, l2, l3, l4, l5] [.ref a0] σ := q_aload_n t186_54 rfl
theorem t186_55 : decode (mb 186) 55 = .ok (.iload_n 1, 1) := by decide +kernel
theorem s186_55 (d : Nat) (l0 : Value) (i1 : Int32) (l2 : Value) (l3 : Value) (l4 : Value) (l5 : Value) (w0 : Value) (σ : Hs) : ru d 186 55 [l0, .int i1, l2, l3, l4, l5] [w0] σ = ru d 186 56 [l0, .int i1, l2, l3, l4, l5] [.int i1, w0] σ := q_iload_n t186_55 rfl
theorem t186_56 : decode (mb 186) 56 = .ok (.invokevirtual 271, 3) := by decide +kernel
theorem s186_56_o87 (d : Nat) (l0 : Value) (l1 : Value) (l2 : Value) (l3 : Value) (l4 : Value) (l5 : Value) (v1 : Value) (σ : Hs) : ru d 186 56 [l0, l1, l2, l3, l4, l5] [v1, .ref 87] σ = kont (callD d 170 [.ref 87, v1] σ) d 186 59 [l0, l1, l2, l3, l4, l5] [] := q_invv t186_56 mo186 K8_271 mj170 rfl rfl rfl rfl (Nat.le_of_ble_eq_true rfl)
theorem t186_59 : decode (mb 186) 59 = .ok (.aload_n 0, 1) := by decide +kernel
theorem s186_59 (d : Nat) (a0 : Nat) (l1 : Value) (l2 : Value) (l3 : Value) (l4 : Value) (l5 : Value) (σ : Hs) : ru d 186 59 [.ref a0, l1, l2, l3, l4, l5] [] σ = ru d 186 60 [.ref a0, l1, l2, l3, l4, l5] [.ref a0] σ := q_aload_n t186_59 rfl
theorem t186_60 : decode (mb 186) 60 = .ok (.aload_n 0, 1) := by decide +kernel
theorem s186_60 (d : Nat) (a0 : Nat) (l1 : Value) (l2 : Value) (l3 : Value) (l4 : Value) (l5 : Value) (w0 : Value) (σ : Hs) : ru d 186 60 [.ref a0, l1, l2, l3, l4, l5] [w0] σ = ru d 186 61 [.ref a0, l1, l2, l3, l4, l5] [.ref a0, w0] σ := q_aload_n t186_60 rfl
theorem t186_61 : decode (mb 186) 61 = .ok (.getfield 9, 3) := by decide +kernel
theorem s186_61_o87 (d : Nat) (l0 : Value) (l1 : Value) (l2 : Value) (l3 : Value) (l4 : Value) (l5 : Value) (w0 : Value) (σ : Hs) : ru d 186 61 [l0, l1, l2, l3, l4, l5] [.ref 87, w0] σ = ru d 186 64 [l0, l1, l2, l3, l4, l5] [.ref 88, w0] σ := q_getf t186_61 mo186 F8_9 rfl rfl
theorem t186_64 : decode (mb 186) 64 = .ok (.bipush 11, 2) := by decide +kernel
theorem s186_64 (d : Nat) (l0 : Value) (l1 : Value) (l2 : Value) (l3 : Value) (l4 : Value) (l5 : Value) (w0 w1 : Value) (σ : Hs) : ru d 186 64 [l0, l1, l2, l3, l4, l5] [w0, w1] σ = ru d 186 66 [l0, l1, l2, l3, l4, l5] [.int 11, w0, w1] σ := q_bipush t186_64 (by decide +kernel)
theorem t186_66 : decode (mb 186) 66 = .ok (.iaload, 1) := by decide +kernel
theorem s186_66_o88 (d : Nat) (l0 : Value) (l1 : Value) (l2 : Value) (l3 : Value) (l4 : Value) (l5 : Value) (i : Int32) (w0 : Value) (σ : Hs) : ru d 186 66 [l0, l1, l2, l3, l4, l5] [.int i, .ref 88, w0] σ = gd (vp_in i 545) (ru d 186 67 [l0, l1, l2, l3, l4, l5] [.int (σ 88 i.toNatClampNeg), w0] σ) := q_iald t186_66 rfl (by decide +kernel) rfl
theorem t186_67 : decode (mb 186) 67 = .ok (.invokevirtual 287, 3) := by decide +kernel
theorem s186_67_o87 (d : Nat) (l0 : Value) (l1 : Value) (l2 : Value) (l3 : Value) (l4 : Value) (l5 : Value) (v1 : Value) (σ : Hs) : ru d 186 67 [l0, l1, l2, l3, l4, l5] [v1, .ref 87] σ = kont (callD d 117 [.ref 87, v1] σ) d 186 70 [l0, l1, l2, l3, l4, l5] [] := q_invv t186_67 mo186 K8_287 mj117 rfl rfl rfl rfl (Nat.le_of_ble_eq_true rfl)
theorem t186_70 : decode (mb 186) 70 = .ok (.istore 5, 2) := by decide +kernel
theorem s186_70 (d : Nat) (l0 : Value) (l1 : Value) (l2 : Value) (l3 : Value) (i4 : Int32) (l5 : Value) (x : Int32) (σ : Hs) : ru d 186 70 [l0, l1, l2, l3, .int i4, l5] [.int x] σ = ru d 186 72 [l0, l1, l2, l3, .int i4, .int x] [] σ := q_istore t186_70 ⟨Nat.le_of_ble_eq_true rfl, rfl⟩ rfl
theorem t186_72 : decode (mb 186) 72 = .ok (.iload_n 2, 1) := by decide +kernel
theorem s186_72 (d : Nat) (l0 : Value) (l1 : Value) (i2 : Int32) (l3 : Value) (l4 : Value) (l5 : Value) (σ : Hs) : ru d 186 72 [l0, l1, .int i2, l3, l4, l5] [] σ = ru d 186 73 [l0, l1, .int i2, l3, l4, l5] [.int i2] σ := q_iload_n t186_72 rfl
theorem t186_73 : decode (mb 186) 73 = .ok (.ifCond .lt 9, 3) := by decide +kernel
theorem s186_73 (d : Nat) (l0 : Value) (l1 : Value) (l2 : Value) (l3 : Value) (l4 : Value) (l5 : Value) (x : Int32) (σ : Hs) : ru d 186 73 [l0, l1, l2, l3, l4, l5] [.int x] σ = if x < 0 then ru d 186 82 [l0, l1, l2, l3, l4, l5] [] σ else ru d 186 76 [l0, l1, l2, l3, l4, l5] [] σ := q_if_lt t186_73 (by decide +kernel)
theorem t186_76 : decode (mb 186) 76 = .ok (.iload 5, 2) := by decide +kernel
theorem s186_76 (d : Nat) (l0 : Value) (l1 : Value) (l2 : Value) (l3 : Value) (l4 : Value) (i5 : Int32) (σ : Hs) : ru d 186 76 [l0, l1, l2, l3, l4, .int i5] [] σ = ru d 186 78 [l0, l1, l2, l3, l4, .int i5] [.int i5] σ := q_iload t186_76 rfl
theorem t186_78 : decode (mb 186) 78 = .ok (.iload_n 3, 1) := by decide +kernel
theorem s186_78 (d : Nat) (l0 : Value) (l1 : Value) (l2 : Value) (i3 : Int32) (l4 : Value) (l5 : Value) (w0 : Value) (σ : Hs) : ru d 186 78 [l0, l1, l2, .int i3, l4, l5] [w0] σ = ru d 186 79 [l0, l1, l2, .int i3, l4, l5] [.int i3, w0] σ := q_iload_n t186_78 rfl
theorem t186_79 : decode (mb 186) 79 = .ok (.if_icmp .le 9, 3) := by decide +kernel
theorem s186_79 (d : Nat) (l0 : Value) (l1 : Value) (l2 : Value) (l3 : Value) (l4 : Value) (l5 : Value) (x y : Int32) (σ : Hs) : ru d 186 79 [l0, l1, l2, l3, l4, l5] [.int y, .int x] σ = if x ≤ y then ru d 186 88 [l0, l1, l2, l3, l4, l5] [] σ else ru d 186 82 [l0, l1, l2, l3, l4, l5] [] σ := q_ic_le t186_79 (by decide +kernel)
theorem t186_82 : decode (mb 186) 82 = .ok (.iload 4, 2) := by decide +kernel
theorem s186_82 (d : Nat) (l0 : Value) (l1 : Value) (l2 : Value) (l3 : Value) (i4 : Int32) (l5 : Value) (σ : Hs) : ru d 186 82 [l0, l1, l2, l3, .int i4, l5] [] σ = ru d 186 84 [l0, l1, l2, l3, .int i4, l5] [.int i4] σ := q_iload t186_82 rfl
theorem t186_84 : decode (mb 186) 84 = .ok (.istore_n 2, 1) := by decide +kernel
theorem s186_84 (d : Nat) (l0 : Value) (i1 : Int32) (l2 : Value) (l3 : Value) (l4 : Value) (l5 : Value) (x : Int32) (σ : Hs) : ru d 186 84 [l0, .int i1, l2, l3, l4, l5] [.int x] σ = ru d 186 85 [l0, .int i1, .int x, l3, l4, l5] [] σ := q_istore_n t186_84 ⟨Nat.le_of_ble_eq_true rfl, rfl⟩ rfl
theorem t186_85 : decode (mb 186) 85 = .ok (.iload 5, 2) := by decide +kernel
theorem s186_85 (d : Nat) (l0 : Value) (l1 : Value) (l2 : Value) (l3 : Value) (l4 : Value) (i5 : Int32) (σ : Hs) : ru d 186 85 [l0, l1, l2, l3, l4, .int i5] [] σ = ru d 186 87 [l0, l1, l2, l3, l4, .int i5] [.int i5] σ := q_iload t186_85 rfl
theorem t186_87 : decode (mb 186) 87 = .ok (.istore_n 3, 1) := by decide +kernel
theorem s186_87 (d : Nat) (l0 : Value) (l1 : Value) (i2 : Int32) (l3 : Value) (l4 : Value) (l5 : Value) (x : Int32) (σ : Hs) : ru d 186 87 [l0, l1, .int i2, l3, l4, l5] [.int x] σ = ru d 186 88 [l0, l1, .int i2, .int x, l4, l5] [] σ := q_istore_n t186_87 ⟨Nat.le_of_ble_eq_true rfl, rfl⟩ rfl
theorem t186_88 : decode (mb 186) 88 = .ok (.iinc 4 1, 3) := by decide +kernel
theorem s186_88 (d : Nat) (l0 : Value) (l1 : Value) (l2 : Value) (i3 : Int32) (i4 : Int32) (l5 : Value) (σ : Hs) : ru d 186 88 [l0, l1, l2, .int i3, .int i4, l5] [] σ = ru d 186 91 [l0, l1, l2, .int i3, .int (i4 + 1), l5] [] σ := q_iinc t186_88 ⟨Nat.le_of_ble_eq_true rfl, rfl⟩ rfl (by decide +kernel) rfl
theorem t186_91 : decode (mb 186) 91 = .ok (.goto (-59), 3) := by decide +kernel
theorem s186_91 (d : Nat) (l0 : Value) (l1 : Value) (l2 : Value) (l3 : Value) (l4 : Value) (l5 : Value) (σ : Hs) : ru d 186 91 [l0, l1, l2, l3, l4, l5] [] σ = ru d 186 32 [l0, l1, l2, l3, l4, l5] [] σ := q_goto t186_91 (by decide +kernel)
theorem t186_94 : decode (mb 186) 94 = .ok (.iload_n 2, 1) := by decide +kernel
theorem s186_94 (d : Nat) (l0 : Value) (l1 : Value) (i2 : Int32) (l3 : Value) (l4 : Value) (l5 : Value) (σ : Hs) : ru d 186 94 [l0, l1, .int i2, l3, l4, l5] [] σ = ru d 186 95 [l0, l1, .int i2, l3, l4, l5] [.int i2] σ := q_iload_n t186_94 rfl
theorem t186_95 : decode (mb 186) 95 = .ok (.ifCond .ge 12, 3) := by decide +kernel
theorem s186_95 (d : Nat) (l0 : Value) (l1 : Value) (l2 : Value) (l3 : Value) (l4 : Value) (l5 : Value) (x : Int32) (σ : Hs) : ru d 186 95 [l0, l1, l2, l3, l4, l5] [.int x] σ = if 0 ≤ x then ru d 186 107 [l0, l1, l2, l3, l4, l5] [] σ else ru d 186 98 [l0, l1, l2, l3, l4, l5] [] σ := q_if_ge t186_95 (by decide +kernel)
theorem t186_98 : decode (mb 186) 98 = .ok (.aload_n 0, 1) := by decide +kernel
theorem s186_98 (d : Nat) (a0 : Nat) (l1 : Value) (l2 : Value) (l3 : Value) (l4 : Value) (l5 : Value) (σ : Hs) : ru d 186 98 [.ref a0, l1, l2, l3, l4, l5] [] σ = ru d 186 99 [.ref a0, l1, l2, l3, l4, l5] [.ref a0] σ := q_aload_n t186_98 rfl
theorem t186_99 : decode (mb 186) 99 = .ok (.ldc 116, 2) := by decide +kernel
theorem s186_99 (d : Nat) (l0 : Value) (l1 : Value) (l2 : Value) (l3 : Value) (l4 : Value) (l5 : Value) (w0 : Value) (σ : Hs) : ru d 186 99 [l0, l1, l2, l3, l4, l5] [w0] σ = ru d 186 101 [l0, l1, l2, l3, l4, l5] [.int (-1000002), w0] σ := q_ldc t186_99 mo186 C8_116
theorem t186_101 : decode (mb 186) 101 = .ok (.invokevirtual 105, 3) := by decide +kernel
theorem s186_101_o87 (d : Nat) (l0 : Value) (l1 : Value) (l2 : Value) (l3 : Value) (l4 : Value) (l5 : Value) (v1 : Value) (σ : Hs) : ru d 186 101 [l0, l1, l2, l3, l4, l5] [v1, .ref 87] σ = kont (callD d 111 [.ref 87, v1] σ) d 186 104 [l0, l1, l2, l3, l4, l5] [] := q_invv t186_101 mo186 K8_105 mj111 rfl rfl rfl rfl (Nat.le_of_ble_eq_true rfl)
theorem t186_104 : decode (mb 186) 104 = .ok (.goto 4, 3) := by decide +kernel
theorem s186_104 (d : Nat) (l0 : Value) (l1 : Value) (l2 : Value) (l3 : Value) (l4 : Value) (l5 : Value) (w0 : Value) (σ : Hs) : ru d 186 104 [l0, l1, l2, l3, l4, l5] [w0] σ = ru d 186 108 [l0, l1, l2, l3, l4, l5] [w0] σ := q_goto t186_104 (by decide +kernel)
theorem t186_107 : decode (mb 186) 107 = .ok (.iload_n 2, 1) := by decide +kernel
theorem s186_107 (d : Nat) (l0 : Value) (l1 : Value) (i2 : Int32) (l3 : Value) (l4 : Value) (l5 : Value) (σ : Hs) : ru d 186 107 [l0, l1, .int i2, l3, l4, l5] [] σ = ru d 186 108 [l0, l1, .int i2, l3, l4, l5] [.int i2] σ := q_iload_n t186_107 rfl
theorem t186_108 : decode (mb 186) 108 = .ok (.ireturn, 1) := by decide +kernel
theorem s186_108 (d : Nat) (l0 : Value) (l1 : Value) (l2 : Value) (l3 : Value) (l4 : Value) (l5 : Value) (x : Int32) (σ : Hs) : ru d 186 108 [l0, l1, l2, l3, l4, l5] [.int x] σ = some (some (.int x), σ) := q_ireti t186_108 mr186
theorem c186 (d : Nat) (x0 : Nat) (x1 : Int32) (σ : Hs) : callD (d + 1) 186 [.ref x0, .int x1] σ = ru d 186 0 [.ref x0, .int x1, uu, uu, uu, uu] [] σ := callD_ru ml186 rfl rfl (Nat.le_of_ble_eq_true rfl)
-- 187: Model.out(I)I
theorem t187_0 : decode (mb 187) 0 = .ok (.iload_n 1, 1) := by decide +kernel
theorem s187_0 (d : Nat) (l0 : Value) (i1 : Int32) (l2 : Value) (l3 : Value) (σ : Hs) : ru d 187 0 [l0, .int i1, l2, l3] [] σ = ru d 187 1 [l0, .int i1, l2, l3] [.int i1] σ := q_iload_n t187_0 rfl
theorem t187_1 : decode (mb 187) 1 = .ok (.invokestatic 284, 3) := by decide +kernel
theorem s187_1 (d : Nat) (l0 : Value) (l1 : Value) (l2 : Value) (l3 : Value) (v0 : Value) (σ : Hs) : ru d 187 1 [l0, l1, l2, l3] [v0] σ = kont (callD d 181 [v0] σ) d 187 4 [l0, l1, l2, l3] [] := q_invs t187_1 mo187 (by decide +kernel) K8_284 mj181 (Nat.le_of_ble_eq_true rfl) rfl rfl (Nat.le_of_ble_eq_true rfl)
theorem t187_4 : decode (mb 187) 4 = .ok (.ifCond .ne 10, 3) := by decide +kernel
theorem s187_4 (d : Nat) (l0 : Value) (l1 : Value) (l2 : Value) (l3 : Value) (x : Int32) (σ : Hs) : ru d 187 4 [l0, l1, l2, l3] [.int x] σ = if x = 0 then ru d 187 7 [l0, l1, l2, l3] [] σ else ru d 187 14 [l0, l1, l2, l3] [] σ := q_if_ne t187_4 (by decide +kernel)
theorem t187_7 : decode (mb 187) 7 = .ok (.aload_n 0, 1) := by decide +kernel
theorem s187_7 (d : Nat) (a0 : Nat) (l1 : Value) (l2 : Value) (l3 : Value) (σ : Hs) : ru d 187 7 [.ref a0, l1, l2, l3] [] σ = ru d 187 8 [.ref a0, l1, l2, l3] [.ref a0] σ := q_aload_n t187_7 rfl
theorem t187_8 : decode (mb 187) 8 = .ok (.ldc 104, 2) := by decide +kernel
theorem s187_8 (d : Nat) (l0 : Value) (l1 : Value) (l2 : Value) (l3 : Value) (w0 : Value) (σ : Hs) : ru d 187 8 [l0, l1, l2, l3] [w0] σ = ru d 187 10 [l0, l1, l2, l3] [.int (-1000001), w0] σ := q_ldc t187_8 mo187 C8_104
theorem t187_10 : decode (mb 187) 10 = .ok (.invokevirtual 105, 3) := by decide +kernel
theorem s187_10_o87 (d : Nat) (l0 : Value) (l1 : Value) (l2 : Value) (l3 : Value) (v1 : Value) (σ : Hs) : ru d 187 10 [l0, l1, l2, l3] [v1, .ref 87] σ = kont (callD d 111 [.ref 87, v1] σ) d 187 13 [l0, l1, l2, l3] [] := q_invv t187_10 mo187 K8_105 mj111 rfl rfl rfl rfl (Nat.le_of_ble_eq_true rfl)
theorem t187_13 : decode (mb 187) 13 = .ok (.ireturn, 1) := by decide +kernel
theorem s187_13 (d : Nat) (l0 : Value) (l1 : Value) (l2 : Value) (l3 : Value) (x : Int32) (σ : Hs) : ru d 187 13 [l0, l1, l2, l3] [.int x] σ = some (some (.int x), σ) := q_ireti t187_13 mr187
theorem t187_14 : decode (mb 187) 14 = .ok (.aload_n 0, 1) := by decide +kernel
theorem s187_14 (d : Nat) (a0 : Nat) (l1 : Value) (l2 : Value) (l3 : Value) (σ : Hs) : ru d 187 14 [.ref a0, l1, l2, l3] [] σ = ru d 187 15 [.ref a0, l1, l2, l3] [.ref a0] σ := q_aload_n t187_14 rfl
theorem t187_15 : decode (mb 187) 15 = .ok (.getfield 9, 3) := by decide +kernel
theorem s187_15_o87 (d : Nat) (l0 : Value) (l1 : Value) (l2 : Value) (l3 : Value) (σ : Hs) : ru d 187 15 [l0, l1, l2, l3] [.ref 87] σ = ru d 187 18 [l0, l1, l2, l3] [.ref 88] σ := q_getf t187_15 mo187 F8_9 rfl rfl
theorem t187_18 : decode (mb 187) 18 = .ok (.aload_n 0, 1) := by decide +kernel
theorem s187_18 (d : Nat) (a0 : Nat) (l1 : Value) (l2 : Value) (l3 : Value) (w0 : Value) (σ : Hs) : ru d 187 18 [.ref a0, l1, l2, l3] [w0] σ = ru d 187 19 [.ref a0, l1, l2, l3] [.ref a0, w0] σ := q_aload_n t187_18 rfl
theorem t187_19 : decode (mb 187) 19 = .ok (.getfield 16, 3) := by decide +kernel
theorem s187_19_o87 (d : Nat) (l0 : Value) (l1 : Value) (l2 : Value) (l3 : Value) (w0 : Value) (σ : Hs) : ru d 187 19 [l0, l1, l2, l3] [.ref 87, w0] σ = ru d 187 22 [l0, l1, l2, l3] [.ref 90, w0] σ := q_getf t187_19 mo187 F8_16 rfl rfl
theorem t187_22 : decode (mb 187) 22 = .ok (.invokestatic 77, 3) := by decide +kernel
theorem s187_22 (d : Nat) (l0 : Value) (l1 : Value) (l2 : Value) (l3 : Value) (v0 v1 : Value) (σ : Hs) : ru d 187 22 [l0, l1, l2, l3] [v1, v0] σ = kont (callD d 115 [v0, v1] σ) d 187 25 [l0, l1, l2, l3] [] := q_invs t187_22 mo187 (by decide +kernel) K8_77 mj115 (Nat.le_of_ble_eq_true rfl) rfl rfl (Nat.le_of_ble_eq_true rfl)
theorem t187_25 : decode (mb 187) 25 = .ok (.iconst 0, 1) := by decide +kernel
theorem s187_25 (d : Nat) (l0 : Value) (l1 : Value) (l2 : Value) (l3 : Value) (σ : Hs) : ru d 187 25 [l0, l1, l2, l3] [] σ = ru d 187 26 [l0, l1, l2, l3] [.int 0] σ := q_iconst t187_25 (by decide +kernel)
theorem t187_26 : decode (mb 187) 26 = .ok (.istore_n 2, 1) := by decide +kernel
theorem s187_26 (d : Nat) (l0 : Value) (i1 : Int32) (l2 : Value) (l3 : Value) (x : Int32) (σ : Hs) : ru d 187 26 [l0, .int i1, l2, l3] [.int x] σ = ru d 187 27 [l0, .int i1, .int x, l3] [] σ := q_istore_n t187_26 ⟨Nat.le_of_ble_eq_true rfl, rfl⟩ rfl
theorem t187_27 : decode (mb 187) 27 = .ok (.iload_n 2, 1) := by decide +kernel
theorem s187_27 (d : Nat) (l0 : Value) (l1 : Value) (i2 : Int32) (l3 : Value) (σ : Hs) : ru d 187 27 [l0, l1, .int i2, l3] [] σ = ru d 187 28 [l0, l1, .int i2, l3] [.int i2] σ := q_iload_n t187_27 rfl
theorem t187_28 : decode (mb 187) 28 = .ok (.sipush 950, 3) := by decide +kernel
theorem s187_28 (d : Nat) (l0 : Value) (l1 : Value) (l2 : Value) (l3 : Value) (w0 : Value) (σ : Hs) : ru d 187 28 [l0, l1, l2, l3] [w0] σ = ru d 187 31 [l0, l1, l2, l3] [.int 950, w0] σ := q_sipush t187_28 (by decide +kernel)
theorem t187_31 : decode (mb 187) 31 = .ok (.if_icmp .gt 67, 3) := by decide +kernel
theorem s187_31 (d : Nat) (l0 : Value) (l1 : Value) (l2 : Value) (l3 : Value) (x y : Int32) (σ : Hs) : ru d 187 31 [l0, l1, l2, l3] [.int y, .int x] σ = if y < x then ru d 187 98 [l0, l1, l2, l3] [] σ else ru d 187 34 [l0, l1, l2, l3] [] σ := q_ic_gt t187_31 (by decide +kernel)
theorem t187_34 : decode (mb 187) 34 = .ok (.iconst 0, 1) := by decide +kernel
theorem s187_34 (d : Nat) (l0 : Value) (l1 : Value) (l2 : Value) (l3 : Value) (σ : Hs) : ru d 187 34 [l0, l1, l2, l3] [] σ = ru d 187 35 [l0, l1, l2, l3] [.int 0] σ := q_iconst t187_34 (by decide +kernel)
theorem t187_35 : decode (mb 187) 35 = .ok (.istore_n 3, 1) := by decide +kernel
theorem s187_35 (d : Nat) (l0 : Value) (l1 : Value) (i2 : Int32) (l3 : Value) (x : Int32) (σ : Hs) : ru d 187 35 [l0, l1, .int i2, l3] [.int x] σ = ru d 187 36 [l0, l1, .int i2, .int x] [] σ := q_istore_n t187_35 ⟨Nat.le_of_ble_eq_true rfl, rfl⟩ rfl
theorem t187_36 : decode (mb 187) 36 = .ok (.iload_n 3, 1) := by decide +kernel
theorem s187_36 (d : Nat) (l0 : Value) (l1 : Value) (l2 : Value) (i3 : Int32) (σ : Hs) : ru d 187 36 [l0, l1, l2, .int i3] [] σ = ru d 187 37 [l0, l1, l2, .int i3] [.int i3] σ := q_iload_n t187_36 rfl
theorem t187_37 : decode (mb 187) 37 = .ok (.bipush 30, 2) := by decide +kernel
theorem s187_37 (d : Nat) (l0 : Value) (l1 : Value) (l2 : Value) (l3 : Value) (w0 : Value) (σ : Hs) : ru d 187 37 [l0, l1, l2, l3] [w0] σ = ru d 187 39 [l0, l1, l2, l3] [.int 30, w0] σ := q_bipush t187_37 (by decide +kernel)
theorem t187_39 : decode (mb 187) 39 = .ok (.if_icmp .ge 31, 3) := by decide +kernel
theorem s187_39 (d : Nat) (l0 : Value) (l1 : Value) (l2 : Value) (l3 : Value) (x y : Int32) (σ : Hs) : ru d 187 39 [l0, l1, l2, l3] [.int y, .int x] σ = if y ≤ x then ru d 187 70 [l0, l1, l2, l3] [] σ else ru d 187 42 [l0, l1, l2, l3] [] σ := q_ic_ge t187_39 (by decide +kernel)
theorem t187_42 : decode (mb 187) 42 = .ok (.aload_n 0, 1) := by decide +kernel
theorem s187_42 (d : Nat) (a0 : Nat) (l1 : Value) (l2 : Value) (l3 : Value) (σ : Hs) : ru d 187 42 [.ref a0, l1, l2, l3] [] σ = ru d 187 43 [.ref a0, l1, l2, l3] [.ref a0] σ := q_aload_n t187_42 rfl
theorem t187_43 : decode (mb 187) 43 = .ok (.iload_n 3, 1) := by decide +kernel
theorem s187_43 (d : Nat) (l0 : Value) (l1 : Value) (l2 : Value) (i3 : Int32) (w0 : Value) (σ : Hs) : ru d 187 43 [l0, l1, l2, .int i3] [w0] σ = ru d 187 44 [l0, l1, l2, .int i3] [.int i3, w0] σ := q_iload_n t187_43 rfl
theorem t187_44 : decode (mb 187) 44 = .ok (.invokevirtual 88, 3) := by decide +kernel
theorem s187_44_o87 (d : Nat) (l0 : Value) (l1 : Value) (l2 : Value) (l3 : Value) (v1 : Value) (σ : Hs) : ru d 187 44 [l0, l1, l2, l3] [v1, .ref 87] σ = kont (callD d 121 [.ref 87, v1] σ) d 187 47 [l0, l1, l2, l3] [] := q_invv t187_44 mo187 K8_88 mj121 rfl rfl rfl rfl (Nat.le_of_ble_eq_true rfl)
theorem t187_47 : decode (mb 187) 47 = .ok (.ifCond .eq 17, 3) := by decide +kernel
theorem s187_47 (d : Nat) (l0 : Value) (l1 : Value) (l2 : Value) (l3 : Value) (x : Int32) (σ : Hs) : ru d 187 47 [l0, l1, l2, l3] [.int x] σ = if x = 0 then ru d 187 64 [l0, l1, l2, l3] [] σ else ru d 187 50 [l0, l1, l2, l3] [] σ := q_if_eq t187_47 (by decide +kernel)
theorem t187_50 : decode (mb 187) 50 = .ok (.aload_n 0, 1) := by decide +kernel
theorem s187_50 (d : Nat) (a0 : Nat) (l1 : Value) (l2 : Value) (l3 : Value) (σ : Hs) : ru d 187 50 [.ref a0, l1, l2, l3] [] σ = ru d 187 51 [.ref a0, l1, l2, l3] [.ref a0] σ := q_aload_n t187_50 rfl
theorem t187_51 : decode (mb 187) 51 = .ok (.iload_n 3, 1) := by decide +kernel
theorem s187_51 (d : Nat) (l0 : Value) (l1 : Value) (l2 : Value) (i3 : Int32) (w0 : Value) (σ : Hs) : ru d 187 51 [l0, l1, l2, .int i3] [w0] σ = ru d 187 52 [l0, l1, l2, .int i3] [.int i3, w0] σ := q_iload_n t187_51 rfl
theorem t187_52 : decode (mb 187) 52 = .ok (.invokevirtual 142, 3) := by decide +kernel
theorem s187_52_o87 (d : Nat) (l0 : Value) (l1 : Value) (l2 : Value) (l3 : Value) (v1 : Value) (σ : Hs) : ru d 187 52 [l0, l1, l2, l3] [v1, .ref 87] σ = kont (callD d 122 [.ref 87, v1] σ) d 187 55 [l0, l1, l2, l3] [] := q_invv t187_52 mo187 K8_142 mj122 rfl rfl rfl rfl (Nat.le_of_ble_eq_true rfl)
theorem t187_55 : decode (mb 187) 55 = .ok (.ifCond .eq 9, 3) := by decide +kernel
theorem s187_55 (d : Nat) (l0 : Value) (l1 : Value) (l2 : Value) (l3 : Value) (x : Int32) (σ : Hs) : ru d 187 55 [l0, l1, l2, l3] [.int x] σ = if x = 0 then ru d 187 64 [l0, l1, l2, l3] [] σ else ru d 187 58 [l0, l1, l2, l3] [] σ := q_if_eq t187_55 (by decide +kernel)
theorem t187_58 : decode (mb 187) 58 = .ok (.aload_n 0, 1) := by decide +kernel
theorem s187_58 (d : Nat) (a0 : Nat) (l1 : Value) (l2 : Value) (l3 : Value) (σ : Hs) : ru d 187 58 [.ref a0, l1, l2, l3] [] σ = ru d 187 59 [.ref a0, l1, l2, l3] [.ref a0] σ := q_aload_n t187_58 rfl
theorem t187_59 : decode (mb 187) 59 = .ok (.iload_n 3, 1) := by decide +kernel
theorem s187_59 (d : Nat) (l0 : Value) (l1 : Value) (l2 : Value) (i3 : Int32) (w0 : Value) (σ : Hs) : ru d 187 59 [l0, l1, l2, .int i3] [w0] σ = ru d 187 60 [l0, l1, l2, .int i3] [.int i3, w0] σ := q_iload_n t187_59 rfl
theorem t187_60 : decode (mb 187) 60 = .ok (.iload_n 2, 1) := by decide +kernel
theorem s187_60 (d : Nat) (l0 : Value) (l1 : Value) (i2 : Int32) (l3 : Value) (w0 w1 : Value) (σ : Hs) : ru d 187 60 [l0, l1, .int i2, l3] [w0, w1] σ = ru d 187 61 [l0, l1, .int i2, l3] [.int i2, w0, w1] σ := q_iload_n t187_60 rfl
theorem t187_61 : decode (mb 187) 61 = .ok (.invokevirtual 153, 3) := by decide +kernel
theorem s187_61_o87 (d : Nat) (l0 : Value) (l1 : Value) (l2 : Value) (l3 : Value) (v1 v2 : Value) (σ : Hs) : ru d 187 61 [l0, l1, l2, l3] [v2, v1, .ref 87] σ = kont (callD d 140 [.ref 87, v1, v2] σ) d 187 64 [l0, l1, l2, l3] [] := q_invv t187_61 mo187 K8_153 mj140 rfl rfl rfl rfl (Nat.le_of_ble_eq_true rfl)
theorem t187_64 : decode (mb 187) 64 = .ok (.iinc 3 1, 3) := by decide +kernel
theorem s187_64 (d : Nat) (l0 : Value) (l1 : Value) (i2 : Int32) (i3 : Int32) (σ : Hs) : ru d 187 64 [l0, l1, .int i2, .int i3] [] σ = ru d 187 67 [l0, l1, .int i2, .int (i3 + 1)] [] σ := q_iinc t187_64 ⟨Nat.le_of_ble_eq_true rfl, rfl⟩ rfl (by decide +kernel) rfl
theorem t187_67 : decode (mb 187) 67 = .ok (.goto (-31), 3) := by decide +kernel
theorem s187_67 (d : Nat) (l0 : Value) (l1 : Value) (l2 : Value) (l3 : Value) (σ : Hs) : ru d 187 67 [l0, l1, l2, l3] [] σ = ru d 187 36 [l0, l1, l2, l3] [] σ := q_goto t187_67 (by decide +kernel)
theorem t187_70 : decode (mb 187) 70 = .ok (.aload_n 0, 1) := by decide +kernel
theorem s187_70 (d : Nat) (a0 : Nat) (l1 : Value) (l2 : Value) (l3 : Value) (σ : Hs) : ru d 187 70 [.ref a0, l1, l2, l3] [] σ = ru d 187 71 [.ref a0, l1, l2, l3] [.ref a0] σ := q_aload_n t187_70 rfl
theorem t187_71 : decode (mb 187) 71 = .ok (.iload_n 1, 1) := by decide +kernel
theorem s187_71 (d : Nat) (l0 : Value) (i1 : Int32) (l2 : Value) (l3 : Value) (w0 : Value) (σ : Hs) : ru d 187 71 [l0, .int i1, l2, l3] [w0] σ = ru d 187 72 [l0, .int i1, l2, l3] [.int i1, w0] σ := q_iload_n t187_71 rfl
theorem t187_72 : decode (mb 187) 72 = .ok (.invokevirtual 271, 3) := by decide +kernel
theorem s187_72_o87 (d : Nat) (l0 : Value) (l1 : Value) (l2 : Value) (l3 : Value) (v1 : Value) (σ : Hs) : ru d 187 72 [l0, l1, l2, l3] [v1, .ref 87] σ = kont (callD d 170 [.ref 87, v1] σ) d 187 75 [l0, l1, l2, l3] [] := q_invv t187_72 mo187 K8_271 mj170 rfl rfl rfl rfl (Nat.le_of_ble_eq_true rfl)
theorem t187_75 : decode (mb 187) 75 = .ok (.aload_n 0, 1) := by decide +kernel
theorem s187_75 (d : Nat) (a0 : Nat) (l1 : Value) (l2 : Value) (l3 : Value) (σ : Hs) : ru d 187 75 [.ref a0, l1, l2, l3] [] σ = ru d 187 76 [.ref a0, l1, l2, l3] [.ref a0] σ := q_aload_n t187_75 rfl
theorem t187_76 : decode (mb 187) 76 = .ok (.aload_n 0, 1) := by decide +kernel
theorem s187_76 (d : Nat) (a0 : Nat) (l1 : Value) (l2 : Value) (l3 : Value) (w0 : Value) (σ : Hs) : ru d 187 76 [.ref a0, l1, l2, l3] [w0] σ = ru d 187 77 [.ref a0, l1, l2, l3] [.ref a0, w0] σ := q_aload_n t187_76 rfl
theorem t187_77 : decode (mb 187) 77 = .ok (.bipush 6, 2) := by decide +kernel
theorem s187_77 (d : Nat) (l0 : Value) (l1 : Value) (l2 : Value) (l3 : Value) (w0 w1 : Value) (σ : Hs) : ru d 187 77 [l0, l1, l2, l3] [w0, w1] σ = ru d 187 79 [l0, l1, l2, l3] [.int 6, w0, w1] σ := q_bipush t187_77 (by decide +kernel)
theorem t187_79 : decode (mb 187) 79 = .ok (.invokevirtual 221, 3) := by decide +kernel
theorem s187_79_o87 (d : Nat) (l0 : Value) (l1 : Value) (l2 : Value) (l3 : Value) (v1 : Value) (w0 : Nat) (σ : Hs) : ru d 187 79 [l0, l1, l2, l3] [v1, .ref 87, .ref w0] σ = kont (callD d 159 [.ref 87, v1] σ) d 187 82 [l0, l1, l2, l3] [.ref w0] := q_invv t187_79 mo187 K8_221 mj159 rfl rfl rfl rfl (Nat.le_of_ble_eq_true rfl)
theorem t187_82 : decode (mb 187) 82 = .ok (.invokevirtual 287, 3) := by decide +kernel
theorem s187_82_o87 (d : Nat) (l0 : Value) (l1 : Value) (l2 : Value) (l3 : Value) (v1 : Value) (σ : Hs) : ru d 187 82 [l0, l1, l2, l3] [v1, .ref 87] σ = kont (callD d 117 [.ref 87, v1] σ) d 187 85 [l0, l1, l2, l3] [] := q_invv t187_82 mo187 K8_287 mj117 rfl rfl rfl rfl (Nat.le_of_ble_eq_true rfl)
theorem t187_85 : decode (mb 187) 85 = .ok (.istore_n 3, 1) := by decide +kernel
theorem s187_85 (d : Nat) (l0 : Value) (l1 : Value) (i2 : Int32) (l3 : Value) (x : Int32) (σ : Hs) : ru d 187 85 [l0, l1, .int i2, l3] [.int x] σ = ru d 187 86 [l0, l1, .int i2, .int x] [] σ := q_istore_n t187_85 ⟨Nat.le_of_ble_eq_true rfl, rfl⟩ rfl
theorem t187_86 : decode (mb 187) 86 = .ok (.iload_n 3, 1) := by decide +kernel
theorem s187_86 (d : Nat) (l0 : Value) (l1 : Value) (l2 : Value) (i3 : Int32) (σ : Hs) : ru d 187 86 [l0, l1, l2, .int i3] [] σ = ru d 187 87 [l0, l1, l2, .int i3] [.int i3] σ := q_iload_n t187_86 rfl
theorem t187_87 : decode (mb 187) 87 = .ok (.ifCond .ne 5, 3) := by decide +kernel
theorem s187_87 (d : Nat) (l0 : Value) (l1 : Value) (l2 : Value) (l3 : Value) (x : Int32) (σ : Hs) : ru d 187 87 [l0, l1, l2, l3] [.int x] σ = if x = 0 then ru d 187 90 [l0, l1, l2, l3] [] σ else ru d 187 92 [l0, l1, l2, l3] [] σ := q_if_ne t187_87 (by decide +kernel)
theorem t187_90 : decode (mb 187) 90 = .ok (.iload_n 2, 1) := by decide +kernel
theorem s187_90 (d : Nat) (l0 : Value) (l1 : Value) (i2 : Int32) (l3 : Value) (σ : Hs) : ru d 187 90 [l0, l1, .int i2, l3] [] σ = ru d 187 91 [l0, l1, .int i2, l3] [.int i2] σ := q_iload_n t187_90 rfl
theorem t187_91 : decode (mb 187) 91 = .ok (.ireturn, 1) := by decide +kernel
theorem s187_91 (d : Nat) (l0 : Value) (l1 : Value) (l2 : Value) (l3 : Value) (x : Int32) (σ : Hs) : ru d 187 91 [l0, l1, l2, l3] [.int x] σ = some (some (.int x), σ) := q_ireti t187_91 mr187
theorem t187_92 : decode (mb 187) 92 = .ok (.iinc 2 50, 3) := by decide +kernel
theorem s187_92 (d : Nat) (l0 : Value) (i1 : Int32) (i2 : Int32) (l3 : Value) (σ : Hs) : ru d 187 92 [l0, .int i1, .int i2, l3] [] σ = ru d 187 95 [l0, .int i1, .int (i2 + 50), l3] [] σ := q_iinc t187_92 ⟨Nat.le_of_ble_eq_true rfl, rfl⟩ rfl (by decide +kernel) rfl
theorem t187_95 : decode (mb 187) 95 = .ok (.goto (-68), 3) := by decide +kernel
theorem s187_95 (d : Nat) (l0 : Value) (l1 : Value) (l2 : Value) (l3 : Value) (σ : Hs) : ru d 187 95 [l0, l1, l2, l3] [] σ = ru d 187 27 [l0, l1, l2, l3] [] σ := q_goto t187_95 (by decide +kernel)
theorem t187_98 : decode (mb 187) 98 = .ok (.aload_n 0, 1) := by decide +kernel
theorem s187_98 (d : Nat) (a0 : Nat) (l1 : Value) (l2 : Value) (l3 : Value) (σ : Hs) : ru d 187 98 [.ref a0, l1, l2, l3] [] σ = ru d 187 99 [.ref a0, l1, l2, l3] [.ref a0] σ := q_aload_n t187_98 rfl
theorem t187_99 : decode (mb 187) 99 = .ok (.ldc 116, 2) := by decide +kernel
theorem s187_99 (d : Nat) (l0 : Value) (l1 : Value) (l2 : Value) (l3 : Value) (w0 : Value) (σ : Hs) : ru d 187 99 [l0, l1, l2, l3] [w0] σ = ru d 187 101 [l0, l1, l2, l3] [.int (-1000002), w0] σ := q_ldc t187_99 mo187 C8_116
theorem t187_101 : decode (mb 187) 101 = .ok (.invokevirtual 105, 3) := by decide +kernel
theorem s187_101_o87 (d : Nat) (l0 : Value) (l1 : Value) (l2 : Value) (l3 : Value) (v1 : Value) (σ : Hs) : ru d 187 101 [l0, l1, l2, l3] [v1, .ref 87] σ = kont (callD d 111 [.ref 87, v1] σ) d 187 104 [l0, l1, l2, l3] [] := q_invv t187_101 mo187 K8_105 mj111 rfl rfl rfl rfl (Nat.le_of_ble_eq_true rfl)
theorem t187_104 : decode (mb 187) 104 = .ok (.ireturn, 1) := by decide +kernel
theorem s187_104 (d : Nat) (l0 : Value) (l1 : Value) (l2 : Value) (l3 : Value) (x : Int32) (σ : Hs) : ru d 187 104 [l0, l1, l2, l3] [.int x] σ = some (some (.int x), σ) := q_ireti t187_104 mr187
theorem c187 (d : Nat) (x0 : Nat) (x1 : Int32) (σ : Hs) : callD (d + 1) 187 [.ref x0, .int x1] σ = ru d 187 0 [.ref x0, .int x1, uu, uu] [] σ := callD_ru ml187 rfl rfl (Nat.le_of_ble_eq_true rfl)
-- 188: Model.catches(II)I
theorem t188_0 : decode (mb 188) 0 = .ok (.iload_n 1, 1) := by decide +kernel
theorem s188_0 (d : Nat) (l0 : Value) (i1 : Int32) (l2 : Value) (l3 : Value) (l4 : Value) (σ : Hs) : ru d 188 0 [l0, .int i1, l2, l3, l4] [] σ = ru d 188 1 [l0, .int i1, l2, l3, l4] [.int i1] σ := q_iload_n t188_0 rfl
theorem t188_1 : decode (mb 188) 1 = .ok (.invokestatic 113, 3) := by decide +kernel
theorem s188_1 (d : Nat) (l0 : Value) (l1 : Value) (l2 : Value) (l3 : Value) (l4 : Value) (v0 : Value) (σ : Hs) : ru d 188 1 [l0, l1, l2, l3, l4] [v0] σ = kont (callD d 120 [v0] σ) d 188 4 [l0, l1, l2, l3, l4] [] := q_invs t188_1 mo188 (by decide +kernel) K8_113 mj120 (Nat.le_of_ble_eq_true rfl) rfl rfl (Nat.le_of_ble_eq_true rfl)
theorem t188_4 : decode (mb 188) 4 = .ok (.ifCond .eq 10, 3) := by decide +kernel
theorem s188_4 (d : Nat) (l0 : Value) (l1 : Value) (l2 : Value) (l3 : Value) (l4 : Value) (x : Int32) (σ : Hs) : ru d 188 4 [l0, l1, l2, l3, l4] [.int x] σ = if x = 0 then ru d 188 14 [l0, l1, l2, l3, l4] [] σ else ru d 188 7 [l0, l1, l2, l3, l4] [] σ := q_if_eq t188_4 (by decide +kernel)
theorem t188_7 : decode (mb 188) 7 = .ok (.iload_n 2, 1) := by decide +kernel
theorem s188_7 (d : Nat) (l0 : Value) (l1 : Value) (i2 : Int32) (l3 : Value) (l4 : Value) (σ : Hs) : ru d 188 7 [l0, l1, .int i2, l3, l4] [] σ = ru d 188 8 [l0, l1, .int i2, l3, l4] [.int i2] σ := q_iload_n t188_7 rfl
theorem t188_8 : decode (mb 188) 8 = .ok (.invokestatic 284, 3) := by decide +kernel
theorem s188_8 (d : Nat) (l0 : Value) (l1 : Value) (l2 : Value) (l3 : Value) (l4 : Value) (v0 : Value) (σ : Hs) : ru d 188 8 [l0, l1, l2, l3, l4] [v0] σ = kont (callD d 181 [v0] σ) d 188 11 [l0, l1, l2, l3, l4] [] := q_invs t188_8 mo188 (by decide +kernel) K8_284 mj181 (Nat.le_of_ble_eq_true rfl) rfl rfl (Nat.le_of_ble_eq_true rfl)
theorem t188_11 : decode (mb 188) 11 = .ok (.ifCond .ne 10, 3) := by decide +kernel
theorem s188_11 (d : Nat) (l0 : Value) (l1 : Value) (l2 : Value) (l3 : Value) (l4 : Value) (x : Int32) (σ : Hs) : ru d 188 11 [l0, l1, l2, l3, l4] [.int x] σ = if x = 0 then ru d 188 14 [l0, l1, l2, l3, l4] [] σ else ru d 188 21 [l0, l1, l2, l3, l4] [] σ := q_if_ne t188_11 (by decide +kernel)
theorem t188_14 : decode (mb 188) 14 = .ok (.aload_n 0, 1) := by decide +kernel
theorem s188_14 (d : Nat) (a0 : Nat) (l1 : Value) (l2 : Value) (l3 : Value) (l4 : Value) (σ : Hs) : ru d 188 14 [.ref a0, l1, l2, l3, l4] [] σ = ru d 188 15 [.ref a0, l1, l2, l3, l4] [.ref a0] σ := q_aload_n t188_14 rfl
theorem t188_15 : decode (mb 188) 15 = .ok (.ldc 104, 2) := by decide +kernel
theorem s188_15 (d : Nat) (l0 : Value) (l1 : Value) (l2 : Value) (l3 : Value) (l4 : Value) (w0 : Value) (σ : Hs) : ru d 188 15 [l0, l1, l2, l3, l4] [w0] σ = ru d 188 17 [l0, l1, l2, l3, l4] [.int (-1000001), w0] σ := q_ldc t188_15 mo188 C8_104
theorem t188_17 : decode (mb 188) 17 = .ok (.invokevirtual 105, 3) := by decide +kernel
theorem s188_17_o87 (d : Nat) (l0 : Value) (l1 : Value) (l2 : Value) (l3 : Value) (l4 : Value) (v1 : Value) (σ : Hs) : ru d 188 17 [l0, l1, l2, l3, l4] [v1, .ref 87] σ = kont (callD d 111 [.ref 87, v1] σ) d 188 20 [l0, l1, l2, l3, l4] [] := q_invv t188_17 mo188 K8_105 mj111 rfl rfl rfl rfl (Nat.le_of_ble_eq_true rfl)
theorem t188_20 : decode (mb 188) 20 = .ok (.ireturn, 1) := by decide +kernel
theorem s188_20 (d : Nat) (l0 : Value) (l1 : Value) (l2 : Value) (l3 : Value) (l4 : Value) (x : Int32) (σ : Hs) : ru d 188 20 [l0, l1, l2, l3, l4] [.int x] σ = some (some (.int x), σ) := q_ireti t188_20 mr188
theorem t188_21 : decode (mb 188) 21 = .ok (.aload_n 0, 1) := by decide +kernel
theorem s188_21 (d : Nat) (a0 : Nat) (l1 : Value) (l2 : Value) (l3 : Value) (l4 : Value) (σ : Hs) : ru d 188 21 [.ref a0, l1, l2, l3, l4] [] σ = ru d 188 22 [.ref a0, l1, l2, l3, l4] [.ref a0] σ := q_aload_n t188_21 rfl
theorem t188_22 : decode (mb 188) 22 = .ok (.getfield 9, 3) := by decide +kernel
theorem s188_22_o87 (d : Nat) (l0 : Value) (l1 : Value) (l2 : Value) (l3 : Value) (l4 : Value) (σ : Hs) : ru d 188 22 [l0, l1, l2, l3, l4] [.ref 87] σ = ru d 188 25 [l0, l1, l2, l3, l4] [.ref 88] σ := q_getf t188_22 mo188 F8_9 rfl rfl
theorem t188_25 : decode (mb 188) 25 = .ok (.aload_n 0, 1) := by decide +kernel
theorem s188_25 (d : Nat) (a0 : Nat) (l1 : Value) (l2 : Value) (l3 : Value) (l4 : Value) (w0 : Value) (σ : Hs) : ru d 188 25 [.ref a0, l1, l2, l3, l4] [w0] σ = ru d 188 26 [.ref a0, l1, l2, l3, l4] [.ref a0, w0] σ := q_aload_n t188_25 rfl
theorem t188_26 : decode (mb 188) 26 = .ok (.getfield 16, 3) := by decide +kernel
theorem s188_26_o87 (d : Nat) (l0 : Value) (l1 : Value) (l2 : Value) (l3 : Value) (l4 : Value) (w0 : Value) (σ : Hs) : ru d 188 26 [l0, l1, l2, l3, l4] [.ref 87, w0] σ = ru d 188 29 [l0, l1, l2, l3, l4] [.ref 90, w0] σ := q_getf t188_26 mo188 F8_16 rfl rfl
theorem t188_29 : decode (mb 188) 29 = .ok (.invokestatic 77, 3) := by decide +kernel
theorem s188_29 (d : Nat) (l0 : Value) (l1 : Value) (l2 : Value) (l3 : Value) (l4 : Value) (v0 v1 : Value) (σ : Hs) : ru d 188 29 [l0, l1, l2, l3, l4] [v1, v0] σ = kont (callD d 115 [v0, v1] σ) d 188 32 [l0, l1, l2, l3, l4] [] := q_invs t188_29 mo188 (by decide +kernel) K8_77 mj115 (Nat.le_of_ble_eq_true rfl) rfl rfl (Nat.le_of_ble_eq_true rfl)
theorem t188_32 : decode (mb 188) 32 = .ok (.iconst 0, 1) := by decide +kernel
theorem s188_32 (d : Nat) (l0 : Value) (l1 : Value) (l2 : Value) (l3 : Value) (l4 : Value) (σ : Hs) : ru d 188 32 [l0, l1, l2, l3, l4] [] σ = ru d 188 33 [l0, l1, l2, l3, l4] [.int 0] σ := q_iconst t188_32 (by decide +kernel)
theorem t188_33 : decode (mb 188) 33 = .ok (.istore_n 3, 1) := by decide +kernel
theorem s188_33 (d : Nat) (l0 : Value) (l1 : Value) (i2 : Int32) (l3 : Value) (l4 : Value) (x : Int32) (σ : Hs) : ru d 188 33 [l0, l1, .int i2, l3, l4] [.int x] σ = ru d 188 34 [l0, l1, .int i2, .int x, l4] [] σ := q_istore_n t188_33 ⟨Nat.le_of_ble_eq_true rfl, rfl⟩ rfl
theorem t188_34 : decode (mb 188) 34 = .ok (.iload_n 3, 1) := by decide +kernel
theorem s188_34 (d : Nat) (l0 : Value) (l1 : Value) (l2 : Value) (i3 : Int32) (l4 : Value) (σ : Hs) : ru d 188 34 [l0, l1, l2, .int i3, l4] [] σ = ru d 188 35 [l0, l1, l2, .int i3, l4] [.int i3] σ := q_iload_n t188_34 rfl
theorem t188_35 : decode (mb 188) 35 = .ok (.iload_n 2, 1) := by decide +kernel
theorem s188_35 (d : Nat) (l0 : Value) (l1 : Value) (i2 : Int32) (l3 : Value) (l4 : Value) (w0 : Value) (σ : Hs) : ru d 188 35 [l0, l1, .int i2, l3, l4] [w0] σ = ru d 188 36 [l0, l1, .int i2, l3, l4] [.int i2, w0] σ := q_iload_n t188_35 rfl
theorem t188_36 : decode (mb 188) 36 = .ok (.if_icmp .ge 29, 3) := by decide +kernel
theorem s188_36 (d : Nat) (l0 : Value) (l1 : Value) (l2 : Value) (l3 : Value) (l4 : Value) (x y : Int32) (σ : Hs) : ru d 188 36 [l0, l1, l2, l3, l4] [.int y, .int x] σ = if y ≤ x then ru d 188 65 [l0, l1, l2, l3, l4] [] σ else ru d 188 39 [l0, l1, l2, l3, l4] [] σ := q_ic_ge t188_36 (by decide +kernel)
theorem t188_39 : decode (mb 188) 39 = .ok (.aload_n 0, 1) := by decide +kernel
theorem s188_39 (d : Nat) (a0 : Nat) (l1 : Value) (l2 : Value) (l3 : Value) (l4 : Value) (σ : Hs) : ru d 188 39 [.ref a0, l1, l2, l3, l4] [] σ = ru d 188 40 [.ref a0, l1, l2, l3, l4] [.ref a0] σ := q_aload_n t188_39 rfl
theorem t188_40 : decode (mb 188) 40 = .ok (.iload_n 1, 1) := by decide +kernel
theorem s188_40 (d : Nat) (l0 : Value) (i1 : Int32) (l2 : Value) (l3 : Value) (l4 : Value) (w0 : Value) (σ : Hs) : ru d 188 40 [l0, .int i1, l2, l3, l4] [w0] σ = ru d 188 41 [l0, .int i1, l2, l3, l4] [.int i1, w0] σ := q_iload_n t188_40 rfl
theorem t188_41 : decode (mb 188) 41 = .ok (.invokevirtual 88, 3) := by decide +kernel
theorem s188_41_o87 (d : Nat) (l0 : Value) (l1 : Value) (l2 : Value) (l3 : Value) (l4 : Value) (v1 : Value) (σ : Hs) : ru d 188 41 [l0, l1, l2, l3, l4] [v1, .ref 87] σ = kont (callD d 121 [.ref 87, v1] σ) d 188 44 [l0, l1, l2, l3, l4] [] := q_invv t188_41 mo188 K8_88 mj121 rfl rfl rfl rfl (Nat.le_of_ble_eq_true rfl)
theorem t188_44 : decode (mb 188) 44 = .ok (.ifCond .eq 11, 3) := by decide +kernel
theorem s188_44 (d : Nat) (l0 : Value) (l1 : Value) (l2 : Value) (l3 : Value) (l4 : Value) (x : Int32) (σ : Hs) : ru d 188 44 [l0, l1, l2, l3, l4] [.int x] σ = if x = 0 then ru d 188 55 [l0, l1, l2, l3, l4] [] σ else ru d 188 47 [l0, l1, l2, l3, l4] [] σ := q_if_eq t188_44 (by decide +kernel)
theorem t188_47 : decode (mb 188) 47 = .ok (.aload_n 0, 1) := by decide +kernel
theorem s188_47 (d : Nat) (a0 : Nat) (l1 : Value) (l2 : Value) (l3 : Value) (l4 : Value) (σ : Hs) : ru d 188 47 [.ref a0, l1, l2, l3, l4] [] σ = ru d 188 48 [.ref a0, l1, l2, l3, l4] [.ref a0] σ := q_aload_n t188_47 rfl
theorem t188_48 : decode (mb 188) 48 = .ok (.iload_n 1, 1) := by decide +kernel
theorem s188_48 (d : Nat) (l0 : Value) (i1 : Int32) (l2 : Value) (l3 : Value) (l4 : Value) (w0 : Value) (σ : Hs) : ru d 188 48 [l0, .int i1, l2, l3, l4] [w0] σ = ru d 188 49 [l0, .int i1, l2, l3, l4] [.int i1, w0] σ := q_iload_n t188_48 rfl
theorem t188_49 : decode (mb 188) 49 = .ok (.invokevirtual 142, 3) := by decide +kernel
theorem s188_49_o87 (d : Nat) (l0 : Value) (l1 : Value) (l2 : Value) (l3 : Value) (l4 : Value) (v1 : Value) (σ : Hs) : ru d 188 49 [l0, l1, l2, l3, l4] [v1, .ref 87] σ = kont (callD d 122 [.ref 87, v1] σ) d 188 52 [l0, l1, l2, l3, l4] [] := q_invv t188_49 mo188 K8_142 mj122 rfl rfl rfl rfl (Nat.le_of_ble_eq_true rfl)
theorem t188_52 : decode (mb 188) 52 = .ok (.ifCond .ne 13, 3) := by decide +kernel
theorem s188_52 (d : Nat) (l0 : Value) (l1 : Value) (l2 : Value) (l3 : Value) (l4 : Value) (x : Int32) (σ : Hs) : ru d 188 52 [l0, l1, l2, l3, l4] [.int x] σ = if x = 0 then ru d 188 55 [l0, l1, l2, l3, l4] [] σ else ru d 188 65 [l0, l1, l2, l3, l4] [] σ := q_if_ne t188_52 (by decide +kernel)
theorem t188_55 : decode (mb 188) 55 = .ok (.aload_n 0, 1) := by decide +kernel
theorem s188_55 (d : Nat) (a0 : Nat) (l1 : Value) (l2 : Value) (l3 : Value) (l4 : Value) (σ : Hs) : ru d 188 55 [.ref a0, l1, l2, l3, l4] [] σ = ru d 188 56 [.ref a0, l1, l2, l3, l4] [.ref a0] σ := q_aload_n t188_55 rfl
theorem t188_56 : decode (mb 188) 56 = .ok (.invokevirtual 264, 3) := by decide +kernel
theorem s188_56_o87 (d : Nat) (l0 : Value) (l1 : Value) (l2 : Value) (l3 : Value) (l4 : Value) (σ : Hs) : ru d 188 56 [l0, l1, l2, l3, l4] [.ref 87] σ = kont (callD d 169 [.ref 87] σ) d 188 59 [l0, l1, l2, l3, l4] [] := q_invv t188_56 mo188 K8_264 mj169 rfl rfl rfl rfl (Nat.le_of_ble_eq_true rfl)
theorem t188_59 : decode (mb 188) 59 = .ok (.iinc 3 1, 3) := by decide +kernel
theorem s188_59 (d : Nat) (l0 : Value) (l1 : Value) (i2 : Int32) (i3 : Int32) (l4 : Value) (σ : Hs) : ru d 188 59 [l0, l1, .int i2, .int i3, l4] [] σ = ru d 188 62 [l0, l1, .int i2, .int (i3 + 1), l4] [] σ := q_iinc t188_59 ⟨Nat.le_of_ble_eq_true rfl, rfl⟩ rfl (by decide +kernel) rfl
theorem t188_62 : decode (mb 188) 62 = .ok (.goto (-28), 3) := by decide +kernel
theorem s188_62 (d : Nat) (l0 : Value) (l1 : Value) (l2 : Value) (l3 : Value) (l4 : Value) (σ : Hs) : ru d 188 62 [l0, l1, l2, l3, l4] [] σ = ru d 188 34 [l0, l1, l2, l3, l4] [] σ := q_goto t188_62 (by decide +kernel)
theorem t188_65 : decode (mb 188) 65 = .ok (.aload_n 0, 1) := by decide +kernel
theorem s188_65 (d : Nat) (a0 : Nat) (l1 : Value) (l2 : Value) (l3 : Value) (l4 : Value) (σ : Hs) : ru d 188 65 [.ref a0, l1, l2, l3, l4] [] σ = ru d 188 66 [.ref a0, l1, l2, l3, l4] [.ref a0] σ := q_aload_n t188_65 rfl
theorem t188_66 : decode (mb 188) 66 = .ok (.iload_n 1, 1) := by decide +kernel
theorem s188_66 (d : Nat) (l0 : Value) (i1 : Int32) (l2 : Value) (l3 : Value) (l4 : Value) (w0 : Value) (σ : Hs) : ru d 188 66 [l0, .int i1, l2, l3, l4] [w0] σ = ru d 188 67 [l0, .int i1, l2, l3, l4] [.int i1, w0] σ := q_iload_n t188_66 rfl
theorem t188_67 : decode (mb 188) 67 = .ok (.invokevirtual 88, 3) := by decide +kernel
theorem s188_67_o87 (d : Nat) (l0 : Value) (l1 : Value) (l2 : Value) (l3 : Value) (l4 : Value) (v1 : Value) (σ : Hs) : ru d 188 67 [l0, l1, l2, l3, l4] [v1, .ref 87] σ = kont (callD d 121 [.ref 87, v1] σ) d 188 70 [l0, l1, l2, l3, l4] [] := q_invv t188_67 mo188 K8_88 mj121 rfl rfl rfl rfl (Nat.le_of_ble_eq_true rfl)
theorem t188_70 : decode (mb 188) 70 = .ok (.ifCond .eq 15, 3) := by decide +kernel
theorem s188_70 (d : Nat) (l0 : Value) (l1 : Value) (l2 : Value) (l3 : Value) (l4 : Value) (x : Int32) (σ : Hs) : ru d 188 70 [l0, l1, l2, l3, l4] [.int x] σ = if x = 0 then ru d 188 85 [l0, l1, l2, l3, l4] [] σ else ru d 188 73 [l0, l1, l2, l3, l4] [] σ := q_if_eq t188_70 (by decide +kernel)
theorem t188_73 : decode (mb 188) 73 = .ok (.aload_n 0, 1) := by decide +kernel
theorem s188_73 (d : Nat) (a0 : Nat) (l1 : Value) (l2 : Value) (l3 : Value) (l4 : Value) (σ : Hs) : ru d 188 73 [.ref a0, l1, l2, l3, l4] [] σ = ru d 188 74 [.ref a0, l1, l2, l3, l4] [.ref a0] σ := q_aload_n t188_73 rfl
theorem t188_74 : decode (mb 188) 74 = .ok (.iload_n 1, 1) := by decide +kernel
theorem s188_74 (d : Nat) (l0 : Value) (i1 : Int32) (l2 : Value) (l3 : Value) (l4 : Value) (w0 : Value) (σ : Hs) : ru d 188 74 [l0, .int i1, l2, l3, l4] [w0] σ = ru d 188 75 [l0, .int i1, l2, l3, l4] [.int i1, w0] σ := q_iload_n t188_74 rfl
theorem t188_75 : decode (mb 188) 75 = .ok (.invokevirtual 142, 3) := by decide +kernel
theorem s188_75_o87 (d : Nat) (l0 : Value) (l1 : Value) (l2 : Value) (l3 : Value) (l4 : Value) (v1 : Value) (σ : Hs) : ru d 188 75 [l0, l1, l2, l3, l4] [v1, .ref 87] σ = kont (callD d 122 [.ref 87, v1] σ) d 188 78 [l0, l1, l2, l3, l4] [] := q_invv t188_75 mo188 K8_142 mj122 rfl rfl rfl rfl (Nat.le_of_ble_eq_true rfl)
theorem t188_78 : decode (mb 188) 78 = .ok (.ifCond .eq 7, 3) := by decide +kernel
theorem s188_78 (d : Nat) (l0 : Value) (l1 : Value) (l2 : Value) (l3 : Value) (l4 : Value) (x : Int32) (σ : Hs) : ru d 188 78 [l0, l1, l2, l3, l4] [.int x] σ = if x = 0 then ru d 188 85 [l0, l1, l2, l3, l4] [] σ else ru d 188 81 [l0, l1, l2, l3, l4] [] σ := q_if_eq t188_78 (by decide +kernel)
theorem t188_81 : decode (mb 188) 81 = .ok (.iconst 1, 1) := by decide +kernel
theorem s188_81 (d : Nat) (l0 : Value) (l1 : Value) (l2 : Value) (l3 : Value) (l4 : Value) (σ : Hs) : ru d 188 81 [l0, l1, l2, l3, l4] [] σ = ru d 188 82 [l0, l1, l2, l3, l4] [.int 1] σ := q_iconst t188_81 (by decide +kernel)
theorem t188_82 : decode (mb 188) 82 = .ok (.goto 4, 3) := by decide +kernel
theorem s188_82 (d : Nat) (l0 : Value) (l1 : Value) (l2 : Value) (l3 : Value) (l4 : Value) (w0 : Value) (σ : Hs) : ru d 188 82 [l0, l1, l2, l3, l4] [w0] σ = ru d 188 86 [l0, l1, l2, l3, l4] [w0] σ := q_goto t188_82 (by decide +kernel)
theorem t188_85 : decode (mb 188) 85 = .ok (.iconst 0, 1) := by decide +kernel
theorem s188_85 (d : Nat) (l0 : Value) (l1 : Value) (l2 : Value) (l3 : Value) (l4 : Value) (σ : Hs) : ru d 188 85 [l0, l1, l2, l3, l4] [] σ = ru d 188 86 [l0, l1, l2, l3, l4] [.int 0] σ := q_iconst t188_85 (by decide +kernel)
theorem t188_86 : decode (mb 188) 86 = .ok (.istore 4, 2) := by decide +kernel
theorem s188_86 (d : Nat) (l0 : Value) (l1 : Value) (l2 : Value) (i3 : Int32) (l4 : Value) (x : Int32) (σ : Hs) : ru d 188 86 [l0, l1, l2, .int i3, l4] [.int x] σ = ru d 188 88 [l0, l1, l2, .int i3, .int x] [] σ := q_istore t188_86 ⟨Nat.le_of_ble_eq_true rfl, rfl⟩ rfl
theorem t188_88 : decode (mb 188) 88 = .ok (.aload_n 0, 1) := by decide +kernel
theorem s188_88 (d : Nat) (a0 : Nat) (l1 : Value) (l2 : Value) (l3 : Value) (l4 : Value) (σ : Hs) : ru d 188 88 [.ref a0, l1, l2, l3, l4] [] σ = ru d 188 89 [.ref a0, l1, l2, l3, l4] [.ref a0] σ := q_aload_n t188_88 rfl
theorem t188_89 : decode (mb 188) 89 = .ok (.getfield 16, 3) := by decide +kernel
theorem s188_89_o87 (d : Nat) (l0 : Value) (l1 : Value) (l2 : Value) (l3 : Value) (l4 : Value) (σ : Hs) : ru d 188 89 [l0, l1, l2, l3, l4] [.ref 87] σ = ru d 188 92 [l0, l1, l2, l3, l4] [.ref 90] σ := q_getf t188_89 mo188 F8_16 rfl rfl
theorem t188_92 : decode (mb 188) 92 = .ok (.aload_n 0, 1) := by decide +kernel
theorem s188_92 (d : Nat) (a0 : Nat) (l1 : Value) (l2 : Value) (l3 : Value) (l4 : Value) (w0 : Value) (σ : Hs) : ru d 188 92 [.ref a0, l1, l2, l3, l4] [w0] σ = ru d 188 93 [.ref a0, l1, l2, l3, l4] [.ref a0, w0] σ := q_aload_n t188_92 rfl
theorem t188_93 : decode (mb 188) 93 = .ok (.getfield 9, 3) := by decide +kernel
theorem s188_93_o87 (d : Nat) (l0 : Value) (l1 : Value) (l2 : Value) (l3 : Value) (l4 : Value) (w0 : Value) (σ : Hs) : ru d 188 93 [l0, l1, l2, l3, l4] [.ref 87, w0] σ = ru d 188 96 [l0, l1, l2, l3, l4] [.ref 88, w0] σ := q_getf t188_93 mo188 F8_9 rfl rfl
theorem t188_96 : decode (mb 188) 96 = .ok (.invokestatic 77, 3) := by decide +kernel
theorem s188_96 (d : Nat) (l0 : Value) (l1 : Value) (l2 : Value) (l3 : Value) (l4 : Value) (v0 v1 : Value) (σ : Hs) : ru d 188 96 [l0, l1, l2, l3, l4] [v1, v0] σ = kont (callD d 115 [v0, v1] σ) d 188 99 [l0, l1, l2, l3, l4] [] := q_invs t188_96 mo188 (by decide +kernel) K8_77 mj115 (Nat.le_of_ble_eq_true rfl) rfl rfl (Nat.le_of_ble_eq_true rfl)
theorem t188_99 : decode (mb 188) 99 = .ok (.iload 4, 2) := by decide +kernel
theorem s188_99 (d : Nat) (l0 : Value) (l1 : Value) (l2 : Value) (l3 : Value) (i4 : Int32) (σ : Hs) : ru d 188 99 [l0, l1, l2, l3, .int i4] [] σ = ru d 188 101 [l0, l1, l2, l3, .int i4] [.int i4] σ := q_iload t188_99 rfl
theorem t188_101 : decode (mb 188) 101 = .ok (.ifCond .eq 7, 3) := by decide +kernel
theorem s188_101 (d : Nat) (l0 : Value) (l1 : Value) (l2 : Value) (l3 : Value) (l4 : Value) (x : Int32) (σ : Hs) : ru d 188 101 [l0, l1, l2, l3, l4] [.int x] σ = if x = 0 then ru d 188 108 [l0, l1, l2, l3, l4] [] σ else ru d 188 104 [l0, l1, l2, l3, l4] [] σ := q_if_eq t188_101 (by decide +kernel)
theorem t188_104 : decode (mb 188) 104 = .ok (.iload_n 3, 1) := by decide +kernel
theorem s188_104 (d : Nat) (l0 : Value) (l1 : Value) (l2 : Value) (i3 : Int32) (l4 : Value) (σ : Hs) : ru d 188 104 [l0, l1, l2, .int i3, l4] [] σ = ru d 188 105 [l0, l1, l2, .int i3, l4] [.int i3] σ := q_iload_n t188_104 rfl
theorem t188_105 : decode (mb 188) 105 = .ok (.goto 9, 3) := by decide +kernel
theorem s188_105 (d : Nat) (l0 : Value) (l1 : Value) (l2 : Value) (l3 : Value) (l4 : Value) (w0 : Value) (σ : Hs) : ru d 188 105 [l0, l1, l2, l3, l4] [w0] σ = ru d 188 114 [l0, l1, l2, l3, l4] [w0] σ := q_goto t188_105 (by decide +kernel)
theorem t188_108 : decode (mb 188) 108 = .ok (.aload_n 0, 1) := by decide +kernel
theorem s188_108 (d : Nat) (a0 : Nat) (l1 : Value) (l2 : Value) (l3 : Value) (l4 : Value) (σ : Hs) : ru d 188 108 [.ref a0, l1, l2, l3, l4] [] σ = ru d 188 109 [.ref a0, l1, l2, l3, l4] [.ref a0] σ := q_aload_n t188_108 rfl
theorem t188_109 : decode (mb 188) 109 = .ok (.ldc 116, 2) := by decide +kernel
theorem s188_109 (d : Nat) (l0 : Value) (l1 : Value) (l2 : Value) (l3 : Value) (l4 : Value) (w0 : Value) (σ : Hs) : ru d 188 109 [l0, l1, l2, l3, l4] [w0] σ = ru d 188 111 [l0, l1, l2, l3, l4] [.int (-1000002), w0] σ := q_ldc t188_109 mo188 C8_116
theorem t188_111 : decode (mb 188) 111 = .ok (.invokevirtual 105, 3) := by decide +kernel
theorem s188_111_o87 (d : Nat) (l0 : Value) (l1 : Value) (l2 : Value) (l3 : Value) (l4 : Value) (v1 : Value) (σ : Hs) : ru d 188 111 [l0, l1, l2, l3, l4] [v1, .ref 87] σ = kont (callD d 111 [.ref 87, v1] σ) d 188 114 [l0, l1, l2, l3, l4] [] := q_invv t188_111 mo188 K8_105 mj111 rfl rfl rfl rfl (Nat.le_of_ble_eq_true rfl)
theorem t188_114 : decode (mb 188) 114 = .ok (.ireturn, 1) := by decide +kernel
theorem s188_114 (d : Nat) (l0 : Value) (l1 : Value) (l2 : Value) (l3 : Value) (l4 : Value) (x : Int32) (σ : Hs) : ru d 188 114 [l0, l1, l2, l3, l4] [.int x] σ = some (some (.int x), σ) := q_ireti t188_114 mr188
theorem c188 (d : Nat) (x0 : Nat) (x1 : Int32) (x2 : Int32) (σ : Hs) : callD (d + 1) 188 [.ref x0, .int x1, .int x2] σ = ru d 188 0 [.ref x0, .int x1, .int x2, uu, uu] [] σ := callD_ru ml188 rfl rfl (Nat.le_of_ble_eq_true rfl)
-- 189: Model.reach(I)I
theorem t189_0 : decode (mb 189) 0 = .ok (.iload_n 1, 1) := by decide +kernel
theorem s189_0 (d : Nat) (l0 : Value) (i1 : Int32) (l2 : Value) (l3 : Value) (l4 : Value) (l5 : Value) (l6 : Value) (σ : Hs) : ru d 189 0 [l0, .int i1, l2, l3, l4, l5, l6] [] σ = ru d 189 1 [l0, .int i1, l2, l3, l4, l5, l6] [.int i1] σ := q_iload_n t189_0 rfl
theorem t189_1 : decode (mb 189) 1 = .ok (.invokestatic 113, 3) := by decide +kernel
theorem s189_1 (d : Nat) (l0 : Value) (l1 : Value) (l2 : Value) (l3 : Value) (l4 : Value) (l5 : Value) (l6 : Value) (v0 : Value) (σ : Hs) : ru d 189 1 [l0, l1, l2, l3, l4, l5, l6] [v0] σ = kont (callD d 120 [v0] σ) d 189 4 [l0, l1, l2, l3, l4, l5, l6] [] := q_invs t189_1 mo189 (by decide +kernel) K8_113 mj120 (Nat.le_of_ble_eq_true rfl) rfl rfl (Nat.le_of_ble_eq_true rfl)
theorem t189_4 : decode (mb 189) 4 = .ok (.ifCond .ne 10, 3) := by decide +kernel
theorem s189_4 (d : Nat) (l0 : Value) (l1 : Value) (l2 : Value) (l3 : Value) (l4 : Value) (l5 : Value) (l6 : Value) (x : Int32) (σ : Hs) : ru d 189 4 [l0, l1, l2, l3, l4, l5, l6] [.int x] σ = if x = 0 then ru d 189 7 [l0, l1, l2, l3, l4, l5, l6] [] σ else ru d 189 14 [l0, l1, l2, l3, l4, l5, l6] [] σ := q_if_ne t189_4 (by decide +kernel)
theorem t189_7 : decode (mb 189) 7 = .ok (.aload_n 0, 1) := by decide +kernel
theorem s189_7 (d : Nat) (a0 : Nat) (l1 : Value) (l2 : Value) (l3 : Value) (l4 : Value) (l5 : Value) (l6 : Value) (σ : Hs) : ru d 189 7 [.ref a0, l1, l2, l3, l4, l5, l6] [] σ = ru d 189 8 [.ref a0, l1, l2, l3, l4, l5, l6] [.ref a0] σ := q_aload_n t189_7 rfl
theorem t189_8 : decode (mb 189) 8 = .ok (.ldc 104, 2) := by decide +kernel
theorem s189_8 (d : Nat) (l0 : Value) (l1 : Value) (l2 : Value) (l3 : Value) (l4 : Value) (l5 : Value) (l6 : Value) (w0 : Value) (σ : Hs) : ru d 189 8 [l0, l1, l2, l3, l4, l5, l6] [w0] σ = ru d 189 10 [l0, l1, l2, l3, l4, l5, l6] [.int (-1000001), w0] σ := q_ldc t189_8 mo189 C8_104
theorem t189_10 : decode (mb 189) 10 = .ok (.invokevirtual 105, 3) := by decide +kernel
theorem s189_10_o87 (d : Nat) (l0 : Value) (l1 : Value) (l2 : Value) (l3 : Value) (l4 : Value) (l5 : Value) (l6 : Value) (v1 : Value) (σ : Hs) : ru d 189 10 [l0, l1, l2, l3, l4, l5, l6] [v1, .ref 87] σ = kont (callD d 111 [.ref 87, v1] σ) d 189 13 [l0, l1, l2, l3, l4, l5, l6] [] := q_invv t189_10 mo189 K8_105 mj111 rfl rfl rfl rfl (Nat.le_of_ble_eq_true rfl)
theorem t189_13 : decode (mb 189) 13 = .ok (.ireturn, 1) := by decide +kernel
theorem s189_13 (d : Nat) (l0 : Value) (l1 : Value) (l2 : Value) (l3 : Value) (l4 : Value) (l5 : Value) (l6 : Value) (x : Int32) (σ : Hs) : ru d 189 13 [l0, l1, l2, l3, l4, l5, l6] [.int x] σ = some (some (.int x), σ) := q_ireti t189_13 mr189
theorem t189_14 : decode (mb 189) 14 = .ok (.aload_n 0, 1) := by decide +kernel
theorem s189_14 (d : Nat) (a0 : Nat) (l1 : Value) (l2 : Value) (l3 : Value) (l4 : Value) (l5 : Value) (l6 : Value) (σ : Hs) : ru d 189 14 [.ref a0, l1, l2, l3, l4, l5, l6] [] σ = ru d 189 15 [.ref a0, l1, l2, l3, l4, l5, l6] [.ref a0] σ := q_aload_n t189_14 rfl
theorem t189_15 : decode (mb 189) 15 = .ok (.iload_n 1, 1) := by decide +kernel
theorem s189_15 (d : Nat) (l0 : Value) (i1 : Int32) (l2 : Value) (l3 : Value) (l4 : Value) (l5 : Value) (l6 : Value) (w0 : Value) (σ : Hs) : ru d 189 15 [l0, .int i1, l2, l3, l4, l5, l6] [w0] σ = ru d 189 16 [l0, .int i1, l2, l3, l4, l5, l6] [.int i1, w0] σ := q_iload_n t189_15 rfl
theorem t189_16 : decode (mb 189) 16 = .ok (.invokevirtual 88, 3) := by decide +kernel
theorem s189_16_o87 (d : Nat) (l0 : Value) (l1 : Value) (l2 : Value) (l3 : Value) (l4 : Value) (l5 : Value) (l6 : Value) (v1 : Value) (σ : Hs) : ru d 189 16 [l0, l1, l2, l3, l4, l5, l6] [v1, .ref 87] σ = kont (callD d 121 [.ref 87, v1] σ) d 189 19 [l0, l1, l2, l3, l4, l5, l6] [] := q_invv t189_16 mo189 K8_88 mj121 rfl rfl rfl rfl (Nat.le_of_ble_eq_true rfl)
theorem t189_19 : decode (mb 189) 19 = .ok (.ifCond .ne 10, 3) := by decide +kernel
theorem s189_19 (d : Nat) (l0 : Value) (l1 : Value) (l2 : Value) (l3 : Value) (l4 : Value) (l5 : Value) (l6 : Value) (x : Int32) (σ : Hs) : ru d 189 19 [l0, l1, l2, l3, l4, l5, l6] [.int x] σ = if x = 0 then ru d 189 22 [l0, l1, l2, l3, l4, l5, l6] [] σ else ru d 189 29 [l0, l1, l2, l3, l4, l5, l6] [] σ := q_if_ne t189_19 (by decide +kernel)
theorem t189_22 : decode (mb 189) 22 = .ok (.aload_n 0, 1) := by decide +kernel
theorem s189_22 (d : Nat) (a0 : Nat) (l1 : Value) (l2 : Value) (l3 : Value) (l4 : Value) (l5 : Value) (l6 : Value) (σ : Hs) : ru d 189 22 [.ref a0, l1, l2, l3, l4, l5, l6] [] σ = ru d 189 23 [.ref a0, l1, l2, l3, l4, l5, l6] [.ref a0] σ := q_aload_n t189_22 rfl
theorem t189_23 : decode (mb 189) 23 = .ok (.ldc 116, 2) := by decide +kernel
theorem s189_23 (d : Nat) (l0 : Value) (l1 : Value) (l2 : Value) (l3 : Value) (l4 : Value) (l5 : Value) (l6 : Value) (w0 : Value) (σ : Hs) : ru d 189 23 [l0, l1, l2, l3, l4, l5, l6] [w0] σ = ru d 189 25 [l0, l1, l2, l3, l4, l5, l6] [.int (-1000002), w0] σ := q_ldc t189_23 mo189 C8_116
theorem t189_25 : decode (mb 189) 25 = .ok (.invokevirtual 105, 3) := by decide +kernel
theorem s189_25_o87 (d : Nat) (l0 : Value) (l1 : Value) (l2 : Value) (l3 : Value) (l4 : Value) (l5 : Value) (l6 : Value) (v1 : Value) (σ : Hs) : ru d 189 25 [l0, l1, l2, l3, l4, l5, l6] [v1, .ref 87] σ = kont (callD d 111 [.ref 87, v1] σ) d 189 28 [l0, l1, l2, l3, l4, l5, l6] [] := q_invv t189_25 mo189 K8_105 mj111 rfl rfl rfl rfl (Nat.le_of_ble_eq_true rfl)
theorem t189_28 : decode (mb 189) 28 = .ok (.ireturn, 1) := by decide +kernel
theorem s189_28 (d : Nat) (l0 : Value) (l1 : Value) (l2 : Value) (l3 : Value) (l4 : Value) (l5 : Value) (l6 : Value) (x : Int32) (σ : Hs) : ru d 189 28 [l0, l1, l2, l3, l4, l5, l6] [.int x] σ = some (some (.int x), σ) := q_ireti t189_28 mr189
theorem t189_29 : decode (mb 189) 29 = .ok (.iconst 1, 1) := by decide +kernel
theorem s189_29 (d : Nat) (l0 : Value) (l1 : Value) (l2 : Value) (l3 : Value) (l4 : Value) (l5 : Value) (l6 : Value) (σ : Hs) : ru d 189 29 [l0, l1, l2, l3, l4, l5, l6] [] σ = ru d 189 30 [l0, l1, l2, l3, l4, l5, l6] [.int 1] σ := q_iconst t189_29 (by decide +kernel)
theorem t189_30 : decode (mb 189) 30 = .ok (.iload_n 1, 1) := by decide +kernel
theorem s189_30 (d : Nat) (l0 : Value) (i1 : Int32) (l2 : Value) (l3 : Value) (l4 : Value) (l5 : Value) (l6 : Value) (w0 : Value) (σ : Hs) : ru d 189 30 [l0, .int i1, l2, l3, l4, l5, l6] [w0] σ = ru d 189 31 [l0, .int i1, l2, l3, l4, l5, l6] [.int i1, w0] σ := q_iload_n t189_30 rfl
theorem t189_31 : decode (mb 189) 31 = .ok (.ishl, 1) := by decide +kernel
theorem s189_31 (d : Nat) (l0 : Value) (l1 : Value) (l2 : Value) (l3 : Value) (l4 : Value) (l5 : Value) (l6 : Value) (x y : Int32) (σ : Hs) : ru d 189 31 [l0, l1, l2, l3, l4, l5, l6] [.int y, .int x] σ = ru d 189 32 [l0, l1, l2, l3, l4, l5, l6] [.int (x <<< (y &&& 31))] σ := q_ishl t189_31
theorem t189_32 : decode (mb 189) 32 = .ok (.istore_n 2, 1) := by decide +kernel
theorem s189_32 (d : Nat) (l0 : Value) (i1 : Int32) (l2 : Value) (l3 : Value) (l4 : Value) (l5 : Value) (l6 : Value) (x : Int32) (σ : Hs) : ru d 189 32 [l0, .int i1, l2, l3, l4, l5, l6] [.int x] σ = ru d 189 33 [l0, .int i1, .int x, l3, l4, l5, l6] [] σ := q_istore_n t189_32 ⟨Nat.le_of_ble_eq_true rfl, rfl⟩ rfl
theorem t189_33 : decode (mb 189) 33 = .ok (.iconst 0, 1) := by decide +kernel
theorem s189_33 (d : Nat) (l0 : Value) (l1 : Value) (l2 : Value) (l3 : Value) (l4 : Value) (l5 : Value) (l6 : Value) (σ : Hs) : ru d 189 33 [l0, l1, l2, l3, l4, l5, l6] [] σ = ru d 189 34 [l0, l1, l2, l3, l4, l5, l6] [.int 0] σ := q_iconst t189_33 (by decide +kernel)
theorem t189_34 : decode (mb 189) 34 = .ok (.istore_n 3, 1) := by decide +kernel
theorem s189_34 (d : Nat) (l0 : Value) (l1 : Value) (i2 : Int32) (l3 : Value) (l4 : Value) (l5 : Value) (l6 : Value) (x : Int32) (σ : Hs) : ru d 189 34 [l0, l1, .int i2, l3, l4, l5, l6] [.int x] σ = ru d 189 35 [l0, l1, .int i2, .int x, l4, l5, l6] [] σ := q_istore_n t189_34 ⟨Nat.le_of_ble_eq_true rfl, rfl⟩ rfl
theorem t189_35 : decode (mb 189) 35 = .ok (.iload_n 2, 1) := by decide +kernel
theorem s189_35 (d : Nat) (l0 : Value) (l1 : Value) (i2 : Int32) (l3 : Value) (l4 : Value) (l5 : Value) (l6 : Value) (σ : Hs) : ru d 189 35 [l0, l1, .int i2, l3, l4, l5, l6] [] σ = ru d 189 36 [l0, l1, .int i2, l3, l4, l5, l6] [.int i2] σ := q_iload_n t189_35 rfl
theorem t189_36 : decode (mb 189) 36 = .ok (.iload_n 3, 1) := by decide +kernel
theorem s189_36 (d : Nat) (l0 : Value) (l1 : Value) (l2 : Value) (i3 : Int32) (l4 : Value) (l5 : Value) (l6 : Value) (w0 : Value) (σ : Hs) : ru d 189 36 [l0, l1, l2, .int i3, l4, l5, l6] [w0] σ = ru d 189 37 [l0, l1, l2, .int i3, l4, l5, l6] [.int i3, w0] σ := q_iload_n t189_36 rfl
theorem t189_37 : decode (mb 189) 37 = .ok (.if_icmp .eq 82, 3) := by decide +kernel
theorem s189_37 (d : Nat) (l0 : Value) (l1 : Value) (l2 : Value) (l3 : Value) (l4 : Value) (l5 : Value) (l6 : Value) (x y : Int32) (σ : Hs) : ru d 189 37 [l0, l1, l2, l3, l4, l5, l6] [.int y, .int x] σ = if x = y then ru d 189 119 [l0, l1, l2, l3, l4, l5, l6] [] σ else ru d 189 40 [l0, l1, l2, l3, l4, l5, l6] [] σ := q_ic_eq t189_37 (by decide +kernel)
theorem t189_40 : decode (mb 189) 40 = .ok (.iload_n 2, 1) := by decide +kernel
theorem s189_40 (d : Nat) (l0 : Value) (l1 : Value) (i2 : Int32) (l3 : Value) (l4 : Value) (l5 : Value) (l6 : Value) (σ : Hs) : ru d 189 40 [l0, l1, .int i2, l3, l4, l5, l6] [] σ = ru d 189 41 [l0, l1, .int i2, l3, l4, l5, l6] [.int i2] σ := q_iload_n t189_40 rfl
theorem t189_41 : decode (mb 189) 41 = .ok (.istore_n 3, 1) := by decide +kernel
theorem s189_41 (d : Nat) (l0 : Value) (l1 : Value) (i2 : Int32) (l3 : Value) (l4 : Value) (l5 : Value) (l6 : Value) (x : Int32) (σ : Hs) : ru d 189 41 [l0, l1, .int i2, l3, l4, l5, l6] [.int x] σ = ru d 189 42 [l0, l1, .int i2, .int x, l4, l5, l6] [] σ := q_istore_n t189_41 ⟨Nat.le_of_ble_eq_true rfl, rfl⟩ rfl
theorem t189_42 : decode (mb 189) 42 = .ok (.iconst 0, 1) := by decide +kernel
theorem s189_42 (d : Nat) (l0 : Value) (l1 : Value) (l2 : Value) (l3 : Value) (l4 : Value) (l5 : Value) (l6 : Value) (σ : Hs) : ru d 189 42 [l0, l1, l2, l3, l4, l5, l6] [] σ = ru d 189 43 [l0, l1, l2, l3, l4, l5, l6] [.int 0] σ := q_iconst t189_42 (by decide +kernel)
theorem t189_43 : decode (mb 189) 43 = .ok (.istore 4, 2) := by decide +kernel
theorem s189_43 (d : Nat) (l0 : Value) (l1 : Value) (l2 : Value) (i3 : Int32) (l4 : Value) (l5 : Value) (l6 : Value) (x : Int32) (σ : Hs) : ru d 189 43 [l0, l1, l2, .int i3, l4, l5, l6] [.int x] σ = ru d 189 45 [l0, l1, l2, .int i3, .int x, l5, l6] [] σ := q_istore t189_43 ⟨Nat.le_of_ble_eq_true rfl, rfl⟩ rfl
theorem t189_45 : decode (mb 189) 45 = .ok (.iload 4, 2) := by decide +kernel
theorem s189_45 (d : Nat) (l0 : Value) (l1 : Value) (l2 : Value) (l3 : Value) (i4 : Int32) (l5 : Value) (l6 : Value) (σ : Hs) : ru d 189 45 [l0, l1, l2, l3, .int i4, l5, l6] [] σ = ru d 189 47 [l0, l1, l2, l3, .int i4, l5, l6] [.int i4] σ := q_iload t189_45 rfl
theorem t189_47 : decode (mb 189) 47 = .ok (.bipush 30, 2) := by decide +kernel
theorem s189_47 (d : Nat) (l0 : Value) (l1 : Value) (l2 : Value) (l3 : Value) (l4 : Value) (l5 : Value) (l6 : Value) (w0 : Value) (σ : Hs) : ru d 189 47 [l0, l1, l2, l3, l4, l5, l6] [w0] σ = ru d 189 49 [l0, l1, l2, l3, l4, l5, l6] [.int 30, w0] σ := q_bipush t189_47 (by decide +kernel)
theorem t189_49 : decode (mb 189) 49 = .ok (.if_icmp .ge 67, 3) := by decide +kernel
theorem s189_49 (d : Nat) (l0 : Value) (l1 : Value) (l2 : Value) (l3 : Value) (l4 : Value) (l5 : Value) (l6 : Value) (x y : Int32) (σ : Hs) : ru d 189 49 [l0, l1, l2, l3, l4, l5, l6] [.int y, .int x] σ = if y ≤ x then ru d 189 116 [l0, l1, l2, l3, l4, l5, l6] [] σ else ru d 189 52 [l0, l1, l2, l3, l4, l5, l6] [] σ := q_ic_ge t189_49 (by decide +kernel)
theorem t189_52 : decode (mb 189) 52 = .ok (.iconst 0, 1) := by decide +kernel
theorem s189_52 (d : Nat) (l0 : Value) (l1 : Value) (l2 : Value) (l3 : Value) (l4 : Value) (l5 : Value) (l6 : Value) (σ : Hs) : ru d 189 52 [l0, l1, l2, l3, l4, l5, l6] [] σ = ru d 189 53 [l0, l1, l2, l3, l4, l5, l6] [.int 0] σ := q_iconst t189_52 (by decide +kernel)
theorem t189_53 : decode (mb 189) 53 = .ok (.istore 5, 2) := by decide +kernel
theorem s189_53 (d : Nat) (l0 : Value) (l1 : Value) (l2 : Value) (l3 : Value) (i4 : Int32) (l5 : Value) (l6 : Value) (x : Int32) (σ : Hs) : ru d 189 53 [l0, l1, l2, l3, .int i4, l5, l6] [.int x] σ = ru d 189 55 [l0, l1, l2, l3, .int i4, .int x, l6] [] σ := q_istore t189_53 ⟨Nat.le_of_ble_eq_true rfl, rfl⟩ rfl
theorem t189_55 : decode (mb 189) 55 = .ok (.iload 5, 2) := by decide +kernel
theorem s189_55 (d : Nat) (l0 : Value) (l1 : Value) (l2 : Value) (l3 : Value) (l4 : Value) (i5 : Int32) (l6 : Value) (σ : Hs) : ru d 189 55 [l0, l1, l2, l3, l4, .int i5, l6] [] σ = ru d 189 57 [l0, l1, l2, l3, l4, .int i5, l6] [.int i5] σ := q_iload t189_55 rfl
theorem t189_57 : decode (mb 189) 57 = .ok (.iconst 4, 1) := by decide +kernel
theorem s189_57 (d : Nat) (l0 : Value) (l1 : Value) (l2 : Value) (l3 : Value) (l4 : Value) (l5 : Value) (l6 : Value) (w0 : Value) (σ : Hs) : ru d 189 57 [l0, l1, l2, l3, l4, l5, l6] [w0] σ = ru d 189 58 [l0, l1, l2, l3, l4, l5, l6] [.int 4, w0] σ := q_iconst t189_57 (by decide +kernel)
theorem t189_58 : decode (mb 189) 58 = .ok (.if_icmp .ge 52, 3) := by decide +kernel
theorem s189_58 (d : Nat) (l0 : Value) (l1 : Value) (l2 : Value) (l3 : Value) (l4 : Value) (l5 : Value) (l6 : Value) (x y : Int32) (σ : Hs) : ru d 189 58 [l0, l1, l2, l3, l4, l5, l6] [.int y, .int x] σ = if y ≤ x then ru d 189 110 [l0, l1, l2, l3, l4, l5, l6] [] σ else ru d 189 61 [l0, l1, l2, l3, l4, l5, l6] [] σ := q_ic_ge t189_58 (by decide +kernel)
theorem t189_61 : decode (mb 189) 61 = .ok (.iload_n 3, 1) := by decide +kernel
theorem s189_61 (d : Nat) (l0 : Value) (l1 : Value) (l2 : Value) (i3 : Int32) (l4 : Value) (l5 : Value) (l6 : Value) (σ : Hs) : ru d 189 61 [l0, l1, l2, .int i3, l4, l5, l6] [] σ = ru d 189 62 [l0, l1, l2, .int i3, l4, l5, l6] [.int i3] σ := q_iload_n t189_61 rfl
theorem t189_62 : decode (mb 189) 62 = .ok (.iload 4, 2) := by decide +kernel
theorem s189_62 (d : Nat) (l0 : Value) (l1 : Value) (l2 : Value) (l3 : Value) (i4 : Int32) (l5 : Value) (l6 : Value) (w0 : Value) (σ : Hs) : ru d 189 62 [l0, l1, l2, l3, .int i4, l5, l6] [w0] σ = ru d 189 64 [l0, l1, l2, l3, .int i4, l5, l6] [.int i4, w0] σ := q_iload t189_62 rfl
theorem t189_64 : decode (mb 189) 64 = .ok (.invokestatic 249, 3) := by decide +kernel
theorem s189_64 (d : Nat) (l0 : Value) (l1 : Value) (l2 : Value) (l3 : Value) (l4 : Value) (l5 : Value) (l6 : Value) (v0 v1 : Value) (σ : Hs) : ru d 189 64 [l0, l1, l2, l3, l4, l5, l6] [v1, v0] σ = kont (callD d 113 [v0, v1] σ) d 189 67 [l0, l1, l2, l3, l4, l5, l6] [] := q_invs t189_64 mo189 (by decide +kernel) K8_249 mj113 (Nat.le_of_ble_eq_true rfl) rfl rfl (Nat.le_of_ble_eq_true rfl)
theorem t189_67 : decode (mb 189) 67 = .ok (.ifCond .eq 43, 3) := by decide +kernel
theorem s189_67 (d : Nat) (l0 : Value) (l1 : Value) (l2 : Value) (l3 : Value) (l4 : Value) (l5 : Value) (l6 : Value) (x : Int32) (σ : Hs) : ru d 189 67 [l0, l1, l2, l3, l4, l5, l6] [.int x] σ = if x = 0 then ru d 189 110 [l0, l1, l2, l3, l4, l5, l6] [] σ else ru d 189 70 [l0, l1, l2, l3, l4, l5, l6] [] σ := q_if_eq t189_67 (by decide +kernel)
theorem t189_70 : decode (mb 189) 70 = .ok (.iload 4, 2) := by decide +kernel
theorem s189_70 (d : Nat) (l0 : Value) (l1 : Value) (l2 : Value) (l3 : Value) (i4 : Int32) (l5 : Value) (l6 : Value) (σ : Hs) : ru d 189 70 [l0, l1, l2, l3, .int i4, l5, l6] [] σ = ru d 189 72 [l0, l1, l2, l3, .int i4, l5, l6] [.int i4] σ := q_iload t189_70 rfl
theorem t189_72 : decode (mb 189) 72 = .ok (.iload 5, 2) := by decide +kernel
theorem s189_72 (d : Nat) (l0 : Value) (l1 : Value) (l2 : Value) (l3 : Value) (l4 : Value) (i5 : Int32) (l6 : Value) (w0 : Value) (σ : Hs) : ru d 189 72 [l0, l1, l2, l3, l4, .int i5, l6] [w0] σ = ru d 189 74 [l0, l1, l2, l3, l4, .int i5, l6] [.int i5, w0] σ := q_iload t189_72 rfl
theorem t189_74 : decode (mb 189) 74 = .ok (.invokestatic 121, 3) := by decide +kernel
theorem s189_74 (d : Nat) (l0 : Value) (l1 : Value) (l2 : Value) (l3 : Value) (l4 : Value) (l5 : Value) (l6 : Value) (v0 v1 : Value) (σ : Hs) : ru d 189 74 [l0, l1, l2, l3, l4, l5, l6] [v1, v0] σ = kont (callD d 129 [v0, v1] σ) d 189 77 [l0, l1, l2, l3, l4, l5, l6] [] := q_invs t189_74 mo189 (by decide +kernel) K8_121 mj129 (Nat.le_of_ble_eq_true rfl) rfl rfl (Nat.le_of_ble_eq_true rfl)
theorem t189_77 : decode (mb 189) 77 = .ok (.istore 6, 2) := by decide +kernel
theorem s189_77 (d : Nat) (l0 : Value) (l1 : Value) (l2 : Value) (l3 : Value) (l4 : Value) (i5 : Int32) (l6 : Value) (x : Int32) (σ : Hs) : ru d 189 77 [l0, l1, l2, l3, l4, .int i5, l6] [.int x] σ = ru d 189 79 [l0, l1, l2, l3, l4, .int i5, .int x] [] σ := q_istore t189_77 ⟨Nat.le_of_ble_eq_true rfl, rfl⟩ rfl
theorem t189_79 : decode (mb 189) 79 = .ok (.iload_n 2, 1) := by decide +kernel
theorem s189_79 (d : Nat) (l0 : Value) (l1 : Value) (i2 : Int32) (l3 : Value) (l4 : Value) (l5 : Value) (l6 : Value) (σ : Hs) : ru d 189 79 [l0, l1, .int i2, l3, l4, l5, l6] [] σ = ru d 189 80 [l0, l1, .int i2, l3, l4, l5, l6] [.int i2] σ := q_iload_n t189_79 rfl
theorem t189_80 : decode (mb 189) 80 = .ok (.iload 6, 2) := by decide +kernel
theorem s189_80 (d : Nat) (l0 : Value) (l1 : Value) (l2 : Value) (l3 : Value) (l4 : Value) (l5 : Value) (i6 : Int32) (w0 : Value) (σ : Hs) : ru d 189 80 [l0, l1, l2, l3, l4, l5, .int i6] [w0] σ = ru d 189 82 [l0, l1, l2, l3, l4, l5, .int i6] [.int i6, w0] σ := q_iload t189_80 rfl
theorem t189_82 : decode (mb 189) 82 = .ok (.ifCond .lt 19, 3) := by decide +kernel
theorem s189_82 (d : Nat) (l0 : Value) (l1 : Value) (l2 : Value) (l3 : Value) (l4 : Value) (l5 : Value) (l6 : Value) (x : Int32) (w0 : Value) (σ : Hs) : ru d 189 82 [l0, l1, l2, l3, l4, l5, l6] [.int x, w0] σ = if x < 0 then ru d 189 101 [l0, l1, l2, l3, l4, l5, l6] [w0] σ else ru d 189 85 [l0, l1, l2, l3, l4, l5, l6] [w0] σ := q_if_lt t189_82 (by decide +kernel)
theorem t189_85 : decode (mb 189) 85 = .ok (.aload_n 0, 1) := by decide +kernel
theorem s189_85 (d : Nat) (a0 : Nat) (l1 : Value) (l2 : Value) (l3 : Value) (l4 : Value) (l5 : Value) (l6 : Value) (w0 : Value) (σ : Hs) : ru d 189 85 [.ref a0, l1, l2, l3, l4, l5, l6] [w0] σ = ru d 189 86 [.ref a0, l1, l2, l3, l4, l5, l6] [.ref a0, w0] σ := q_aload_n t189_85 rfl
theorem t189_86 : decode (mb 189) 86 = .ok (.iload 6, 2) := by decide +kernel
theorem s189_86 (d : Nat) (l0 : Value) (l1 : Value) (l2 : Value) (l3 : Value) (l4 : Value) (l5 : Value) (i6 : Int32) (w0 w1 : Value) (σ : Hs) : ru d 189 86 [l0, l1, l2, l3, l4, l5, .int i6] [w0, w1] σ = ru d 189 88 [l0, l1, l2, l3, l4, l5, .int i6] [.int i6, w0, w1] σ := q_iload t189_86 rfl
theorem t189_88 : decode (mb 189) 88 = .ok (.invokevirtual 88, 3) := by decide +kernel
theorem s189_88_o87 (d : Nat) (l0 : Value) (l1 : Value) (l2 : Value) (l3 : Value) (l4 : Value) (l5 : Value) (l6 : Value) (v1 : Value) (w0 : Int32) (σ : Hs) : ru d 189 88 [l0, l1, l2, l3, l4, l5, l6] [v1, .ref 87, .int w0] σ = kont (callD d 121 [.ref 87, v1] σ) d 189 91 [l0, l1, l2, l3, l4, l5, l6] [.int w0] := q_invv t189_88 mo189 K8_88 mj121 rfl rfl rfl rfl (Nat.le_of_ble_eq_true rfl)
theorem t189_91 : decode (mb 189) 91 = .ok (.ifCond .eq 10, 3) := by decide +kernel
theorem s189_91 (d : Nat) (l0 : Value) (l1 : Value) (l2 : Value) (l3 : Value) (l4 : Value) (l5 : Value) (l6 : Value) (x : Int32) (w0 : Value) (σ : Hs) : ru d 189 91 [l0, l1, l2, l3, l4, l5, l6] [.int x, w0] σ = if x = 0 then ru d 189 101 [l0, l1, l2, l3, l4, l5, l6] [w0] σ else ru d 189 94 [l0, l1, l2, l3, l4, l5, l6] [w0] σ := q_if_eq t189_91 (by decide +kernel)
theorem t189_94 : decode (mb 189) 94 = .ok (.iconst 1, 1) := by decide +kernel
theorem s189_94 (d : Nat) (l0 : Value) (l1 : Value) (l2 : Value) (l3 : Value) (l4 : Value) (l5 : Value) (l6 : Value) (w0 : Value) (σ : Hs) : ru d 189 94 [l0, l1, l2, l3, l4, l5, l6] [w0] σ = ru d 189 95 [l0, l1, l2, l3, l4, l5, l6] [.int 1, w0] σ := q_iconst t189_94 (by decide +kernel)
theorem t189_95 : decode (mb 189) 95 = .ok (.iload 6, 2) := by decide +kernel
theorem s189_95 (d : Nat) (l0 : Value) (l1 : Value) (l2 : Value) (l3 : Value) (l4 : Value) (l5 : Value) (i6 : Int32) (w0 w1 : Value) (σ : Hs) : ru d 189 95 [l0, l1, l2, l3, l4, l5, .int i6] [w0, w1] σ = ru d 189 97 [l0, l1, l2, l3, l4, l5, .int i6] [.int i6, w0, w1] σ := q_iload t189_95 rfl
theorem t189_97 : decode (mb 189) 97 = .ok (.ishl, 1) := by decide +kernel
theorem s189_97 (d : Nat) (l0 : Value) (l1 : Value) (l2 : Value) (l3 : Value) (l4 : Value) (l5 : Value) (l6 : Value) (x y : Int32) (w0 : Value) (σ : Hs) : ru d 189 97 [l0, l1, l2, l3, l4, l5, l6] [.int y, .int x, w0] σ = ru d 189 98 [l0, l1, l2, l3, l4, l5, l6] [.int (x <<< (y &&& 31)), w0] σ := q_ishl t189_97
theorem t189_98 : decode (mb 189) 98 = .ok (.goto 4, 3) := by decide +kernel
theorem s189_98 (d : Nat) (l0 : Value) (l1 : Value) (l2 : Value) (l3 : Value) (l4 : Value) (l5 : Value) (l6 : Value) (w0 w1 : Value) (σ : Hs) : ru d 189 98 [l0, l1, l2, l3, l4, l5, l6] [w0, w1] σ = ru d 189 102 [l0, l1, l2, l3, l4, l5, l6] [w0, w1] σ := q_goto t189_98 (by decide +kernel)
theorem t189_101 : decode (mb 189) 101 = .ok (.iconst 0, 1) := by decide +kernel
theorem s189_101 (d : Nat) (l0 : Value) (l1 : Value) (l2 : Value) (l3 : Value) (l4 : Value) (l5 : Value) (l6 : Value) (w0 : Value) (σ : Hs) : ru d 189 101 [l0, l1, l2, l3, l4, l5, l6] [w0] σ = ru d 189 102 [l0, l1, l2, l3, l4, l5, l6] [.int 0, w0] σ := q_iconst t189_101 (by decide +kernel)
theorem t189_102 : decode (mb 189) 102 = .ok (.ior, 1) := by decide +kernel
theorem s189_102 (d : Nat) (l0 : Value) (l1 : Value) (l2 : Value) (l3 : Value) (l4 : Value) (l5 : Value) (l6 : Value) (x y : Int32) (σ : Hs) : ru d 189 102 [l0, l1, l2, l3, l4, l5, l6] [.int y, .int x] σ = ru d 189 103 [l0, l1, l2, l3, l4, l5, l6] [.int (x ||| y)] σ := q_ior t189_102
theorem t189_103 : decode (mb 189) 103 = .ok (.istore_n 2, 1) := by decide +kernel
theorem s189_103 (d : Nat) (l0 : Value) (i1 : Int32) (l2 : Value) (l3 : Value) (l4 : Value) (l5 : Value) (l6 : Value) (x : Int32) (σ : Hs) : ru d 189 103 [l0, .int i1, l2, l3, l4, l5, l6] [.int x] σ = ru d 189 104 [l0, .int i1, .int x, l3, l4, l5, l6] [] σ := q_istore_n t189_103 ⟨Nat.le_of_ble_eq_true rfl, rfl⟩ rfl
theorem t189_104 : decode (mb 189) 104 = .ok (.iinc 5 1, 3) := by decide +kernel
theorem s189_104 (d : Nat) (l0 : Value) (l1 : Value) (l2 : Value) (l3 : Value) (i4 : Int32) (i5 : Int32) (l6 : Value) (σ : Hs) : ru d 189 104 [l0, l1, l2, l3, .int i4, .int i5, l6] [] σ = ru d 189 107 [l0, l1, l2, l3, .int i4, .int (i5 + 1), l6] [] σ := q_iinc t189_104 ⟨Nat.le_of_ble_eq_true rfl, rfl⟩ rfl (by decide +kernel) rfl
theorem t189_107 : decode (mb 189) 107 = .ok (.goto (-52), 3) := by decide +kernel
theorem s189_107 (d : Nat) (l0 : Value) (l1 : Value) (l2 : Value) (l3 : Value) (l4 : Value) (l5 : Value) (l6 : Value) (σ : Hs) : ru d 189 107 [l0, l1, l2, l3, l4, l5, l6] [] σ = ru d 189 55 [l0, l1, l2, l3, l4, l5, l6] [] σ := q_goto t189_107 (by decide +kernel)
theorem t189_110 : decode (mb 189) 110 = .ok (.iinc 4 1, 3) := by decide +kernel
theorem s189_110 (d : Nat) (l0 : Value) (l1 : Value) (l2 : Value) (i3 : Int32) (i4 : Int32) (l5 : Value) (l6 : Value) (σ : Hs) : ru d 189 110 [l0, l1, l2, .int i3, .int i4, l5, l6] [] σ = ru d 189 113 [l0, l1, l2, .int i3, .int (i4 + 1), l5, l6] [] σ := q_iinc t189_110 ⟨Nat.le_of_ble_eq_true rfl, rfl⟩ rfl (by decide +kernel) rfl
theorem t189_113 : decode (mb 189) 113 = .ok (.goto (-68), 3) := by decide +kernel
theorem s189_113 (d : Nat) (l0 : Value) (l1 : Value) (l2 : Value) (l3 : Value) (l4 : Value) (l5 : Value) (l6 : Value) (σ : Hs) : ru d 189 113 [l0, l1, l2, l3, l4, l5, l6] [] σ = ru d 189 45 [l0, l1, l2, l3, l4, l5, l6] [] σ := q_goto t189_113 (by decide +kernel)
theorem t189_116 : decode (mb 189) 116 = .ok (.goto (-81), 3) := by decide +kernel
theorem s189_116 (d : Nat) (l0 : Value) (l1 : Value) (l2 : Value) (l3 : Value) (l4 : Value) (l5 : Value) (l6 : Value) (σ : Hs) : ru d 189 116 [l0, l1, l2, l3, l4, l5, l6] [] σ = ru d 189 35 [l0, l1, l2, l3, l4, l5, l6] [] σ := q_goto t189_116 (by decide +kernel)
theorem t189_119 : decode (mb 189) 119 = .ok (.iload_n 2, 1) := by decide +kernel
theorem s189_119 (d : Nat) (l0 : Value) (l1 : Value) (i2 : Int32) (l3 : Value) (l4 : Value) (l5 : Value) (l6 : Value) (σ : Hs) : ru d 189 119 [l0, l1, .int i2, l3, l4, l5, l6] [] σ = ru d 189 120 [l0, l1, .int i2, l3, l4, l5, l6] [.int i2] σ := q_iload_n t189_119 rfl
theorem t189_120 : decode (mb 189) 120 = .ok (.invokestatic 294, 3) := by decide +kernel
theorem s189_120 (d : Nat) (l0 : Value) (l1 : Value) (l2 : Value) (l3 : Value) (l4 : Value) (l5 : Value) (l6 : Value) (v0 : Value) (σ : Hs) : ru d 189 120 [l0, l1, l2, l3, l4, l5, l6] [v0] σ = kont (callD d 190 [v0] σ) d 189 123 [l0, l1, l2, l3, l4, l5, l6] [] := q_invs t189_120 mo189 (by decide +kernel) K8_294 mj190 (Nat.le_of_ble_eq_true rfl) rfl rfl (Nat.le_of_ble_eq_true rfl)
theorem t189_123 : decode (mb 189) 123 = .ok (.ireturn, 1) := by decide +kernel
theorem s189_123 (d : Nat) (l0 : Value) (l1 : Value) (l2 : Value) (l3 : Value) (l4 : Value) (l5 : Value) (l6 : Value) (x : Int32) (σ : Hs) : ru d 189 123 [l0, l1, l2, l3, l4, l5, l6] [.int x] σ = some (some (.int x), σ) := q_ireti t189_123 mr189
theorem c189 (d : Nat) (x0 : Nat) (x1 : Int32) (σ : Hs) : callD (d + 1) 189 [.ref x0, .int x1] σ = ru d 189 0 [.ref x0, .int x1, uu, uu, uu, uu, uu] [] σ := callD_ru ml189 rfl rfl (Nat.le_of_ble_eq_true rfl)
-- 190: Model.bits(I)I
theorem t190_0 : decode (mb 190) 0 = .ok (.iconst 0, 1) := by decide +kernel
theorem s190_0 (d : Nat) (l0 : Value) (l1 : Value) (l2 : Value) (σ : Hs) : ru d 190 0 [l0, l1, l2] [] σ = ru d 190 1 [l0, l1, l2] [.int 0] σ := q_iconst t190_0 (by decide +kernel)
theorem t190_1 : decode (mb 190) 1 = .ok (.istore_n 1, 1) := by decide +kernel
theorem s190_1 (d : Nat) (i0 : Int32) (l1 : Value) (l2 : Value) (x : Int32) (σ : Hs) : ru d 190 1 [.int i0, l1, l2] [.int x] σ = ru d 190 2 [.int i0, .int x, l2] [] σ := q_istore_n t190_1 ⟨Nat.le_of_ble_eq_true rfl, rfl⟩ rfl
theorem t190_2 : decode (mb 190) 2 = .ok (.iload_n 0, 1) := by decide +kernel
theorem s190_2 (d : Nat) (i0 : Int32) (l1 : Value) (l2 : Value) (σ : Hs) : ru d 190 2 [.int i0, l1, l2] [] σ = ru d 190 3 [.int i0, l1, l2] [.int i0] σ := q_iload_n t190_2 rfl
theorem t190_3 : decode (mb 190) 3 = .ok (.istore_n 2, 1) := by decide +kernel
theorem s190_3 (d : Nat) (l0 : Value) (i1 : Int32) (l2 : Value) (x : Int32) (σ : Hs) : ru d 190 3 [l0, .int i1, l2] [.int x] σ = ru d 190 4 [l0, .int i1, .int x] [] σ := q_istore_n t190_3 ⟨Nat.le_of_ble_eq_true rfl, rfl⟩ rfl
theorem t190_4 : decode (mb 190) 4 = .ok (.iload_n 2, 1) := by decide +kernel
theorem s190_4 (d : Nat) (l0 : Value) (l1 : Value) (i2 : Int32) (σ : Hs) : ru d 190 4 [l0, l1, .int i2] [] σ = ru d 190 5 [l0, l1, .int i2] [.int i2] σ := q_iload_n t190_4 rfl
theorem t190_5 : decode (mb 190) 5 = .ok (.ifCond .eq 15, 3) := by decide +kernel
theorem s190_5 (d : Nat) (l0 : Value) (l1 : Value) (l2 : Value) (x : Int32) (σ : Hs) : ru d 190 5 [l0, l1, l2] [.int x] σ = if x = 0 then ru d 190 20 [l0, l1, l2] [] σ else ru d 190 8 [l0, l1, l2] [] σ := q_if_eq t190_5 (by decide +kernel)
theorem t190_8 : decode (mb 190) 8 = .ok (.iinc 1 1, 3) := by decide +kernel
theorem s190_8 (d : Nat) (i0 : Int32) (i1 : Int32) (l2 : Value) (σ : Hs) : ru d 190 8 [.int i0, .int i1, l2] [] σ = ru d 190 11 [.int i0, .int (i1 + 1), l2] [] σ := q_iinc t190_8 ⟨Nat.le_of_ble_eq_true rfl, rfl⟩ rfl (by decide +kernel) rfl
theorem t190_11 : decode (mb 190) 11 = .ok (.iload_n 2, 1) := by decide +kernel
theorem s190_11 (d : Nat) (l0 : Value) (l1 : Value) (i2 : Int32) (σ : Hs) : ru d 190 11 [l0, l1, .int i2] [] σ = ru d 190 12 [l0, l1, .int i2] [.int i2] σ := q_iload_n t190_11 rfl
theorem t190_12 : decode (mb 190) 12 = .ok (.iload_n 2, 1) := by decide +kernel
theorem s190_12 (d : Nat) (l0 : Value) (l1 : Value) (i2 : Int32) (w0 : Value) (σ : Hs) : ru d 190 12 [l0, l1, .int i2] [w0] σ = ru d 190 13 [l0, l1, .int i2] [.int i2, w0] σ := q_iload_n t190_12 rfl
theorem t190_13 : decode (mb 190) 13 = .ok (.iconst 1, 1) := by decide +kernel
theorem s190_13 (d : Nat) (l0 : Value) (l1 : Value) (l2 : Value) (w0 w1 : Value) (σ : Hs) : ru d 190 13 [l0, l1, l2] [w0, w1] σ = ru d 190 14 [l0, l1, l2] [.int 1, w0, w1] σ := q_iconst t190_13 (by decide +kernel)
theorem t190_14 : decode (mb 190) 14 = .ok (.isub, 1) := by decide +kernel
theorem s190_14 (d : Nat) (l0 : Value) (l1 : Value) (l2 : Value) (x y : Int32) (w0 : Value) (σ : Hs) : ru d 190 14 [l0, l1, l2] [.int y, .int x, w0] σ = ru d 190 15 [l0, l1, l2] [.int (x - y), w0] σ := q_isub t190_14
theorem t190_15 : decode (mb 190) 15 = .ok (.iand, 1) := by decide +kernel
theorem s190_15 (d : Nat) (l0 : Value) (l1 : Value) (l2 : Value) (x y : Int32) (σ : Hs) : ru d 190 15 [l0, l1, l2] [.int y, .int x] σ = ru d 190 16 [l0, l1, l2] [.int (x &&& y)] σ := q_iand t190_15
theorem t190_16 : decode (mb 190) 16 = .ok (.istore_n 2, 1) := by decide +kernel
theorem s190_16 (d : Nat) (l0 : Value) (i1 : Int32) (l2 : Value) (x : Int32) (σ : Hs) : ru d 190 16 [l0, .int i1, l2] [.int x] σ = ru d 190 17 [l0, .int i1, .int x] [] σ := q_istore_n t190_16 ⟨Nat.le_of_ble_eq_true rfl, rfl⟩ rfl
theorem t190_17 : decode (mb 190) 17 = .ok (.goto (-13), 3) := by decide +kernel
theorem s190_17 (d : Nat) (l0 : Value) (l1 : Value) (l2 : Value) (σ : Hs) : ru d 190 17 [l0, l1, l2] [] σ = ru d 190 4 [l0, l1, l2] [] σ := q_goto t190_17 (by decide +kernel)
theorem t190_20 : decode (mb 190) 20 = .ok (.iload_n 1, 1) := by decide +kernel
theorem s190_20 (d : Nat) (l0 : Value) (i1 : Int32) (l2 : Value) (σ : Hs) : ru d 190 20 [l0, .int i1, l2] [] σ = ru d 190 21 [l0, .int i1, l2] [.int i1] σ := q_iload_n t190_20 rfl
theorem t190_21 : decode (mb 190) 21 = .ok (.ireturn, 1) := by decide +kernel
theorem s190_21 (d : Nat) (l0 : Value) (l1 : Value) (l2 : Value) (x : Int32) (σ : Hs) : ru d 190 21 [l0, l1, l2] [.int x] σ = some (some (.int x), σ) := q_ireti t190_21 mr190
theorem c190 (d : Nat) (x0 : Int32) (σ : Hs) : callD (d + 1) 190 [.int x0] σ = ru d 190 0 [.int x0, uu, uu] [] σ := callD_ru ml190 rfl rfl (Nat.le_of_ble_eq_true rfl)
-- 191: Model.report(II)I
theorem t191_0 : decode (mb 191) 0 = .ok (.iload_n 1, 1) := by decide +kernel
theorem s191_0 (d : Nat) (l0 : Value) (i1 : Int32) (l2 : Value) (l3 : Value) (σ : Hs) : ru d 191 0 [l0, .int i1, l2, l3] [] σ = ru d 191 1 [l0, .int i1, l2, l3] [.int i1] σ := q_iload_n t191_0 rfl
theorem t191_1 : decode (mb 191) 1 = .ok (.invokestatic 278, 3) := by decide +kernel
theorem s191_1 (d : Nat) (l0 : Value) (l1 : Value) (l2 : Value) (l3 : Value) (v0 : Value) (σ : Hs) : ru d 191 1 [l0, l1, l2, l3] [v0] σ = kont (callD d 176 [v0] σ) d 191 4 [l0, l1, l2, l3] [] := q_invs t191_1 mo191 (by decide +kernel) K8_278 mj176 (Nat.le_of_ble_eq_true rfl) rfl rfl (Nat.le_of_ble_eq_true rfl)
theorem t191_4 : decode (mb 191) 4 = .ok (.ifCond .eq 12, 3) := by decide +kernel
theorem s191_4 (d : Nat) (l0 : Value) (l1 : Value) (l2 : Value) (l3 : Value) (x : Int32) (σ : Hs) : ru d 191 4 [l0, l1, l2, l3] [.int x] σ = if x = 0 then ru d 191 16 [l0, l1, l2, l3] [] σ else ru d 191 7 [l0, l1, l2, l3] [] σ := q_if_eq t191_4 (by decide +kernel)
theorem t191_7 : decode (mb 191) 7 = .ok (.iload_n 2, 1) := by decide +kernel
theorem s191_7 (d : Nat) (l0 : Value) (l1 : Value) (i2 : Int32) (l3 : Value) (σ : Hs) : ru d 191 7 [l0, l1, .int i2, l3] [] σ = ru d 191 8 [l0, l1, .int i2, l3] [.int i2] σ := q_iload_n t191_7 rfl
theorem t191_8 : decode (mb 191) 8 = .ok (.iconst 0, 1) := by decide +kernel
theorem s191_8 (d : Nat) (l0 : Value) (l1 : Value) (l2 : Value) (l3 : Value) (w0 : Value) (σ : Hs) : ru d 191 8 [l0, l1, l2, l3] [w0] σ = ru d 191 9 [l0, l1, l2, l3] [.int 0, w0] σ := q_iconst t191_8 (by decide +kernel)
theorem t191_9 : decode (mb 191) 9 = .ok (.iconst 3, 1) := by decide +kernel
theorem s191_9 (d : Nat) (l0 : Value) (l1 : Value) (l2 : Value) (l3 : Value) (w0 w1 : Value) (σ : Hs) : ru d 191 9 [l0, l1, l2, l3] [w0, w1] σ = ru d 191 10 [l0, l1, l2, l3] [.int 3, w0, w1] σ := q_iconst t191_9 (by decide +kernel)
theorem t191_10 : decode (mb 191) 10 = .ok (.invokestatic 81, 3) := by decide +kernel
theorem s191_10 (d : Nat) (l0 : Value) (l1 : Value) (l2 : Value) (l3 : Value) (v0 v1 v2 : Value) (σ : Hs) : ru d 191 10 [l0, l1, l2, l3] [v2, v1, v0] σ = kont (callD d 112 [v0, v1, v2] σ) d 191 13 [l0, l1, l2, l3] [] := q_invs t191_10 mo191 (by decide +kernel) K8_81 mj112 (Nat.le_of_ble_eq_true rfl) rfl rfl (Nat.le_of_ble_eq_true rfl)
theorem t191_13 : decode (mb 191) 13 = .ok (.ifCond .ne 10, 3) := by decide +kernel
theorem s191_13 (d : Nat) (l0 : Value) (l1 : Value) (l2 : Value) (l3 : Value) (x : Int32) (σ : Hs) : ru d 191 13 [l0, l1, l2, l3] [.int x] σ = if x = 0 then ru d 191 16 [l0, l1, l2, l3] [] σ else ru d 191 23 [l0, l1, l2, l3] [] σ := q_if_ne t191_13 (by decide +kernel)
theorem t191_16 : decode (mb 191) 16 = .ok (.aload_n 0, 1) := by decide +kernel
theorem s191_16 (d : Nat) (a0 : Nat) (l1 : Value) (l2 : Value) (l3 : Value) (σ : Hs) : ru d 191 16 [.ref a0, l1, l2, l3] [] σ = ru d 191 17 [.ref a0, l1, l2, l3] [.ref a0] σ := q_aload_n t191_16 rfl
theorem t191_17 : decode (mb 191) 17 = .ok (.ldc 104, 2) := by decide +kernel
theorem s191_17 (d : Nat) (l0 : Value) (l1 : Value) (l2 : Value) (l3 : Value) (w0 : Value) (σ : Hs) : ru d 191 17 [l0, l1, l2, l3] [w0] σ = ru d 191 19 [l0, l1, l2, l3] [.int (-1000001), w0] σ := q_ldc t191_17 mo191 C8_104
theorem t191_19 : decode (mb 191) 19 = .ok (.invokevirtual 105, 3) := by decide +kernel
theorem s191_19_o87 (d : Nat) (l0 : Value) (l1 : Value) (l2 : Value) (l3 : Value) (v1 : Value) (σ : Hs) : ru d 191 19 [l0, l1, l2, l3] [v1, .ref 87] σ = kont (callD d 111 [.ref 87, v1] σ) d 191 22 [l0, l1, l2, l3] [] := q_invv t191_19 mo191 K8_105 mj111 rfl rfl rfl rfl (Nat.le_of_ble_eq_true rfl)
theorem t191_22 : decode (mb 191) 22 = .ok (.ireturn, 1) := by decide +kernel
theorem s191_22 (d : Nat) (l0 : Value) (l1 : Value) (l2 : Value) (l3 : Value) (x : Int32) (σ : Hs) : ru d 191 22 [l0, l1, l2, l3] [.int x] σ = some (some (.int x), σ) := q_ireti t191_22 mr191
theorem t191_23 : decode (mb 191) 23 = .ok (.aload_n 0, 1) := by decide +kernel
theorem s191_23 (d : Nat) (a0 : Nat) (l1 : Value) (l2 : Value) (l3 : Value) (σ : Hs) : ru d 191 23 [.ref a0, l1, l2, l3] [] σ = ru d 191 24 [.ref a0, l1, l2, l3] [.ref a0] σ := q_aload_n t191_23 rfl
theorem t191_24 : decode (mb 191) 24 = .ok (.getfield 9, 3) := by decide +kernel
theorem s191_24_o87 (d : Nat) (l0 : Value) (l1 : Value) (l2 : Value) (l3 : Value) (σ : Hs) : ru d 191 24 [l0, l1, l2, l3] [.ref 87] σ = ru d 191 27 [l0, l1, l2, l3] [.ref 88] σ := q_getf t191_24 mo191 F8_9 rfl rfl
theorem t191_27 : decode (mb 191) 27 = .ok (.bipush 13, 2) := by decide +kernel
theorem s191_27 (d : Nat) (l0 : Value) (l1 : Value) (l2 : Value) (l3 : Value) (w0 : Value) (σ : Hs) : ru d 191 27 [l0, l1, l2, l3] [w0] σ = ru d 191 29 [l0, l1, l2, l3] [.int 13, w0] σ := q_bipush t191_27 (by decide +kernel)
theorem t191_29 : decode (mb 191) 29 = .ok (.iaload, 1) := by decide +kernel
theorem s191_29_o88 (d : Nat) (l0 : Value) (l1 : Value) (l2 : Value) (l3 : Value) (i : Int32) (σ : Hs) : ru d 191 29 [l0, l1, l2, l3] [.int i, .ref 88] σ = gd (vp_in i 545) (ru d 191 30 [l0, l1, l2, l3] [.int (σ 88 i.toNatClampNeg)] σ) := q_iald t191_29 rfl (by decide +kernel) rfl
theorem t191_30 : decode (mb 191) 30 = .ok (.istore_n 3, 1) := by decide +kernel
theorem s191_30 (d : Nat) (l0 : Value) (l1 : Value) (i2 : Int32) (l3 : Value) (x : Int32) (σ : Hs) : ru d 191 30 [l0, l1, .int i2, l3] [.int x] σ = ru d 191 31 [l0, l1, .int i2, .int x] [] σ := q_istore_n t191_30 ⟨Nat.le_of_ble_eq_true rfl, rfl⟩ rfl
theorem t191_31 : decode (mb 191) 31 = .ok (.iload_n 3, 1) := by decide +kernel
theorem s191_31 (d : Nat) (l0 : Value) (l1 : Value) (l2 : Value) (i3 : Int32) (σ : Hs) : ru d 191 31 [l0, l1, l2, .int i3] [] σ = ru d 191 32 [l0, l1, l2, .int i3] [.int i3] σ := q_iload_n t191_31 rfl
theorem t191_32 : decode (mb 191) 32 = .ok (.bipush 12, 2) := by decide +kernel
theorem s191_32 (d : Nat) (l0 : Value) (l1 : Value) (l2 : Value) (l3 : Value) (w0 : Value) (σ : Hs) : ru d 191 32 [l0, l1, l2, l3] [w0] σ = ru d 191 34 [l0, l1, l2, l3] [.int 12, w0] σ := q_bipush t191_32 (by decide +kernel)
theorem t191_34 : decode (mb 191) 34 = .ok (.if_icmp .ne 10, 3) := by decide +kernel
theorem s191_34 (d : Nat) (l0 : Value) (l1 : Value) (l2 : Value) (l3 : Value) (x y : Int32) (σ : Hs) : ru d 191 34 [l0, l1, l2, l3] [.int y, .int x] σ = if x = y then ru d 191 37 [l0, l1, l2, l3] [] σ else ru d 191 44 [l0, l1, l2, l3] [] σ := q_ic_ne t191_34 (by decide +kernel)
theorem t191_37 : decode (mb 191) 37 = .ok (.aload_n 0, 1) := by decide +kernel
theorem s191_37 (d : Nat) (a0 : Nat) (l1 : Value) (l2 : Value) (l3 : Value) (σ : Hs) : ru d 191 37 [.ref a0, l1, l2, l3] [] σ = ru d 191 38 [.ref a0, l1, l2, l3] [.ref a0] σ := q_aload_n t191_37 rfl
theorem t191_38 : decode (mb 191) 38 = .ok (.ldc 108, 2) := by decide +kernel
theorem s191_38 (d : Nat) (l0 : Value) (l1 : Value) (l2 : Value) (l3 : Value) (w0 : Value) (σ : Hs) : ru d 191 38 [l0, l1, l2, l3] [w0] σ = ru d 191 40 [l0, l1, l2, l3] [.int (-1000004), w0] σ := q_ldc t191_38 mo191 C8_108
theorem t191_40 : decode (mb 191) 40 = .ok (.invokevirtual 105, 3) := by decide +kernel
theorem s191_40_o87 (d : Nat) (l0 : Value) (l1 : Value) (l2 : Value) (l3 : Value) (v1 : Value) (σ : Hs) : ru d 191 40 [l0, l1, l2, l3] [v1, .ref 87] σ = kont (callD d 111 [.ref 87, v1] σ) d 191 43 [l0, l1, l2, l3] [] := q_invv t191_40 mo191 K8_105 mj111 rfl rfl rfl rfl (Nat.le_of_ble_eq_true rfl)
theorem t191_43 : decode (mb 191) 43 = .ok (.ireturn, 1) := by decide +kernel
theorem s191_43 (d : Nat) (l0 : Value) (l1 : Value) (l2 : Value) (l3 : Value) (x : Int32) (σ : Hs) : ru d 191 43 [l0, l1, l2, l3] [.int x] σ = some (some (.int x), σ) := q_ireti t191_43 mr191
theorem t191_44 : decode (mb 191) 44 = .ok (.aload_n 0, 1) := by decide +kernel
theorem s191_44 (d : Nat) (a0 : Nat) (l1 : Value) (l2 : Value) (l3 : Value) (σ : Hs) : ru d 191 44 [.ref a0, l1, l2, l3] [] σ = ru d 191 45 [.ref a0, l1, l2, l3] [.ref a0] σ := q_aload_n t191_44 rfl
theorem t191_45 : decode (mb 191) 45 = .ok (.getfield 9, 3) := by decide +kernel
theorem s191_45_o87 (d : Nat) (l0 : Value) (l1 : Value) (l2 : Value) (l3 : Value) (σ : Hs) : ru d 191 45 [l0, l1, l2, l3] [.ref 87] σ = ru d 191 48 [l0, l1, l2, l3] [.ref 88] σ := q_getf t191_45 mo191 F8_9 rfl rfl
theorem t191_48 : decode (mb 191) 48 = .ok (.sipush 251, 3) := by decide +kernel
theorem s191_48 (d : Nat) (l0 : Value) (l1 : Value) (l2 : Value) (l3 : Value) (w0 : Value) (σ : Hs) : ru d 191 48 [l0, l1, l2, l3] [w0] σ = ru d 191 51 [l0, l1, l2, l3] [.int 251, w0] σ := q_sipush t191_48 (by decide +kernel)
theorem t191_51 : decode (mb 191) 51 = .ok (.iconst 2, 1) := by decide +kernel
theorem s191_51 (d : Nat) (l0 : Value) (l1 : Value) (l2 : Value) (l3 : Value) (w0 w1 : Value) (σ : Hs) : ru d 191 51 [l0, l1, l2, l3] [w0, w1] σ = ru d 191 52 [l0, l1, l2, l3] [.int 2, w0, w1] σ := q_iconst t191_51 (by decide +kernel)
theorem t191_52 : decode (mb 191) 52 = .ok (.iload_n 3, 1) := by decide +kernel
theorem s191_52 (d : Nat) (l0 : Value) (l1 : Value) (l2 : Value) (i3 : Int32) (w0 w1 w2 : Value) (σ : Hs) : ru d 191 52 [l0, l1, l2, .int i3] [w0, w1, w2] σ = ru d 191 53 [l0, l1, l2, .int i3] [.int i3, w0, w1, w2] σ := q_iload_n t191_52 rfl
theorem t191_53 : decode (mb 191) 53 = .ok (.imul, 1) := by decide +kernel
theorem s191_53 (d : Nat) (l0 : Value) (l1 : Value) (l2 : Value) (l3 : Value) (x y : Int32) (w0 w1 : Value) (σ : Hs) : ru d 191 53 [l0, l1, l2, l3] [.int y, .int x, w0, w1] σ = ru d 191 54 [l0, l1, l2, l3] [.int (x * y), w0, w1] σ := q_imul t191_53
theorem t191_54 : decode (mb 191) 54 = .ok (.iadd, 1) := by decide +kernel
theorem s191_54 (d : Nat) (l0 : Value) (l1 : Value) (l2 : Value) (l3 : Value) (x y : Int32) (w0 : Value) (σ : Hs) : ru d 191 54 [l0, l1, l2, l3] [.int y, .int x, w0] σ = ru d 191 55 [l0, l1, l2, l3] [.int (x + y), w0] σ := q_iadd t191_54
theorem t191_55 : decode (mb 191) 55 = .ok (.iload_n 1, 1) := by decide +kernel
theorem s191_55 (d : Nat) (l0 : Value) (i1 : Int32) (l2 : Value) (l3 : Value) (w0 w1 : Value) (σ : Hs) : ru d 191 55 [l0, .int i1, l2, l3] [w0, w1] σ = ru d 191 56 [l0, .int i1, l2, l3] [.int i1, w0, w1] σ := q_iload_n t191_55 rfl
theorem t191_56 : decode (mb 191) 56 = .ok (.iastore, 1) := by decide +kernel
theorem s191_56_o88 (d : Nat) (l0 : Value) (l1 : Value) (l2 : Value) (l3 : Value) (i x : Int32) (σ : Hs) : ru d 191 56 [l0, l1, l2, l3] [.int x, .int i, .ref 88] σ = gd (vp_in i 545) (ru d 191 57 [l0, l1, l2, l3] [] (up2 σ 88 i.toNatClampNeg x)) := q_iast t191_56 (by decide +kernel) rfl rfl
theorem t191_57 : decode (mb 191) 57 = .ok (.aload_n 0, 1) := by decide +kernel
theorem s191_57 (d : Nat) (a0 : Nat) (l1 : Value) (l2 : Value) (l3 : Value) (σ : Hs) : ru d 191 57 [.ref a0, l1, l2, l3] [] σ = ru d 191 58 [.ref a0, l1, l2, l3] [.ref a0] σ := q_aload_n t191_57 rfl
theorem t191_58 : decode (mb 191) 58 = .ok (.getfield 9, 3) := by decide +kernel
theorem s191_58_o87 (d : Nat) (l0 : Value) (l1 : Value) (l2 : Value) (l3 : Value) (σ : Hs) : ru d 191 58 [l0, l1, l2, l3] [.ref 87] σ = ru d 191 61 [l0, l1, l2, l3] [.ref 88] σ := q_getf t191_58 mo191 F8_9 rfl rfl
theorem t191_61 : decode (mb 191) 61 = .ok (.sipush 251, 3) := by decide +kernel
theorem s191_61 (d : Nat) (l0 : Value) (l1 : Value) (l2 : Value) (l3 : Value) (w0 : Value) (σ : Hs) : ru d 191 61 [l0, l1, l2, l3] [w0] σ = ru d 191 64 [l0, l1, l2, l3] [.int 251, w0] σ := q_sipush t191_61 (by decide +kernel)
theorem t191_64 : decode (mb 191) 64 = .ok (.iconst 2, 1) := by decide +kernel
theorem s191_64 (d : Nat) (l0 : Value) (l1 : Value) (l2 : Value) (l3 : Value) (w0 w1 : Value) (σ : Hs) : ru d 191 64 [l0, l1, l2, l3] [w0, w1] σ = ru d 191 65 [l0, l1, l2, l3] [.int 2, w0, w1] σ := q_iconst t191_64 (by decide +kernel)
theorem t191_65 : decode (mb 191) 65 = .ok (.iload_n 3, 1) := by decide +kernel
theorem s191_65 (d : Nat) (l0 : Value) (l1 : Value) (l2 : Value) (i3 : Int32) (w0 w1 w2 : Value) (σ : Hs) : ru d 191 65 [l0, l1, l2, .int i3] [w0, w1, w2] σ = ru d 191 66 [l0, l1, l2, .int i3] [.int i3, w0, w1, w2] σ := q_iload_n t191_65 rfl
theorem t191_66 : decode (mb 191) 66 = .ok (.imul, 1) := by decide +kernel
theorem s191_66 (d : Nat) (l0 : Value) (l1 : Value) (l2 : Value) (l3 : Value) (x y : Int32) (w0 w1 : Value) (σ : Hs) : ru d 191 66 [l0, l1, l2, l3] [.int y, .int x, w0, w1] σ = ru d 191 67 [l0, l1, l2, l3] [.int (x * y), w0, w1] σ := q_imul t191_66
theorem t191_67 : decode (mb 191) 67 = .ok (.iadd, 1) := by decide +kernel
theorem s191_67 (d : Nat) (l0 : Value) (l1 : Value) (l2 : Value) (l3 : Value) (x y : Int32) (w0 : Value) (σ : Hs) : ru d 191 67 [l0, l1, l2, l3] [.int y, .int x, w0] σ = ru d 191 68 [l0, l1, l2, l3] [.int (x + y), w0] σ := q_iadd t191_67
theorem t191_68 : decode (mb 191) 68 = .ok (.iconst 1, 1) := by decide +kernel
theorem s191_68 (d : Nat) (l0 : Value) (l1 : Value) (l2 : Value) (l3 : Value) (w0 w1 : Value) (σ : Hs) : ru d 191 68 [l0, l1, l2, l3] [w0, w1] σ = ru d 191 69 [l0, l1, l2, l3] [.int 1, w0, w1] σ := q_iconst t191_68 (by decide +kernel)
theorem t191_69 : decode (mb 191) 69 = .ok (.iadd, 1) := by decide +kernel
theorem s191_69 (d : Nat) (l0 : Value) (l1 : Value) (l2 : Value) (l3 : Value) (x y : Int32) (w0 : Value) (σ : Hs) : ru d 191 69 [l0, l1, l2, l3] [.int y, .int x, w0] σ = ru d 191 70 [l0, l1, l2, l3] [.int (x + y), w0] σ := q_iadd t191_69
theorem t191_70 : decode (mb 191) 70 = .ok (.iload_n 2, 1) := by decide +kernel
theorem s191_70 (d : Nat) (l0 : Value) (l1 : Value) (i2 : Int32) (l3 : Value) (w0 w1 : Value) (σ : Hs) : ru d 191 70 [l0, l1, .int i2, l3] [w0, w1] σ = ru d 191 71 [l0, l1, .int i2, l3] [.int i2, w0, w1] σ := q_iload_n t191_70 rfl
theorem t191_71 : decode (mb 191) 71 = .ok (.iastore, 1) := by decide +kernel
theorem s191_71_o88 (d : Nat) (l0 : Value) (l1 : Value) (l2 : Value) (l3 : Value) (i x : Int32) (σ : Hs) : ru d 191 71 [l0, l1, l2, l3] [.int x, .int i, .ref 88] σ = gd (vp_in i 545) (ru d 191 72 [l0, l1, l2, l3] [] (up2 σ 88 i.toNatClampNeg x)) := q_iast t191_71 (by decide +kernel) rfl rfl
theorem t191_72 : decode (mb 191) 72 = .ok (.aload_n 0, 1) := by decide +kernel
theorem s191_72 (d : Nat) (a0 : Nat) (l1 : Value) (l2 : Value) (l3 : Value) (σ : Hs) : ru d 191 72 [.ref a0, l1, l2, l3] [] σ = ru d 191 73 [.ref a0, l1, l2, l3] [.ref a0] σ := q_aload_n t191_72 rfl
theorem t191_73 : decode (mb 191) 73 = .ok (.getfield 9, 3) := by decide +kernel
theorem s191_73_o87 (d : Nat) (l0 : Value) (l1 : Value) (l2 : Value) (l3 : Value) (σ : Hs) : ru d 191 73 [l0, l1, l2, l3] [.ref 87] σ = ru d 191 76 [l0, l1, l2, l3] [.ref 88] σ := q_getf t191_73 mo191 F8_9 rfl rfl
theorem t191_76 : decode (mb 191) 76 = .ok (.bipush 13, 2) := by decide +kernel
theorem s191_76 (d : Nat) (l0 : Value) (l1 : Value) (l2 : Value) (l3 : Value) (w0 : Value) (σ : Hs) : ru d 191 76 [l0, l1, l2, l3] [w0] σ = ru d 191 78 [l0, l1, l2, l3] [.int 13, w0] σ := q_bipush t191_76 (by decide +kernel)
theorem t191_78 : decode (mb 191) 78 = .ok (.dup2, 1) := by decide +kernel
theorem s191_78 (d : Nat) (l0 : Value) (l1 : Value) (l2 : Value) (l3 : Value) (x0 : Int32) (x1 : Nat) (σ : Hs) : ru d 191 78 [l0, l1, l2, l3] [.int x0, .ref x1] σ = ru d 191 79 [l0, l1, l2, l3] [.int x0, .ref x1, .int x0, .ref x1] σ := q_dup2 t191_78 rfl rfl
theorem t191_79 : decode (mb 191) 79 = .ok (.iaload, 1) := by decide +kernel
theorem s191_79_o88 (d : Nat) (l0 : Value) (l1 : Value) (l2 : Value) (l3 : Value) (i : Int32) (w0 w1 : Value) (σ : Hs) : ru d 191 79 [l0, l1, l2, l3] [.int i, .ref 88, w0, w1] σ = gd (vp_in i 545) (ru d 191 80 [l0, l1, l2, l3] [.int (σ 88 i.toNatClampNeg), w0, w1] σ) := q_iald t191_79 rfl (by decide +kernel) rfl
theorem t191_80 : decode (mb 191) 80 = .ok (.iconst 1, 1) := by decide +kernel
theorem s191_80 (d : Nat) (l0 : Value) (l1 : Value) (l2 : Value) (l3 : Value) (w0 w1 w2 : Value) (σ : Hs) : ru d 191 80 [l0, l1, l2, l3] [w0, w1, w2] σ = ru d 191 81 [l0, l1, l2, l3] [.int 1, w0, w1, w2] σ := q_iconst t191_80 (by decide +kernel)
theorem t191_81 : decode (mb 191) 81 = .ok (.iadd, 1) := by decide +kernel
theorem s191_81 (d : Nat) (l0 : Value) (l1 : Value) (l2 : Value) (l3 : Value) (x y : Int32) (w0 w1 : Value) (σ : Hs) : ru d 191 81 [l0, l1, l2, l3] [.int y, .int x, w0, w1] σ = ru d 191 82 [l0, l1, l2, l3] [.int (x + y), w0, w1] σ := q_iadd t191_81
theorem t191_82 : decode (mb 191) 82 = .ok (.iastore, 1) := by decide +kernel
theorem s191_82_o88 (d : Nat) (l0 : Value) (l1 : Value) (l2 : Value) (l3 : Value) (i x : Int32) (σ : Hs) : ru d 191 82 [l0, l1, l2, l3] [.int x, .int i, .ref 88] σ = gd (vp_in i 545) (ru d 191 83 [l0, l1, l2, l3] [] (up2 σ 88 i.toNatClampNeg x)) := q_iast t191_82 (by decide +kernel) rfl rfl
theorem t191_83 : decode (mb 191) 83 = .ok (.iload_n 3, 1) := by decide +kernel
theorem s191_83 (d : Nat) (l0 : Value) (l1 : Value) (l2 : Value) (i3 : Int32) (σ : Hs) : ru d 191 83 [l0, l1, l2, .int i3] [] σ = ru d 191 84 [l0, l1, l2, .int i3] [.int i3] σ := q_iload_n t191_83 rfl
theorem t191_84 : decode (mb 191) 84 = .ok (.ireturn, 1) := by decide +kernel
theorem s191_84 (d : Nat) (l0 : Value) (l1 : Value) (l2 : Value) (l3 : Value) (x : Int32) (σ : Hs) : ru d 191 84 [l0, l1, l2, l3] [.int x] σ = some (some (.int x), σ) := q_ireti t191_84 mr191
theorem c191 (d : Nat) (x0 : Nat) (x1 : Int32) (x2 : Int32) (σ : Hs) : callD (d + 1) 191 [.ref x0, .int x1, .int x2] σ = ru d 191 0 [.ref x0, .int x1, .int x2, uu] [] σ := callD_ru ml191 rfl rfl (Nat.le_of_ble_eq_true rfl)
-- 192: Model.from(I)I
theorem t192_0 : decode (mb 192) 0 = .ok (.iconst 0, 1) := by decide +kernel
theorem s192_0 (d : Nat) (l0 : Value) (l1 : Value) (l2 : Value) (l3 : Value) (l4 : Value) (σ : Hs) : ru d 192 0 [l0, l1, l2, l3, l4] [] σ = ru d 192 1 [l0, l1, l2, l3, l4] [.int 0] σ := q_iconst t192_0 (by decide +kernel)
theorem t192_1 : decode (mb 192) 1 = .ok (.istore_n 2, 1) := by decide +kernel
theorem s192_1 (d : Nat) (l0 : Value) (i1 : Int32) (l2 : Value) (l3 : Value) (l4 : Value) (x : Int32) (σ : Hs) : ru d 192 1 [l0, .int i1, l2, l3, l4] [.int x] σ = ru d 192 2 [l0, .int i1, .int x, l3, l4] [] σ := q_istore_n t192_1 ⟨Nat.le_of_ble_eq_true rfl, rfl⟩ rfl
theorem t192_2 : decode (mb 192) 2 = .ok (.iconst 0, 1) := by decide +kernel
theorem s192_2 (d : Nat) (l0 : Value) (l1 : Value) (l2 : Value) (l3 : Value) (l4 : Value) (σ : Hs) : ru d 192 2 [l0, l1, l2, l3, l4] [] σ = ru d 192 3 [l0, l1, l2, l3, l4] [.int 0] σ := q_iconst t192_2 (by decide +kernel)
theorem t192_3 : decode (mb 192) 3 = .ok (.istore_n 3, 1) := by decide +kernel
theorem s192_3 (d : Nat) (l0 : Value) (l1 : Value) (i2 : Int32) (l3 : Value) (l4 : Value) (x : Int32) (σ : Hs) : ru d 192 3 [l0, l1, .int i2, l3, l4] [.int x] σ = ru d 192 4 [l0, l1, .int i2, .int x, l4] [] σ := q_istore_n t192_3 ⟨Nat.le_of_ble_eq_true rfl, rfl⟩ rfl
theorem t192_4 : decode (mb 192) 4 = .ok (.iload_n 3, 1) := by decide +kernel
theorem s192_4 (d : Nat) (l0 : Value) (l1 : Value) (l2 : Value) (i3 : Int32) (l4 : Value) (σ : Hs) : ru d 192 4 [l0, l1, l2, .int i3, l4] [] σ = ru d 192 5 [l0, l1, l2, .int i3, l4] [.int i3] σ := q_iload_n t192_4 rfl
theorem t192_5 : decode (mb 192) 5 = .ok (.bipush 9, 2) := by decide +kernel
theorem s192_5 (d : Nat) (l0 : Value) (l1 : Value) (l2 : Value) (l3 : Value) (l4 : Value) (w0 : Value) (σ : Hs) : ru d 192 5 [l0, l1, l2, l3, l4] [w0] σ = ru d 192 7 [l0, l1, l2, l3, l4] [.int 9, w0] σ := q_bipush t192_5 (by decide +kernel)
theorem t192_7 : decode (mb 192) 7 = .ok (.if_icmp .ge 73, 3) := by decide +kernel
theorem s192_7 (d : Nat) (l0 : Value) (l1 : Value) (l2 : Value) (l3 : Value) (l4 : Value) (x y : Int32) (σ : Hs) : ru d 192 7 [l0, l1, l2, l3, l4] [.int y, .int x] σ = if y ≤ x then ru d 192 80 [l0, l1, l2, l3, l4] [] σ else ru d 192 10 [l0, l1, l2, l3, l4] [] σ := q_ic_ge t192_7 (by decide +kernel)
theorem t192_10 : decode (mb 192) 10 = .ok (.iload_n 3, 1) := by decide +kernel
theorem s192_10 (d : Nat) (l0 : Value) (l1 : Value) (l2 : Value) (i3 : Int32) (l4 : Value) (σ : Hs) : ru d 192 10 [l0, l1, l2, .int i3, l4] [] σ = ru d 192 11 [l0, l1, l2, .int i3, l4] [.int i3] σ := q_iload_n t192_10 rfl
theorem t192_11 : decode (mb 192) 11 = .ok (.istore 4, 2) := by decide +kernel
theorem s192_11 (d : Nat) (l0 : Value) (l1 : Value) (l2 : Value) (i3 : Int32) (l4 : Value) (x : Int32) (σ : Hs) : ru d 192 11 [l0, l1, l2, .int i3, l4] [.int x] σ = ru d 192 13 [l0, l1, l2, .int i3, .int x] [] σ := q_istore t192_11 ⟨Nat.le_of_ble_eq_true rfl, rfl⟩ rfl
theorem t192_13 : decode (mb 192) 13 = .ok (.iload 4, 2) := by decide +kernel
theorem s192_13 (d : Nat) (l0 : Value) (l1 : Value) (l2 : Value) (l3 : Value) (i4 : Int32) (σ : Hs) : ru d 192 13 [l0, l1, l2, l3, .int i4] [] σ = ru d 192 15 [l0, l1, l2, l3, .int i4] [.int i4] σ := q_iload t192_13 rfl
theorem t192_15 : decode (mb 192) 15 = .ok (.ifCond .lt 44, 3) := by decide +kernel
theorem s192_15 (d : Nat) (l0 : Value) (l1 : Value) (l2 : Value) (l3 : Value) (l4 : Value) (x : Int32) (σ : Hs) : ru d 192 15 [l0, l1, l2, l3, l4] [.int x] σ = if x < 0 then ru d 192 59 [l0, l1, l2, l3, l4] [] σ else ru d 192 18 [l0, l1, l2, l3, l4] [] σ := q_if_lt t192_15 (by decide +kernel)
theorem t192_18 : decode (mb 192) 18 = .ok (.iload 4, 2) := by decide +kernel
theorem s192_18 (d : Nat) (l0 : Value) (l1 : Value) (l2 : Value) (l3 : Value) (i4 : Int32) (σ : Hs) : ru d 192 18 [l0, l1, l2, l3, .int i4] [] σ = ru d 192 20 [l0, l1, l2, l3, .int i4] [.int i4] σ := q_iload t192_18 rfl
theorem t192_20 : decode (mb 192) 20 = .ok (.aload_n 0, 1) := by decide +kernel
theorem s192_20 (d : Nat) (a0 : Nat) (l1 : Value) (l2 : Value) (l3 : Value) (l4 : Value) (w0 : Value) (σ : Hs) : ru d 192 20 [.ref a0, l1, l2, l3, l4] [w0] σ = ru d 192 21 [.ref a0, l1, l2, l3, l4] [.ref a0, w0] σ := q_aload_n t192_20 rfl
theorem t192_21 : decode (mb 192) 21 = .ok (.getfield 9, 3) := by decide +kernel
theorem s192_21_o87 (d : Nat) (l0 : Value) (l1 : Value) (l2 : Value) (l3 : Value) (l4 : Value) (w0 : Value) (σ : Hs) : ru d 192 21 [l0, l1, l2, l3, l4] [.ref 87, w0] σ = ru d 192 24 [l0, l1, l2, l3, l4] [.ref 88, w0] σ := q_getf t192_21 mo192 F8_9 rfl rfl
theorem t192_24 : decode (mb 192) 24 = .ok (.sipush 251, 3) := by decide +kernel
theorem s192_24 (d : Nat) (l0 : Value) (l1 : Value) (l2 : Value) (l3 : Value) (l4 : Value) (w0 w1 : Value) (σ : Hs) : ru d 192 24 [l0, l1, l2, l3, l4] [w0, w1] σ = ru d 192 27 [l0, l1, l2, l3, l4] [.int 251, w0, w1] σ := q_sipush t192_24 (by decide +kernel)
theorem t192_27 : decode (mb 192) 27 = .ok (.iconst 2, 1) := by decide +kernel
theorem s192_27 (d : Nat) (l0 : Value) (l1 : Value) (l2 : Value) (l3 : Value) (l4 : Value) (w0 w1 w2 : Value) (σ : Hs) : ru d 192 27 [l0, l1, l2, l3, l4] [w0, w1, w2] σ = ru d 192 28 [l0, l1, l2, l3, l4] [.int 2, w0, w1, w2] σ := q_iconst t192_27 (by decide +kernel)
theorem t192_28 : decode (mb 192) 28 = .ok (.iload_n 1, 1) := by decide +kernel
theorem s192_28 (d : Nat) (l0 : Value) (i1 : Int32) (l2 : Value) (l3 : Value) (l4 : Value) (w0 w1 w2 w3 : Value) (σ : Hs) : ru d 192 28 [l0, .int i1, l2, l3, l4] [w0, w1, w2, w3] σ = ru d 192 29 [l0, .int i1, l2, l3, l4] [.int i1, w0, w1, w2, w3] σ := q_iload_n t192_28 rfl
theorem t192_29 : decode (mb 192) 29 = .ok (.imul, 1) := by decide +kernel
theorem s192_29 (d : Nat) (l0 : Value) (l1 : Value) (l2 : Value) (l3 : Value) (l4 : Value) (x y : Int32) (w0 w1 w2 : Value) (σ : Hs) : ru d 192 29 [l0, l1, l2, l3, l4] [.int y, .int x, w0, w1, w2] σ = ru d 192 30 [l0, l1, l2, l3, l4] [.int (x * y), w0, w1, w2] σ := q_imul t192_29
theorem t192_30 : decode (mb 192) 30 = .ok (.iadd, 1) := by decide +kernel
theorem s192_30 (d : Nat) (l0 : Value) (l1 : Value) (l2 : Value) (l3 : Value) (l4 : Value) (x y : Int32) (w0 w1 : Value) (σ : Hs) : ru d 192 30 [l0, l1, l2, l3, l4] [.int y, .int x, w0, w1] σ = ru d 192 31 [l0, l1, l2, l3, l4] [.int (x + y), w0, w1] σ := q_iadd t192_30
theorem t192_31 : decode (mb 192) 31 = .ok (.iaload, 1) := by decide +kernel
theorem s192_31_o88 (d : Nat) (l0 : Value) (l1 : Value) (l2 : Value) (l3 : Value) (l4 : Value) (i : Int32) (w0 : Value) (σ : Hs) : ru d 192 31 [l0, l1, l2, l3, l4] [.int i, .ref 88, w0] σ = gd (vp_in i 545) (ru d 192 32 [l0, l1, l2, l3, l4] [.int (σ 88 i.toNatClampNeg), w0] σ) := q_iald t192_31 rfl (by decide +kernel) rfl
theorem t192_32 : decode (mb 192) 32 = .ok (.if_icmp .eq 27, 3) := by decide +kernel
theorem s192_32 (d : Nat) (l0 : Value) (l1 : Value) (l2 : Value) (l3 : Value) (l4 : Value) (x y : Int32) (σ : Hs) : ru d 192 32 [l0, l1, l2, l3, l4] [.int y, .int x] σ = if x = y then ru d 192 59 [l0, l1, l2, l3, l4] [] σ else ru d 192 35 [l0, l1, l2, l3, l4] [] σ := q_ic_eq t192_32 (by decide +kernel)
theorem t192_35 : decode (mb 192) 35 = .ok (.iload 4, 2) := by decide +kernel
theorem s192_35 (d : Nat) (l0 : Value) (l1 : Value) (l2 : Value) (l3 : Value) (i4 : Int32) (σ : Hs) : ru d 192 35 [l0, l1, l2, l3, .int i4] [] σ = ru d 192 37 [l0, l1, l2, l3, .int i4] [.int i4] σ := q_iload t192_35 rfl
theorem t192_37 : decode (mb 192) 37 = .ok (.aload_n 0, 1) := by decide +kernel
theorem s192_37 (d : Nat) (a0 : Nat) (l1 : Value) (l2 : Value) (l3 : Value) (l4 : Value) (w0 : Value) (σ : Hs) : ru d 192 37 [.ref a0, l1, l2, l3, l4] [w0] σ = ru d 192 38 [.ref a0, l1, l2, l3, l4] [.ref a0, w0] σ := q_aload_n t192_37 rfl
theorem t192_38 : decode (mb 192) 38 = .ok (.getfield 9, 3) := by decide +kernel
theorem s192_38_o87 (d : Nat) (l0 : Value) (l1 : Value) (l2 : Value) (l3 : Value) (l4 : Value) (w0 : Value) (σ : Hs) : ru d 192 38 [l0, l1, l2, l3, l4] [.ref 87, w0] σ = ru d 192 41 [l0, l1, l2, l3, l4] [.ref 88, w0] σ := q_getf t192_38 mo192 F8_9 rfl rfl
theorem t192_41 : decode (mb 192) 41 = .ok (.sipush 251, 3) := by decide +kernel
theorem s192_41 (d : Nat) (l0 : Value) (l1 : Value) (l2 : Value) (l3 : Value) (l4 : Value) (w0 w1 : Value) (σ : Hs) : ru d 192 41 [l0, l1, l2, l3, l4] [w0, w1] σ = ru d 192 44 [l0, l1, l2, l3, l4] [.int 251, w0, w1] σ := q_sipush t192_41 (by decide +kernel)
theorem t192_44 : decode (mb 192) 44 = .ok (.iconst 2, 1) := by decide +kernel
theorem s192_44 (d : Nat) (l0 : Value) (l1 : Value) (l2 : Value) (l3 : Value) (l4 : Value) (w0 w1 w2 : Value) (σ : Hs) : ru d 192 44 [l0, l1, l2, l3, l4] [w0, w1, w2] σ = ru d 192 45 [l0, l1, l2, l3, l4] [.int 2, w0, w1, w2] σ := q_iconst t192_44 (by decide +kernel)
theorem t192_45 : decode (mb 192) 45 = .ok (.iload_n 1, 1) := by decide +kernel
theorem s192_45 (d : Nat) (l0 : Value) (i1 : Int32) (l2 : Value) (l3 : Value) (l4 : Value) (w0 w1 w2 w3 : Value) (σ : Hs) : ru d 192 45 [l0, .int i1, l2, l3, l4] [w0, w1, w2, w3] σ = ru d 192 46 [l0, .int i1, l2, l3, l4] [.int i1, w0, w1, w2, w3] σ := q_iload_n t192_45 rfl
theorem t192_46 : decode (mb 192) 46 = .ok (.imul, 1) := by decide +kernel
theorem s192_46 (d : Nat) (l0 : Value) (l1 : Value) (l2 : Value) (l3 : Value) (l4 : Value) (x y : Int32) (w0 w1 w2 : Value) (σ : Hs) : ru d 192 46 [l0, l1, l2, l3, l4] [.int y, .int x, w0, w1, w2] σ = ru d 192 47 [l0, l1, l2, l3, l4] [.int (x * y), w0, w1, w2] σ := q_imul t192_46
theorem t192_47 : decode (mb 192) 47 = .ok (.iadd, 1) := by decide +kernel
theorem s192_47 (d : Nat) (l0 : Value) (l1 : Value) (l2 : Value) (l3 : Value) (l4 : Value) (x y : Int32) (w0 w1 : Value) (σ : Hs) : ru d 192 47 [l0, l1, l2, l3, l4] [.int y, .int x, w0, w1] σ = ru d 192 48 [l0, l1, l2, l3, l4] [.int (x + y), w0, w1] σ := q_iadd t192_47
theorem t192_48 : decode (mb 192) 48 = .ok (.iconst 1, 1) := by decide +kernel
theorem s192_48 (d : Nat) (l0 : Value) (l1 : Value) (l2 : Value) (l3 : Value) (l4 : Value) (w0 w1 w2 : Value) (σ : Hs) : ru d 192 48 [l0, l1, l2, l3, l4] [w0, w1, w2] σ = ru d 192 49 [l0, l1, l2, l3, l4] [.int 1, w0, w1, w2] σ := q_iconst t192_48 (by decide +kernel)
theorem t192_49 : decode (mb 192) 49 = .ok (.iadd, 1) := by decide +kernel
theorem s192_49 (d : Nat) (l0 : Value) (l1 : Value) (l2 : Value) (l3 : Value) (l4 : Value) (x y : Int32) (w0 w1 : Value) (σ : Hs) : ru d 192 49 [l0, l1, l2, l3, l4] [.int y, .int x, w0, w1] σ = ru d 192 50 [l0, l1, l2, l3, l4] [.int (x + y), w0, w1] σ := q_iadd t192_49
theorem t192_50 : decode (mb 192) 50 = .ok (.iaload, 1) := by decide +kernel
theorem s192_50_o88 (d : Nat) (l0 : Value) (l1 : Value) (l2 : Value) (l3 : Value) (l4 : Value) (i : Int32) (w0 : Value) (σ : Hs) : ru d 192 50 [l0, l1, l2, l3, l4] [.int i, .ref 88, w0] σ = gd (vp_in i 545) (ru d 192 51 [l0, l1, l2, l3, l4] [.int (σ 88 i.toNatClampNeg), w0] σ) := q_iald t192_50 rfl (by decide +kernel) rfl
theorem t192_51 : decode (mb 192) 51 = .ok (.invokestatic 252, 3) := by decide +kernel
theorem s192_51 (d : Nat) (l0 : Value) (l1 : Value) (l2 : Value) (l3 : Value) (l4 : Value) (v0 v1 : Value) (σ : Hs) : ru d 192 51 [l0, l1, l2, l3, l4] [v1, v0] σ = kont (callD d 167 [v0, v1] σ) d 192 54 [l0, l1, l2, l3, l4] [] := q_invs t192_51 mo192 (by decide +kernel) K8_252 mj167 (Nat.le_of_ble_eq_true rfl) rfl rfl (Nat.le_of_ble_eq_true rfl)
theorem t192_54 : decode (mb 192) 54 = .ok (.istore 4, 2) := by decide +kernel
theorem s192_54 (d : Nat) (l0 : Value) (l1 : Value) (l2 : Value) (i3 : Int32) (l4 : Value) (x : Int32) (σ : Hs) : ru d 192 54 [l0, l1, l2, .int i3, l4] [.int x] σ = ru d 192 56 [l0, l1, l2, .int i3, .int x] [] σ := q_istore t192_54 ⟨Nat.le_of_ble_eq_true rfl, rfl⟩ rfl
theorem t192_56 : decode (mb 192) 56 = .ok (.goto (-43), 3) := by decide +kernel
theorem s192_56 (d : Nat) (l0 : Value) (l1 : Value) (l2 : Value) (l3 : Value) (l4 : Value) (σ : Hs) : ru d 192 56 [l0, l1, l2, l3, l4] [] σ = ru d 192 13 [l0, l1, l2, l3, l4] [] σ := q_goto t192_56 (by decide +kernel)
theorem t192_59 : decode (mb 192) 59 = .ok (.iload_n 2, 1) := by decide +kernel
theorem s192_59 (d : Nat) (l0 : Value) (l1 : Value) (i2 : Int32) (l3 : Value) (l4 : Value) (σ : Hs) : ru d 192 59 [l0, l1, .int i2, l3, l4] [] σ = ru d 192 60 [l0, l1, .int i2, l3, l4] [.int i2] σ := q_iload_n t192_59 rfl
theorem t192_60 : decode (mb 192) 60 = .ok (.iload 4, 2) := by decide +kernel
theorem s192_60 (d : Nat) (l0 : Value) (l1 : Value) (l2 : Value) (l3 : Value) (i4 : Int32) (w0 : Value) (σ : Hs) : ru d 192 60 [l0, l1, l2, l3, .int i4] [w0] σ = ru d 192 62 [l0, l1, l2, l3, .int i4] [.int i4, w0] σ := q_iload t192_60 rfl
theorem t192_62 : decode (mb 192) 62 = .ok (.ifCond .lt 9, 3) := by decide +kernel
theorem s192_62 (d : Nat) (l0 : Value) (l1 : Value) (l2 : Value) (l3 : Value) (l4 : Value) (x : Int32) (w0 : Value) (σ : Hs) : ru d 192 62 [l0, l1, l2, l3, l4] [.int x, w0] σ = if x < 0 then ru d 192 71 [l0, l1, l2, l3, l4] [w0] σ else ru d 192 65 [l0, l1, l2, l3, l4] [w0] σ := q_if_lt t192_62 (by decide +kernel)
theorem t192_65 : decode (mb 192) 65 = .ok (.iconst 1, 1) := by decide +kernel
theorem s192_65 (d : Nat) (l0 : Value) (l1 : Value) (l2 : Value) (l3 : Value) (l4 : Value) (w0 : Value) (σ : Hs) : ru d 192 65 [l0, l1, l2, l3, l4] [w0] σ = ru d 192 66 [l0, l1, l2, l3, l4] [.int 1, w0] σ := q_iconst t192_65 (by decide +kernel)
theorem t192_66 : decode (mb 192) 66 = .ok (.iload_n 3, 1) := by decide +kernel
theorem s192_66 (d : Nat) (l0 : Value) (l1 : Value) (l2 : Value) (i3 : Int32) (l4 : Value) (w0 w1 : Value) (σ : Hs) : ru d 192 66 [l0, l1, l2, .int i3, l4] [w0, w1] σ = ru d 192 67 [l0, l1, l2, .int i3, l4] [.int i3, w0, w1] σ := q_iload_n t192_66 rfl
theorem t192_67 : decode (mb 192) 67 = .ok (.ishl, 1) := by decide +kernel
theorem s192_67 (d : Nat) (l0 : Value) (l1 : Value) (l2 : Value) (l3 : Value) (l4 : Value) (x y : Int32) (w0 : Value) (σ : Hs) : ru d 192 67 [l0, l1, l2, l3, l4] [.int y, .int x, w0] σ = ru d 192 68 [l0, l1, l2, l3, l4] [.int (x <<< (y &&& 31)), w0] σ := q_ishl t192_67
theorem t192_68 : decode (mb 192) 68 = .ok (.goto 4, 3) := by decide +kernel
theorem s192_68 (d : Nat) (l0 : Value) (l1 : Value) (l2 : Value) (l3 : Value) (l4 : Value) (w0 w1 : Value) (σ : Hs) : ru d 192 68 [l0, l1, l2, l3, l4] [w0, w1] σ = ru d 192 72 [l0, l1, l2, l3, l4] [w0, w1] σ := q_goto t192_68 (by decide +kernel)
theorem t192_71 : decode (mb 192) 71 = .ok (.iconst 0, 1) := by decide +kernel
theorem s192_71 (d : Nat) (l0 : Value) (l1 : Value) (l2 : Value) (l3 : Value) (l4 : Value) (w0 : Value) (σ : Hs) : ru d 192 71 [l0, l1, l2, l3, l4] [w0] σ = ru d 192 72 [l0, l1, l2, l3, l4] [.int 0, w0] σ := q_iconst t192_71 (by decide +kernel)
theorem t192_72 : decode (mb 192) 72 = .ok (.ior, 1) := by decide +kernel
theorem s192_72 (d : Nat) (l0 : Value) (l1 : Value) (l2 : Value) (l3 : Value) (l4 : Value) (x y : Int32) (σ : Hs) : ru d 192 72 [l0, l1, l2, l3, l4] [.int y, .int x] σ = ru d 192 73 [l0, l1, l2, l3, l4] [.int (x ||| y)] σ := q_ior t192_72
theorem t192_73 : decode (mb 192) 73 = .ok (.istore_n 2, 1) := by decide +kernel
theorem s192_73 (d : Nat) (l0 : Value) (i1 : Int32) (l2 : Value) (l3 : Value) (l4 : Value) (x : Int32) (σ : Hs) : ru d 192 73 [l0, .int i1, l2, l3, l4] [.int x] σ = ru d 192 74 [l0, .int i1, .int x, l3, l4] [] σ := q_istore_n t192_73 ⟨Nat.le_of_ble_eq_true rfl, rfl⟩ rfl
theorem t192_74 : decode (mb 192) 74 = .ok (.iinc 3 1, 3) := by decide +kernel
theorem s192_74 (d : Nat) (l0 : Value) (l1 : Value) (i2 : Int32) (i3 : Int32) (l4 : Value) (σ : Hs) : ru d 192 74 [l0, l1, .int i2, .int i3, l4] [] σ = ru d 192 77 [l0, l1, .int i2, .int (i3 + 1), l4] [] σ := q_iinc t192_74 ⟨Nat.le_of_ble_eq_true rfl, rfl⟩ rfl (by decide +kernel) rfl
theorem t192_77 : decode (mb 192) 77 = .ok (.goto (-73), 3) := by decide +kernel
theorem s192_77 (d : Nat) (l0 : Value) (l1 : Value) (l2 : Value) (l3 : Value) (l4 : Value) (σ : Hs) : ru d 192 77 [l0, l1, l2, l3, l4] [] σ = ru d 192 4 [l0, l1, l2, l3, l4] [] σ := q_goto t192_77 (by decide +kernel)
theorem t192_80 : decode (mb 192) 80 = .ok (.iload_n 2, 1) := by decide +kernel
theorem s192_80 (d : Nat) (l0 : Value) (l1 : Value) (i2 : Int32) (l3 : Value) (l4 : Value) (σ : Hs) : ru d 192 80 [l0, l1, .int i2, l3, l4] [] σ = ru d 192 81 [l0, l1, .int i2, l3, l4] [.int i2] σ := q_iload_n t192_80 rfl
theorem t192_81 : decode (mb 192) 81 = .ok (.ireturn, 1) := by decide +kernel
theorem s192_81 (d : Nat) (l0 : Value) (l1 : Value) (l2 : Value) (l3 : Value) (l4 : Value) (x : Int32) (σ : Hs) : ru d 192 81 [l0, l1, l2, l3, l4] [.int x] σ = some (some (.int x), σ) := q_ireti t192_81 mr192
theorem c192 (d : Nat) (x0 : Nat) (x1 : Int32) (σ : Hs) : callD (d + 1) 192 [.ref x0, .int x1] σ = ru d 192 0 [.ref x0, .int x1, uu, uu, uu] [] σ := callD_ru ml192 rfl rfl (Nat.le_of_ble_eq_true rfl)
-- 193: Model.suspectsBut(I)I
theorem t193_0 : decode (mb 193) 0 = .ok (.sipush 511, 3) := by decide +kernel
theorem s193_0 (d : Nat) (l0 : Value) (l1 : Value) (l2 : Value) (l3 : Value) (σ : Hs) : ru d 193 0 [l0, l1, l2, l3] [] σ = ru d 193 3 [l0, l1, l2, l3] [.int 511] σ := q_sipush t193_0 (by decide +kernel)
theorem t193_3 : decode (mb 193) 3 = .ok (.istore_n 2, 1) := by decide +kernel
theorem s193_3 (d : Nat) (l0 : Value) (i1 : Int32) (l2 : Value) (l3 : Value) (x : Int32) (σ : Hs) : ru d 193 3 [l0, .int i1, l2, l3] [.int x] σ = ru d 193 4 [l0, .int i1, .int x, l3] [] σ := q_istore_n t193_3 ⟨Nat.le_of_ble_eq_true rfl, rfl⟩ rfl
theorem t193_4 : decode (mb 193) 4 = .ok (.iconst 0, 1) := by decide +kernel
theorem s193_4 (d : Nat) (l0 : Value) (l1 : Value) (l2 : Value) (l3 : Value) (σ : Hs) : ru d 193 4 [l0, l1, l2, l3] [] σ = ru d 193 5 [l0, l1, l2, l3] [.int 0] σ := q_iconst t193_4 (by decide +kernel)
theorem t193_5 : decode (mb 193) 5 = .ok (.istore_n 3, 1) := by decide +kernel
theorem s193_5 (d : Nat) (l0 : Value) (l1 : Value) (i2 : Int32) (l3 : Value) (x : Int32) (σ : Hs) : ru d 193 5 [l0, l1, .int i2, l3] [.int x] σ = ru d 193 6 [l0, l1, .int i2, .int x] [] σ := q_istore_n t193_5 ⟨Nat.le_of_ble_eq_true rfl, rfl⟩ rfl
theorem t193_6 : decode (mb 193) 6 = .ok (.iload_n 3, 1) := by decide +kernel
theorem s193_6 (d : Nat) (l0 : Value) (l1 : Value) (l2 : Value) (i3 : Int32) (σ : Hs) : ru d 193 6 [l0, l1, l2, .int i3] [] σ = ru d 193 7 [l0, l1, l2, .int i3] [.int i3] σ := q_iload_n t193_6 rfl
theorem t193_7 : decode (mb 193) 7 = .ok (.aload_n 0, 1) := by decide +kernel
theorem s193_7 (d : Nat) (a0 : Nat) (l1 : Value) (l2 : Value) (l3 : Value) (w0 : Value) (σ : Hs) : ru d 193 7 [.ref a0, l1, l2, l3] [w0] σ = ru d 193 8 [.ref a0, l1, l2, l3] [.ref a0, w0] σ := q_aload_n t193_7 rfl
theorem t193_8 : decode (mb 193) 8 = .ok (.getfield 9, 3) := by decide +kernel
theorem s193_8_o87 (d : Nat) (l0 : Value) (l1 : Value) (l2 : Value) (l3 : Value) (w0 : Value) (σ : Hs) : ru d 193 8 [l0, l1, l2, l3] [.ref 87, w0] σ = ru d 193 11 [l0, l1, l2, l3] [.ref 88, w0] σ := q_getf t193_8 mo193 F8_9 rfl rfl
theorem t193_11 : decode (mb 193) 11 = .ok (.bipush 13, 2) := by decide +kernel
theorem s193_11 (d : Nat) (l0 : Value) (l1 : Value) (l2 : Value) (l3 : Value) (w0 w1 : Value) (σ : Hs) : ru d 193 11 [l0, l1, l2, l3] [w0, w1] σ = ru d 193 13 [l0, l1, l2, l3] [.int 13, w0, w1] σ := q_bipush t193_11 (by decide +kernel)
theorem t193_13 : decode (mb 193) 13 = .ok (.iaload, 1) := by decide +kernel
theorem s193_13_o88 (d : Nat) (l0 : Value) (l1 : Value) (l2 : Value) (l3 : Value) (i : Int32) (w0 : Value) (σ : Hs) : ru d 193 13 [l0, l1, l2, l3] [.int i, .ref 88, w0] σ = gd (vp_in i 545) (ru d 193 14 [l0, l1, l2, l3] [.int (σ 88 i.toNatClampNeg), w0] σ) := q_iald t193_13 rfl (by decide +kernel) rfl
theorem t193_14 : decode (mb 193) 14 = .ok (.if_icmp .ge 26, 3) := by decide +kernel
theorem s193_14 (d : Nat) (l0 : Value) (l1 : Value) (l2 : Value) (l3 : Value) (x y : Int32) (σ : Hs) : ru d 193 14 [l0, l1, l2, l3] [.int y, .int x] σ = if y ≤ x then ru d 193 40 [l0, l1, l2, l3] [] σ else ru d 193 17 [l0, l1, l2, l3] [] σ := q_ic_ge t193_14 (by decide +kernel)
theorem t193_17 : decode (mb 193) 17 = .ok (.iload_n 2, 1) := by decide +kernel
theorem s193_17 (d : Nat) (l0 : Value) (l1 : Value) (i2 : Int32) (l3 : Value) (σ : Hs) : ru d 193 17 [l0, l1, .int i2, l3] [] σ = ru d 193 18 [l0, l1, .int i2, l3] [.int i2] σ := q_iload_n t193_17 rfl
theorem t193_18 : decode (mb 193) 18 = .ok (.iload_n 3, 1) := by decide +kernel
theorem s193_18 (d : Nat) (l0 : Value) (l1 : Value) (l2 : Value) (i3 : Int32) (w0 : Value) (σ : Hs) : ru d 193 18 [l0, l1, l2, .int i3] [w0] σ = ru d 193 19 [l0, l1, l2, .int i3] [.int i3, w0] σ := q_iload_n t193_18 rfl
theorem t193_19 : decode (mb 193) 19 = .ok (.iload_n 1, 1) := by decide +kernel
theorem s193_19 (d : Nat) (l0 : Value) (i1 : Int32) (l2 : Value) (l3 : Value) (w0 w1 : Value) (σ : Hs) : ru d 193 19 [l0, .int i1, l2, l3] [w0, w1] σ = ru d 193 20 [l0, .int i1, l2, l3] [.int i1, w0, w1] σ := q_iload_n t193_19 rfl
theorem t193_20 : decode (mb 193) 20 = .ok (.if_icmp .ne 7, 3) := by decide +kernel
theorem s193_20 (d : Nat) (l0 : Value) (l1 : Value) (l2 : Value) (l3 : Value) (x y : Int32) (w0 : Value) (σ : Hs) : ru d 193 20 [l0, l1, l2, l3] [.int y, .int x, w0] σ = if x = y then ru d 193 23 [l0, l1, l2, l3] [w0] σ else ru d 193 27 [l0, l1, l2, l3] [w0] σ := q_ic_ne t193_20 (by decide +kernel)
theorem t193_23 : decode (mb 193) 23 = .ok (.iconst (-1), 1) := by decide +kernel
theorem s193_23 (d : Nat) (l0 : Value) (l1 : Value) (l2 : Value) (l3 : Value) (w0 : Value) (σ : Hs) : ru d 193 23 [l0, l1, l2, l3] [w0] σ = ru d 193 24 [l0, l1, l2, l3] [.int (-1), w0] σ := q_iconst t193_23 (by decide +kernel)
theorem t193_24 : decode (mb 193) 24 = .ok (.goto 8, 3) := by decide +kernel
theorem s193_24 (d : Nat) (l0 : Value) (l1 : Value) (l2 : Value) (l3 : Value) (w0 w1 : Value) (σ : Hs) : ru d 193 24 [l0, l1, l2, l3] [w0, w1] σ = ru d 193 32 [l0, l1, l2, l3] [w0, w1] σ := q_goto t193_24 (by decide +kernel)
theorem t193_27 : decode (mb 193) 27 = .ok (.aload_n 0, 1) := by decide +kernel
theorem s193_27 (d : Nat) (a0 : Nat) (l1 : Value) (l2 : Value) (l3 : Value) (w0 : Value) (σ : Hs) : ru d 193 27 [.ref a0, l1, l2, l3] [w0] σ = ru d 193 28 [.ref a0, l1, l2, l3] [.ref a0, w0] σ := q_aload_n t193_27 rfl
theorem t193_28 : decode (mb 193) 28 = .ok (.iload_n 3, 1) := by decide +kernel
theorem s193_28 (d : Nat) (l0 : Value) (l1 : Value) (l2 : Value) (i3 : Int32) (w0 w1 : Value) (σ : Hs) : ru d 193 28 [l0, l1, l2, .int i3] [w0, w1] σ = ru d 193 29 [l0, l1, l2, .int i3] [.int i3, w0, w1] σ := q_iload_n t193_28 rfl
theorem t193_29 : decode (mb 193) 29 = .ok (.invokevirtual 297, 3) := by decide +kernel
theorem s193_29_o87 (d : Nat) (l0 : Value) (l1 : Value) (l2 : Value) (l3 : Value) (v1 : Value) (w0 : Int32) (σ : Hs) : ru d 193 29 [l0, l1, l2, l3] [v1, .ref 87, .int w0] σ = kont (callD d 192 [.ref 87, v1] σ) d 193 32 [l0, l1, l2, l3] [.int w0] := q_invv t193_29 mo193 K8_297 mj192 rfl rfl rfl rfl (Nat.le_of_ble_eq_true rfl)
theorem t193_32 : decode (mb 193) 32 = .ok (.iand, 1) := by decide +kernel
theorem s193_32 (d : Nat) (l0 : Value) (l1 : Value) (l2 : Value) (l3 : Value) (x y : Int32) (σ : Hs) : ru d 193 32 [l0, l1, l2, l3] [.int y, .int x] σ = ru d 193 33 [l0, l1, l2, l3] [.int (x &&& y)] σ := q_iand t193_32
theorem t193_33 : decode (mb 193) 33 = .ok (.istore_n 2, 1) := by decide +kernel
theorem s193_33 (d : Nat) (l0 : Value) (i1 : Int32) (l2 : Value) (l3 : Value) (x : Int32) (σ : Hs) : ru d 193 33 [l0, .int i1, l2, l3] [.int x] σ = ru d 193 34 [l0, .int i1, .int x, l3] [] σ := q_istore_n t193_33 ⟨Nat.le_of_ble_eq_true rfl, rfl⟩ rfl
theorem t193_34 : decode (mb 193) 34 = .ok (.iinc 3 1, 3) := by decide +kernel
theorem s193_34 (d : Nat) (l0 : Value) (l1 : Value) (i2 : Int32) (i3 : Int32) (σ : Hs) : ru d 193 34 [l0, l1, .int i2, .int i3] [] σ = ru d 193 37 [l0, l1, .int i2, .int (i3 + 1)] [] σ := q_iinc t193_34 ⟨Nat.le_of_ble_eq_true rfl, rfl⟩ rfl (by decide +kernel) rfl
theorem t193_37 : decode (mb 193) 37 = .ok (.goto (-31), 3) := by decide +kernel
theorem s193_37 (d : Nat) (l0 : Value) (l1 : Value) (l2 : Value) (l3 : Value) (σ : Hs) : ru d 193 37 [l0, l1, l2, l3] [] σ = ru d 193 6 [l0, l1, l2, l3] [] σ := q_goto t193_37 (by decide +kernel)
theorem t193_40 : decode (mb 193) 40 = .ok (.iload_n 2, 1) := by decide +kernel
theorem s193_40 (d : Nat) (l0 : Value) (l1 : Value) (i2 : Int32) (l3 : Value) (σ : Hs) : ru d 193 40 [l0, l1, .int i2, l3] [] σ = ru d 193 41 [l0, l1, .int i2, l3] [.int i2] σ := q_iload_n t193_40 rfl
theorem t193_41 : decode (mb 193) 41 = .ok (.ireturn, 1) := by decide +kernel
theorem s193_41 (d : Nat) (l0 : Value) (l1 : Value) (l2 : Value) (l3 : Value) (x : Int32) (σ : Hs) : ru d 193 41 [l0, l1, l2, l3] [.int x] σ = some (some (.int x), σ) := q_ireti t193_41 mr193
theorem c193 (d : Nat) (x0 : Nat) (x1 : Int32) (σ : Hs) : callD (d + 1) 193 [.ref x0, .int x1] σ = ru d 193 0 [.ref x0, .int x1, uu, uu] [] σ := callD_ru ml193 rfl rfl (Nat.le_of_ble_eq_true rfl)
-- 194: Model.suspects()I
theorem t194_0 : decode (mb 194) 0 = .ok (.aload_n 0, 1) := by decide +kernel
theorem s194_0 (d : Nat) (a0 : Nat) (σ : Hs) : ru d 194 0 [.ref a0] [] σ = ru d 194 1 [.ref a0] [.ref a0] σ := q_aload_n t194_0 rfl
theorem t194_1 : decode (mb 194) 1 = .ok (.iconst (-1), 1) := by decide +kernel
theorem s194_1 (d : Nat) (l0 : Value) (w0 : Value) (σ : Hs) : ru d 194 1 [l0] [w0] σ = ru d 194 2 [l0] [.int (-1), w0] σ := q_iconst t194_1 (by decide +kernel)
theorem t194_2 : decode (mb 194) 2 = .ok (.invokevirtual 300, 3) := by decide +kernel
theorem s194_2_o87 (d : Nat) (l0 : Value) (v1 : Value) (σ : Hs) : ru d 194 2 [l0] [v1, .ref 87] σ = kont (callD d 193 [.ref 87, v1] σ) d 194 5 [l0] [] := q_invv t194_2 mo194 K8_300 mj193 rfl rfl rfl rfl (Nat.le_of_ble_eq_true rfl)
theorem t194_5 : decode (mb 194) 5 = .ok (.ireturn, 1) := by decide +kernel
theorem s194_5 (d : Nat) (l0 : Value) (x : Int32) (σ : Hs) : ru d 194 5 [l0] [.int x] σ = some (some (.int x), σ) := q_ireti t194_5 mr194
theorem c194 (d : Nat) (x0 : Nat) (σ : Hs) : callD (d + 1) 194 [.ref x0] σ = ru d 194 0 [.ref x0] [] σ := callD_ru ml194 rfl rfl (Nat.le_of_ble_eq_true rfl)
-- 195: Model.liar()I
theorem t195_0 : decode (mb 195) 0 = .ok (.iconst (-1), 1) := by decide +kernel
theorem s195_0 (d : Nat) (l0 : Value) (l1 : Value) (l2 : Value) (l3 : Value) (l4 : Value) (σ : Hs) : ru d 195 0 [l0, l1, l2, l3, l4] [] σ = ru d 195 1 [l0, l1, l2, l3, l4] [.int (-1)] σ := q_iconst t195_0 (by decide +kernel)
theorem t195_1 : decode (mb 195) 1 = .ok (.istore_n 1, 1) := by decide +kernel
theorem s195_1 (d : Nat) (a0 : Nat) (l1 : Value) (l2 : Value) (l3 : Value) (l4 : Value) (x : Int32) (σ : Hs) : ru d 195 1 [.ref a0, l1, l2, l3, l4] [.int x] σ = ru d 195 2 [.ref a0, .int x, l2, l3, l4] [] σ := q_istore_n t195_1 ⟨Nat.le_of_ble_eq_true rfl, rfl⟩ rfl
theorem t195_2 : decode (mb 195) 2 = .ok (.iconst (-1), 1) := by decide +kernel
theorem s195_2 (d : Nat) (l0 : Value) (l1 : Value) (l2 : Value) (l3 : Value) (l4 : Value) (σ : Hs) : ru d 195 2 [l0, l1, l2, l3, l4] [] σ = ru d 195 3 [l0, l1, l2, l3, l4] [.int (-1)] σ := q_iconst t195_2 (by decide +kernel)
theorem t195_3 : decode (mb 195) 3 = .ok (.istore_n 2, 1) := by decide +kernel
theorem s195_3 (d : Nat) (l0 : Value) (i1 : Int32) (l2 : Value) (l3 : Value) (l4 : Value) (x : Int32) (σ : Hs) : ru d 195 3 [l0, .int i1, l2, l3, l4] [.int x] σ = ru d 195 4 [l0, .int i1, .int x, l3, l4] [] σ := q_istore_n t195_3 ⟨Nat.le_of_ble_eq_true rfl, rfl⟩ rfl
theorem t195_4 : decode (mb 195) 4 = .ok (.iconst 0, 1) := by decide +kernel
theorem s195_4 (d : Nat) (l0 : Value) (l1 : Value) (l2 : Value) (l3 : Value) (l4 : Value) (σ : Hs) : ru d 195 4 [l0, l1, l2, l3, l4] [] σ = ru d 195 5 [l0, l1, l2, l3, l4] [.int 0] σ := q_iconst t195_4 (by decide +kernel)
theorem t195_5 : decode (mb 195) 5 = .ok (.istore_n 3, 1) := by decide +kernel
theorem s195_5 (d : Nat) (l0 : Value) (l1 : Value) (i2 : Int32) (l3 : Value) (l4 : Value) (x : Int32) (σ : Hs) : ru d 195 5 [l0, l1, .int i2, l3, l4] [.int x] σ = ru d 195 6 [l0, l1, .int i2, .int x, l4] [] σ := q_istore_n t195_5 ⟨Nat.le_of_ble_eq_true rfl, rfl⟩ rfl
theorem t195_6 : decode (mb 195) 6 = .ok (.iload_n 3, 1) := by decide +kernel
theorem s195_6 (d : Nat) (l0 : Value) (l1 : Value) (l2 : Value) (i3 : Int32) (l4 : Value) (σ : Hs) : ru d 195 6 [l0, l1, l2, .int i3, l4] [] σ = ru d 195 7 [l0, l1, l2, .int i3, l4] [.int i3] σ := q_iload_n t195_6 rfl
theorem t195_7 : decode (mb 195) 7 = .ok (.aload_n 0, 1) := by decide +kernel
theorem s195_7 (d : Nat) (a0 : Nat) (l1 : Value) (l2 : Value) (l3 : Value) (l4 : Value) (w0 : Value) (σ : Hs) : ru d 195 7 [.ref a0, l1, l2, l3, l4] [w0] σ = ru d 195 8 [.ref a0, l1, l2, l3, l4] [.ref a0, w0] σ := q_aload_n t195_7 rfl
theorem t195_8 : decode (mb 195) 8 = .ok (.getfield 9, 3) := by decide +kernel
theorem s195_8_o87 (d : Nat) (l0 : Value) (l1 : Value) (l2 : Value) (l3 : Value) (l4 : Value) (w0 : Value) (σ : Hs) : ru d 195 8 [l0, l1, l2, l3, l4] [.ref 87, w0] σ = ru d 195 11 [l0, l1, l2, l3, l4] [.ref 88, w0] σ := q_getf t195_8 mo195 F8_9 rfl rfl
theorem t195_11 : decode (mb 195) 11 = .ok (.bipush 13, 2) := by decide +kernel
theorem s195_11 (d : Nat) (l0 : Value) (l1 : Value) (l2 : Value) (l3 : Value) (l4 : Value) (w0 w1 : Value) (σ : Hs) : ru d 195 11 [l0, l1, l2, l3, l4] [w0, w1] σ = ru d 195 13 [l0, l1, l2, l3, l4] [.int 13, w0, w1] σ := q_bipush t195_11 (by decide +kernel)
theorem t195_13 : decode (mb 195) 13 = .ok (.iaload, 1) := by decide +kernel
theorem s195_13_o88 (d : Nat) (l0 : Value) (l1 : Value) (l2 : Value) (l3 : Value) (l4 : Value) (i : Int32) (w0 : Value) (σ : Hs) : ru d 195 13 [l0, l1, l2, l3, l4] [.int i, .ref 88, w0] σ = gd (vp_in i 545) (ru d 195 14 [l0, l1, l2, l3, l4] [.int (σ 88 i.toNatClampNeg), w0] σ) := q_iald t195_13 rfl (by decide +kernel) rfl
theorem t195_14 : decode (mb 195) 14 = .ok (.if_icmp .ge 30, 3) := by decide +kernel
theorem s195_14 (d : Nat) (l0 : Value) (l1 : Value) (l2 : Value) (l3 : Value) (l4 : Value) (x y : Int32) (σ : Hs) : ru d 195 14 [l0, l1, l2, l3, l4] [.int y, .int x] σ = if y ≤ x then ru d 195 44 [l0, l1, l2, l3, l4] [] σ else ru d 195 17 [l0, l1, l2, l3, l4] [] σ := q_ic_ge t195_14 (by decide +kernel)
theorem t195_17 : decode (mb 195) 17 = .ok (.aload_n 0, 1) := by decide +kernel
theorem s195_17 (d : Nat) (a0 : Nat) (l1 : Value) (l2 : Value) (l3 : Value) (l4 : Value) (σ : Hs) : ru d 195 17 [.ref a0, l1, l2, l3, l4] [] σ = ru d 195 18 [.ref a0, l1, l2, l3, l4] [.ref a0] σ := q_aload_n t195_17 rfl
theorem t195_18 : decode (mb 195) 18 = .ok (.iload_n 3, 1) := by decide +kernel
theorem s195_18 (d : Nat) (l0 : Value) (l1 : Value) (l2 : Value) (i3 : Int32) (l4 : Value) (w0 : Value) (σ : Hs) : ru d 195 18 [l0, l1, l2, .int i3, l4] [w0] σ = ru d 195 19 [l0, l1, l2, .int i3, l4] [.int i3, w0] σ := q_iload_n t195_18 rfl
theorem t195_19 : decode (mb 195) 19 = .ok (.invokevirtual 300, 3) := by decide +kernel
theorem s195_19_o87 (d : Nat) (l0 : Value) (l1 : Value) (l2 : Value) (l3 : Value) (l4 : Value) (v1 : Value) (σ : Hs) : ru d 195 19 [l0, l1, l2, l3, l4] [v1, .ref 87] σ = kont (callD d 193 [.ref 87, v1] σ) d 195 22 [l0, l1, l2, l3, l4] [] := q_invv t195_19 mo195 K8_300 mj193 rfl rfl rfl rfl (Nat.le_of_ble_eq_true rfl)
theorem t195_22 : decode (mb 195) 22 = .ok (.invokestatic 294, 3) := by decide +kernel
theorem s195_22 (d : Nat) (l0 : Value) (l1 : Value) (l2 : Value) (l3 : Value) (l4 : Value) (v0 : Value) (σ : Hs) : ru d 195 22 [l0, l1, l2, l3, l4] [v0] σ = kont (callD d 190 [v0] σ) d 195 25 [l0, l1, l2, l3, l4] [] := q_invs t195_22 mo195 (by decide +kernel) K8_294 mj190 (Nat.le_of_ble_eq_true rfl) rfl rfl (Nat.le_of_ble_eq_true rfl)
theorem t195_25 : decode (mb 195) 25 = .ok (.istore 4, 2) := by decide +kernel
theorem s195_25 (d : Nat) (l0 : Value) (l1 : Value) (l2 : Value) (i3 : Int32) (l4 : Value) (x : Int32) (σ : Hs) : ru d 195 25 [l0, l1, l2, .int i3, l4] [.int x] σ = ru d 195 27 [l0, l1, l2, .int i3, .int x] [] σ := q_istore t195_25 ⟨Nat.le_of_ble_eq_true rfl, rfl⟩ rfl
theorem t195_27 : decode (mb 195) 27 = .ok (.iload 4, 2) := by decide +kernel
theorem s195_27 (d : Nat) (l0 : Value) (l1 : Value) (l2 : Value) (l3 : Value) (i4 : Int32) (σ : Hs) : ru d 195 27 [l0, l1, l2, l3, .int i4] [] σ = ru d 195 29 [l0, l1, l2, l3, .int i4] [.int i4] σ := q_iload t195_27 rfl
theorem t195_29 : decode (mb 195) 29 = .ok (.iload_n 2, 1) := by decide +kernel
theorem s195_29 (d : Nat) (l0 : Value) (l1 : Value) (i2 : Int32) (l3 : Value) (l4 : Value) (w0 : Value) (σ : Hs) : ru d 195 29 [l0, l1, .int i2, l3, l4] [w0] σ = ru d 195 30 [l0, l1, .int i2, l3, l4] [.int i2, w0] σ := q_iload_n t195_29 rfl
theorem t195_30 : decode (mb 195) 30 = .ok (.if_icmp .le 8, 3) := by decide +kernel
theorem s195_30 (d : Nat) (l0 : Value) (l1 : Value) (l2 : Value) (l3 : Value) (l4 : Value) (x y : Int32) (σ : Hs) : ru d 195 30 [l0, l1, l2, l3, l4] [.int y, .int x] σ = if x ≤ y then ru d 195 38 [l0, l1, l2, l3, l4] [] σ else ru d 195 33 [l0, l1, l2, l3, l4] [] σ := q_ic_le t195_30 (by decide +kernel)
theorem t195_33 : decode (mb 195) 33 = .ok (.iload_n 3, 1) := by decide +kernel
theorem s195_33 (d : Nat) (l0 : Value) (l1 : Value) (l2 : Value) (i3 : Int32) (l4 : Value) (σ : Hs) : ru d 195 33 [l0, l1, l2, .int i3, l4] [] σ = ru d 195 34 [l0, l1, l2, .int i3, l4] [.int i3] σ := q_iload_n t195_33 rfl
theorem t195_34 : decode (mb 195) 34 = .ok (.istore_n 1, 1) := by decide +kernel
theorem s195_34 (d : Nat) (a0 : Nat) (l1 : Value) (l2 : Value) (l3 : Value) (l4 : Value) (x : Int32) (σ : Hs) : ru d 195 34 [.ref a0, l1, l2, l3, l4] [.int x] σ = ru d 195 35 [.ref a0, .int x, l2, l3, l4] [] σ := q_istore_n t195_34 ⟨Nat.le_of_ble_eq_true rfl, rfl⟩ rfl
theorem t195_35 : decode (mb 195) 35 = .ok (.iload 4, 2) := by decide +kernel
theorem s195_35 (d : Nat) (l0 : Value) (l1 : Value) (l2 : Value) (l3 : Value) (i4 : Int32) (σ : Hs) : ru d 195 35 [l0, l1, l2, l3, .int i4] [] σ = ru d 195 37 [l0, l1, l2, l3, .int i4] [.int i4] σ := q_iload t195_35 rfl
theorem t195_37 : decode (mb 195) 37 = .ok (.istore_n 2, 1) := by decide +kernel
theorem s195_37 (d : Nat) (l0 : Value) (i1 : Int32) (l2 : Value) (l3 : Value) (l4 : Value) (x : Int32) (σ : Hs) : ru d 195 37 [l0, .int i1, l2, l3, l4] [.int x] σ = ru d 195 38 [l0, .int i1, .int x, l3, l4] [] σ := q_istore_n t195_37 ⟨Nat.le_of_ble_eq_true rfl, rfl⟩ rfl
theorem t195_38 : decode (mb 195) 38 = .ok (.iinc 3 1, 3) := by decide +kernel
theorem s195_38 (d : Nat) (l0 : Value) (l1 : Value) (i2 : Int32) (i3 : Int32) (l4 : Value) (σ : Hs) : ru d 195 38 [l0, l1, .int i2, .int i3, l4] [] σ = ru d 195 41 [l0, l1, .int i2, .int (i3 + 1), l4] [] σ := q_iinc t195_38 ⟨Nat.le_of_ble_eq_true rfl, rfl⟩ rfl (by decide +kernel) rfl
theorem t195_41 : decode (mb 195) 41 = .ok (.goto (-35), 3) := by decide +kernel
theorem s195_41 (d : Nat) (l0 : Value) (l1 : Value) (l2 : Value) (l3 : Value) (l4 : Value) (σ : Hs) : ru d 195 41 [l0, l1, l2, l3, l4] [] σ = ru d 195 6 [l0, l1, l2, l3, l4] [] σ := q_goto t195_41 (by decide +kernel)
theorem t195_44 : decode (mb 195) 44 = .ok (.iload_n 1, 1) := by decide +kernel
theorem s195_44 (d : Nat) (l0 : Value) (i1 : Int32) (l2 : Value) (l3 : Value) (l4 : Value) (σ : Hs) : ru d 195 44 [l0, .int i1, l2, l3, l4] [] σ = ru d 195 45 [l0, .int i1, l2, l3, l4] [.int i1] σ := q_iload_n t195_44 rfl
theorem t195_45 : decode (mb 195) 45 = .ok (.ifCond .ge 12, 3) := by decide +kernel
theorem s195_45 (d : Nat) (l0 : Value) (l1 : Value) (l2 : Value) (l3 : Value) (l4 : Value) (x : Int32) (σ : Hs) : ru d 195 45 [l0, l1, l2, l3, l4] [.int x] σ = if 0 ≤ x then ru d 195 57 [l0, l1, l2, l3, l4] [] σ else ru d 195 48 [l0, l1, l2, l3, l4] [] σ := q_if_ge t195_45 (by decide +kernel)
theorem t195_48 : decode (mb 195) 48 = .ok (.aload_n 0, 1) := by decide +kernel
theorem s195_48 (d : Nat) (a0 : Nat) (l1 : Value) (l2 : Value) (l3 : Value) (l4 : Value) (σ : Hs) : ru d 195 48 [.ref a0, l1, l2, l3, l4] [] σ = ru d 195 49 [.ref a0, l1, l2, l3, l4] [.ref a0] σ := q_aload_n t195_48 rfl
theorem t195_49 : decode (mb 195) 49 = .ok (.ldc 116, 2) := by decide +kernel
theorem s195_49 (d : Nat) (l0 : Value) (l1 : Value) (l2 : Value) (l3 : Value) (l4 : Value) (w0 : Value) (σ : Hs) : ru d 195 49 [l0, l1, l2, l3, l4] [w0] σ = ru d 195 51 [l0, l1, l2, l3, l4] [.int (-1000002), w0] σ := q_ldc t195_49 mo195 C8_116
theorem t195_51 : decode (mb 195) 51 = .ok (.invokevirtual 105, 3) := by decide +kernel
theorem s195_51_o87 (d : Nat) (l0 : Value) (l1 : Value) (l2 : Value) (l3 : Value) (l4 : Value) (v1 : Value) (σ : Hs) : ru d 195 51 [l0, l1, l2, l3, l4] [v1, .ref 87] σ = kont (callD d 111 [.ref 87, v1] σ) d 195 54 [l0, l1, l2, l3, l4] [] := q_invv t195_51 mo195 K8_105 mj111 rfl rfl rfl rfl (Nat.le_of_ble_eq_true rfl)
theorem t195_54 : decode (mb 195) 54 = .ok (.goto 4, 3) := by decide +kernel
theorem s195_54 (d : Nat) (l0 : Value) (l1 : Value) (l2 : Value) (l3 : Value) (l4 : Value) (w0 : Value) (σ : Hs) : ru d 195 54 [l0, l1, l2, l3, l4] [w0] σ = ru d 195 58 [l0, l1, l2, l3, l4] [w0] σ := q_goto t195_54 (by decide +kernel)
theorem t195_57 : decode (mb 195) 57 = .ok (.iload_n 1, 1) := by decide +kernel
theorem s195_57 (d : Nat) (l0 : Value) (i1 : Int32) (l2 : Value) (l3 : Value) (l4 : Value) (σ : Hs) : ru d 195 57 [l0, .int i1, l2, l3, l4] [] σ = ru d 195 58 [l0, .int i1, l2, l3, l4] [.int i1] σ := q_iload_n t195_57 rfl
theorem t195_58 : decode (mb 195) 58 = .ok (.ireturn, 1) := by decide +kernel
theorem s195_58 (d : Nat) (l0 : Value) (l1 : Value) (l2 : Value) (l3 : Value) (l4 : Value) (x : Int32) (σ : Hs) : ru d 195 58 [l0, l1, l2, l3, l4] [.int x] σ = some (some (.int x), σ) := q_ireti t195_58 mr195
theorem c195 (d : Nat) (x0 : Nat) (σ : Hs) : callD (d + 1) 195 [.ref x0] σ = ru d 195 0 [.ref x0, uu, uu, uu, uu] [] σ := callD_ru ml195 rfl rfl (Nat.le_of_ble_eq_true rfl)
-- 196: Model.began(I)V
theorem t196_0 : decode (mb 196) 0 = .ok (.aload_n 0, 1) := by decide +kernel
theorem s196_0 (d : Nat) (a0 : Nat) (l1 : Value) (σ : Hs) : ru d 196 0 [.ref a0, l1] [] σ = ru d 196 1 [.ref a0, l1] [.ref a0] σ := q_aload_n t196_0 rfl
theorem t196_1 : decode (mb 196) 1 = .ok (.getfield 303, 3) := by decide +kernel
theorem s196_1_o87 (d : Nat) (l0 : Value) (l1 : Value) (σ : Hs) : ru d 196 1 [l0, l1] [.ref 87] σ = ru d 196 4 [l0, l1] [.int (σ 87 19)] σ := q_getf t196_1 mo196 F8_303 rfl rfl
theorem t196_4 : decode (mb 196) 4 = .ok (.bipush 30, 2) := by decide +kernel
theorem s196_4 (d : Nat) (l0 : Value) (l1 : Value) (w0 : Value) (σ : Hs) : ru d 196 4 [l0, l1] [w0] σ = ru d 196 6 [l0, l1] [.int 30, w0] σ := q_bipush t196_4 (by decide +kernel)
theorem t196_6 : decode (mb 196) 6 = .ok (.if_icmp .ge 23, 3) := by decide +kernel
theorem s196_6 (d : Nat) (l0 : Value) (l1 : Value) (x y : Int32) (σ : Hs) : ru d 196 6 [l0, l1] [.int y, .int x] σ = if y ≤ x then ru d 196 29 [l0, l1] [] σ else ru d 196 9 [l0, l1] [] σ := q_ic_ge t196_6 (by decide +kernel)
theorem t196_9 : decode (mb 196) 9 = .ok (.aload_n 0, 1) := by decide +kernel
theorem s196_9 (d : Nat) (a0 : Nat) (l1 : Value) (σ : Hs) : ru d 196 9 [.ref a0, l1] [] σ = ru d 196 10 [.ref a0, l1] [.ref a0] σ := q_aload_n t196_9 rfl
theorem t196_10 : decode (mb 196) 10 = .ok (.getfield 52, 3) := by decide +kernel
theorem s196_10_o87 (d : Nat) (l0 : Value) (l1 : Value) (σ : Hs) : ru d 196 10 [l0, l1] [.ref 87] σ = ru d 196 13 [l0, l1] [.ref 99] σ := q_getf t196_10 mo196 F8_52 rfl rfl
theorem t196_13 : decode (mb 196) 13 = .ok (.aload_n 0, 1) := by decide +kernel
theorem s196_13 (d : Nat) (a0 : Nat) (l1 : Value) (w0 : Value) (σ : Hs) : ru d 196 13 [.ref a0, l1] [w0] σ = ru d 196 14 [.ref a0, l1] [.ref a0, w0] σ := q_aload_n t196_13 rfl
theorem t196_14 : decode (mb 196) 14 = .ok (.getfield 303, 3) := by decide +kernel
theorem s196_14_o87 (d : Nat) (l0 : Value) (l1 : Value) (w0 : Value) (σ : Hs) : ru d 196 14 [l0, l1] [.ref 87, w0] σ = ru d 196 17 [l0, l1] [.int (σ 87 19), w0] σ := q_getf t196_14 mo196 F8_303 rfl rfl
theorem t196_17 : decode (mb 196) 17 = .ok (.iload_n 1, 1) := by decide +kernel
theorem s196_17 (d : Nat) (l0 : Value) (i1 : Int32) (w0 w1 : Value) (σ : Hs) : ru d 196 17 [l0, .int i1] [w0, w1] σ = ru d 196 18 [l0, .int i1] [.int i1, w0, w1] σ := q_iload_n t196_17 rfl
theorem t196_18 : decode (mb 196) 18 = .ok (.iastore, 1) := by decide +kernel
theorem s196_18_o99 (d : Nat) (l0 : Value) (l1 : Value) (i x : Int32) (σ : Hs) : ru d 196 18 [l0, l1] [.int x, .int i, .ref 99] σ = gd (vp_in i 30) (ru d 196 19 [l0, l1] [] (up2 σ 99 i.toNatClampNeg x)) := q_iast t196_18 (by decide +kernel) rfl rfl
theorem t196_19 : decode (mb 196) 19 = .ok (.aload_n 0, 1) := by decide +kernel
theorem s196_19 (d : Nat) (a0 : Nat) (l1 : Value) (σ : Hs) : ru d 196 19 [.ref a0, l1] [] σ = ru d 196 20 [.ref a0, l1] [.ref a0] σ := q_aload_n t196_19 rfl
theorem t196_20 : decode (mb 196) 20 = .ok (.dup, 1) := by decide +kernel
theorem s196_20 (d : Nat) (l0 : Value) (l1 : Value) (x : Nat) (σ : Hs) : ru d 196 20 [l0, l1] [.ref x] σ = ru d 196 21 [l0, l1] [.ref x, .ref x] σ := q_dup t196_20 rfl
theorem t196_21 : decode (mb 196) 21 = .ok (.getfield 303, 3) := by decide +kernel
theorem s196_21_o87 (d : Nat) (l0 : Value) (l1 : Value) (w0 : Value) (σ : Hs) : ru d 196 21 [l0, l1] [.ref 87, w0] σ = ru d 196 24 [l0, l1] [.int (σ 87 19), w0] σ := q_getf t196_21 mo196 F8_303 rfl rfl
theorem t196_24 : decode (mb 196) 24 = .ok (.iconst 1, 1) := by decide +kernel
theorem s196_24 (d : Nat) (l0 : Value) (l1 : Value) (w0 w1 : Value) (σ : Hs) : ru d 196 24 [l0, l1] [w0, w1] σ = ru d 196 25 [l0, l1] [.int 1, w0, w1] σ := q_iconst t196_24 (by decide +kernel)
theorem t196_25 : decode (mb 196) 25 = .ok (.iadd, 1) := by decide +kernel
theorem s196_25 (d : Nat) (l0 : Value) (l1 : Value) (x y : Int32) (w0 : Value) (σ : Hs) : ru d 196 25 [l0, l1] [.int y, .int x, w0] σ = ru d 196 26 [l0, l1] [.int (x + y), w0] σ := q_iadd t196_25
theorem t196_26 : decode (mb 196) 26 = .ok (.putfield 303, 3) := by decide +kernel
theorem s196_26_o87 (d : Nat) (l0 : Value) (l1 : Value) (x : Int32) (σ : Hs) : ru d 196 26 [l0, l1] [.int x, .ref 87] σ = ru d 196 29 [l0, l1] [] (up2 σ 87 19 x) := q_puti t196_26 mo196 F8_303 (by decide +kernel) rfl rfl
theorem t196_29 : decode (mb 196) 29 = .ok (.return_, 1) := by decide +kernel
theorem s196_29 (d : Nat) (l0 : Value) (l1 : Value) (σ : Hs) : ru d 196 29 [l0, l1] [] σ = some (none, σ) := q_vret t196_29 mr196
theorem c196 (d : Nat) (x0 : Nat) (x1 : Int32) (σ : Hs) : callD (d + 1) 196 [.ref x0, .int x1] σ = ru d 196 0 [.ref x0, .int x1] [] σ := callD_ru ml196 rfl rfl (Nat.le_of_ble_eq_true rfl)
-- 197: Model.hasOwn(II)Z
theorem t197_0 : decode (mb 197) 0 = .ok (.iload_n 0, 1) := by decide +kernel
theorem s197_0 (d : Nat) (i0 : Int32) (l1 : Value) (σ : Hs) : ru d 197 0 [.int i0, l1] [] σ = ru d 197 1 [.int i0, l1] [.int i0] σ := q_iload_n t197_0 rfl
theorem t197_1 : decode (mb 197) 1 = .ok (.tableswitch 100 0 5 #[39, 41, 56, 67, 78, 89], 39) := by decide +kernel
theorem f197_1 (x : Int32) : (tsw 0 5 #[39, 41, 56, 67, 78, 89] 100 x.toInt).bind (tgt 1) = some (if x = 0 then 40 else (if x = 1 then 42 else (if x = 2 then 57 else (if x = 3 then 68 else (if x = 4 then 79 else (if x = 5 then 90 else 101)))))) := by
  by_cases h0 : x = 0
  · subst h0; decide +kernel
  by_cases h1 : x = 1
  · subst h1; decide +kernel
  by_cases h2 : x = 2
  · subst h2; decide +kernel
  by_cases h3 : x = 3
  · subst h3; decide +kernel
  by_cases h4 : x = 4
  · subst h4; decide +kernel
  by_cases h5 : x = 5
  · subst h5; decide +kernel
  have e0 : ¬ x.toInt = 0 := fun h => h0 (Int32.toInt_inj.mp (h.trans (by decide +kernel)))
  have e1 : ¬ x.toInt = 1 := fun h => h1 (Int32.toInt_inj.mp (h.trans (by decide +kernel)))
  have e2 : ¬ x.toInt = 2 := fun h => h2 (Int32.toInt_inj.mp (h.trans (by decide +kernel)))
  have e3 : ¬ x.toInt = 3 := fun h => h3 (Int32.toInt_inj.mp (h.trans (by decide +kernel)))
  have e4 : ¬ x.toInt = 4 := fun h => h4 (Int32.toInt_inj.mp (h.trans (by decide +kernel)))
  have e5 : ¬ x.toInt = 5 := fun h => h5 (Int32.toInt_inj.mp (h.trans (by decide +kernel)))
  have e : x.toInt < 0 ∨ 5 < x.toInt := by omega
  unfold tsw
  rw [if_pos e, if_neg h0, if_neg h1, if_neg h2, if_neg h3, if_neg h4, if_neg h5]
  decide +kernel
theorem s197_1 (d : Nat) (l0 : Value) (l1 : Value) (x : Int32) (σ : Hs) : ru d 197 1 [l0, l1] [.int x] σ = if x = 0 then ru d 197 40 [l0, l1] [] σ else if x = 1 then ru d 197 42 [l0, l1] [] σ else if x = 2 then ru d 197 57 [l0, l1] [] σ else if x = 3 then ru d 197 68 [l0, l1] [] σ else if x = 4 then ru d 197 79 [l0, l1] [] σ else if x = 5 then ru d 197 90 [l0, l1] [] σ else ru d 197 101 [l0, l1] [] σ := by
  refine (q_tsw t197_1 (fun x => (if x = 0 then 40 else (if x = 1 then 42 else (if x = 2 then 57 else (if x = 3 then 68 else (if x = 4 then 79 else (if x = 5 then 90 else 101))))))) (f197_1 x)).trans ?_
  by_cases h0 : x = 0
  · rw [if_pos h0, if_pos h0]
  rw [if_neg h0, if_neg h0]
  by_cases h1 : x = 1
  · rw [if_pos h1, if_pos h1]
  rw [if_neg h1, if_neg h1]
  by_cases h2 : x = 2
  · rw [if_pos h2, if_pos h2]
  rw [if_neg h2, if_neg h2]
  by_cases h3 : x = 3
  · rw [if_pos h3, if_pos h3]
  rw [if_neg h3, if_neg h3]
  by_cases h4 : x = 4
  · rw [if_pos h4, if_pos h4]
  rw [if_neg h4, if_neg h4]
  by_cases h5 : x = 5
  · rw [if_pos h5, if_pos h5]
  rw [if_neg h5, if_neg h5]
theorem t197_40 : decode (mb 197) 40 = .ok (.iconst 1, 1) := by decide +kernel
theorem s197_40 (d : Nat) (l0 : Value) (l1 : Value) (σ : Hs) : ru d 197 40 [l0, l1] [] σ = ru d 197 41 [l0, l1] [.int 1] σ := q_iconst t197_40 (by decide +kernel)
theorem t197_41 : decode (mb 197) 41 = .ok (.ireturn, 1) := by decide +kernel
theorem s197_41 (d : Nat) (l0 : Value) (l1 : Value) (x : Int32) (hx : isB x) (σ : Hs) : ru d 197 41 [l0, l1] [.int x] σ = some (some (.int x), σ) := q_iretz t197_41 mr197 hx
theorem t197_42 : decode (mb 197) 42 = .ok (.iload_n 1, 1) := by decide +kernel
theorem s197_42 (d : Nat) (l0 : Value) (i1 : Int32) (σ : Hs) : ru d 197 42 [l0, .int i1] [] σ = ru d 197 43 [l0, .int i1] [.int i1] σ := q_iload_n t197_42 rfl
theorem t197_43 : decode (mb 197) 43 = .ok (.ifCond .eq 8, 3) := by decide +kernel
theorem s197_43 (d : Nat) (l0 : Value) (l1 : Value) (x : Int32) (σ : Hs) : ru d 197 43 [l0, l1] [.int x] σ = if x = 0 then ru d 197 51 [l0, l1] [] σ else ru d 197 46 [l0, l1] [] σ := q_if_eq t197_43 (by decide +kernel)
theorem t197_46 : decode (mb 197) 46 = .ok (.iload_n 1, 1) := by decide +kernel
theorem s197_46 (d : Nat) (l0 : Value) (i1 : Int32) (σ : Hs) : ru d 197 46 [l0, .int i1] [] σ = ru d 197 47 [l0, .int i1] [.int i1] σ := q_iload_n t197_46 rfl
theorem t197_47 : decode (mb 197) 47 = .ok (.iconst 3, 1) := by decide +kernel
theorem s197_47 (d : Nat) (l0 : Value) (l1 : Value) (w0 : Value) (σ : Hs) : ru d 197 47 [l0, l1] [w0] σ = ru d 197 48 [l0, l1] [.int 3, w0] σ := q_iconst t197_47 (by decide +kernel)
theorem t197_48 : decode (mb 197) 48 = .ok (.if_icmp .ne 7, 3) := by decide +kernel
theorem s197_48 (d : Nat) (l0 : Value) (l1 : Value) (x y : Int32) (σ : Hs) : ru d 197 48 [l0, l1] [.int y, .int x] σ = if x = y then ru d 197 51 [l0, l1] [] σ else ru d 197 55 [l0, l1] [] σ := q_ic_ne t197_48 (by decide +kernel)
theorem t197_51 : decode (mb 197) 51 = .ok (.iconst 1, 1) := by decide +kernel
theorem s197_51 (d : Nat) (l0 : Value) (l1 : Value) (σ : Hs) : ru d 197 51 [l0, l1] [] σ = ru d 197 52 [l0, l1] [.int 1] σ := q_iconst t197_51 (by decide +kernel)
theorem t197_52 : decode (mb 197) 52 = .ok (.goto 4, 3) := by decide +kernel
theorem s197_52 (d : Nat) (l0 : Value) (l1 : Value) (w0 : Value) (σ : Hs) : ru d 197 52 [l0, l1] [w0] σ = ru d 197 56 [l0, l1] [w0] σ := q_goto t197_52 (by decide +kernel)
theorem t197_55 : decode (mb 197) 55 = .ok (.iconst 0, 1) := by decide +kernel
theorem s197_55 (d : Nat) (l0 : Value) (l1 : Value) (σ : Hs) : ru d 197 55 [l0, l1] [] σ = ru d 197 56 [l0, l1] [.int 0] σ := q_iconst t197_55 (by decide +kernel)
theorem t197_56 : decode (mb 197) 56 = .ok (.ireturn, 1) := by decide +kernel
theorem s197_56 (d : Nat) (l0 : Value) (l1 : Value) (x : Int32) (hx : isB x) (σ : Hs) : ru d 197 56 [l0, l1] [.int x] σ = some (some (.int x), σ) := q_iretz t197_56 mr197 hx
theorem t197_57 : decode (mb 197) 57 = .ok (.iload_n 1, 1) := by decide +kernel
theorem s197_57 (d : Nat) (l0 : Value) (i1 : Int32) (σ : Hs) : ru d 197 57 [l0, .int i1] [] σ = ru d 197 58 [l0, .int i1] [.int i1] σ := q_iload_n t197_57 rfl
theorem t197_58 : decode (mb 197) 58 = .ok (.iconst 2, 1) := by decide +kernel
theorem s197_58 (d : Nat) (l0 : Value) (l1 : Value) (w0 : Value) (σ : Hs) : ru d 197 58 [l0, l1] [w0] σ = ru d 197 59 [l0, l1] [.int 2, w0] σ := q_iconst t197_58 (by decide +kernel)
theorem t197_59 : decode (mb 197) 59 = .ok (.if_icmp .ne 7, 3) := by decide +kernel
theorem s197_59 (d : Nat) (l0 : Value) (l1 : Value) (x y : Int32) (σ : Hs) : ru d 197 59 [l0, l1] [.int y, .int x] σ = if x = y then ru d 197 62 [l0, l1] [] σ else ru d 197 66 [l0, l1] [] σ := q_ic_ne t197_59 (by decide +kernel)
theorem t197_62 : decode (mb 197) 62 = .ok (.iconst 1, 1) := by decide +kernel
theorem s197_62 (d : Nat) (l0 : Value) (l1 : Value) (σ : Hs) : ru d 197 62 [l0, l1] [] σ = ru d 197 63 [l0, l1] [.int 1] σ := q_iconst t197_62 (by decide +kernel)
theorem t197_63 : decode (mb 197) 63 = .ok (.goto 4, 3) := by decide +kernel
theorem s197_63 (d : Nat) (l0 : Value) (l1 : Value) (w0 : Value) (σ : Hs) : ru d 197 63 [l0, l1] [w0] σ = ru d 197 67 [l0, l1] [w0] σ := q_goto t197_63 (by decide +kernel)
theorem t197_66 : decode (mb 197) 66 = .ok (.iconst 0, 1) := by decide +kernel
theorem s197_66 (d : Nat) (l0 : Value) (l1 : Value) (σ : Hs) : ru d 197 66 [l0, l1] [] σ = ru d 197 67 [l0, l1] [.int 0] σ := q_iconst t197_66 (by decide +kernel)
theorem t197_67 : decode (mb 197) 67 = .ok (.ireturn, 1) := by decide +kernel
theorem s197_67 (d : Nat) (l0 : Value) (l1 : Value) (x : Int32) (hx : isB x) (σ : Hs) : ru d 197 67 [l0, l1] [.int x] σ = some (some (.int x), σ) := q_iretz t197_67 mr197 hx
theorem t197_68 : decode (mb 197) 68 = .ok (.iload_n 1, 1) := by decide +kernel
theorem s197_68 (d : Nat) (l0 : Value) (i1 : Int32) (σ : Hs) : ru d 197 68 [l0, .int i1] [] σ = ru d 197 69 [l0, .int i1] [.int i1] σ := q_iload_n t197_68 rfl
theorem t197_69 : decode (mb 197) 69 = .ok (.iconst 2, 1) := by decide +kernel
theorem s197_69 (d : Nat) (l0 : Value) (l1 : Value) (w0 : Value) (σ : Hs) : ru d 197 69 [l0, l1] [w0] σ = ru d 197 70 [l0, l1] [.int 2, w0] σ := q_iconst t197_69 (by decide +kernel)
theorem t197_70 : decode (mb 197) 70 = .ok (.if_icmp .ge 7, 3) := by decide +kernel
theorem s197_70 (d : Nat) (l0 : Value) (l1 : Value) (x y : Int32) (σ : Hs) : ru d 197 70 [l0, l1] [.int y, .int x] σ = if y ≤ x then ru d 197 77 [l0, l1] [] σ else ru d 197 73 [l0, l1] [] σ := q_ic_ge t197_70 (by decide +kernel)
theorem t197_73 : decode (mb 197) 73 = .ok (.iconst 1, 1) := by decide +kernel
theorem s197_73 (d : Nat) (l0 : Value) (l1 : Value) (σ : Hs) : ru d 197 73 [l0, l1] [] σ = ru d 197 74 [l0, l1] [.int 1] σ := q_iconst t197_73 (by decide +kernel)
theorem t197_74 : decode (mb 197) 74 = .ok (.goto 4, 3) := by decide +kernel
theorem s197_74 (d : Nat) (l0 : Value) (l1 : Value) (w0 : Value) (σ : Hs) : ru d 197 74 [l0, l1] [w0] σ = ru d 197 78 [l0, l1] [w0] σ := q_goto t197_74 (by decide +kernel)
theorem t197_77 : decode (mb 197) 77 = .ok (.iconst 0, 1) := by decide +kernel
theorem s197_77 (d : Nat) (l0 : Value) (l1 : Value) (σ : Hs) : ru d 197 77 [l0, l1] [] σ = ru d 197 78 [l0, l1] [.int 0] σ := q_iconst t197_77 (by decide +kernel)
theorem t197_78 : decode (mb 197) 78 = .ok (.ireturn, 1) := by decide +kernel
theorem s197_78 (d : Nat) (l0 : Value) (l1 : Value) (x : Int32) (hx : isB x) (σ : Hs) : ru d 197 78 [l0, l1] [.int x] σ = some (some (.int x), σ) := q_iretz t197_78 mr197 hx
theorem t197_79 : decode (mb 197) 79 = .ok (.iload_n 1, 1) := by decide +kernel
theorem s197_79 (d : Nat) (l0 : Value) (i1 : Int32) (σ : Hs) : ru d 197 79 [l0, .int i1] [] σ = ru d 197 80 [l0, .int i1] [.int i1] σ := q_iload_n t197_79 rfl
theorem t197_80 : decode (mb 197) 80 = .ok (.iconst 1, 1) := by decide +kernel
theorem s197_80 (d : Nat) (l0 : Value) (l1 : Value) (w0 : Value) (σ : Hs) : ru d 197 80 [l0, l1] [w0] σ = ru d 197 81 [l0, l1] [.int 1, w0] σ := q_iconst t197_80 (by decide +kernel)
theorem t197_81 : decode (mb 197) 81 = .ok (.if_icmp .le 7, 3) := by decide +kernel
theorem s197_81 (d : Nat) (l0 : Value) (l1 : Value) (x y : Int32) (σ : Hs) : ru d 197 81 [l0, l1] [.int y, .int x] σ = if x ≤ y then ru d 197 88 [l0, l1] [] σ else ru d 197 84 [l0, l1] [] σ := q_ic_le t197_81 (by decide +kernel)
theorem t197_84 : decode (mb 197) 84 = .ok (.iconst 1, 1) := by decide +kernel
theorem s197_84 (d : Nat) (l0 : Value) (l1 : Value) (σ : Hs) : ru d 197 84 [l0, l1] [] σ = ru d 197 85 [l0, l1] [.int 1] σ := q_iconst t197_84 (by decide +kernel)
theorem t197_85 : decode (mb 197) 85 = .ok (.goto 4, 3) := by decide +kernel
theorem s197_85 (d : Nat) (l0 : Value) (l1 : Value) (w0 : Value) (σ : Hs) : ru d 197 85 [l0, l1] [w0] σ = ru d 197 89 [l0, l1] [w0] σ := q_goto t197_85 (by decide +kernel)
theorem t197_88 : decode (mb 197) 88 = .ok (.iconst 0, 1) := by decide +kernel
theorem s197_88 (d : Nat) (l0 : Value) (l1 : Value) (σ : Hs) : ru d 197 88 [l0, l1] [] σ = ru d 197 89 [l0, l1] [.int 0] σ := q_iconst t197_88 (by decide +kernel)
theorem t197_89 : decode (mb 197) 89 = .ok (.ireturn, 1) := by decide +kernel
theorem s197_89 (d : Nat) (l0 : Value) (l1 : Value) (x : Int32) (hx : isB x) (σ : Hs) : ru d 197 89 [l0, l1] [.int x] σ = some (some (.int x), σ) := q_iretz t197_89 mr197 hx
theorem t197_90 : decode (mb 197) 90 = .ok (.iload_n 1, 1) := by decide +kernel
theorem s197_90 (d : Nat) (l0 : Value) (i1 : Int32) (σ : Hs) : ru d 197 90 [l0, .int i1] [] σ = ru d 197 91 [l0, .int i1] [.int i1] σ := q_iload_n t197_90 rfl
theorem t197_91 : decode (mb 197) 91 = .ok (.iconst 1, 1) := by decide +kernel
theorem s197_91 (d : Nat) (l0 : Value) (l1 : Value) (w0 : Value) (σ : Hs) : ru d 197 91 [l0, l1] [w0] σ = ru d 197 92 [l0, l1] [.int 1, w0] σ := q_iconst t197_91 (by decide +kernel)
theorem t197_92 : decode (mb 197) 92 = .ok (.if_icmp .ne 7, 3) := by decide +kernel
theorem s197_92 (d : Nat) (l0 : Value) (l1 : Value) (x y : Int32) (σ : Hs) : ru d 197 92 [l0, l1] [.int y, .int x] σ = if x = y then ru d 197 95 [l0, l1] [] σ else ru d 197 99 [l0, l1] [] σ := q_ic_ne t197_92 (by decide +kernel)
theorem t197_95 : decode (mb 197) 95 = .ok (.iconst 1, 1) := by decide +kernel
theorem s197_95 (d : Nat) (l0 : Value) (l1 : Value) (σ : Hs) : ru d 197 95 [l0, l1] [] σ = ru d 197 96 [l0, l1] [.int 1] σ := q_iconst t197_95 (by decide +kernel)
theorem t197_96 : decode (mb 197) 96 = .ok (.goto 4, 3) := by decide +kernel
theorem s197_96 (d : Nat) (l0 : Value) (l1 : Value) (w0 : Value) (σ : Hs) : ru d 197 96 [l0, l1] [w0] σ = ru d 197 100 [l0, l1] [w0] σ := q_goto t197_96 (by decide +kernel)
theorem t197_99 : decode (mb 197) 99 = .ok (.iconst 0, 1) := by decide +kernel
theorem s197_99 (d : Nat) (l0 : Value) (l1 : Value) (σ : Hs) : ru d 197 99 [l0, l1] [] σ = ru d 197 100 [l0, l1] [.int 0] σ := q_iconst t197_99 (by decide +kernel)
theorem t197_100 : decode (mb 197) 100 = .ok (.ireturn, 1) := by decide +kernel
theorem s197_100 (d : Nat) (l0 : Value) (l1 : Value) (x : Int32) (hx : isB x) (σ : Hs) : ru d 197 100 [l0, l1] [.int x] σ = some (some (.int x), σ) := q_iretz t197_100 mr197 hx
theorem t197_101 : decode (mb 197) 101 = .ok (.iload_n 1, 1) := by decide +kernel
theorem s197_101 (d : Nat) (l0 : Value) (i1 : Int32) (σ : Hs) : ru d 197 101 [l0, .int i1] [] σ = ru d 197 102 [l0, .int i1] [.int i1] σ := q_iload_n t197_101 rfl
theorem t197_102 : decode (mb 197) 102 = .ok (.ifCond .eq 8, 3) := by decide +kernel
theorem s197_102 (d : Nat) (l0 : Value) (l1 : Value) (x : Int32) (σ : Hs) : ru d 197 102 [l0, l1] [.int x] σ = if x = 0 then ru d 197 110 [l0, l1] [] σ else ru d 197 105 [l0, l1] [] σ := q_if_eq t197_102 (by decide +kernel)
theorem t197_105 : decode (mb 197) 105 = .ok (.iload_n 1, 1) := by decide +kernel
theorem s197_105 (d : Nat) (l0 : Value) (i1 : Int32) (σ : Hs) : ru d 197 105 [l0, .int i1] [] σ = ru d 197 106 [l0, .int i1] [.int i1] σ := q_iload_n t197_105 rfl
theorem t197_106 : decode (mb 197) 106 = .ok (.iconst 2, 1) := by decide +kernel
theorem s197_106 (d : Nat) (l0 : Value) (l1 : Value) (w0 : Value) (σ : Hs) : ru d 197 106 [l0, l1] [w0] σ = ru d 197 107 [l0, l1] [.int 2, w0] σ := q_iconst t197_106 (by decide +kernel)
theorem t197_107 : decode (mb 197) 107 = .ok (.if_icmp .ne 7, 3) := by decide +kernel
theorem s197_107 (d : Nat) (l0 : Value) (l1 : Value) (x y : Int32) (σ : Hs) : ru d 197 107 [l0, l1] [.int y, .int x] σ = if x = y then ru d 197 110 [l0, l1] [] σ else ru d 197 114 [l0, l1] [] σ := q_ic_ne t197_107 (by decide +kernel)
theorem t197_110 : decode (mb 197) 110 = .ok (.iconst 1, 1) := by decide +kernel
theorem s197_110 (d : Nat) (l0 : Value) (l1 : Value) (σ : Hs) : ru d 197 110 [l0, l1] [] σ = ru d 197 111 [l0, l1] [.int 1] σ := q_iconst t197_110 (by decide +kernel)
theorem t197_111 : decode (mb 197) 111 = .ok (.goto 4, 3) := by decide +kernel
theorem s197_111 (d : Nat) (l0 : Value) (l1 : Value) (w0 : Value) (σ : Hs) : ru d 197 111 [l0, l1] [w0] σ = ru d 197 115 [l0, l1] [w0] σ := q_goto t197_111 (by decide +kernel)
theorem t197_114 : decode (mb 197) 114 = .ok (.iconst 0, 1) := by decide +kernel
theorem s197_114 (d : Nat) (l0 : Value) (l1 : Value) (σ : Hs) : ru d 197 114 [l0, l1] [] σ = ru d 197 115 [l0, l1] [.int 0] σ := q_iconst t197_114 (by decide +kernel)
theorem t197_115 : decode (mb 197) 115 = .ok (.ireturn, 1) := by decide +kernel
theorem s197_115 (d : Nat) (l0 : Value) (l1 : Value) (x : Int32) (hx : isB x) (σ : Hs) : ru d 197 115 [l0, l1] [.int x] σ = some (some (.int x), σ) := q_iretz t197_115 mr197 hx
theorem c197 (d : Nat) (x0 : Int32) (x1 : Int32) (σ : Hs) : callD (d + 1) 197 [.int x0, .int x1] σ = ru d 197 0 [.int x0, .int x1] [] σ := callD_ru ml197 rfl rfl (Nat.le_of_ble_eq_true rfl)
-- 198: Model.voiced(II)I
theorem t198_0 : decode (mb 198) 0 = .ok (.aload_n 0, 1) := by decide +kernel
theorem s198_0 (d : Nat) (a0 : Nat) (l1 : Value) (l2 : Value) (σ : Hs) : ru d 198 0 [.ref a0, l1, l2] [] σ = ru d 198 1 [.ref a0, l1, l2] [.ref a0] σ := q_aload_n t198_0 rfl
theorem t198_1 : decode (mb 198) 1 = .ok (.aload_n 0, 1) := by decide +kernel
theorem s198_1 (d : Nat) (a0 : Nat) (l1 : Value) (l2 : Value) (w0 : Value) (σ : Hs) : ru d 198 1 [.ref a0, l1, l2] [w0] σ = ru d 198 2 [.ref a0, l1, l2] [.ref a0, w0] σ := q_aload_n t198_1 rfl
theorem t198_2 : decode (mb 198) 2 = .ok (.aload_n 0, 1) := by decide +kernel
theorem s198_2 (d : Nat) (a0 : Nat) (l1 : Value) (l2 : Value) (w0 w1 : Value) (σ : Hs) : ru d 198 2 [.ref a0, l1, l2] [w0, w1] σ = ru d 198 3 [.ref a0, l1, l2] [.ref a0, w0, w1] σ := q_aload_n t198_2 rfl
theorem t198_3 : decode (mb 198) 3 = .ok (.getfield 306, 3) := by decide +kernel
theorem s198_3_o87 (d : Nat) (l0 : Value) (l1 : Value) (l2 : Value) (w0 w1 : Value) (σ : Hs) : ru d 198 3 [l0, l1, l2] [.ref 87, w0, w1] σ = ru d 198 6 [l0, l1, l2] [.int (σ 87 20), w0, w1] σ := q_getf t198_3 mo198 F8_306 rfl rfl
theorem t198_6 : decode (mb 198) 6 = .ok (.iconst 1, 1) := by decide +kernel
theorem s198_6 (d : Nat) (l0 : Value) (l1 : Value) (l2 : Value) (w0 w1 w2 : Value) (σ : Hs) : ru d 198 6 [l0, l1, l2] [w0, w1, w2] σ = ru d 198 7 [l0, l1, l2] [.int 1, w0, w1, w2] σ := q_iconst t198_6 (by decide +kernel)
theorem t198_7 : decode (mb 198) 7 = .ok (.invokevirtual 85, 3) := by decide +kernel
theorem s198_7_o87 (d : Nat) (l0 : Value) (l1 : Value) (l2 : Value) (v1 v2 : Value) (w0 : Nat) (σ : Hs) : ru d 198 7 [l0, l1, l2] [v2, v1, .ref 87, .ref w0] σ = kont (callD d 118 [.ref 87, v1, v2] σ) d 198 10 [l0, l1, l2] [.ref w0] := q_invv t198_7 mo198 K8_85 mj118 rfl rfl rfl rfl (Nat.le_of_ble_eq_true rfl)
theorem t198_10 : decode (mb 198) 10 = .ok (.iload_n 1, 1) := by decide +kernel
theorem s198_10 (d : Nat) (l0 : Value) (i1 : Int32) (l2 : Value) (w0 w1 : Value) (σ : Hs) : ru d 198 10 [l0, .int i1, l2] [w0, w1] σ = ru d 198 11 [l0, .int i1, l2] [.int i1, w0, w1] σ := q_iload_n t198_10 rfl
theorem t198_11 : decode (mb 198) 11 = .ok (.iload_n 2, 1) := by decide +kernel
theorem s198_11 (d : Nat) (l0 : Value) (l1 : Value) (i2 : Int32) (w0 w1 w2 : Value) (σ : Hs) : ru d 198 11 [l0, l1, .int i2] [w0, w1, w2] σ = ru d 198 12 [l0, l1, .int i2] [.int i2, w0, w1, w2] σ := q_iload_n t198_11 rfl
theorem t198_12 : decode (mb 198) 12 = .ok (.invokevirtual 309, 3) := by decide +kernel
theorem s198_12_o87 (d : Nat) (l0 : Value) (l1 : Value) (l2 : Value) (v1 v2 v3 : Value) (σ : Hs) : ru d 198 12 [l0, l1, l2] [v3, v2, v1, .ref 87] σ = kont (callD d 199 [.ref 87, v1, v2, v3] σ) d 198 15 [l0, l1, l2] [] := q_invv t198_12 mo198 K8_309 mj199 rfl rfl rfl rfl (Nat.le_of_ble_eq_true rfl)
theorem t198_15 : decode (mb 198) 15 = .ok (.ireturn, 1) := by decide +kernel
theorem s198_15 (d : Nat) (l0 : Value) (l1 : Value) (l2 : Value) (x : Int32) (σ : Hs) : ru d 198 15 [l0, l1, l2] [.int x] σ = some (some (.int x), σ) := q_ireti t198_15 mr198
theorem c198 (d : Nat) (x0 : Nat) (x1 : Int32) (x2 : Int32) (σ : Hs) : callD (d + 1) 198 [.ref x0, .int x1, .int x2] σ = ru d 198 0 [.ref x0, .int x1, .int x2] [] σ := callD_ru ml198 rfl rfl (Nat.le_of_ble_eq_true rfl)
-- 199: Model.bodyFrom(III)I
theorem t199_0 : decode (mb 199) 0 = .ok (.iload_n 1, 1) := by decide +kernel
theorem s199_0 (d : Nat) (l0 : Value) (i1 : Int32) (l2 : Value) (l3 : Value) (l4 : Value) (σ : Hs) : ru d 199 0 [l0, .int i1, l2, l3, l4] [] σ = ru d 199 1 [l0, .int i1, l2, l3, l4] [.int i1] σ := q_iload_n t199_0 rfl
theorem t199_1 : decode (mb 199) 1 = .ok (.istore 4, 2) := by decide +kernel
theorem s199_1 (d : Nat) (l0 : Value) (l1 : Value) (l2 : Value) (i3 : Int32) (l4 : Value) (x : Int32) (σ : Hs) : ru d 199 1 [l0, l1, l2, .int i3, l4] [.int x] σ = ru d 199 3 [l0, l1, l2, .int i3, .int x] [] σ := q_istore t199_1 ⟨Nat.le_of_ble_eq_true rfl, rfl⟩ rfl
theorem t199_3 : decode (mb 199) 3 = .ok (.iload 4, 2) := by decide +kernel
theorem s199_3 (d : Nat) (l0 : Value) (l1 : Value) (l2 : Value) (l3 : Value) (i4 : Int32) (σ : Hs) : ru d 199 3 [l0, l1, l2, l3, .int i4] [] σ = ru d 199 5 [l0, l1, l2, l3, .int i4] [.int i4] σ := q_iload t199_3 rfl
theorem t199_5 : decode (mb 199) 5 = .ok (.iload_n 2, 1) := by decide +kernel
theorem s199_5 (d : Nat) (l0 : Value) (l1 : Value) (i2 : Int32) (l3 : Value) (l4 : Value) (w0 : Value) (σ : Hs) : ru d 199 5 [l0, l1, .int i2, l3, l4] [w0] σ = ru d 199 6 [l0, l1, .int i2, l3, l4] [.int i2, w0] σ := q_iload_n t199_5 rfl
theorem t199_6 : decode (mb 199) 6 = .ok (.invokestatic 312, 3) := by decide +kernel
theorem s199_6 (d : Nat) (l0 : Value) (l1 : Value) (l2 : Value) (l3 : Value) (l4 : Value) (v0 v1 : Value) (σ : Hs) : ru d 199 6 [l0, l1, l2, l3, l4] [v1, v0] σ = kont (callD d 197 [v0, v1] σ) d 199 9 [l0, l1, l2, l3, l4] [] := q_invs t199_6 mo199 (by decide +kernel) K8_312 mj197 (Nat.le_of_ble_eq_true rfl) rfl rfl (Nat.le_of_ble_eq_true rfl)
theorem t199_9 : decode (mb 199) 9 = .ok (.ifCond .ne 13, 3) := by decide +kernel
theorem s199_9 (d : Nat) (l0 : Value) (l1 : Value) (l2 : Value) (l3 : Value) (l4 : Value) (x : Int32) (σ : Hs) : ru d 199 9 [l0, l1, l2, l3, l4] [.int x] σ = if x = 0 then ru d 199 12 [l0, l1, l2, l3, l4] [] σ else ru d 199 22 [l0, l1, l2, l3, l4] [] σ := q_if_ne t199_9 (by decide +kernel)
theorem t199_12 : decode (mb 199) 12 = .ok (.iload 4, 2) := by decide +kernel
theorem s199_12 (d : Nat) (l0 : Value) (l1 : Value) (l2 : Value) (l3 : Value) (i4 : Int32) (σ : Hs) : ru d 199 12 [l0, l1, l2, l3, .int i4] [] σ = ru d 199 14 [l0, l1, l2, l3, .int i4] [.int i4] σ := q_iload t199_12 rfl
theorem t199_14 : decode (mb 199) 14 = .ok (.invokestatic 131, 3) := by decide +kernel
theorem s199_14 (d : Nat) (l0 : Value) (l1 : Value) (l2 : Value) (l3 : Value) (l4 : Value) (v0 : Value) (σ : Hs) : ru d 199 14 [l0, l1, l2, l3, l4] [v0] σ = kont (callD d 133 [v0] σ) d 199 17 [l0, l1, l2, l3, l4] [] := q_invs t199_14 mo199 (by decide +kernel) K8_131 mj133 (Nat.le_of_ble_eq_true rfl) rfl rfl (Nat.le_of_ble_eq_true rfl)
theorem t199_17 : decode (mb 199) 17 = .ok (.istore 4, 2) := by decide +kernel
theorem s199_17 (d : Nat) (l0 : Value) (l1 : Value) (l2 : Value) (i3 : Int32) (l4 : Value) (x : Int32) (σ : Hs) : ru d 199 17 [l0, l1, l2, .int i3, l4] [.int x] σ = ru d 199 19 [l0, l1, l2, .int i3, .int x] [] σ := q_istore t199_17 ⟨Nat.le_of_ble_eq_true rfl, rfl⟩ rfl
theorem t199_19 : decode (mb 199) 19 = .ok (.goto (-16), 3) := by decide +kernel
theorem s199_19 (d : Nat) (l0 : Value) (l1 : Value) (l2 : Value) (l3 : Value) (l4 : Value) (σ : Hs) : ru d 199 19 [l0, l1, l2, l3, l4] [] σ = ru d 199 3 [l0, l1, l2, l3, l4] [] σ := q_goto t199_19 (by decide +kernel)
theorem t199_22 : decode (mb 199) 22 = .ok (.aload_n 0, 1) := by decide +kernel
theorem s199_22 (d : Nat) (a0 : Nat) (l1 : Value) (l2 : Value) (l3 : Value) (l4 : Value) (σ : Hs) : ru d 199 22 [.ref a0, l1, l2, l3, l4] [] σ = ru d 199 23 [.ref a0, l1, l2, l3, l4] [.ref a0] σ := q_aload_n t199_22 rfl
theorem t199_23 : decode (mb 199) 23 = .ok (.getfield 315, 3) := by decide +kernel
theorem s199_23_o87 (d : Nat) (l0 : Value) (l1 : Value) (l2 : Value) (l3 : Value) (l4 : Value) (σ : Hs) : ru d 199 23 [l0, l1, l2, l3, l4] [.ref 87] σ = ru d 199 26 [l0, l1, l2, l3, l4] [.int (σ 87 21)] σ := q_getf t199_23 mo199 F8_315 rfl rfl
theorem t199_26 : decode (mb 199) 26 = .ok (.ifCond .eq 7, 3) := by decide +kernel
theorem s199_26 (d : Nat) (l0 : Value) (l1 : Value) (l2 : Value) (l3 : Value) (l4 : Value) (x : Int32) (σ : Hs) : ru d 199 26 [l0, l1, l2, l3, l4] [.int x] σ = if x = 0 then ru d 199 33 [l0, l1, l2, l3, l4] [] σ else ru d 199 29 [l0, l1, l2, l3, l4] [] σ := q_if_eq t199_26 (by decide +kernel)
theorem t199_29 : decode (mb 199) 29 = .ok (.iconst 0, 1) := by decide +kernel
theorem s199_29 (d : Nat) (l0 : Value) (l1 : Value) (l2 : Value) (l3 : Value) (l4 : Value) (σ : Hs) : ru d 199 29 [l0, l1, l2, l3, l4] [] σ = ru d 199 30 [l0, l1, l2, l3, l4] [.int 0] σ := q_iconst t199_29 (by decide +kernel)
theorem t199_30 : decode (mb 199) 30 = .ok (.goto 11, 3) := by decide +kernel
theorem s199_30 (d : Nat) (l0 : Value) (l1 : Value) (l2 : Value) (l3 : Value) (l4 : Value) (w0 : Value) (σ : Hs) : ru d 199 30 [l0, l1, l2, l3, l4] [w0] σ = ru d 199 41 [l0, l1, l2, l3, l4] [w0] σ := q_goto t199_30 (by decide +kernel)
theorem t199_33 : decode (mb 199) 33 = .ok (.aload_n 0, 1) := by decide +kernel
theorem s199_33 (d : Nat) (a0 : Nat) (l1 : Value) (l2 : Value) (l3 : Value) (l4 : Value) (σ : Hs) : ru d 199 33 [.ref a0, l1, l2, l3, l4] [] σ = ru d 199 34 [.ref a0, l1, l2, l3, l4] [.ref a0] σ := q_aload_n t199_33 rfl
theorem t199_34 : decode (mb 199) 34 = .ok (.iload 4, 2) := by decide +kernel
theorem s199_34 (d : Nat) (l0 : Value) (l1 : Value) (l2 : Value) (l3 : Value) (i4 : Int32) (w0 : Value) (σ : Hs) : ru d 199 34 [l0, l1, l2, l3, .int i4] [w0] σ = ru d 199 36 [l0, l1, l2, l3, .int i4] [.int i4, w0] σ := q_iload t199_34 rfl
theorem t199_36 : decode (mb 199) 36 = .ok (.iload_n 2, 1) := by decide +kernel
theorem s199_36 (d : Nat) (l0 : Value) (l1 : Value) (i2 : Int32) (l3 : Value) (l4 : Value) (w0 w1 : Value) (σ : Hs) : ru d 199 36 [l0, l1, .int i2, l3, l4] [w0, w1] σ = ru d 199 37 [l0, l1, .int i2, l3, l4] [.int i2, w0, w1] σ := q_iload_n t199_36 rfl
theorem t199_37 : decode (mb 199) 37 = .ok (.iload_n 3, 1) := by decide +kernel
theorem s199_37 (d : Nat) (l0 : Value) (l1 : Value) (l2 : Value) (i3 : Int32) (l4 : Value) (w0 w1 w2 : Value) (σ : Hs) : ru d 199 37 [l0, l1, l2, .int i3, l4] [w0, w1, w2] σ = ru d 199 38 [l0, l1, l2, .int i3, l4] [.int i3, w0, w1, w2] σ := q_iload_n t199_37 rfl
theorem t199_38 : decode (mb 199) 38 = .ok (.invokevirtual 318, 3) := by decide +kernel
theorem s199_38_o87 (d : Nat) (l0 : Value) (l1 : Value) (l2 : Value) (l3 : Value) (l4 : Value) (v1 v2 v3 : Value) (σ : Hs) : ru d 199 38 [l0, l1, l2, l3, l4] [v3, v2, v1, .ref 87] σ = kont (callD d 200 [.ref 87, v1, v2, v3] σ) d 199 41 [l0, l1, l2, l3, l4] [] := q_invv t199_38 mo199 K8_318 mj200 rfl rfl rfl rfl (Nat.le_of_ble_eq_true rfl)
theorem t199_41 : decode (mb 199) 41 = .ok (.ireturn, 1) := by decide +kernel
theorem s199_41 (d : Nat) (l0 : Value) (l1 : Value) (l2 : Value) (l3 : Value) (l4 : Value) (x : Int32) (σ : Hs) : ru d 199 41 [l0, l1, l2, l3, l4] [.int x] σ = some (some (.int x), σ) := q_ireti t199_41 mr199
theorem c199 (d : Nat) (x0 : Nat) (x1 : Int32) (x2 : Int32) (x3 : Int32) (σ : Hs) : callD (d + 1) 199 [.ref x0, .int x1, .int x2, .int x3] σ = ru d 199 0 [.ref x0, .int x1, .int x2, .int x3, uu] [] σ := callD_ru ml199 rfl rfl (Nat.le_of_ble_eq_true rfl)
