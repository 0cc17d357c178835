-- 200: Model.body(III)I
theorem t200_0 : decode (mb 200) 0 = .ok (.aload_n 0, 1) := by decide +kernel
theorem s200_0 (d : Nat) (a0 : Nat) (l1 : Value) (l2 : Value) (l3 : Value) (l4 : Value) (l5 : Value) (σ : Hs) : ru d 200 0 [.ref a0, l1, l2, l3, l4, l5] [] σ = ru d 200 1 [.ref a0, l1, l2, l3, l4, l5] [.ref a0] σ := q_aload_n t200_0 rfl
theorem t200_1 : decode (mb 200) 1 = .ok (.aload_n 0, 1) := by decide +kernel
theorem s200_1 (d : Nat) (a0 : Nat) (l1 : Value) (l2 : Value) (l3 : Value) (l4 : Value) (l5 : Value) (w0 : Value) (σ : Hs) : ru d 200 1 [.ref a0, l1, l2, l3, l4, l5] [w0] σ = ru d 200 2 [.ref a0, l1, l2, l3, l4, l5] [.ref a0, w0] σ := q_aload_n t200_1 rfl
theorem t200_2 : decode (mb 200) 2 = .ok (.getfield 306, 3) := by decide +kernel
theorem s200_2_o87 (d : Nat) (l0 : Value) (l1 : Value) (l2 : Value) (l3 : Value) (l4 : Value) (l5 : Value) (w0 : Value) (σ : Hs) : ru d 200 2 [l0, l1, l2, l3, l4, l5] [.ref 87, w0] σ = ru d 200 5 [l0, l1, l2, l3, l4, l5] [.int (σ 87 20), w0] σ := q_getf t200_2 mo200 F8_306 rfl rfl
theorem t200_5 : decode (mb 200) 5 = .ok (.iconst 2, 1) := by decide +kernel
theorem s200_5 (d : Nat) (l0 : Value) (l1 : Value) (l2 : Value) (l3 : Value) (l4 : Value) (l5 : Value) (w0 w1 : Value) (σ : Hs) : ru d 200 5 [l0, l1, l2, l3, l4, l5] [w0, w1] σ = ru d 200 6 [l0, l1, l2, l3, l4, l5] [.int 2, w0, w1] σ := q_iconst t200_5 (by decide +kernel)
theorem t200_6 : decode (mb 200) 6 = .ok (.invokevirtual 85, 3) := by decide +kernel
theorem s200_6_o87 (d : Nat) (l0 : Value) (l1 : Value) (l2 : Value) (l3 : Value) (l4 : Value) (l5 : Value) (v1 v2 : Value) (σ : Hs) : ru d 200 6 [l0, l1, l2, l3, l4, l5] [v2, v1, .ref 87] σ = kont (callD d 118 [.ref 87, v1, v2] σ) d 200 9 [l0, l1, l2, l3, l4, l5] [] := q_invv t200_6 mo200 K8_85 mj118 rfl rfl rfl rfl (Nat.le_of_ble_eq_true rfl)
theorem t200_9 : decode (mb 200) 9 = .ok (.istore 4, 2) := by decide +kernel
theorem s200_9 (d : Nat) (l0 : Value) (l1 : Value) (l2 : Value) (i3 : Int32) (l4 : Value) (l5 : Value) (x : Int32) (σ : Hs) : ru d 200 9 [l0, l1, l2, .int i3, l4, l5] [.int x] σ = ru d 200 11 [l0, l1, l2, .int i3, .int x, l5] [] σ := q_istore t200_9 ⟨Nat.le_of_ble_eq_true rfl, rfl⟩ rfl
theorem t200_11 : decode (mb 200) 11 = .ok (.iconst 4, 1) := by decide +kernel
theorem s200_11 (d : Nat) (l0 : Value) (l1 : Value) (l2 : Value) (l3 : Value) (l4 : Value) (l5 : Value) (σ : Hs) : ru d 200 11 [l0, l1, l2, l3, l4, l5] [] σ = ru d 200 12 [l0, l1, l2, l3, l4, l5] [.int 4] σ := q_iconst t200_11 (by decide +kernel)
theorem t200_12 : decode (mb 200) 12 = .ok (.iload_n 1, 1) := by decide +kernel
theorem s200_12 (d : Nat) (l0 : Value) (i1 : Int32) (l2 : Value) (l3 : Value) (l4 : Value) (l5 : Value) (w0 : Value) (σ : Hs) : ru d 200 12 [l0, .int i1, l2, l3, l4, l5] [w0] σ = ru d 200 13 [l0, .int i1, l2, l3, l4, l5] [.int i1, w0] σ := q_iload_n t200_12 rfl
theorem t200_13 : decode (mb 200) 13 = .ok (.imul, 1) := by decide +kernel
theorem s200_13 (d : Nat) (l0 : Value) (l1 : Value) (l2 : Value) (l3 : Value) (l4 : Value) (l5 : Value) (x y : Int32) (σ : Hs) : ru d 200 13 [l0, l1, l2, l3, l4, l5] [.int y, .int x] σ = ru d 200 14 [l0, l1, l2, l3, l4, l5] [.int (x * y)] σ := q_imul t200_13
theorem t200_14 : decode (mb 200) 14 = .ok (.iload_n 2, 1) := by decide +kernel
theorem s200_14 (d : Nat) (l0 : Value) (l1 : Value) (i2 : Int32) (l3 : Value) (l4 : Value) (l5 : Value) (w0 : Value) (σ : Hs) : ru d 200 14 [l0, l1, .int i2, l3, l4, l5] [w0] σ = ru d 200 15 [l0, l1, .int i2, l3, l4, l5] [.int i2, w0] σ := q_iload_n t200_14 rfl
theorem t200_15 : decode (mb 200) 15 = .ok (.iadd, 1) := by decide +kernel
theorem s200_15 (d : Nat) (l0 : Value) (l1 : Value) (l2 : Value) (l3 : Value) (l4 : Value) (l5 : Value) (x y : Int32) (σ : Hs) : ru d 200 15 [l0, l1, l2, l3, l4, l5] [.int y, .int x] σ = ru d 200 16 [l0, l1, l2, l3, l4, l5] [.int (x + y)] σ := q_iadd t200_15
theorem t200_16 : decode (mb 200) 16 = .ok (.tableswitch 363 0 24 #[116, 127, 142, 160, 205, 363, 363, 222, 363, 363, 247, 363, 264, 280, 363, 363, 363, 363, 295, 311, 363, 336, 363, 363, 355], 116) := by decide +kernel
theorem f200_16 (x : Int32) : (tsw 0 24 #[116, 127, 142, 160, 205, 363, 363, 222, 363, 363, 247, 363, 264, 280, 363, 363, 363, 363, 295, 311, 363, 336, 363, 363, 355] 363 x.toInt).bind (tgt 16) = some (if x = 0 then 132 else (if x = 1 then 143 else (if x = 2 then 158 else (if x = 3 then 176 else (if x = 4 then 221 else (if x = 5 then 379 else (if x = 6 then 379 else (if x = 7 then 238 else (if x = 8 then 379 else (if x = 9 then 379 else (if x = 10 then 263 else (if x = 11 then 379 else (if x = 12 then 280 else (if x = 13 then 296 else (if x = 14 then 379 else (if x = 15 then 379 else (if x = 16 then 379 else (if x = 17 then 379 else (if x = 18 then 311 else (if x = 19 then 327 else (if x = 20 then 379 else (if x = 21 then 352 else (if x = 22 then 379 else (if x = 23 then 379 else (if x = 24 then 371 else 379))))))))))))))))))))))))) := by
  by_cases h0 : x = 0
  · subst h0; decide +kernel
  by_cases h1 : x = 1
  · subst h1; decide +kernel
  by_cases h2 : x = 2
  · subst h2; decide +kernel
  by_cases h3 : x = 3
  · subst h3; decide +kernel
  by_cases h4 : x = 4
  · subst h4; decide +kernel
  by_cases h5 : x = 5
  · subst h5; decide +kernel
  by_cases h6 : x = 6
  · subst h6; decide +kernel
  by_cases h7 : x = 7
  · subst h7; decide +kernel
  by_cases h8 : x = 8
  · subst h8; decide +kernel
  by_cases h9 : x = 9
  · subst h9; decide +kernel
  by_cases h10 : x = 10
  · subst h10; decide +kernel
  by_cases h11 : x = 11
  · subst h11; decide +kernel
  by_cases h12 : x = 12
  · subst h12; decide +kernel
  by_cases h13 : x = 13
  · subst h13; decide +kernel
  by_cases h14 : x = 14
  · subst h14; decide +kernel
  by_cases h15 : x = 15
  · subst h15; decide +kernel
  by_cases h16 : x = 16
  · subst h16; decide +kernel
  by_cases h17 : x = 17
  · subst h17; decide +kernel
  by_cases h18 : x = 18
  · subst h18; decide +kernel
  by_cases h19 : x = 19
  · subst h19; decide +kernel
  by_cases h20 : x = 20
  · subst h20; decide +kernel
  by_cases h21 : x = 21
  · subst h21; decide +kernel
  by_cases h22 : x = 22
  · subst h22; decide +kernel
  by_cases h23 : x = 23
  · subst h23; decide +kernel
  by_cases h24 : x = 24
  · subst h24; decide +kernel
  have e0 : ¬ x.toInt = 0 := fun h => h0 (Int32.toInt_inj.mp (h.trans (by decide +kernel)))
  have e1 : ¬ x.toInt = 1 := fun h => h1 (Int32.toInt_inj.mp (h.trans (by decide +kernel)))
  have e2 : ¬ x.toInt = 2 := fun h => h2 (Int32.toInt_inj.mp (h.trans (by decide +kernel)))
  have e3 : ¬ x.toInt = 3 := fun h => h3 (Int32.toInt_inj.mp (h.trans (by decide +kernel)))
  have e4 : ¬ x.toInt = 4 := fun h => h4 (Int32.toInt_inj.mp (h.trans (by decide +kernel)))
  have e5 : ¬ x.toInt = 5 := fun h => h5 (Int32.toInt_inj.mp (h.trans (by decide +kernel)))
  have e6 : ¬ x.toInt = 6 := fun h => h6 (Int32.toInt_inj.mp (h.trans (by decide +kernel)))
  have e7 : ¬ x.toInt = 7 := fun h => h7 (Int32.toInt_inj.mp (h.trans (by decide +kernel)))
  have e8 : ¬ x.toInt = 8 := fun h => h8 (Int32.toInt_inj.mp (h.trans (by decide +kernel)))
  have e9 : ¬ x.toInt = 9 := fun h => h9 (Int32.toInt_inj.mp (h.trans (by decide +kernel)))
  have e10 : ¬ x.toInt = 10 := fun h => h10 (Int32.toInt_inj.mp (h.trans (by decide +kernel)))
  have e11 : ¬ x.toInt = 11 := fun h => h11 (Int32.toInt_inj.mp (h.trans (by decide +kernel)))
  have e12 : ¬ x.toInt = 12 := fun h => h12 (Int32.toInt_inj.mp (h.trans (by decide +kernel)))
  have e13 : ¬ x.toInt = 13 := fun h => h13 (Int32.toInt_inj.mp (h.trans (by decide +kernel)))
  have e14 : ¬ x.toInt = 14 := fun h => h14 (Int32.toInt_inj.mp (h.trans (by decide +kernel)))
  have e15 : ¬ x.toInt = 15 := fun h => h15 (Int32.toInt_inj.mp (h.trans (by decide +kernel)))
  have e16 : ¬ x.toInt = 16 := fun h => h16 (Int32.toInt_inj.mp (h.trans (by decide +kernel)))
  have e17 : ¬ x.toInt = 17 := fun h => h17 (Int32.toInt_inj.mp (h.trans (by decide +kernel)))
  have e18 : ¬ x.toInt = 18 := fun h => h18 (Int32.toInt_inj.mp (h.trans (by decide +kernel)))
  have e19 : ¬ x.toInt = 19 := fun h => h19 (Int32.toInt_inj.mp (h.trans (by decide +kernel)))
  have e20 : ¬ x.toInt = 20 := fun h => h20 (Int32.toInt_inj.mp (h.trans (by decide +kernel)))
  have e21 : ¬ x.toInt = 21 := fun h => h21 (Int32.toInt_inj.mp (h.trans (by decide +kernel)))
  have e22 : ¬ x.toInt = 22 := fun h => h22 (Int32.toInt_inj.mp (h.trans (by decide +kernel)))
  have e23 : ¬ x.toInt = 23 := fun h => h23 (Int32.toInt_inj.mp (h.trans (by decide +kernel)))
  have e24 : ¬ x.toInt = 24 := fun h => h24 (Int32.toInt_inj.mp (h.trans (by decide +kernel)))
  have e : x.toInt < 0 ∨ 24 < x.toInt := by omega
  unfold tsw
  rw [if_pos e, if_neg h0, if_neg h1, if_neg h2, if_neg h3, if_neg h4, if_neg h5, if_neg h6, if_neg h7, if_neg h8, if_neg h9, if_neg h10, if_neg h11, if_neg h12, if_neg h13, if_neg h14, if_neg h15, if_neg h16, if_neg h17, if_neg h18, if_neg h19, if_neg h20, if_neg h21, if_neg h22, if_neg h23, if_neg h24]
  decide +kernel
theorem s200_16 (d : Nat) (l0 : Value) (l1 : Value) (l2 : Value) (l3 : Value) (l4 : Value) (l5 : Value) (x : Int32) (σ : Hs) : ru d 200 16 [l0, l1, l2, l3, l4, l5] [.int x] σ = if x = 0 then ru d 200 132 [l0, l1, l2, l3, l4, l5] [] σ else if x = 1 then ru d 200 143 [l0, l1, l2, l3, l4, l5] [] σ else if x = 2 then ru d 200 158 [l0, l1, l2, l3, l4, l5] [] σ else if x = 3 then ru d 200 176 [l0, l1, l2, l3, l4, l5] [] σ else if x = 4 then ru d 200 221 [l0, l1, l2, l3, l4, l5] [] σ else if x = 5 then ru d 200 379 [l0, l1, l2, l3, l4, l5] [] σ else if x = 6 then ru d 200 379 [l0, l1, l2, l3, l4, l5] [] σ else if x = 7 then ru d 200 238 [l0, l1, l2, l3, l4, l5] [] σ else if x = 8 then ru d 200 379 [l0, l1, l2, l3, l4, l5] [] σ else if x = 9 then ru d 200 379 [l0, l1, l2, l3, l4, l5] [] σ else if x = 10 then ru d 200 263 [l0, l1, l2, l3, l4, l5] [] σ else if x = 11 then ru d 200 379 [l0, l1, l2, l3, l4, l5] [] σ else if x = 12 then ru d 200 280 [l0, l1, l2, l3, l4, l5] [] σ else if x = 13 then ru d 200 296 [l0, l1, l2, l3, l4, l5] [] σ else if x = 14 then ru d 200 379 [l0, l1, l2, l3, l4, l5] [] σ else if x = 15 then ru d 200 379 [l0, l1, l2, l3, l4, l5] [] σ else if x = 16 then ru d 200 379 [l0, l1, l2, l3, l4, l5] [] σ else if x = 17 then ru d 200 379 [l0, l1, l2, l3, l4, l5] [] σ else if x = 18 then ru d 200 311 [l0, l1, l2, l3, l4, l5] [] σ else if x = 19 then ru d 200 327 [l0, l1, l2, l3, l4, l5] [] σ else if x = 20 then ru d 200 379 [l0, l1, l2, l3, l4, l5] [] σ else if x = 21 then ru d 200 352 [l0, l1, l2, l3, l4, l5] [] σ else if x = 22 then ru d 200 379 [l0, l1, l2, l3, l4, l5] [] σ else if x = 23 then ru d 200 379 [l0, l1, l2, l3, l4, l5] [] σ else if x = 24 then ru d 200 371 [l0, l1, l2, l3, l4, l5] [] σ else ru d 200 379 [l0, l1, l2, l3, l4, l5] [] σ := by
  refine (q_tsw t200_16 (fun x => (if x = 0 then 132 else (if x = 1 then 143 else (if x = 2 then 158 else (if x = 3 then 176 else (if x = 4 then 221 else (if x = 5 then 379 else (if x = 6 then 379 else (if x = 7 then 238 else (if x = 8 then 379 else (if x = 9 then 379 else (if x = 10 then 263 else (if x = 11 then 379 else (if x = 12 then 280 else (if x = 13 then 296 else (if x = 14 then 379 else (if x = 15 then 379 else (if x = 16 then 379 else (if x = 17 then 379 else (if x = 18 then 311 else (if x = 19 then 327 else (if x = 20 then 379 else (if x = 21 then 352 else (if x = 22 then 379 else (if x = 23 then 379 else (if x = 24 then 371 else 379)))))))))))))))))))))))))) (f200_16 x)).trans ?_
  by_cases h0 : x = 0
  · rw [if_pos h0, if_pos h0]
  rw [if_neg h0, if_neg h0]
  by_cases h1 : x = 1
  · rw [if_pos h1, if_pos h1]
  rw [if_neg h1, if_neg h1]
  by_cases h2 : x = 2
  · rw [if_pos h2, if_pos h2]
  rw [if_neg h2, if_neg h2]
  by_cases h3 : x = 3
  · rw [if_pos h3, if_pos h3]
  rw [if_neg h3, if_neg h3]
  by_cases h4 : x = 4
  · rw [if_pos h4, if_pos h4]
  rw [if_neg h4, if_neg h4]
  by_cases h5 : x = 5
  · rw [if_pos h5, if_pos h5]
  rw [if_neg h5, if_neg h5]
  by_cases h6 : x = 6
  · rw [if_pos h6, if_pos h6]
  rw [if_neg h6, if_neg h6]
  by_cases h7 : x = 7
  · rw [if_pos h7, if_pos h7]
  rw [if_neg h7, if_neg h7]
  by_cases h8 : x = 8
  · rw [if_pos h8, if_pos h8]
  rw [if_neg h8, if_neg h8]
  by_cases h9 : x = 9
  · rw [if_pos h9, if_pos h9]
  rw [if_neg h9, if_neg h9]
  by_cases h10 : x = 10
  · rw [if_pos h10, if_pos h10]
  rw [if_neg h10, if_neg h10]
  by_cases h11 : x = 11
  · rw [if_pos h11, if_pos h11]
  rw [if_neg h11, if_neg h11]
  by_cases h12 : x = 12
  · rw [if_pos h12, if_pos h12]
  rw [if_neg h12, if_neg h12]
  by_cases h13 : x = 13
  · rw [if_pos h13, if_pos h13]
  rw [if_neg h13, if_neg h13]
  by_cases h14 : x = 14
  · rw [if_pos h14, if_pos h14]
  rw [if_neg h14, if_neg h14]
  by_cases h15 : x = 15
  · rw [if_pos h15, if_pos h15]
  rw [if_neg h15, if_neg h15]
  by_cases h16 : x = 16
  · rw [if_pos h16, if_pos h16]
  rw [if_neg h16, if_neg h16]
  by_cases h17 : x = 17
  · rw [if_pos h17, if_pos h17]
  rw [if_neg h17, if_neg h17]
  by_cases h18 : x = 18
  · rw [if_pos h18, if_pos h18]
  rw [if_neg h18, if_neg h18]
  by_cases h19 : x = 19
  · rw [if_pos h19, if_pos h19]
  rw [if_neg h19, if_neg h19]
  by_cases h20 : x = 20
  · rw [if_pos h20, if_pos h20]
  rw [if_neg h20, if_neg h20]
  by_cases h21 : x = 21
  · rw [if_pos h21, if_pos h21]
  rw [if_neg h21, if_neg h21]
  by_cases h22 : x = 22
  · rw [if_pos h22, if_pos h22]
  rw [if_neg h22, if_neg h22]
  by_cases h23 : x = 23
  · rw [if_pos h23, if_pos h23]
  rw [if_neg h23, if_neg h23]
  by_cases h24 : x = 24
  · rw [if_pos h24, if_pos h24]
  rw [if_neg h24, if_neg h24]
theorem t200_132 : decode (mb 200) 132 = .ok (.aload_n 0, 1) := by decide +kernel
theorem s200_132 (d : Nat) (a0 : Nat) (l1 : Value) (l2 : Value) (l3 : Value) (l4 : Value) (l5 : Value) (σ : Hs) : ru d 200 132 [.ref a0, l1, l2, l3, l4, l5] [] σ = ru d 200 133 [.ref a0, l1, l2, l3, l4, l5] [.ref a0] σ := q_aload_n t200_132 rfl
theorem t200_133 : decode (mb 200) 133 = .ok (.bipush 10, 2) := by decide +kernel
theorem s200_133 (d : Nat) (l0 : Value) (l1 : Value) (l2 : Value) (l3 : Value) (l4 : Value) (l5 : Value) (w0 : Value) (σ : Hs) : ru d 200 133 [l0, l1, l2, l3, l4, l5] [w0] σ = ru d 200 135 [l0, l1, l2, l3, l4, l5] [.int 10, w0] σ := q_bipush t200_133 (by decide +kernel)
theorem t200_135 : decode (mb 200) 135 = .ok (.invokevirtual 321, 3) := by decide +kernel
theorem s200_135_o87 (d : Nat) (l0 : Value) (l1 : Value) (l2 : Value) (l3 : Value) (l4 : Value) (l5 : Value) (v1 : Value) (σ : Hs) : ru d 200 135 [l0, l1, l2, l3, l4, l5] [v1, .ref 87] σ = kont (callD d 196 [.ref 87, v1] σ) d 200 138 [l0, l1, l2, l3, l4, l5] [] := q_invv t200_135 mo200 K8_321 mj196 rfl rfl rfl rfl (Nat.le_of_ble_eq_true rfl)
theorem t200_138 : decode (mb 200) 138 = .ok (.iload_n 3, 1) := by decide +kernel
theorem s200_138 (d : Nat) (l0 : Value) (l1 : Value) (l2 : Value) (i3 : Int32) (l4 : Value) (l5 : Value) (σ : Hs) : ru d 200 138 [l0, l1, l2, .int i3, l4, l5] [] σ = ru d 200 139 [l0, l1, l2, .int i3, l4, l5] [.int i3] σ := q_iload_n t200_138 rfl
theorem t200_139 : decode (mb 200) 139 = .ok (.iload 4, 2) := by decide +kernel
theorem s200_139 (d : Nat) (l0 : Value) (l1 : Value) (l2 : Value) (l3 : Value) (i4 : Int32) (l5 : Value) (w0 : Value) (σ : Hs) : ru d 200 139 [l0, l1, l2, l3, .int i4, l5] [w0] σ = ru d 200 141 [l0, l1, l2, l3, .int i4, l5] [.int i4, w0] σ := q_iload t200_139 rfl
theorem t200_141 : decode (mb 200) 141 = .ok (.iadd, 1) := by decide +kernel
theorem s200_141 (d : Nat) (l0 : Value) (l1 : Value) (l2 : Value) (l3 : Value) (l4 : Value) (l5 : Value) (x y : Int32) (σ : Hs) : ru d 200 141 [l0, l1, l2, l3, l4, l5] [.int y, .int x] σ = ru d 200 142 [l0, l1, l2, l3, l4, l5] [.int (x + y)] σ := q_iadd t200_141
theorem t200_142 : decode (mb 200) 142 = .ok (.ireturn, 1) := by decide +kernel
theorem s200_142 (d : Nat) (l0 : Value) (l1 : Value) (l2 : Value) (l3 : Value) (l4 : Value) (l5 : Value) (x : Int32) (σ : Hs) : ru d 200 142 [l0, l1, l2, l3, l4, l5] [.int x] σ = some (some (.int x), σ) := q_ireti t200_142 mr200
theorem t200_143 : decode (mb 200) 143 = .ok (.aload_n 0, 1) := by decide +kernel
theorem s200_143 (d : Nat) (a0 : Nat) (l1 : Value) (l2 : Value) (l3 : Value) (l4 : Value) (l5 : Value) (σ : Hs) : ru d 200 143 [.ref a0, l1, l2, l3, l4, l5] [] σ = ru d 200 144 [.ref a0, l1, l2, l3, l4, l5] [.ref a0] σ := q_aload_n t200_143 rfl
theorem t200_144 : decode (mb 200) 144 = .ok (.bipush 11, 2) := by decide +kernel
theorem s200_144 (d : Nat) (l0 : Value) (l1 : Value) (l2 : Value) (l3 : Value) (l4 : Value) (l5 : Value) (w0 : Value) (σ : Hs) : ru d 200 144 [l0, l1, l2, l3, l4, l5] [w0] σ = ru d 200 146 [l0, l1, l2, l3, l4, l5] [.int 11, w0] σ := q_bipush t200_144 (by decide +kernel)
theorem t200_146 : decode (mb 200) 146 = .ok (.invokevirtual 321, 3) := by decide +kernel
theorem s200_146_o87 (d : Nat) (l0 : Value) (l1 : Value) (l2 : Value) (l3 : Value) (l4 : Value) (l5 : Value) (v1 : Value) (σ : Hs) : ru d 200 146 [l0, l1, l2, l3, l4, l5] [v1, .ref 87] σ = kont (callD d 196 [.ref 87, v1] σ) d 200 149 [l0, l1, l2, l3, l4, l5] [] := q_invv t200_146 mo200 K8_321 mj196 rfl rfl rfl rfl (Nat.le_of_ble_eq_true rfl)
theorem t200_149 : decode (mb 200) 149 = .ok (.aload_n 0, 1) := by decide +kernel
theorem s200_149 (d : Nat) (a0 : Nat) (l1 : Value) (l2 : Value) (l3 : Value) (l4 : Value) (l5 : Value) (σ : Hs) : ru d 200 149 [.ref a0, l1, l2, l3, l4, l5] [] σ = ru d 200 150 [.ref a0, l1, l2, l3, l4, l5] [.ref a0] σ := q_aload_n t200_149 rfl
theorem t200_150 : decode (mb 200) 150 = .ok (.iconst 0, 1) := by decide +kernel
theorem s200_150 (d : Nat) (l0 : Value) (l1 : Value) (l2 : Value) (l3 : Value) (l4 : Value) (l5 : Value) (w0 : Value) (σ : Hs) : ru d 200 150 [l0, l1, l2, l3, l4, l5] [w0] σ = ru d 200 151 [l0, l1, l2, l3, l4, l5] [.int 0, w0] σ := q_iconst t200_150 (by decide +kernel)
theorem t200_151 : decode (mb 200) 151 = .ok (.iload_n 3, 1) := by decide +kernel
theorem s200_151 (d : Nat) (l0 : Value) (l1 : Value) (l2 : Value) (i3 : Int32) (l4 : Value) (l5 : Value) (w0 w1 : Value) (σ : Hs) : ru d 200 151 [l0, l1, l2, .int i3, l4, l5] [w0, w1] σ = ru d 200 152 [l0, l1, l2, .int i3, l4, l5] [.int i3, w0, w1] σ := q_iload_n t200_151 rfl
theorem t200_152 : decode (mb 200) 152 = .ok (.invokevirtual 324, 3) := by decide +kernel
theorem s200_152_o87 (d : Nat) (l0 : Value) (l1 : Value) (l2 : Value) (l3 : Value) (l4 : Value) (l5 : Value) (v1 v2 : Value) (σ : Hs) : ru d 200 152 [l0, l1, l2, l3, l4, l5] [v2, v1, .ref 87] σ = kont (callD d 198 [.ref 87, v1, v2] σ) d 200 155 [l0, l1, l2, l3, l4, l5] [] := q_invv t200_152 mo200 K8_324 mj198 rfl rfl rfl rfl (Nat.le_of_ble_eq_true rfl)
theorem t200_155 : decode (mb 200) 155 = .ok (.iconst 2, 1) := by decide +kernel
theorem s200_155 (d : Nat) (l0 : Value) (l1 : Value) (l2 : Value) (l3 : Value) (l4 : Value) (l5 : Value) (w0 : Value) (σ : Hs) : ru d 200 155 [l0, l1, l2, l3, l4, l5] [w0] σ = ru d 200 156 [l0, l1, l2, l3, l4, l5] [.int 2, w0] σ := q_iconst t200_155 (by decide +kernel)
theorem t200_156 : decode (mb 200) 156 = .ok (.imul, 1) := by decide +kernel
theorem s200_156 (d : Nat) (l0 : Value) (l1 : Value) (l2 : Value) (l3 : Value) (l4 : Value) (l5 : Value) (x y : Int32) (σ : Hs) : ru d 200 156 [l0, l1, l2, l3, l4, l5] [.int y, .int x] σ = ru d 200 157 [l0, l1, l2, l3, l4, l5] [.int (x * y)] σ := q_imul t200_156
theorem t200_157 : decode (mb 200) 157 = .ok (.ireturn, 1) := by decide +kernel
theorem s200_157 (d : Nat) (l0 : Value) (l1 : Value) (l2 : Value) (l3 : Value) (l4 : Value) (l5 : Value) (x : Int32) (σ : Hs) : ru d 200 157 [l0, l1, l2, l3, l4, l5] [.int x] σ = some (some (.int x), σ) := q_ireti t200_157 mr200
theorem t200_158 : decode (mb 200) 158 = .ok (.aload_n 0, 1) := by decide +kernel
theorem s200_158 (d : Nat) (a0 : Nat) (l1 : Value) (l2 : Value) (l3 : Value) (l4 : Value) (l5 : Value) (σ : Hs) : ru d 200 158 [.ref a0, l1, l2, l3, l4, l5] [] σ = ru d 200 159 [.ref a0, l1, l2, l3, l4, l5] [.ref a0] σ := q_aload_n t200_158 rfl
theorem t200_159 : decode (mb 200) 159 = .ok (.bipush 12, 2) := by decide +kernel
theorem s200_159 (d : Nat) (l0 : Value) (l1 : Value) (l2 : Value) (l3 : Value) (l4 : Value) (l5 : Value) (w0 : Value) (σ : Hs) : ru d 200 159 [l0, l1, l2, l3, l4, l5] [w0] σ = ru d 200 161 [l0, l1, l2, l3, l4, l5] [.int 12, w0] σ := q_bipush t200_159 (by decide +kernel)
theorem t200_161 : decode (mb 200) 161 = .ok (.invokevirtual 321, 3) := by decide +kernel
theorem s200_161_o87 (d : Nat) (l0 : Value) (l1 : Value) (l2 : Value) (l3 : Value) (l4 : Value) (l5 : Value) (v1 : Value) (σ : Hs) : ru d 200 161 [l0, l1, l2, l3, l4, l5] [v1, .ref 87] σ = kont (callD d 196 [.ref 87, v1] σ) d 200 164 [l0, l1, l2, l3, l4, l5] [] := q_invv t200_161 mo200 K8_321 mj196 rfl rfl rfl rfl (Nat.le_of_ble_eq_true rfl)
theorem t200_164 : decode (mb 200) 164 = .ok (.aload_n 0, 1) := by decide +kernel
theorem s200_164 (d : Nat) (a0 : Nat) (l1 : Value) (l2 : Value) (l3 : Value) (l4 : Value) (l5 : Value) (σ : Hs) : ru d 200 164 [.ref a0, l1, l2, l3, l4, l5] [] σ = ru d 200 165 [.ref a0, l1, l2, l3, l4, l5] [.ref a0] σ := q_aload_n t200_164 rfl
theorem t200_165 : decode (mb 200) 165 = .ok (.iconst 1, 1) := by decide +kernel
theorem s200_165 (d : Nat) (l0 : Value) (l1 : Value) (l2 : Value) (l3 : Value) (l4 : Value) (l5 : Value) (w0 : Value) (σ : Hs) : ru d 200 165 [l0, l1, l2, l3, l4, l5] [w0] σ = ru d 200 166 [l0, l1, l2, l3, l4, l5] [.int 1, w0] σ := q_iconst t200_165 (by decide +kernel)
theorem t200_166 : decode (mb 200) 166 = .ok (.iload_n 3, 1) := by decide +kernel
theorem s200_166 (d : Nat) (l0 : Value) (l1 : Value) (l2 : Value) (i3 : Int32) (l4 : Value) (l5 : Value) (w0 w1 : Value) (σ : Hs) : ru d 200 166 [l0, l1, l2, .int i3, l4, l5] [w0, w1] σ = ru d 200 167 [l0, l1, l2, .int i3, l4, l5] [.int i3, w0, w1] σ := q_iload_n t200_166 rfl
theorem t200_167 : decode (mb 200) 167 = .ok (.invokevirtual 324, 3) := by decide +kernel
theorem s200_167_o87 (d : Nat) (l0 : Value) (l1 : Value) (l2 : Value) (l3 : Value) (l4 : Value) (l5 : Value) (v1 v2 : Value) (σ : Hs) : ru d 200 167 [l0, l1, l2, l3, l4, l5] [v2, v1, .ref 87] σ = kont (callD d 198 [.ref 87, v1, v2] σ) d 200 170 [l0, l1, l2, l3, l4, l5] [] := q_invv t200_167 mo200 K8_324 mj198 rfl rfl rfl rfl (Nat.le_of_ble_eq_true rfl)
theorem t200_170 : decode (mb 200) 170 = .ok (.aload_n 0, 1) := by decide +kernel
theorem s200_170 (d : Nat) (a0 : Nat) (l1 : Value) (l2 : Value) (l3 : Value) (l4 : Value) (l5 : Value) (w0 : Value) (σ : Hs) : ru d 200 170 [.ref a0, l1, l2, l3, l4, l5] [w0] σ = ru d 200 171 [.ref a0, l1, l2, l3, l4, l5] [.ref a0, w0] σ := q_aload_n t200_170 rfl
theorem t200_171 : decode (mb 200) 171 = .ok (.getfield 306, 3) := by decide +kernel
theorem s200_171_o87 (d : Nat) (l0 : Value) (l1 : Value) (l2 : Value) (l3 : Value) (l4 : Value) (l5 : Value) (w0 : Value) (σ : Hs) : ru d 200 171 [l0, l1, l2, l3, l4, l5] [.ref 87, w0] σ = ru d 200 174 [l0, l1, l2, l3, l4, l5] [.int (σ 87 20), w0] σ := q_getf t200_171 mo200 F8_306 rfl rfl
theorem t200_174 : decode (mb 200) 174 = .ok (.isub, 1) := by decide +kernel
theorem s200_174 (d : Nat) (l0 : Value) (l1 : Value) (l2 : Value) (l3 : Value) (l4 : Value) (l5 : Value) (x y : Int32) (σ : Hs) : ru d 200 174 [l0, l1, l2, l3, l4, l5] [.int y, .int x] σ = ru d 200 175 [l0, l1, l2, l3, l4, l5] [.int (x - y)] σ := q_isub t200_174
theorem t200_175 : decode (mb 200) 175 = .ok (.ireturn, 1) := by decide +kernel
theorem s200_175 (d : Nat) (l0 : Value) (l1 : Value) (l2 : Value) (l3 : Value) (l4 : Value) (l5 : Value) (x : Int32) (σ : Hs) : ru d 200 175 [l0, l1, l2, l3, l4, l5] [.int x] σ = some (some (.int x), σ) := q_ireti t200_175 mr200
theorem t200_176 : decode (mb 200) 176 = .ok (.aload_n 0, 1) := by decide +kernel
theorem s200_176 (d : Nat) (a0 : Nat) (l1 : Value) (l2 : Value) (l3 : Value) (l4 : Value) (l5 : Value) (σ : Hs) : ru d 200 176 [.ref a0, l1, l2, l3, l4, l5] [] σ = ru d 200 177 [.ref a0, l1, l2, l3, l4, l5] [.ref a0] σ := q_aload_n t200_176 rfl
theorem t200_177 : decode (mb 200) 177 = .ok (.bipush 13, 2) := by decide +kernel
theorem s200_177 (d : Nat) (l0 : Value) (l1 : Value) (l2 : Value) (l3 : Value) (l4 : Value) (l5 : Value) (w0 : Value) (σ : Hs) : ru d 200 177 [l0, l1, l2, l3, l4, l5] [w0] σ = ru d 200 179 [l0, l1, l2, l3, l4, l5] [.int 13, w0] σ := q_bipush t200_177 (by decide +kernel)
theorem t200_179 : decode (mb 200) 179 = .ok (.invokevirtual 321, 3) := by decide +kernel
theorem s200_179_o87 (d : Nat) (l0 : Value) (l1 : Value) (l2 : Value) (l3 : Value) (l4 : Value) (l5 : Value) (v1 : Value) (σ : Hs) : ru d 200 179 [l0, l1, l2, l3, l4, l5] [v1, .ref 87] σ = kont (callD d 196 [.ref 87, v1] σ) d 200 182 [l0, l1, l2, l3, l4, l5] [] := q_invv t200_179 mo200 K8_321 mj196 rfl rfl rfl rfl (Nat.le_of_ble_eq_true rfl)
theorem t200_182 : decode (mb 200) 182 = .ok (.aload_n 0, 1) := by decide +kernel
theorem s200_182 (d : Nat) (a0 : Nat) (l1 : Value) (l2 : Value) (l3 : Value) (l4 : Value) (l5 : Value) (σ : Hs) : ru d 200 182 [.ref a0, l1, l2, l3, l4, l5] [] σ = ru d 200 183 [.ref a0, l1, l2, l3, l4, l5] [.ref a0] σ := q_aload_n t200_182 rfl
theorem t200_183 : decode (mb 200) 183 = .ok (.iload 4, 2) := by decide +kernel
theorem s200_183 (d : Nat) (l0 : Value) (l1 : Value) (l2 : Value) (l3 : Value) (i4 : Int32) (l5 : Value) (w0 : Value) (σ : Hs) : ru d 200 183 [l0, l1, l2, l3, .int i4, l5] [w0] σ = ru d 200 185 [l0, l1, l2, l3, .int i4, l5] [.int i4, w0] σ := q_iload t200_183 rfl
theorem t200_185 : decode (mb 200) 185 = .ok (.aload_n 0, 1) := by decide +kernel
theorem s200_185 (d : Nat) (a0 : Nat) (l1 : Value) (l2 : Value) (l3 : Value) (l4 : Value) (l5 : Value) (w0 w1 : Value) (σ : Hs) : ru d 200 185 [.ref a0, l1, l2, l3, l4, l5] [w0, w1] σ = ru d 200 186 [.ref a0, l1, l2, l3, l4, l5] [.ref a0, w0, w1] σ := q_aload_n t200_185 rfl
theorem t200_186 : decode (mb 200) 186 = .ok (.getfield 306, 3) := by decide +kernel
theorem s200_186_o87 (d : Nat) (l0 : Value) (l1 : Value) (l2 : Value) (l3 : Value) (l4 : Value) (l5 : Value) (w0 w1 : Value) (σ : Hs) : ru d 200 186 [l0, l1, l2, l3, l4, l5] [.ref 87, w0, w1] σ = ru d 200 189 [l0, l1, l2, l3, l4, l5] [.int (σ 87 20), w0, w1] σ := q_getf t200_186 mo200 F8_306 rfl rfl
theorem t200_189 : decode (mb 200) 189 = .ok (.if_icmp .ne 7, 3) := by decide +kernel
theorem s200_189 (d : Nat) (l0 : Value) (l1 : Value) (l2 : Value) (l3 : Value) (l4 : Value) (l5 : Value) (x y : Int32) (w0 : Value) (σ : Hs) : ru d 200 189 [l0, l1, l2, l3, l4, l5] [.int y, .int x, w0] σ = if x = y then ru d 200 192 [l0, l1, l2, l3, l4, l5] [w0] σ else ru d 200 196 [l0, l1, l2, l3, l4, l5] [w0] σ := q_ic_ne t200_189 (by decide +kernel)
theorem t200_192 : decode (mb 200) 192 = .ok (.iconst 1, 1) := by decide +kernel
theorem s200_192 (d : Nat) (l0 : Value) (l1 : Value) (l2 : Value) (l3 : Value) (l4 : Value) (l5 : Value) (w0 : Value) (σ : Hs) : ru d 200 192 [l0, l1, l2, l3, l4, l5] [w0] σ = ru d 200 193 [l0, l1, l2, l3, l4, l5] [.int 1, w0] σ := q_iconst t200_192 (by decide +kernel)
theorem t200_193 : decode (mb 200) 193 = .ok (.goto 4, 3) := by decide +kernel
theorem s200_193 (d : Nat) (l0 : Value) (l1 : Value) (l2 : Value) (l3 : Value) (l4 : Value) (l5 : Value) (w0 w1 : Value) (σ : Hs) : ru d 200 193 [l0, l1, l2, l3, l4, l5] [w0, w1] σ = ru d 200 197 [l0, l1, l2, l3, l4, l5] [w0, w1] σ := q_goto t200_193 (by decide +kernel)
theorem t200_196 : decode (mb 200) 196 = .ok (.iconst 0, 1) := by decide +kernel
theorem s200_196 (d : Nat) (l0 : Value) (l1 : Value) (l2 : Value) (l3 : Value) (l4 : Value) (l5 : Value) (w0 : Value) (σ : Hs) : ru d 200 196 [l0, l1, l2, l3, l4, l5] [w0] σ = ru d 200 197 [l0, l1, l2, l3, l4, l5] [.int 0, w0] σ := q_iconst t200_196 (by decide +kernel)
theorem t200_197 : decode (mb 200) 197 = .ok (.putfield 315, 3) := by decide +kernel
theorem s200_197_o87 (d : Nat) (l0 : Value) (l1 : Value) (l2 : Value) (l3 : Value) (l4 : Value) (l5 : Value) (x : Int32) (hx : isB x) (σ : Hs) : ru d 200 197 [l0, l1, l2, l3, l4, l5] [.int x, .ref 87] σ = ru d 200 200 [l0, l1, l2, l3, l4, l5] [] (up2 σ 87 21 x) := q_putz t200_197 mo200 F8_315 (by decide +kernel) rfl rfl hx
theorem t200_200 : decode (mb 200) 200 = .ok (.aload_n 0, 1) := by decide +kernel
theorem s200_200 (d : Nat) (a0 : Nat) (l1 : Value) (l2 : Value) (l3 : Value) (l4 : Value) (l5 : Value) (σ : Hs) : ru d 200 200 [.ref a0, l1, l2, l3, l4, l5] [] σ = ru d 200 201 [.ref a0, l1, l2, l3, l4, l5] [.ref a0] σ := q_aload_n t200_200 rfl
theorem t200_201 : decode (mb 200) 201 = .ok (.getfield 315, 3) := by decide +kernel
theorem s200_201_o87 (d : Nat) (l0 : Value) (l1 : Value) (l2 : Value) (l3 : Value) (l4 : Value) (l5 : Value) (σ : Hs) : ru d 200 201 [l0, l1, l2, l3, l4, l5] [.ref 87] σ = ru d 200 204 [l0, l1, l2, l3, l4, l5] [.int (σ 87 21)] σ := q_getf t200_201 mo200 F8_315 rfl rfl
theorem t200_204 : decode (mb 200) 204 = .ok (.ifCond .eq 7, 3) := by decide +kernel
theorem s200_204 (d : Nat) (l0 : Value) (l1 : Value) (l2 : Value) (l3 : Value) (l4 : Value) (l5 : Value) (x : Int32) (σ : Hs) : ru d 200 204 [l0, l1, l2, l3, l4, l5] [.int x] σ = if x = 0 then ru d 200 211 [l0, l1, l2, l3, l4, l5] [] σ else ru d 200 207 [l0, l1, l2, l3, l4, l5] [] σ := q_if_eq t200_204 (by decide +kernel)
theorem t200_207 : decode (mb 200) 207 = .ok (.iconst 0, 1) := by decide +kernel
theorem s200_207 (d : Nat) (l0 : Value) (l1 : Value) (l2 : Value) (l3 : Value) (l4 : Value) (l5 : Value) (σ : Hs) : ru d 200 207 [l0, l1, l2, l3, l4, l5] [] σ = ru d 200 208 [l0, l1, l2, l3, l4, l5] [.int 0] σ := q_iconst t200_207 (by decide +kernel)
theorem t200_208 : decode (mb 200) 208 = .ok (.goto 12, 3) := by decide +kernel
theorem s200_208 (d : Nat) (l0 : Value) (l1 : Value) (l2 : Value) (l3 : Value) (l4 : Value) (l5 : Value) (w0 : Value) (σ : Hs) : ru d 200 208 [l0, l1, l2, l3, l4, l5] [w0] σ = ru d 200 220 [l0, l1, l2, l3, l4, l5] [w0] σ := q_goto t200_208 (by decide +kernel)
theorem t200_211 : decode (mb 200) 211 = .ok (.iload_n 3, 1) := by decide +kernel
theorem s200_211 (d : Nat) (l0 : Value) (l1 : Value) (l2 : Value) (i3 : Int32) (l4 : Value) (l5 : Value) (σ : Hs) : ru d 200 211 [l0, l1, l2, .int i3, l4, l5] [] σ = ru d 200 212 [l0, l1, l2, .int i3, l4, l5] [.int i3] σ := q_iload_n t200_211 rfl
theorem t200_212 : decode (mb 200) 212 = .ok (.iload 4, 2) := by decide +kernel
theorem s200_212 (d : Nat) (l0 : Value) (l1 : Value) (l2 : Value) (l3 : Value) (i4 : Int32) (l5 : Value) (w0 : Value) (σ : Hs) : ru d 200 212 [l0, l1, l2, l3, .int i4, l5] [w0] σ = ru d 200 214 [l0, l1, l2, l3, .int i4, l5] [.int i4, w0] σ := q_iload t200_212 rfl
theorem t200_214 : decode (mb 200) 214 = .ok (.aload_n 0, 1) := by decide +kernel
theorem s200_214 (d : Nat) (a0 : Nat) (l1 : Value) (l2 : Value) (l3 : Value) (l4 : Value) (l5 : Value) (w0 w1 : Value) (σ : Hs) : ru d 200 214 [.ref a0, l1, l2, l3, l4, l5] [w0, w1] σ = ru d 200 215 [.ref a0, l1, l2, l3, l4, l5] [.ref a0, w0, w1] σ := q_aload_n t200_214 rfl
theorem t200_215 : decode (mb 200) 215 = .ok (.getfield 306, 3) := by decide +kernel
theorem s200_215_o87 (d : Nat) (l0 : Value) (l1 : Value) (l2 : Value) (l3 : Value) (l4 : Value) (l5 : Value) (w0 w1 : Value) (σ : Hs) : ru d 200 215 [l0, l1, l2, l3, l4, l5] [.ref 87, w0, w1] σ = ru d 200 218 [l0, l1, l2, l3, l4, l5] [.int (σ 87 20), w0, w1] σ := q_getf t200_215 mo200 F8_306 rfl rfl
theorem t200_218 : decode (mb 200) 218 = .ok (.isub, 1) := by decide +kernel
theorem s200_218 (d : Nat) (l0 : Value) (l1 : Value) (l2 : Value) (l3 : Value) (l4 : Value) (l5 : Value) (x y : Int32) (w0 : Value) (σ : Hs) : ru d 200 218 [l0, l1, l2, l3, l4, l5] [.int y, .int x, w0] σ = ru d 200 219 [l0, l1, l2, l3, l4, l5] [.int (x - y), w0] σ := q_isub t200_218
theorem t200_219 : decode (mb 200) 219 = .ok (.idiv, 1) := by decide +kernel
theorem s200_219 (d : Nat) (l0 : Value) (l1 : Value) (l2 : Value) (l3 : Value) (l4 : Value) (l5 : Value) (x y : Int32) (σ : Hs) : ru d 200 219 [l0, l1, l2, l3, l4, l5] [.int y, .int x] σ = gd (¬ y = 0) (ru d 200 220 [l0, l1, l2, l3, l4, l5] [.int (x / y)] σ) := q_idiv t200_219
theorem t200_220 : decode (mb 200) 220 = .ok (.ireturn, 1) := by decide +kernel
theorem s200_220 (d : Nat) (l0 : Value) (l1 : Value) (l2 : Value) (l3 : Value) (l4 : Value) (l5 : Value) (x : Int32) (σ : Hs) : ru d 200 220 [l0, l1, l2, l3, l4, l5] [.int x] σ = some (some (.int x), σ) := q_ireti t200_220 mr200
theorem t200_221 : decode (mb 200) 221 = .ok (.aload_n 0, 1) := by decide +kernel
theorem s200_221 (d : Nat) (a0 : Nat) (l1 : Value) (l2 : Value) (l3 : Value) (l4 : Value) (l5 : Value) (σ : Hs) : ru d 200 221 [.ref a0, l1, l2, l3, l4, l5] [] σ = ru d 200 222 [.ref a0, l1, l2, l3, l4, l5] [.ref a0] σ := q_aload_n t200_221 rfl
theorem t200_222 : decode (mb 200) 222 = .ok (.bipush 20, 2) := by decide +kernel
theorem s200_222 (d : Nat) (l0 : Value) (l1 : Value) (l2 : Value) (l3 : Value) (l4 : Value) (l5 : Value) (w0 : Value) (σ : Hs) : ru d 200 222 [l0, l1, l2, l3, l4, l5] [w0] σ = ru d 200 224 [l0, l1, l2, l3, l4, l5] [.int 20, w0] σ := q_bipush t200_222 (by decide +kernel)
theorem t200_224 : decode (mb 200) 224 = .ok (.invokevirtual 321, 3) := by decide +kernel
theorem s200_224_o87 (d : Nat) (l0 : Value) (l1 : Value) (l2 : Value) (l3 : Value) (l4 : Value) (l5 : Value) (v1 : Value) (σ : Hs) : ru d 200 224 [l0, l1, l2, l3, l4, l5] [v1, .ref 87] σ = kont (callD d 196 [.ref 87, v1] σ) d 200 227 [l0, l1, l2, l3, l4, l5] [] := q_invv t200_224 mo200 K8_321 mj196 rfl rfl rfl rfl (Nat.le_of_ble_eq_true rfl)
theorem t200_227 : decode (mb 200) 227 = .ok (.aload_n 0, 1) := by decide +kernel
theorem s200_227 (d : Nat) (a0 : Nat) (l1 : Value) (l2 : Value) (l3 : Value) (l4 : Value) (l5 : Value) (σ : Hs) : ru d 200 227 [.ref a0, l1, l2, l3, l4, l5] [] σ = ru d 200 228 [.ref a0, l1, l2, l3, l4, l5] [.ref a0] σ := q_aload_n t200_227 rfl
theorem t200_228 : decode (mb 200) 228 = .ok (.iconst 0, 1) := by decide +kernel
theorem s200_228 (d : Nat) (l0 : Value) (l1 : Value) (l2 : Value) (l3 : Value) (l4 : Value) (l5 : Value) (w0 : Value) (σ : Hs) : ru d 200 228 [l0, l1, l2, l3, l4, l5] [w0] σ = ru d 200 229 [l0, l1, l2, l3, l4, l5] [.int 0, w0] σ := q_iconst t200_228 (by decide +kernel)
theorem t200_229 : decode (mb 200) 229 = .ok (.iconst 0, 1) := by decide +kernel
theorem s200_229 (d : Nat) (l0 : Value) (l1 : Value) (l2 : Value) (l3 : Value) (l4 : Value) (l5 : Value) (w0 w1 : Value) (σ : Hs) : ru d 200 229 [l0, l1, l2, l3, l4, l5] [w0, w1] σ = ru d 200 230 [l0, l1, l2, l3, l4, l5] [.int 0, w0, w1] σ := q_iconst t200_229 (by decide +kernel)
theorem t200_230 : decode (mb 200) 230 = .ok (.iload_n 3, 1) := by decide +kernel
theorem s200_230 (d : Nat) (l0 : Value) (l1 : Value) (l2 : Value) (i3 : Int32) (l4 : Value) (l5 : Value) (w0 w1 w2 : Value) (σ : Hs) : ru d 200 230 [l0, l1, l2, .int i3, l4, l5] [w0, w1, w2] σ = ru d 200 231 [l0, l1, l2, .int i3, l4, l5] [.int i3, w0, w1, w2] σ := q_iload_n t200_230 rfl
theorem t200_231 : decode (mb 200) 231 = .ok (.invokevirtual 309, 3) := by decide +kernel
theorem s200_231_o87 (d : Nat) (l0 : Value) (l1 : Value) (l2 : Value) (l3 : Value) (l4 : Value) (l5 : Value) (v1 v2 v3 : Value) (σ : Hs) : ru d 200 231 [l0, l1, l2, l3, l4, l5] [v3, v2, v1, .ref 87] σ = kont (callD d 199 [.ref 87, v1, v2, v3] σ) d 200 234 [l0, l1, l2, l3, l4, l5] [] := q_invv t200_231 mo200 K8_309 mj199 rfl rfl rfl rfl (Nat.le_of_ble_eq_true rfl)
theorem t200_234 : decode (mb 200) 234 = .ok (.bipush 7, 2) := by decide +kernel
theorem s200_234 (d : Nat) (l0 : Value) (l1 : Value) (l2 : Value) (l3 : Value) (l4 : Value) (l5 : Value) (w0 : Value) (σ : Hs) : ru d 200 234 [l0, l1, l2, l3, l4, l5] [w0] σ = ru d 200 236 [l0, l1, l2, l3, l4, l5] [.int 7, w0] σ := q_bipush t200_234 (by decide +kernel)
theorem t200_236 : decode (mb 200) 236 = .ok (.isub, 1) := by decide +kernel
theorem s200_236 (d : Nat) (l0 : Value) (l1 : Value) (l2 : Value) (l3 : Value) (l4 : Value) (l5 : Value) (x y : Int32) (σ : Hs) : ru d 200 236 [l0, l1, l2, l3, l4, l5] [.int y, .int x] σ = ru d 200 237 [l0, l1, l2, l3, l4, l5] [.int (x - y)] σ := q_isub t200_236
theorem t200_237 : decode (mb 200) 237 = .ok (.ireturn, 1) := by decide +kernel
theorem s200_237 (d : Nat) (l0 : Value) (l1 : Value) (l2 : Value) (l3 : Value) (l4 : Value) (l5 : Value) (x : Int32) (σ : Hs) : ru d 200 237 [l0, l1, l2, l3, l4, l5] [.int x] σ = some (some (.int x), σ) := q_ireti t200_237 mr200
theorem t200_238 : decode (mb 200) 238 = .ok (.aload_n 0, 1) := by decide +kernel
theorem s200_238 (d : Nat) (a0 : Nat) (l1 : Value) (l2 : Value) (l3 : Value) (l4 : Value) (l5 : Value) (σ : Hs) : ru d 200 238 [.ref a0, l1, l2, l3, l4, l5] [] σ = ru d 200 239 [.ref a0, l1, l2, l3, l4, l5] [.ref a0] σ := q_aload_n t200_238 rfl
theorem t200_239 : decode (mb 200) 239 = .ok (.bipush 21, 2) := by decide +kernel
theorem s200_239 (d : Nat) (l0 : Value) (l1 : Value) (l2 : Value) (l3 : Value) (l4 : Value) (l5 : Value) (w0 : Value) (σ : Hs) : ru d 200 239 [l0, l1, l2, l3, l4, l5] [w0] σ = ru d 200 241 [l0, l1, l2, l3, l4, l5] [.int 21, w0] σ := q_bipush t200_239 (by decide +kernel)
theorem t200_241 : decode (mb 200) 241 = .ok (.invokevirtual 321, 3) := by decide +kernel
theorem s200_241_o87 (d : Nat) (l0 : Value) (l1 : Value) (l2 : Value) (l3 : Value) (l4 : Value) (l5 : Value) (v1 : Value) (σ : Hs) : ru d 200 241 [l0, l1, l2, l3, l4, l5] [v1, .ref 87] σ = kont (callD d 196 [.ref 87, v1] σ) d 200 244 [l0, l1, l2, l3, l4, l5] [] := q_invv t200_241 mo200 K8_321 mj196 rfl rfl rfl rfl (Nat.le_of_ble_eq_true rfl)
theorem t200_244 : decode (mb 200) 244 = .ok (.aload_n 0, 1) := by decide +kernel
theorem s200_244 (d : Nat) (a0 : Nat) (l1 : Value) (l2 : Value) (l3 : Value) (l4 : Value) (l5 : Value) (σ : Hs) : ru d 200 244 [.ref a0, l1, l2, l3, l4, l5] [] σ = ru d 200 245 [.ref a0, l1, l2, l3, l4, l5] [.ref a0] σ := q_aload_n t200_244 rfl
theorem t200_245 : decode (mb 200) 245 = .ok (.iconst 0, 1) := by decide +kernel
theorem s200_245 (d : Nat) (l0 : Value) (l1 : Value) (l2 : Value) (l3 : Value) (l4 : Value) (l5 : Value) (w0 : Value) (σ : Hs) : ru d 200 245 [l0, l1, l2, l3, l4, l5] [w0] σ = ru d 200 246 [l0, l1, l2, l3, l4, l5] [.int 0, w0] σ := q_iconst t200_245 (by decide +kernel)
theorem t200_246 : decode (mb 200) 246 = .ok (.iconst 3, 1) := by decide +kernel
theorem s200_246 (d : Nat) (l0 : Value) (l1 : Value) (l2 : Value) (l3 : Value) (l4 : Value) (l5 : Value) (w0 w1 : Value) (σ : Hs) : ru d 200 246 [l0, l1, l2, l3, l4, l5] [w0, w1] σ = ru d 200 247 [l0, l1, l2, l3, l4, l5] [.int 3, w0, w1] σ := q_iconst t200_246 (by decide +kernel)
theorem t200_247 : decode (mb 200) 247 = .ok (.iload_n 3, 1) := by decide +kernel
theorem s200_247 (d : Nat) (l0 : Value) (l1 : Value) (l2 : Value) (i3 : Int32) (l4 : Value) (l5 : Value) (w0 w1 w2 : Value) (σ : Hs) : ru d 200 247 [l0, l1, l2, .int i3, l4, l5] [w0, w1, w2] σ = ru d 200 248 [l0, l1, l2, .int i3, l4, l5] [.int i3, w0, w1, w2] σ := q_iload_n t200_247 rfl
theorem t200_248 : decode (mb 200) 248 = .ok (.invokevirtual 309, 3) := by decide +kernel
theorem s200_248_o87 (d : Nat) (l0 : Value) (l1 : Value) (l2 : Value) (l3 : Value) (l4 : Value) (l5 : Value) (v1 v2 v3 : Value) (σ : Hs) : ru d 200 248 [l0, l1, l2, l3, l4, l5] [v3, v2, v1, .ref 87] σ = kont (callD d 199 [.ref 87, v1, v2, v3] σ) d 200 251 [l0, l1, l2, l3, l4, l5] [] := q_invv t200_248 mo200 K8_309 mj199 rfl rfl rfl rfl (Nat.le_of_ble_eq_true rfl)
theorem t200_251 : decode (mb 200) 251 = .ok (.istore 5, 2) := by decide +kernel
theorem s200_251 (d : Nat) (l0 : Value) (l1 : Value) (l2 : Value) (l3 : Value) (i4 : Int32) (l5 : Value) (x : Int32) (σ : Hs) : ru d 200 251 [l0, l1, l2, l3, .int i4, l5] [.int x] σ = ru d 200 253 [l0, l1, l2, l3, .int i4, .int x] [] σ := q_istore t200_251 ⟨Nat.le_of_ble_eq_true rfl, rfl⟩ rfl
theorem t200_253 : decode (mb 200) 253 = .ok (.iload 5, 2) := by decide +kernel
theorem s200_253 (d : Nat) (l0 : Value) (l1 : Value) (l2 : Value) (l3 : Value) (l4 : Value) (i5 : Int32) (σ : Hs) : ru d 200 253 [l0, l1, l2, l3, l4, .int i5] [] σ = ru d 200 255 [l0, l1, l2, l3, l4, .int i5] [.int i5] σ := q_iload t200_253 rfl
theorem t200_255 : decode (mb 200) 255 = .ok (.aload_n 0, 1) := by decide +kernel
theorem s200_255 (d : Nat) (a0 : Nat) (l1 : Value) (l2 : Value) (l3 : Value) (l4 : Value) (l5 : Value) (w0 : Value) (σ : Hs) : ru d 200 255 [.ref a0, l1, l2, l3, l4, l5] [w0] σ = ru d 200 256 [.ref a0, l1, l2, l3, l4, l5] [.ref a0, w0] σ := q_aload_n t200_255 rfl
theorem t200_256 : decode (mb 200) 256 = .ok (.iconst 1, 1) := by decide +kernel
theorem s200_256 (d : Nat) (l0 : Value) (l1 : Value) (l2 : Value) (l3 : Value) (l4 : Value) (l5 : Value) (w0 w1 : Value) (σ : Hs) : ru d 200 256 [l0, l1, l2, l3, l4, l5] [w0, w1] σ = ru d 200 257 [l0, l1, l2, l3, l4, l5] [.int 1, w0, w1] σ := q_iconst t200_256 (by decide +kernel)
theorem t200_257 : decode (mb 200) 257 = .ok (.iconst 1, 1) := by decide +kernel
theorem s200_257 (d : Nat) (l0 : Value) (l1 : Value) (l2 : Value) (l3 : Value) (l4 : Value) (l5 : Value) (w0 w1 w2 : Value) (σ : Hs) : ru d 200 257 [l0, l1, l2, l3, l4, l5] [w0, w1, w2] σ = ru d 200 258 [l0, l1, l2, l3, l4, l5] [.int 1, w0, w1, w2] σ := q_iconst t200_257 (by decide +kernel)
theorem t200_258 : decode (mb 200) 258 = .ok (.invokevirtual 324, 3) := by decide +kernel
theorem s200_258_o87 (d : Nat) (l0 : Value) (l1 : Value) (l2 : Value) (l3 : Value) (l4 : Value) (l5 : Value) (v1 v2 : Value) (w0 : Int32) (σ : Hs) : ru d 200 258 [l0, l1, l2, l3, l4, l5] [v2, v1, .ref 87, .int w0] σ = kont (callD d 198 [.ref 87, v1, v2] σ) d 200 261 [l0, l1, l2, l3, l4, l5] [.int w0] := q_invv t200_258 mo200 K8_324 mj198 rfl rfl rfl rfl (Nat.le_of_ble_eq_true rfl)
theorem t200_261 : decode (mb 200) 261 = .ok (.iadd, 1) := by decide +kernel
theorem s200_261 (d : Nat) (l0 : Value) (l1 : Value) (l2 : Value) (l3 : Value) (l4 : Value) (l5 : Value) (x y : Int32) (σ : Hs) : ru d 200 261 [l0, l1, l2, l3, l4, l5] [.int y, .int x] σ = ru d 200 262 [l0, l1, l2, l3, l4, l5] [.int (x + y)] σ := q_iadd t200_261
theorem t200_262 : decode (mb 200) 262 = .ok (.ireturn, 1) := by decide +kernel
theorem s200_262 (d : Nat) (l0 : Value) (l1 : Value) (l2 : Value) (l3 : Value) (l4 : Value) (l5 : Value) (x : Int32) (σ : Hs) : ru d 200 262 [l0, l1, l2, l3, l4, l5] [.int x] σ = some (some (.int x), σ) := q_ireti t200_262 mr200
theorem t200_263 : decode (mb 200) 263 = .ok (.aload_n 0, 1) := by decide +kernel
theorem s200_263 (d : Nat) (a0 : Nat) (l1 : Value) (l2 : Value) (l3 : Value) (l4 : Value) (l5 : Value) (σ : Hs) : ru d 200 263 [.ref a0, l1, l2, l3, l4, l5] [] σ = ru d 200 264 [.ref a0, l1, l2, l3, l4, l5] [.ref a0] σ := q_aload_n t200_263 rfl
theorem t200_264 : decode (mb 200) 264 = .ok (.bipush 30, 2) := by decide +kernel
theorem s200_264 (d : Nat) (l0 : Value) (l1 : Value) (l2 : Value) (l3 : Value) (l4 : Value) (l5 : Value) (w0 : Value) (σ : Hs) : ru d 200 264 [l0, l1, l2, l3, l4, l5] [w0] σ = ru d 200 266 [l0, l1, l2, l3, l4, l5] [.int 30, w0] σ := q_bipush t200_264 (by decide +kernel)
theorem t200_266 : decode (mb 200) 266 = .ok (.invokevirtual 321, 3) := by decide +kernel
theorem s200_266_o87 (d : Nat) (l0 : Value) (l1 : Value) (l2 : Value) (l3 : Value) (l4 : Value) (l5 : Value) (v1 : Value) (σ : Hs) : ru d 200 266 [l0, l1, l2, l3, l4, l5] [v1, .ref 87] σ = kont (callD d 196 [.ref 87, v1] σ) d 200 269 [l0, l1, l2, l3, l4, l5] [] := q_invv t200_266 mo200 K8_321 mj196 rfl rfl rfl rfl (Nat.le_of_ble_eq_true rfl)
theorem t200_269 : decode (mb 200) 269 = .ok (.aload_n 0, 1) := by decide +kernel
theorem s200_269 (d : Nat) (a0 : Nat) (l1 : Value) (l2 : Value) (l3 : Value) (l4 : Value) (l5 : Value) (σ : Hs) : ru d 200 269 [.ref a0, l1, l2, l3, l4, l5] [] σ = ru d 200 270 [.ref a0, l1, l2, l3, l4, l5] [.ref a0] σ := q_aload_n t200_269 rfl
theorem t200_270 : decode (mb 200) 270 = .ok (.iconst 0, 1) := by decide +kernel
theorem s200_270 (d : Nat) (l0 : Value) (l1 : Value) (l2 : Value) (l3 : Value) (l4 : Value) (l5 : Value) (w0 : Value) (σ : Hs) : ru d 200 270 [l0, l1, l2, l3, l4, l5] [w0] σ = ru d 200 271 [l0, l1, l2, l3, l4, l5] [.int 0, w0] σ := q_iconst t200_270 (by decide +kernel)
theorem t200_271 : decode (mb 200) 271 = .ok (.iconst 2, 1) := by decide +kernel
theorem s200_271 (d : Nat) (l0 : Value) (l1 : Value) (l2 : Value) (l3 : Value) (l4 : Value) (l5 : Value) (w0 w1 : Value) (σ : Hs) : ru d 200 271 [l0, l1, l2, l3, l4, l5] [w0, w1] σ = ru d 200 272 [l0, l1, l2, l3, l4, l5] [.int 2, w0, w1] σ := q_iconst t200_271 (by decide +kernel)
theorem t200_272 : decode (mb 200) 272 = .ok (.iload_n 3, 1) := by decide +kernel
theorem s200_272 (d : Nat) (l0 : Value) (l1 : Value) (l2 : Value) (i3 : Int32) (l4 : Value) (l5 : Value) (w0 w1 w2 : Value) (σ : Hs) : ru d 200 272 [l0, l1, l2, .int i3, l4, l5] [w0, w1, w2] σ = ru d 200 273 [l0, l1, l2, .int i3, l4, l5] [.int i3, w0, w1, w2] σ := q_iload_n t200_272 rfl
theorem t200_273 : decode (mb 200) 273 = .ok (.invokevirtual 309, 3) := by decide +kernel
theorem s200_273_o87 (d : Nat) (l0 : Value) (l1 : Value) (l2 : Value) (l3 : Value) (l4 : Value) (l5 : Value) (v1 v2 v3 : Value) (σ : Hs) : ru d 200 273 [l0, l1, l2, l3, l4, l5] [v3, v2, v1, .ref 87] σ = kont (callD d 199 [.ref 87, v1, v2, v3] σ) d 200 276 [l0, l1, l2, l3, l4, l5] [] := q_invv t200_273 mo200 K8_309 mj199 rfl rfl rfl rfl (Nat.le_of_ble_eq_true rfl)
theorem t200_276 : decode (mb 200) 276 = .ok (.iload 4, 2) := by decide +kernel
theorem s200_276 (d : Nat) (l0 : Value) (l1 : Value) (l2 : Value) (l3 : Value) (i4 : Int32) (l5 : Value) (w0 : Value) (σ : Hs) : ru d 200 276 [l0, l1, l2, l3, .int i4, l5] [w0] σ = ru d 200 278 [l0, l1, l2, l3, .int i4, l5] [.int i4, w0] σ := q_iload t200_276 rfl
theorem t200_278 : decode (mb 200) 278 = .ok (.ixor, 1) := by decide +kernel
theorem s200_278 (d : Nat) (l0 : Value) (l1 : Value) (l2 : Value) (l3 : Value) (l4 : Value) (l5 : Value) (x y : Int32) (σ : Hs) : ru d 200 278 [l0, l1, l2, l3, l4, l5] [.int y, .int x] σ = ru d 200 279 [l0, l1, l2, l3, l4, l5] [.int (x ^^^ y)] σ := q_ixor t200_278
theorem t200_279 : decode (mb 200) 279 = .ok (.ireturn, 1) := by decide +kernel
theorem s200_279 (d : Nat) (l0 : Value) (l1 : Value) (l2 : Value) (l3 : Value) (l4 : Value) (l5 : Value) (x : Int32) (σ : Hs) : ru d 200 279 [l0, l1, l2, l3, l4, l5] [.int x] σ = some (some (.int x), σ) := q_ireti t200_279 mr200
theorem t200_280 : decode (mb 200) 280 = .ok (.aload_n 0, 1) := by decide +kernel
theorem s200_280 (d : Nat) (a0 : Nat) (l1 : Value) (l2 : Value) (l3 : Value) (l4 : Value) (l5 : Value) (σ : Hs) : ru d 200 280 [.ref a0, l1, l2, l3, l4, l5] [] σ = ru d 200 281 [.ref a0, l1, l2, l3, l4, l5] [.ref a0] σ := q_aload_n t200_280 rfl
theorem t200_281 : decode (mb 200) 281 = .ok (.bipush 40, 2) := by decide +kernel
theorem s200_281 (d : Nat) (l0 : Value) (l1 : Value) (l2 : Value) (l3 : Value) (l4 : Value) (l5 : Value) (w0 : Value) (σ : Hs) : ru d 200 281 [l0, l1, l2, l3, l4, l5] [w0] σ = ru d 200 283 [l0, l1, l2, l3, l4, l5] [.int 40, w0] σ := q_bipush t200_281 (by decide +kernel)
theorem t200_283 : decode (mb 200) 283 = .ok (.invokevirtual 321, 3) := by decide +kernel
theorem s200_283_o87 (d : Nat) (l0 : Value) (l1 : Value) (l2 : Value) (l3 : Value) (l4 : Value) (l5 : Value) (v1 : Value) (σ : Hs) : ru d 200 283 [l0, l1, l2, l3, l4, l5] [v1, .ref 87] σ = kont (callD d 196 [.ref 87, v1] σ) d 200 286 [l0, l1, l2, l3, l4, l5] [] := q_invv t200_283 mo200 K8_321 mj196 rfl rfl rfl rfl (Nat.le_of_ble_eq_true rfl)
theorem t200_286 : decode (mb 200) 286 = .ok (.aload_n 0, 1) := by decide +kernel
theorem s200_286 (d : Nat) (a0 : Nat) (l1 : Value) (l2 : Value) (l3 : Value) (l4 : Value) (l5 : Value) (σ : Hs) : ru d 200 286 [.ref a0, l1, l2, l3, l4, l5] [] σ = ru d 200 287 [.ref a0, l1, l2, l3, l4, l5] [.ref a0] σ := q_aload_n t200_286 rfl
theorem t200_287 : decode (mb 200) 287 = .ok (.iconst 1, 1) := by decide +kernel
theorem s200_287 (d : Nat) (l0 : Value) (l1 : Value) (l2 : Value) (l3 : Value) (l4 : Value) (l5 : Value) (w0 : Value) (σ : Hs) : ru d 200 287 [l0, l1, l2, l3, l4, l5] [w0] σ = ru d 200 288 [l0, l1, l2, l3, l4, l5] [.int 1, w0] σ := q_iconst t200_287 (by decide +kernel)
theorem t200_288 : decode (mb 200) 288 = .ok (.iconst 0, 1) := by decide +kernel
theorem s200_288 (d : Nat) (l0 : Value) (l1 : Value) (l2 : Value) (l3 : Value) (l4 : Value) (l5 : Value) (w0 w1 : Value) (σ : Hs) : ru d 200 288 [l0, l1, l2, l3, l4, l5] [w0, w1] σ = ru d 200 289 [l0, l1, l2, l3, l4, l5] [.int 0, w0, w1] σ := q_iconst t200_288 (by decide +kernel)
theorem t200_289 : decode (mb 200) 289 = .ok (.iload_n 3, 1) := by decide +kernel
theorem s200_289 (d : Nat) (l0 : Value) (l1 : Value) (l2 : Value) (i3 : Int32) (l4 : Value) (l5 : Value) (w0 w1 w2 : Value) (σ : Hs) : ru d 200 289 [l0, l1, l2, .int i3, l4, l5] [w0, w1, w2] σ = ru d 200 290 [l0, l1, l2, .int i3, l4, l5] [.int i3, w0, w1, w2] σ := q_iload_n t200_289 rfl
theorem t200_290 : decode (mb 200) 290 = .ok (.iconst 2, 1) := by decide +kernel
theorem s200_290 (d : Nat) (l0 : Value) (l1 : Value) (l2 : Value) (l3 : Value) (l4 : Value) (l5 : Value) (w0 w1 w2 w3 : Value) (σ : Hs) : ru d 200 290 [l0, l1, l2, l3, l4, l5] [w0, w1, w2, w3] σ = ru d 200 291 [l0, l1, l2, l3, l4, l5] [.int 2, w0, w1, w2, w3] σ := q_iconst t200_290 (by decide +kernel)
theorem t200_291 : decode (mb 200) 291 = .ok (.idiv, 1) := by decide +kernel
theorem s200_291 (d : Nat) (l0 : Value) (l1 : Value) (l2 : Value) (l3 : Value) (l4 : Value) (l5 : Value) (x y : Int32) (w0 w1 w2 : Value) (σ : Hs) : ru d 200 291 [l0, l1, l2, l3, l4, l5] [.int y, .int x, w0, w1, w2] σ = gd (¬ y = 0) (ru d 200 292 [l0, l1, l2, l3, l4, l5] [.int (x / y), w0, w1, w2] σ) := q_idiv t200_291
theorem t200_292 : decode (mb 200) 292 = .ok (.invokevirtual 309, 3) := by decide +kernel
theorem s200_292_o87 (d : Nat) (l0 : Value) (l1 : Value) (l2 : Value) (l3 : Value) (l4 : Value) (l5 : Value) (v1 v2 v3 : Value) (σ : Hs) : ru d 200 292 [l0, l1, l2, l3, l4, l5] [v3, v2, v1, .ref 87] σ = kont (callD d 199 [.ref 87, v1, v2, v3] σ) d 200 295 [l0, l1, l2, l3, l4, l5] [] := q_invv t200_292 mo200 K8_309 mj199 rfl rfl rfl rfl (Nat.le_of_ble_eq_true rfl)
theorem t200_295 : decode (mb 200) 295 = .ok (.ireturn, 1) := by decide +kernel
theorem s200_295 (d : Nat) (l0 : Value) (l1 : Value) (l2 : Value) (l3 : Value) (l4 : Value) (l5 : Value) (x : Int32) (σ : Hs) : ru d 200 295 [l0, l1, l2, l3, l4, l5] [.int x] σ = some (some (.int x), σ) := q_ireti t200_295 mr200
theorem t200_296 : decode (mb 200) 296 = .ok (.aload_n 0, 1) := by decide +kernel
theorem s200_296 (d : Nat) (a0 : Nat) (l1 : Value) (l2 : Value) (l3 : Value) (l4 : Value) (l5 : Value) (σ : Hs) : ru d 200 296 [.ref a0, l1, l2, l3, l4, l5] [] σ = ru d 200 297 [.ref a0, l1, l2, l3, l4, l5] [.ref a0] σ := q_aload_n t200_296 rfl
theorem t200_297 : decode (mb 200) 297 = .ok (.bipush 41, 2) := by decide +kernel
theorem s200_297 (d : Nat) (l0 : Value) (l1 : Value) (l2 : Value) (l3 : Value) (l4 : Value) (l5 : Value) (w0 : Value) (σ : Hs) : ru d 200 297 [l0, l1, l2, l3, l4, l5] [w0] σ = ru d 200 299 [l0, l1, l2, l3, l4, l5] [.int 41, w0] σ := q_bipush t200_297 (by decide +kernel)
theorem t200_299 : decode (mb 200) 299 = .ok (.invokevirtual 321, 3) := by decide +kernel
theorem s200_299_o87 (d : Nat) (l0 : Value) (l1 : Value) (l2 : Value) (l3 : Value) (l4 : Value) (l5 : Value) (v1 : Value) (σ : Hs) : ru d 200 299 [l0, l1, l2, l3, l4, l5] [v1, .ref 87] σ = kont (callD d 196 [.ref 87, v1] σ) d 200 302 [l0, l1, l2, l3, l4, l5] [] := q_invv t200_299 mo200 K8_321 mj196 rfl rfl rfl rfl (Nat.le_of_ble_eq_true rfl)
theorem t200_302 : decode (mb 200) 302 = .ok (.aload_n 0, 1) := by decide +kernel
theorem s200_302 (d : Nat) (a0 : Nat) (l1 : Value) (l2 : Value) (l3 : Value) (l4 : Value) (l5 : Value) (σ : Hs) : ru d 200 302 [.ref a0, l1, l2, l3, l4, l5] [] σ = ru d 200 303 [.ref a0, l1, l2, l3, l4, l5] [.ref a0] σ := q_aload_n t200_302 rfl
theorem t200_303 : decode (mb 200) 303 = .ok (.iconst 1, 1) := by decide +kernel
theorem s200_303 (d : Nat) (l0 : Value) (l1 : Value) (l2 : Value) (l3 : Value) (l4 : Value) (l5 : Value) (w0 : Value) (σ : Hs) : ru d 200 303 [l0, l1, l2, l3, l4, l5] [w0] σ = ru d 200 304 [l0, l1, l2, l3, l4, l5] [.int 1, w0] σ := q_iconst t200_303 (by decide +kernel)
theorem t200_304 : decode (mb 200) 304 = .ok (.iconst 1, 1) := by decide +kernel
theorem s200_304 (d : Nat) (l0 : Value) (l1 : Value) (l2 : Value) (l3 : Value) (l4 : Value) (l5 : Value) (w0 w1 : Value) (σ : Hs) : ru d 200 304 [l0, l1, l2, l3, l4, l5] [w0, w1] σ = ru d 200 305 [l0, l1, l2, l3, l4, l5] [.int 1, w0, w1] σ := q_iconst t200_304 (by decide +kernel)
theorem t200_305 : decode (mb 200) 305 = .ok (.iload_n 3, 1) := by decide +kernel
theorem s200_305 (d : Nat) (l0 : Value) (l1 : Value) (l2 : Value) (i3 : Int32) (l4 : Value) (l5 : Value) (w0 w1 w2 : Value) (σ : Hs) : ru d 200 305 [l0, l1, l2, .int i3, l4, l5] [w0, w1, w2] σ = ru d 200 306 [l0, l1, l2, .int i3, l4, l5] [.int i3, w0, w1, w2] σ := q_iload_n t200_305 rfl
theorem t200_306 : decode (mb 200) 306 = .ok (.invokevirtual 309, 3) := by decide +kernel
theorem s200_306_o87 (d : Nat) (l0 : Value) (l1 : Value) (l2 : Value) (l3 : Value) (l4 : Value) (l5 : Value) (v1 v2 v3 : Value) (σ : Hs) : ru d 200 306 [l0, l1, l2, l3, l4, l5] [v3, v2, v1, .ref 87] σ = kont (callD d 199 [.ref 87, v1, v2, v3] σ) d 200 309 [l0, l1, l2, l3, l4, l5] [] := q_invv t200_306 mo200 K8_309 mj199 rfl rfl rfl rfl (Nat.le_of_ble_eq_true rfl)
theorem t200_309 : decode (mb 200) 309 = .ok (.ineg, 1) := by decide +kernel
theorem s200_309 (d : Nat) (l0 : Value) (l1 : Value) (l2 : Value) (l3 : Value) (l4 : Value) (l5 : Value) (x : Int32) (σ : Hs) : ru d 200 309 [l0, l1, l2, l3, l4, l5] [.int x] σ = ru d 200 310 [l0, l1, l2, l3, l4, l5] [.int (-x)] σ := q_ineg t200_309
theorem t200_310 : decode (mb 200) 310 = .ok (.ireturn, 1) := by decide +kernel
theorem s200_310 (d : Nat) (l0 : Value) (l1 : Value) (l2 : Value) (l3 : Value) (l4 : Value) (l5 : Value) (x : Int32) (σ : Hs) : ru d 200 310 [l0, l1, l2, l3, l4, l5] [.int x] σ = some (some (.int x), σ) := q_ireti t200_310 mr200
theorem t200_311 : decode (mb 200) 311 = .ok (.aload_n 0, 1) := by decide +kernel
theorem s200_311 (d : Nat) (a0 : Nat) (l1 : Value) (l2 : Value) (l3 : Value) (l4 : Value) (l5 : Value) (σ : Hs) : ru d 200 311 [.ref a0, l1, l2, l3, l4, l5] [] σ = ru d 200 312 [.ref a0, l1, l2, l3, l4, l5] [.ref a0] σ := q_aload_n t200_311 rfl
theorem t200_312 : decode (mb 200) 312 = .ok (.bipush 50, 2) := by decide +kernel
theorem s200_312 (d : Nat) (l0 : Value) (l1 : Value) (l2 : Value) (l3 : Value) (l4 : Value) (l5 : Value) (w0 : Value) (σ : Hs) : ru d 200 312 [l0, l1, l2, l3, l4, l5] [w0] σ = ru d 200 314 [l0, l1, l2, l3, l4, l5] [.int 50, w0] σ := q_bipush t200_312 (by decide +kernel)
theorem t200_314 : decode (mb 200) 314 = .ok (.invokevirtual 321, 3) := by decide +kernel
theorem s200_314_o87 (d : Nat) (l0 : Value) (l1 : Value) (l2 : Value) (l3 : Value) (l4 : Value) (l5 : Value) (v1 : Value) (σ : Hs) : ru d 200 314 [l0, l1, l2, l3, l4, l5] [v1, .ref 87] σ = kont (callD d 196 [.ref 87, v1] σ) d 200 317 [l0, l1, l2, l3, l4, l5] [] := q_invv t200_314 mo200 K8_321 mj196 rfl rfl rfl rfl (Nat.le_of_ble_eq_true rfl)
theorem t200_317 : decode (mb 200) 317 = .ok (.aload_n 0, 1) := by decide +kernel
theorem s200_317 (d : Nat) (a0 : Nat) (l1 : Value) (l2 : Value) (l3 : Value) (l4 : Value) (l5 : Value) (σ : Hs) : ru d 200 317 [.ref a0, l1, l2, l3, l4, l5] [] σ = ru d 200 318 [.ref a0, l1, l2, l3, l4, l5] [.ref a0] σ := q_aload_n t200_317 rfl
theorem t200_318 : decode (mb 200) 318 = .ok (.iconst 2, 1) := by decide +kernel
theorem s200_318 (d : Nat) (l0 : Value) (l1 : Value) (l2 : Value) (l3 : Value) (l4 : Value) (l5 : Value) (w0 : Value) (σ : Hs) : ru d 200 318 [l0, l1, l2, l3, l4, l5] [w0] σ = ru d 200 319 [l0, l1, l2, l3, l4, l5] [.int 2, w0] σ := q_iconst t200_318 (by decide +kernel)
theorem t200_319 : decode (mb 200) 319 = .ok (.iconst 2, 1) := by decide +kernel
theorem s200_319 (d : Nat) (l0 : Value) (l1 : Value) (l2 : Value) (l3 : Value) (l4 : Value) (l5 : Value) (w0 w1 : Value) (σ : Hs) : ru d 200 319 [l0, l1, l2, l3, l4, l5] [w0, w1] σ = ru d 200 320 [l0, l1, l2, l3, l4, l5] [.int 2, w0, w1] σ := q_iconst t200_319 (by decide +kernel)
theorem t200_320 : decode (mb 200) 320 = .ok (.iload_n 3, 1) := by decide +kernel
theorem s200_320 (d : Nat) (l0 : Value) (l1 : Value) (l2 : Value) (i3 : Int32) (l4 : Value) (l5 : Value) (w0 w1 w2 : Value) (σ : Hs) : ru d 200 320 [l0, l1, l2, .int i3, l4, l5] [w0, w1, w2] σ = ru d 200 321 [l0, l1, l2, .int i3, l4, l5] [.int i3, w0, w1, w2] σ := q_iload_n t200_320 rfl
theorem t200_321 : decode (mb 200) 321 = .ok (.iconst 1, 1) := by decide +kernel
theorem s200_321 (d : Nat) (l0 : Value) (l1 : Value) (l2 : Value) (l3 : Value) (l4 : Value) (l5 : Value) (w0 w1 w2 w3 : Value) (σ : Hs) : ru d 200 321 [l0, l1, l2, l3, l4, l5] [w0, w1, w2, w3] σ = ru d 200 322 [l0, l1, l2, l3, l4, l5] [.int 1, w0, w1, w2, w3] σ := q_iconst t200_321 (by decide +kernel)
theorem t200_322 : decode (mb 200) 322 = .ok (.iadd, 1) := by decide +kernel
theorem s200_322 (d : Nat) (l0 : Value) (l1 : Value) (l2 : Value) (l3 : Value) (l4 : Value) (l5 : Value) (x y : Int32) (w0 w1 w2 : Value) (σ : Hs) : ru d 200 322 [l0, l1, l2, l3, l4, l5] [.int y, .int x, w0, w1, w2] σ = ru d 200 323 [l0, l1, l2, l3, l4, l5] [.int (x + y), w0, w1, w2] σ := q_iadd t200_322
theorem t200_323 : decode (mb 200) 323 = .ok (.invokevirtual 309, 3) := by decide +kernel
theorem s200_323_o87 (d : Nat) (l0 : Value) (l1 : Value) (l2 : Value) (l3 : Value) (l4 : Value) (l5 : Value) (v1 v2 v3 : Value) (σ : Hs) : ru d 200 323 [l0, l1, l2, l3, l4, l5] [v3, v2, v1, .ref 87] σ = kont (callD d 199 [.ref 87, v1, v2, v3] σ) d 200 326 [l0, l1, l2, l3, l4, l5] [] := q_invv t200_323 mo200 K8_309 mj199 rfl rfl rfl rfl (Nat.le_of_ble_eq_true rfl)
theorem t200_326 : decode (mb 200) 326 = .ok (.ireturn, 1) := by decide +kernel
theorem s200_326 (d : Nat) (l0 : Value) (l1 : Value) (l2 : Value) (l3 : Value) (l4 : Value) (l5 : Value) (x : Int32) (σ : Hs) : ru d 200 326 [l0, l1, l2, l3, l4, l5] [.int x] σ = some (some (.int x), σ) := q_ireti t200_326 mr200
theorem t200_327 : decode (mb 200) 327 = .ok (.aload_n 0, 1) := by decide +kernel
theorem s200_327 (d : Nat) (a0 : Nat) (l1 : Value) (l2 : Value) (l3 : Value) (l4 : Value) (l5 : Value) (σ : Hs) : ru d 200 327 [.ref a0, l1, l2, l3, l4, l5] [] σ = ru d 200 328 [.ref a0, l1, l2, l3, l4, l5] [.ref a0] σ := q_aload_n t200_327 rfl
theorem t200_328 : decode (mb 200) 328 = .ok (.bipush 51, 2) := by decide +kernel
theorem s200_328 (d : Nat) (l0 : Value) (l1 : Value) (l2 : Value) (l3 : Value) (l4 : Value) (l5 : Value) (w0 : Value) (σ : Hs) : ru d 200 328 [l0, l1, l2, l3, l4, l5] [w0] σ = ru d 200 330 [l0, l1, l2, l3, l4, l5] [.int 51, w0] σ := q_bipush t200_328 (by decide +kernel)
theorem t200_330 : decode (mb 200) 330 = .ok (.invokevirtual 321, 3) := by decide +kernel
theorem s200_330_o87 (d : Nat) (l0 : Value) (l1 : Value) (l2 : Value) (l3 : Value) (l4 : Value) (l5 : Value) (v1 : Value) (σ : Hs) : ru d 200 330 [l0, l1, l2, l3, l4, l5] [v1, .ref 87] σ = kont (callD d 196 [.ref 87, v1] σ) d 200 333 [l0, l1, l2, l3, l4, l5] [] := q_invv t200_330 mo200 K8_321 mj196 rfl rfl rfl rfl (Nat.le_of_ble_eq_true rfl)
theorem t200_333 : decode (mb 200) 333 = .ok (.aload_n 0, 1) := by decide +kernel
theorem s200_333 (d : Nat) (a0 : Nat) (l1 : Value) (l2 : Value) (l3 : Value) (l4 : Value) (l5 : Value) (σ : Hs) : ru d 200 333 [.ref a0, l1, l2, l3, l4, l5] [] σ = ru d 200 334 [.ref a0, l1, l2, l3, l4, l5] [.ref a0] σ := q_aload_n t200_333 rfl
theorem t200_334 : decode (mb 200) 334 = .ok (.iconst 2, 1) := by decide +kernel
theorem s200_334 (d : Nat) (l0 : Value) (l1 : Value) (l2 : Value) (l3 : Value) (l4 : Value) (l5 : Value) (w0 : Value) (σ : Hs) : ru d 200 334 [l0, l1, l2, l3, l4, l5] [w0] σ = ru d 200 335 [l0, l1, l2, l3, l4, l5] [.int 2, w0] σ := q_iconst t200_334 (by decide +kernel)
theorem t200_335 : decode (mb 200) 335 = .ok (.iconst 3, 1) := by decide +kernel
theorem s200_335 (d : Nat) (l0 : Value) (l1 : Value) (l2 : Value) (l3 : Value) (l4 : Value) (l5 : Value) (w0 w1 : Value) (σ : Hs) : ru d 200 335 [l0, l1, l2, l3, l4, l5] [w0, w1] σ = ru d 200 336 [l0, l1, l2, l3, l4, l5] [.int 3, w0, w1] σ := q_iconst t200_335 (by decide +kernel)
theorem t200_336 : decode (mb 200) 336 = .ok (.iload_n 3, 1) := by decide +kernel
theorem s200_336 (d : Nat) (l0 : Value) (l1 : Value) (l2 : Value) (i3 : Int32) (l4 : Value) (l5 : Value) (w0 w1 w2 : Value) (σ : Hs) : ru d 200 336 [l0, l1, l2, .int i3, l4, l5] [w0, w1, w2] σ = ru d 200 337 [l0, l1, l2, .int i3, l4, l5] [.int i3, w0, w1, w2] σ := q_iload_n t200_336 rfl
theorem t200_337 : decode (mb 200) 337 = .ok (.invokevirtual 309, 3) := by decide +kernel
theorem s200_337_o87 (d : Nat) (l0 : Value) (l1 : Value) (l2 : Value) (l3 : Value) (l4 : Value) (l5 : Value) (v1 v2 v3 : Value) (σ : Hs) : ru d 200 337 [l0, l1, l2, l3, l4, l5] [v3, v2, v1, .ref 87] σ = kont (callD d 199 [.ref 87, v1, v2, v3] σ) d 200 340 [l0, l1, l2, l3, l4, l5] [] := q_invv t200_337 mo200 K8_309 mj199 rfl rfl rfl rfl (Nat.le_of_ble_eq_true rfl)
theorem t200_340 : decode (mb 200) 340 = .ok (.istore 5, 2) := by decide +kernel
theorem s200_340 (d : Nat) (l0 : Value) (l1 : Value) (l2 : Value) (l3 : Value) (i4 : Int32) (l5 : Value) (x : Int32) (σ : Hs) : ru d 200 340 [l0, l1, l2, l3, .int i4, l5] [.int x] σ = ru d 200 342 [l0, l1, l2, l3, .int i4, .int x] [] σ := q_istore t200_340 ⟨Nat.le_of_ble_eq_true rfl, rfl⟩ rfl
theorem t200_342 : decode (mb 200) 342 = .ok (.iload 5, 2) := by decide +kernel
theorem s200_342 (d : Nat) (l0 : Value) (l1 : Value) (l2 : Value) (l3 : Value) (l4 : Value) (i5 : Int32) (σ : Hs) : ru d 200 342 [l0, l1, l2, l3, l4, .int i5] [] σ = ru d 200 344 [l0, l1, l2, l3, l4, .int i5] [.int i5] σ := q_iload t200_342 rfl
theorem t200_344 : decode (mb 200) 344 = .ok (.aload_n 0, 1) := by decide +kernel
theorem s200_344 (d : Nat) (a0 : Nat) (l1 : Value) (l2 : Value) (l3 : Value) (l4 : Value) (l5 : Value) (w0 : Value) (σ : Hs) : ru d 200 344 [.ref a0, l1, l2, l3, l4, l5] [w0] σ = ru d 200 345 [.ref a0, l1, l2, l3, l4, l5] [.ref a0, w0] σ := q_aload_n t200_344 rfl
theorem t200_345 : decode (mb 200) 345 = .ok (.iconst 2, 1) := by decide +kernel
theorem s200_345 (d : Nat) (l0 : Value) (l1 : Value) (l2 : Value) (l3 : Value) (l4 : Value) (l5 : Value) (w0 w1 : Value) (σ : Hs) : ru d 200 345 [l0, l1, l2, l3, l4, l5] [w0, w1] σ = ru d 200 346 [l0, l1, l2, l3, l4, l5] [.int 2, w0, w1] σ := q_iconst t200_345 (by decide +kernel)
theorem t200_346 : decode (mb 200) 346 = .ok (.iconst 0, 1) := by decide +kernel
theorem s200_346 (d : Nat) (l0 : Value) (l1 : Value) (l2 : Value) (l3 : Value) (l4 : Value) (l5 : Value) (w0 w1 w2 : Value) (σ : Hs) : ru d 200 346 [l0, l1, l2, l3, l4, l5] [w0, w1, w2] σ = ru d 200 347 [l0, l1, l2, l3, l4, l5] [.int 0, w0, w1, w2] σ := q_iconst t200_346 (by decide +kernel)
theorem t200_347 : decode (mb 200) 347 = .ok (.invokevirtual 324, 3) := by decide +kernel
theorem s200_347_o87 (d : Nat) (l0 : Value) (l1 : Value) (l2 : Value) (l3 : Value) (l4 : Value) (l5 : Value) (v1 v2 : Value) (w0 : Int32) (σ : Hs) : ru d 200 347 [l0, l1, l2, l3, l4, l5] [v2, v1, .ref 87, .int w0] σ = kont (callD d 198 [.ref 87, v1, v2] σ) d 200 350 [l0, l1, l2, l3, l4, l5] [.int w0] := q_invv t200_347 mo200 K8_324 mj198 rfl rfl rfl rfl (Nat.le_of_ble_eq_true rfl)
theorem t200_350 : decode (mb 200) 350 = .ok (.isub, 1) := by decide +kernel
theorem s200_350 (d : Nat) (l0 : Value) (l1 : Value) (l2 : Value) (l3 : Value) (l4 : Value) (l5 : Value) (x y : Int32) (σ : Hs) : ru d 200 350 [l0, l1, l2, l3, l4, l5] [.int y, .int x] σ = ru d 200 351 [l0, l1, l2, l3, l4, l5] [.int (x - y)] σ := q_isub t200_350
theorem t200_351 : decode (mb 200) 351 = .ok (.ireturn, 1) := by decide +kernel
theorem s200_351 (d : Nat) (l0 : Value) (l1 : Value) (l2 : Value) (l3 : Value) (l4 : Value) (l5 : Value) (x : Int32) (σ : Hs) : ru d 200 351 [l0, l1, l2, l3, l4, l5] [.int x] σ = some (some (.int x), σ) := q_ireti t200_351 mr200
theorem t200_352 : decode (mb 200) 352 = .ok (.aload_n 0, 1) := by decide +kernel
theorem s200_352 (d : Nat) (a0 : Nat) (l1 : Value) (l2 : Value) (l3 : Value) (l4 : Value) (l5 : Value) (σ : Hs) : ru d 200 352 [.ref a0, l1, l2, l3, l4, l5] [] σ = ru d 200 353 [.ref a0, l1, l2, l3, l4, l5] [.ref a0] σ := q_aload_n t200_352 rfl
theorem t200_353 : decode (mb 200) 353 = .ok (.bipush 60, 2) := by decide +kernel
theorem s200_353 (d : Nat) (l0 : Value) (l1 : Value) (l2 : Value) (l3 : Value) (l4 : Value) (l5 : Value) (w0 : Value) (σ : Hs) : ru d 200 353 [l0, l1, l2, l3, l4, l5] [w0] σ = ru d 200 355 [l0, l1, l2, l3, l4, l5] [.int 60, w0] σ := q_bipush t200_353 (by decide +kernel)
theorem t200_355 : decode (mb 200) 355 = .ok (.invokevirtual 321, 3) := by decide +kernel
theorem s200_355_o87 (d : Nat) (l0 : Value) (l1 : Value) (l2 : Value) (l3 : Value) (l4 : Value) (l5 : Value) (v1 : Value) (σ : Hs) : ru d 200 355 [l0, l1, l2, l3, l4, l5] [v1, .ref 87] σ = kont (callD d 196 [.ref 87, v1] σ) d 200 358 [l0, l1, l2, l3, l4, l5] [] := q_invv t200_355 mo200 K8_321 mj196 rfl rfl rfl rfl (Nat.le_of_ble_eq_true rfl)
theorem t200_358 : decode (mb 200) 358 = .ok (.aload_n 0, 1) := by decide +kernel
theorem s200_358 (d : Nat) (a0 : Nat) (l1 : Value) (l2 : Value) (l3 : Value) (l4 : Value) (l5 : Value) (σ : Hs) : ru d 200 358 [.ref a0, l1, l2, l3, l4, l5] [] σ = ru d 200 359 [.ref a0, l1, l2, l3, l4, l5] [.ref a0] σ := q_aload_n t200_358 rfl
theorem t200_359 : decode (mb 200) 359 = .ok (.iconst 0, 1) := by decide +kernel
theorem s200_359 (d : Nat) (l0 : Value) (l1 : Value) (l2 : Value) (l3 : Value) (l4 : Value) (l5 : Value) (w0 : Value) (σ : Hs) : ru d 200 359 [l0, l1, l2, l3, l4, l5] [w0] σ = ru d 200 360 [l0, l1, l2, l3, l4, l5] [.int 0, w0] σ := q_iconst t200_359 (by decide +kernel)
theorem t200_360 : decode (mb 200) 360 = .ok (.iconst 1, 1) := by decide +kernel
theorem s200_360 (d : Nat) (l0 : Value) (l1 : Value) (l2 : Value) (l3 : Value) (l4 : Value) (l5 : Value) (w0 w1 : Value) (σ : Hs) : ru d 200 360 [l0, l1, l2, l3, l4, l5] [w0, w1] σ = ru d 200 361 [l0, l1, l2, l3, l4, l5] [.int 1, w0, w1] σ := q_iconst t200_360 (by decide +kernel)
theorem t200_361 : decode (mb 200) 361 = .ok (.iload_n 3, 1) := by decide +kernel
theorem s200_361 (d : Nat) (l0 : Value) (l1 : Value) (l2 : Value) (i3 : Int32) (l4 : Value) (l5 : Value) (w0 w1 w2 : Value) (σ : Hs) : ru d 200 361 [l0, l1, l2, .int i3, l4, l5] [w0, w1, w2] σ = ru d 200 362 [l0, l1, l2, .int i3, l4, l5] [.int i3, w0, w1, w2] σ := q_iload_n t200_361 rfl
theorem t200_362 : decode (mb 200) 362 = .ok (.invokevirtual 309, 3) := by decide +kernel
theorem s200_362_o87 (d : Nat) (l0 : Value) (l1 : Value) (l2 : Value) (l3 : Value) (l4 : Value) (l5 : Value) (v1 v2 v3 : Value) (σ : Hs) : ru d 200 362 [l0, l1, l2, l3, l4, l5] [v3, v2, v1, .ref 87] σ = kont (callD d 199 [.ref 87, v1, v2, v3] σ) d 200 365 [l0, l1, l2, l3, l4, l5] [] := q_invv t200_362 mo200 K8_309 mj199 rfl rfl rfl rfl (Nat.le_of_ble_eq_true rfl)
theorem t200_365 : decode (mb 200) 365 = .ok (.aload_n 0, 1) := by decide +kernel
theorem s200_365 (d : Nat) (a0 : Nat) (l1 : Value) (l2 : Value) (l3 : Value) (l4 : Value) (l5 : Value) (w0 : Value) (σ : Hs) : ru d 200 365 [.ref a0, l1, l2, l3, l4, l5] [w0] σ = ru d 200 366 [.ref a0, l1, l2, l3, l4, l5] [.ref a0, w0] σ := q_aload_n t200_365 rfl
theorem t200_366 : decode (mb 200) 366 = .ok (.getfield 306, 3) := by decide +kernel
theorem s200_366_o87 (d : Nat) (l0 : Value) (l1 : Value) (l2 : Value) (l3 : Value) (l4 : Value) (l5 : Value) (w0 : Value) (σ : Hs) : ru d 200 366 [l0, l1, l2, l3, l4, l5] [.ref 87, w0] σ = ru d 200 369 [l0, l1, l2, l3, l4, l5] [.int (σ 87 20), w0] σ := q_getf t200_366 mo200 F8_306 rfl rfl
theorem t200_369 : decode (mb 200) 369 = .ok (.iadd, 1) := by decide +kernel
theorem s200_369 (d : Nat) (l0 : Value) (l1 : Value) (l2 : Value) (l3 : Value) (l4 : Value) (l5 : Value) (x y : Int32) (σ : Hs) : ru d 200 369 [l0, l1, l2, l3, l4, l5] [.int y, .int x] σ = ru d 200 370 [l0, l1, l2, l3, l4, l5] [.int (x + y)] σ := q_iadd t200_369
theorem t200_370 : decode (mb 200) 370 = .ok (.ireturn, 1) := by decide +kernel
theorem s200_370 (d : Nat) (l0 : Value) (l1 : Value) (l2 : Value) (l3 : Value) (l4 : Value) (l5 : Value) (x : Int32) (σ : Hs) : ru d 200 370 [l0, l1, l2, l3, l4, l5] [.int x] σ = some (some (.int x), σ) := q_ireti t200_370 mr200
theorem t200_371 : decode (mb 200) 371 = .ok (.aload_n 0, 1) := by decide +kernel
theorem s200_371 (d : Nat) (a0 : Nat) (l1 : Value) (l2 : Value) (l3 : Value) (l4 : Value) (l5 : Value) (σ : Hs) : ru d 200 371 [.ref a0, l1, l2, l3, l4, l5] [] σ = ru d 200 372 [.ref a0, l1, l2, l3, l4, l5] [.ref a0] σ := q_aload_n t200_371 rfl
theorem t200_372 : decode (mb 200) 372 = .ok (.bipush 70, 2) := by decide +kernel
theorem s200_372 (d : Nat) (l0 : Value) (l1 : Value) (l2 : Value) (l3 : Value) (l4 : Value) (l5 : Value) (w0 : Value) (σ : Hs) : ru d 200 372 [l0, l1, l2, l3, l4, l5] [w0] σ = ru d 200 374 [l0, l1, l2, l3, l4, l5] [.int 70, w0] σ := q_bipush t200_372 (by decide +kernel)
theorem t200_374 : decode (mb 200) 374 = .ok (.invokevirtual 321, 3) := by decide +kernel
theorem s200_374_o87 (d : Nat) (l0 : Value) (l1 : Value) (l2 : Value) (l3 : Value) (l4 : Value) (l5 : Value) (v1 : Value) (σ : Hs) : ru d 200 374 [l0, l1, l2, l3, l4, l5] [v1, .ref 87] σ = kont (callD d 196 [.ref 87, v1] σ) d 200 377 [l0, l1, l2, l3, l4, l5] [] := q_invv t200_374 mo200 K8_321 mj196 rfl rfl rfl rfl (Nat.le_of_ble_eq_true rfl)
theorem t200_377 : decode (mb 200) 377 = .ok (.iconst 3, 1) := by decide +kernel
theorem s200_377 (d : Nat) (l0 : Value) (l1 : Value) (l2 : Value) (l3 : Value) (l4 : Value) (l5 : Value) (σ : Hs) : ru d 200 377 [l0, l1, l2, l3, l4, l5] [] σ = ru d 200 378 [l0, l1, l2, l3, l4, l5] [.int 3] σ := q_iconst t200_377 (by decide +kernel)
theorem t200_378 : decode (mb 200) 378 = .ok (.ireturn, 1) := by decide +kernel
theorem s200_378 (d : Nat) (l0 : Value) (l1 : Value) (l2 : Value) (l3 : Value) (l4 : Value) (l5 : Value) (x : Int32) (σ : Hs) : ru d 200 378 [l0, l1, l2, l3, l4, l5] [.int x] σ = some (some (.int x), σ) := q_ireti t200_378 mr200
theorem t200_379 : decode (mb 200) 379 = .ok (.aload_n 0, 1) := by decide +kernel
theorem s200_379 (d : Nat) (a0 : Nat) (l1 : Value) (l2 : Value) (l3 : Value) (l4 : Value) (l5 : Value) (σ : Hs) : ru d 200 379 [.ref a0, l1, l2, l3, l4, l5] [] σ = ru d 200 380 [.ref a0, l1, l2, l3, l4, l5] [.ref a0] σ := q_aload_n t200_379 rfl
theorem t200_380 : decode (mb 200) 380 = .ok (.bipush 71, 2) := by decide +kernel
theorem s200_380 (d : Nat) (l0 : Value) (l1 : Value) (l2 : Value) (l3 : Value) (l4 : Value) (l5 : Value) (w0 : Value) (σ : Hs) : ru d 200 380 [l0, l1, l2, l3, l4, l5] [w0] σ = ru d 200 382 [l0, l1, l2, l3, l4, l5] [.int 71, w0] σ := q_bipush t200_380 (by decide +kernel)
theorem t200_382 : decode (mb 200) 382 = .ok (.invokevirtual 321, 3) := by decide +kernel
theorem s200_382_o87 (d : Nat) (l0 : Value) (l1 : Value) (l2 : Value) (l3 : Value) (l4 : Value) (l5 : Value) (v1 : Value) (σ : Hs) : ru d 200 382 [l0, l1, l2, l3, l4, l5] [v1, .ref 87] σ = kont (callD d 196 [.ref 87, v1] σ) d 200 385 [l0, l1, l2, l3, l4, l5] [] := q_invv t200_382 mo200 K8_321 mj196 rfl rfl rfl rfl (Nat.le_of_ble_eq_true rfl)
theorem t200_385 : decode (mb 200) 385 = .ok (.aload_n 0, 1) := by decide +kernel
theorem s200_385 (d : Nat) (a0 : Nat) (l1 : Value) (l2 : Value) (l3 : Value) (l4 : Value) (l5 : Value) (σ : Hs) : ru d 200 385 [.ref a0, l1, l2, l3, l4, l5] [] σ = ru d 200 386 [.ref a0, l1, l2, l3, l4, l5] [.ref a0] σ := q_aload_n t200_385 rfl
theorem t200_386 : decode (mb 200) 386 = .ok (.iconst 5, 1) := by decide +kernel
theorem s200_386 (d : Nat) (l0 : Value) (l1 : Value) (l2 : Value) (l3 : Value) (l4 : Value) (l5 : Value) (w0 : Value) (σ : Hs) : ru d 200 386 [l0, l1, l2, l3, l4, l5] [w0] σ = ru d 200 387 [l0, l1, l2, l3, l4, l5] [.int 5, w0] σ := q_iconst t200_386 (by decide +kernel)
theorem t200_387 : decode (mb 200) 387 = .ok (.iconst 2, 1) := by decide +kernel
theorem s200_387 (d : Nat) (l0 : Value) (l1 : Value) (l2 : Value) (l3 : Value) (l4 : Value) (l5 : Value) (w0 w1 : Value) (σ : Hs) : ru d 200 387 [l0, l1, l2, l3, l4, l5] [w0, w1] σ = ru d 200 388 [l0, l1, l2, l3, l4, l5] [.int 2, w0, w1] σ := q_iconst t200_387 (by decide +kernel)
theorem t200_388 : decode (mb 200) 388 = .ok (.iload_n 3, 1) := by decide +kernel
theorem s200_388 (d : Nat) (l0 : Value) (l1 : Value) (l2 : Value) (i3 : Int32) (l4 : Value) (l5 : Value) (w0 w1 w2 : Value) (σ : Hs) : ru d 200 388 [l0, l1, l2, .int i3, l4, l5] [w0, w1, w2] σ = ru d 200 389 [l0, l1, l2, .int i3, l4, l5] [.int i3, w0, w1, w2] σ := q_iload_n t200_388 rfl
theorem t200_389 : decode (mb 200) 389 = .ok (.invokevirtual 309, 3) := by decide +kernel
theorem s200_389_o87 (d : Nat) (l0 : Value) (l1 : Value) (l2 : Value) (l3 : Value) (l4 : Value) (l5 : Value) (v1 v2 v3 : Value) (σ : Hs) : ru d 200 389 [l0, l1, l2, l3, l4, l5] [v3, v2, v1, .ref 87] σ = kont (callD d 199 [.ref 87, v1, v2, v3] σ) d 200 392 [l0, l1, l2, l3, l4, l5] [] := q_invv t200_389 mo200 K8_309 mj199 rfl rfl rfl rfl (Nat.le_of_ble_eq_true rfl)
theorem t200_392 : decode (mb 200) 392 = .ok (.iconst 5, 1) := by decide +kernel
theorem s200_392 (d : Nat) (l0 : Value) (l1 : Value) (l2 : Value) (l3 : Value) (l4 : Value) (l5 : Value) (w0 : Value) (σ : Hs) : ru d 200 392 [l0, l1, l2, l3, l4, l5] [w0] σ = ru d 200 393 [l0, l1, l2, l3, l4, l5] [.int 5, w0] σ := q_iconst t200_392 (by decide +kernel)
theorem t200_393 : decode (mb 200) 393 = .ok (.imul, 1) := by decide +kernel
theorem s200_393 (d : Nat) (l0 : Value) (l1 : Value) (l2 : Value) (l3 : Value) (l4 : Value) (l5 : Value) (x y : Int32) (σ : Hs) : ru d 200 393 [l0, l1, l2, l3, l4, l5] [.int y, .int x] σ = ru d 200 394 [l0, l1, l2, l3, l4, l5] [.int (x * y)] σ := q_imul t200_393
theorem t200_394 : decode (mb 200) 394 = .ok (.ireturn, 1) := by decide +kernel
theorem s200_394 (d : Nat) (l0 : Value) (l1 : Value) (l2 : Value) (l3 : Value) (l4 : Value) (l5 : Value) (x : Int32) (σ : Hs) : ru d 200 394 [l0, l1, l2, l3, l4, l5] [.int x] σ = some (some (.int x), σ) := q_ireti t200_394 mr200
theorem c200 (d : Nat) (x0 : Nat) (x1 : Int32) (x2 : Int32) (x3 : Int32) (σ : Hs) : callD (d + 1) 200 [.ref x0, .int x1, .int x2, .int x3] σ = ru d 200 0 [.ref x0, .int x1, .int x2, .int x3, uu, uu] [] σ := callD_ru ml200 rfl rfl (Nat.le_of_ble_eq_true rfl)
-- 201: Model.voice(III)I
theorem t201_0 : decode (mb 201) 0 = .ok (.iload_n 1, 1) := by decide +kernel
theorem s201_0 (d : Nat) (l0 : Value) (i1 : Int32) (l2 : Value) (l3 : Value) (l4 : Value) (σ : Hs) : ru d 201 0 [l0, .int i1, l2, l3, l4] [] σ = ru d 201 1 [l0, .int i1, l2, l3, l4] [.int i1] σ := q_iload_n t201_0 rfl
theorem t201_1 : decode (mb 201) 1 = .ok (.invokestatic 113, 3) := by decide +kernel
theorem s201_1 (d : Nat) (l0 : Value) (l1 : Value) (l2 : Value) (l3 : Value) (l4 : Value) (v0 : Value) (σ : Hs) : ru d 201 1 [l0, l1, l2, l3, l4] [v0] σ = kont (callD d 120 [v0] σ) d 201 4 [l0, l1, l2, l3, l4] [] := q_invs t201_1 mo201 (by decide +kernel) K8_113 mj120 (Nat.le_of_ble_eq_true rfl) rfl rfl (Nat.le_of_ble_eq_true rfl)
theorem t201_4 : decode (mb 201) 4 = .ok (.ifCond .eq 12, 3) := by decide +kernel
theorem s201_4 (d : Nat) (l0 : Value) (l1 : Value) (l2 : Value) (l3 : Value) (l4 : Value) (x : Int32) (σ : Hs) : ru d 201 4 [l0, l1, l2, l3, l4] [.int x] σ = if x = 0 then ru d 201 16 [l0, l1, l2, l3, l4] [] σ else ru d 201 7 [l0, l1, l2, l3, l4] [] σ := q_if_eq t201_4 (by decide +kernel)
theorem t201_7 : decode (mb 201) 7 = .ok (.iload_n 2, 1) := by decide +kernel
theorem s201_7 (d : Nat) (l0 : Value) (l1 : Value) (i2 : Int32) (l3 : Value) (l4 : Value) (σ : Hs) : ru d 201 7 [l0, l1, .int i2, l3, l4] [] σ = ru d 201 8 [l0, l1, .int i2, l3, l4] [.int i2] σ := q_iload_n t201_7 rfl
theorem t201_8 : decode (mb 201) 8 = .ok (.iconst 0, 1) := by decide +kernel
theorem s201_8 (d : Nat) (l0 : Value) (l1 : Value) (l2 : Value) (l3 : Value) (l4 : Value) (w0 : Value) (σ : Hs) : ru d 201 8 [l0, l1, l2, l3, l4] [w0] σ = ru d 201 9 [l0, l1, l2, l3, l4] [.int 0, w0] σ := q_iconst t201_8 (by decide +kernel)
theorem t201_9 : decode (mb 201) 9 = .ok (.iconst 3, 1) := by decide +kernel
theorem s201_9 (d : Nat) (l0 : Value) (l1 : Value) (l2 : Value) (l3 : Value) (l4 : Value) (w0 w1 : Value) (σ : Hs) : ru d 201 9 [l0, l1, l2, l3, l4] [w0, w1] σ = ru d 201 10 [l0, l1, l2, l3, l4] [.int 3, w0, w1] σ := q_iconst t201_9 (by decide +kernel)
theorem t201_10 : decode (mb 201) 10 = .ok (.invokestatic 81, 3) := by decide +kernel
theorem s201_10 (d : Nat) (l0 : Value) (l1 : Value) (l2 : Value) (l3 : Value) (l4 : Value) (v0 v1 v2 : Value) (σ : Hs) : ru d 201 10 [l0, l1, l2, l3, l4] [v2, v1, v0] σ = kont (callD d 112 [v0, v1, v2] σ) d 201 13 [l0, l1, l2, l3, l4] [] := q_invs t201_10 mo201 (by decide +kernel) K8_81 mj112 (Nat.le_of_ble_eq_true rfl) rfl rfl (Nat.le_of_ble_eq_true rfl)
theorem t201_13 : decode (mb 201) 13 = .ok (.ifCond .ne 10, 3) := by decide +kernel
theorem s201_13 (d : Nat) (l0 : Value) (l1 : Value) (l2 : Value) (l3 : Value) (l4 : Value) (x : Int32) (σ : Hs) : ru d 201 13 [l0, l1, l2, l3, l4] [.int x] σ = if x = 0 then ru d 201 16 [l0, l1, l2, l3, l4] [] σ else ru d 201 23 [l0, l1, l2, l3, l4] [] σ := q_if_ne t201_13 (by decide +kernel)
theorem t201_16 : decode (mb 201) 16 = .ok (.aload_n 0, 1) := by decide +kernel
theorem s201_16 (d : Nat) (a0 : Nat) (l1 : Value) (l2 : Value) (l3 : Value) (l4 : Value) (σ : Hs) : ru d 201 16 [.ref a0, l1, l2, l3, l4] [] σ = ru d 201 17 [.ref a0, l1, l2, l3, l4] [.ref a0] σ := q_aload_n t201_16 rfl
theorem t201_17 : decode (mb 201) 17 = .ok (.ldc 104, 2) := by decide +kernel
theorem s201_17 (d : Nat) (l0 : Value) (l1 : Value) (l2 : Value) (l3 : Value) (l4 : Value) (w0 : Value) (σ : Hs) : ru d 201 17 [l0, l1, l2, l3, l4] [w0] σ = ru d 201 19 [l0, l1, l2, l3, l4] [.int (-1000001), w0] σ := q_ldc t201_17 mo201 C8_104
theorem t201_19 : decode (mb 201) 19 = .ok (.invokevirtual 105, 3) := by decide +kernel
theorem s201_19_o87 (d : Nat) (l0 : Value) (l1 : Value) (l2 : Value) (l3 : Value) (l4 : Value) (v1 : Value) (σ : Hs) : ru d 201 19 [l0, l1, l2, l3, l4] [v1, .ref 87] σ = kont (callD d 111 [.ref 87, v1] σ) d 201 22 [l0, l1, l2, l3, l4] [] := q_invv t201_19 mo201 K8_105 mj111 rfl rfl rfl rfl (Nat.le_of_ble_eq_true rfl)
theorem t201_22 : decode (mb 201) 22 = .ok (.ireturn, 1) := by decide +kernel
theorem s201_22 (d : Nat) (l0 : Value) (l1 : Value) (l2 : Value) (l3 : Value) (l4 : Value) (x : Int32) (σ : Hs) : ru d 201 22 [l0, l1, l2, l3, l4] [.int x] σ = some (some (.int x), σ) := q_ireti t201_22 mr201
theorem t201_23 : decode (mb 201) 23 = .ok (.aload_n 0, 1) := by decide +kernel
theorem s201_23 (d : Nat) (a0 : Nat) (l1 : Value) (l2 : Value) (l3 : Value) (l4 : Value) (σ : Hs) : ru d 201 23 [.ref a0, l1, l2, l3, l4] [] σ = ru d 201 24 [.ref a0, l1, l2, l3, l4] [.ref a0] σ := q_aload_n t201_23 rfl
theorem t201_24 : decode (mb 201) 24 = .ok (.iload_n 1, 1) := by decide +kernel
theorem s201_24 (d : Nat) (l0 : Value) (i1 : Int32) (l2 : Value) (l3 : Value) (l4 : Value) (w0 : Value) (σ : Hs) : ru d 201 24 [l0, .int i1, l2, l3, l4] [w0] σ = ru d 201 25 [l0, .int i1, l2, l3, l4] [.int i1, w0] σ := q_iload_n t201_24 rfl
theorem t201_25 : decode (mb 201) 25 = .ok (.invokevirtual 88, 3) := by decide +kernel
theorem s201_25_o87 (d : Nat) (l0 : Value) (l1 : Value) (l2 : Value) (l3 : Value) (l4 : Value) (v1 : Value) (σ : Hs) : ru d 201 25 [l0, l1, l2, l3, l4] [v1, .ref 87] σ = kont (callD d 121 [.ref 87, v1] σ) d 201 28 [l0, l1, l2, l3, l4] [] := q_invv t201_25 mo201 K8_88 mj121 rfl rfl rfl rfl (Nat.le_of_ble_eq_true rfl)
theorem t201_28 : decode (mb 201) 28 = .ok (.ifCond .ne 10, 3) := by decide +kernel
theorem s201_28 (d : Nat) (l0 : Value) (l1 : Value) (l2 : Value) (l3 : Value) (l4 : Value) (x : Int32) (σ : Hs) : ru d 201 28 [l0, l1, l2, l3, l4] [.int x] σ = if x = 0 then ru d 201 31 [l0, l1, l2, l3, l4] [] σ else ru d 201 38 [l0, l1, l2, l3, l4] [] σ := q_if_ne t201_28 (by decide +kernel)
theorem t201_31 : decode (mb 201) 31 = .ok (.aload_n 0, 1) := by decide +kernel
theorem s201_31 (d : Nat) (a0 : Nat) (l1 : Value) (l2 : Value) (l3 : Value) (l4 : Value) (σ : Hs) : ru d 201 31 [.ref a0, l1, l2, l3, l4] [] σ = ru d 201 32 [.ref a0, l1, l2, l3, l4] [.ref a0] σ := q_aload_n t201_31 rfl
theorem t201_32 : decode (mb 201) 32 = .ok (.ldc 116, 2) := by decide +kernel
theorem s201_32 (d : Nat) (l0 : Value) (l1 : Value) (l2 : Value) (l3 : Value) (l4 : Value) (w0 : Value) (σ : Hs) : ru d 201 32 [l0, l1, l2, l3, l4] [w0] σ = ru d 201 34 [l0, l1, l2, l3, l4] [.int (-1000002), w0] σ := q_ldc t201_32 mo201 C8_116
theorem t201_34 : decode (mb 201) 34 = .ok (.invokevirtual 105, 3) := by decide +kernel
theorem s201_34_o87 (d : Nat) (l0 : Value) (l1 : Value) (l2 : Value) (l3 : Value) (l4 : Value) (v1 : Value) (σ : Hs) : ru d 201 34 [l0, l1, l2, l3, l4] [v1, .ref 87] σ = kont (callD d 111 [.ref 87, v1] σ) d 201 37 [l0, l1, l2, l3, l4] [] := q_invv t201_34 mo201 K8_105 mj111 rfl rfl rfl rfl (Nat.le_of_ble_eq_true rfl)
theorem t201_37 : decode (mb 201) 37 = .ok (.ireturn, 1) := by decide +kernel
theorem s201_37 (d : Nat) (l0 : Value) (l1 : Value) (l2 : Value) (l3 : Value) (l4 : Value) (x : Int32) (σ : Hs) : ru d 201 37 [l0, l1, l2, l3, l4] [.int x] σ = some (some (.int x), σ) := q_ireti t201_37 mr201
theorem t201_38 : decode (mb 201) 38 = .ok (.aload_n 0, 1) := by decide +kernel
theorem s201_38 (d : Nat) (a0 : Nat) (l1 : Value) (l2 : Value) (l3 : Value) (l4 : Value) (σ : Hs) : ru d 201 38 [.ref a0, l1, l2, l3, l4] [] σ = ru d 201 39 [.ref a0, l1, l2, l3, l4] [.ref a0] σ := q_aload_n t201_38 rfl
theorem t201_39 : decode (mb 201) 39 = .ok (.iconst 0, 1) := by decide +kernel
theorem s201_39 (d : Nat) (l0 : Value) (l1 : Value) (l2 : Value) (l3 : Value) (l4 : Value) (w0 : Value) (σ : Hs) : ru d 201 39 [l0, l1, l2, l3, l4] [w0] σ = ru d 201 40 [l0, l1, l2, l3, l4] [.int 0, w0] σ := q_iconst t201_39 (by decide +kernel)
theorem t201_40 : decode (mb 201) 40 = .ok (.putfield 303, 3) := by decide +kernel
theorem s201_40_o87 (d : Nat) (l0 : Value) (l1 : Value) (l2 : Value) (l3 : Value) (l4 : Value) (x : Int32) (σ : Hs) : ru d 201 40 [l0, l1, l2, l3, l4] [.int x, .ref 87] σ = ru d 201 43 [l0, l1, l2, l3, l4] [] (up2 σ 87 19 x) := q_puti t201_40 mo201 F8_303 (by decide +kernel) rfl rfl
theorem t201_43 : decode (mb 201) 43 = .ok (.aload_n 0, 1) := by decide +kernel
theorem s201_43 (d : Nat) (a0 : Nat) (l1 : Value) (l2 : Value) (l3 : Value) (l4 : Value) (σ : Hs) : ru d 201 43 [.ref a0, l1, l2, l3, l4] [] σ = ru d 201 44 [.ref a0, l1, l2, l3, l4] [.ref a0] σ := q_aload_n t201_43 rfl
theorem t201_44 : decode (mb 201) 44 = .ok (.iload_n 1, 1) := by decide +kernel
theorem s201_44 (d : Nat) (l0 : Value) (i1 : Int32) (l2 : Value) (l3 : Value) (l4 : Value) (w0 : Value) (σ : Hs) : ru d 201 44 [l0, .int i1, l2, l3, l4] [w0] σ = ru d 201 45 [l0, .int i1, l2, l3, l4] [.int i1, w0] σ := q_iload_n t201_44 rfl
theorem t201_45 : decode (mb 201) 45 = .ok (.putfield 306, 3) := by decide +kernel
theorem s201_45_o87 (d : Nat) (l0 : Value) (l1 : Value) (l2 : Value) (l3 : Value) (l4 : Value) (x : Int32) (σ : Hs) : ru d 201 45 [l0, l1, l2, l3, l4] [.int x, .ref 87] σ = ru d 201 48 [l0, l1, l2, l3, l4] [] (up2 σ 87 20 x) := q_puti t201_45 mo201 F8_306 (by decide +kernel) rfl rfl
theorem t201_48 : decode (mb 201) 48 = .ok (.aload_n 0, 1) := by decide +kernel
theorem s201_48 (d : Nat) (a0 : Nat) (l1 : Value) (l2 : Value) (l3 : Value) (l4 : Value) (σ : Hs) : ru d 201 48 [.ref a0, l1, l2, l3, l4] [] σ = ru d 201 49 [.ref a0, l1, l2, l3, l4] [.ref a0] σ := q_aload_n t201_48 rfl
theorem t201_49 : decode (mb 201) 49 = .ok (.iconst 0, 1) := by decide +kernel
theorem s201_49 (d : Nat) (l0 : Value) (l1 : Value) (l2 : Value) (l3 : Value) (l4 : Value) (w0 : Value) (σ : Hs) : ru d 201 49 [l0, l1, l2, l3, l4] [w0] σ = ru d 201 50 [l0, l1, l2, l3, l4] [.int 0, w0] σ := q_iconst t201_49 (by decide +kernel)
theorem t201_50 : decode (mb 201) 50 = .ok (.putfield 315, 3) := by decide +kernel
theorem s201_50_o87 (d : Nat) (l0 : Value) (l1 : Value) (l2 : Value) (l3 : Value) (l4 : Value) (x : Int32) (hx : isB x) (σ : Hs) : ru d 201 50 [l0, l1, l2, l3, l4] [.int x, .ref 87] σ = ru d 201 53 [l0, l1, l2, l3, l4] [] (up2 σ 87 21 x) := q_putz t201_50 mo201 F8_315 (by decide +kernel) rfl rfl hx
theorem t201_53 : decode (mb 201) 53 = .ok (.aload_n 0, 1) := by decide +kernel
theorem s201_53 (d : Nat) (a0 : Nat) (l1 : Value) (l2 : Value) (l3 : Value) (l4 : Value) (σ : Hs) : ru d 201 53 [.ref a0, l1, l2, l3, l4] [] σ = ru d 201 54 [.ref a0, l1, l2, l3, l4] [.ref a0] σ := q_aload_n t201_53 rfl
theorem t201_54 : decode (mb 201) 54 = .ok (.iload_n 2, 1) := by decide +kernel
theorem s201_54 (d : Nat) (l0 : Value) (l1 : Value) (i2 : Int32) (l3 : Value) (l4 : Value) (w0 : Value) (σ : Hs) : ru d 201 54 [l0, l1, .int i2, l3, l4] [w0] σ = ru d 201 55 [l0, l1, .int i2, l3, l4] [.int i2, w0] σ := q_iload_n t201_54 rfl
theorem t201_55 : decode (mb 201) 55 = .ok (.iload_n 3, 1) := by decide +kernel
theorem s201_55 (d : Nat) (l0 : Value) (l1 : Value) (l2 : Value) (i3 : Int32) (l4 : Value) (w0 w1 : Value) (σ : Hs) : ru d 201 55 [l0, l1, l2, .int i3, l4] [w0, w1] σ = ru d 201 56 [l0, l1, l2, .int i3, l4] [.int i3, w0, w1] σ := q_iload_n t201_55 rfl
theorem t201_56 : decode (mb 201) 56 = .ok (.invokevirtual 324, 3) := by decide +kernel
theorem s201_56_o87 (d : Nat) (l0 : Value) (l1 : Value) (l2 : Value) (l3 : Value) (l4 : Value) (v1 v2 : Value) (σ : Hs) : ru d 201 56 [l0, l1, l2, l3, l4] [v2, v1, .ref 87] σ = kont (callD d 198 [.ref 87, v1, v2] σ) d 201 59 [l0, l1, l2, l3, l4] [] := q_invv t201_56 mo201 K8_324 mj198 rfl rfl rfl rfl (Nat.le_of_ble_eq_true rfl)
theorem t201_59 : decode (mb 201) 59 = .ok (.istore 4, 2) := by decide +kernel
theorem s201_59 (d : Nat) (l0 : Value) (l1 : Value) (l2 : Value) (i3 : Int32) (l4 : Value) (x : Int32) (σ : Hs) : ru d 201 59 [l0, l1, l2, .int i3, l4] [.int x] σ = ru d 201 61 [l0, l1, l2, .int i3, .int x] [] σ := q_istore t201_59 ⟨Nat.le_of_ble_eq_true rfl, rfl⟩ rfl
theorem t201_61 : decode (mb 201) 61 = .ok (.aload_n 0, 1) := by decide +kernel
theorem s201_61 (d : Nat) (a0 : Nat) (l1 : Value) (l2 : Value) (l3 : Value) (l4 : Value) (σ : Hs) : ru d 201 61 [.ref a0, l1, l2, l3, l4] [] σ = ru d 201 62 [.ref a0, l1, l2, l3, l4] [.ref a0] σ := q_aload_n t201_61 rfl
theorem t201_62 : decode (mb 201) 62 = .ok (.getfield 315, 3) := by decide +kernel
theorem s201_62_o87 (d : Nat) (l0 : Value) (l1 : Value) (l2 : Value) (l3 : Value) (l4 : Value) (σ : Hs) : ru d 201 62 [l0, l1, l2, l3, l4] [.ref 87] σ = ru d 201 65 [l0, l1, l2, l3, l4] [.int (σ 87 21)] σ := q_getf t201_62 mo201 F8_315 rfl rfl
theorem t201_65 : decode (mb 201) 65 = .ok (.ifCond .eq 13, 3) := by decide +kernel
theorem s201_65 (d : Nat) (l0 : Value) (l1 : Value) (l2 : Value) (l3 : Value) (l4 : Value) (x : Int32) (σ : Hs) : ru d 201 65 [l0, l1, l2, l3, l4] [.int x] σ = if x = 0 then ru d 201 78 [l0, l1, l2, l3, l4] [] σ else ru d 201 68 [l0, l1, l2, l3, l4] [] σ := q_if_eq t201_65 (by decide +kernel)
theorem t201_68 : decode (mb 201) 68 = .ok (.aload_n 0, 1) := by decide +kernel
theorem s201_68 (d : Nat) (a0 : Nat) (l1 : Value) (l2 : Value) (l3 : Value) (l4 : Value) (σ : Hs) : ru d 201 68 [.ref a0, l1, l2, l3, l4] [] σ = ru d 201 69 [.ref a0, l1, l2, l3, l4] [.ref a0] σ := q_aload_n t201_68 rfl
theorem t201_69 : decode (mb 201) 69 = .ok (.ldc_w 327, 3) := by decide +kernel
theorem s201_69 (d : Nat) (l0 : Value) (l1 : Value) (l2 : Value) (l3 : Value) (l4 : Value) (w0 : Value) (σ : Hs) : ru d 201 69 [l0, l1, l2, l3, l4] [w0] σ = ru d 201 72 [l0, l1, l2, l3, l4] [.int (-1000006), w0] σ := q_ldcw t201_69 mo201 C8_327
theorem t201_72 : decode (mb 201) 72 = .ok (.invokevirtual 105, 3) := by decide +kernel
theorem s201_72_o87 (d : Nat) (l0 : Value) (l1 : Value) (l2 : Value) (l3 : Value) (l4 : Value) (v1 : Value) (σ : Hs) : ru d 201 72 [l0, l1, l2, l3, l4] [v1, .ref 87] σ = kont (callD d 111 [.ref 87, v1] σ) d 201 75 [l0, l1, l2, l3, l4] [] := q_invv t201_72 mo201 K8_105 mj111 rfl rfl rfl rfl (Nat.le_of_ble_eq_true rfl)
theorem t201_75 : decode (mb 201) 75 = .ok (.goto 5, 3) := by decide +kernel
theorem s201_75 (d : Nat) (l0 : Value) (l1 : Value) (l2 : Value) (l3 : Value) (l4 : Value) (w0 : Value) (σ : Hs) : ru d 201 75 [l0, l1, l2, l3, l4] [w0] σ = ru d 201 80 [l0, l1, l2, l3, l4] [w0] σ := q_goto t201_75 (by decide +kernel)
theorem t201_78 : decode (mb 201) 78 = .ok (.iload 4, 2) := by decide +kernel
theorem s201_78 (d : Nat) (l0 : Value) (l1 : Value) (l2 : Value) (l3 : Value) (i4 : Int32) (σ : Hs) : ru d 201 78 [l0, l1, l2, l3, .int i4] [] σ = ru d 201 80 [l0, l1, l2, l3, .int i4] [.int i4] σ := q_iload t201_78 rfl
theorem t201_80 : decode (mb 201) 80 = .ok (.ireturn, 1) := by decide +kernel
theorem s201_80 (d : Nat) (l0 : Value) (l1 : Value) (l2 : Value) (l3 : Value) (l4 : Value) (x : Int32) (σ : Hs) : ru d 201 80 [l0, l1, l2, l3, l4] [.int x] σ = some (some (.int x), σ) := q_ireti t201_80 mr201
theorem c201 (d : Nat) (x0 : Nat) (x1 : Int32) (x2 : Int32) (x3 : Int32) (σ : Hs) : callD (d + 1) 201 [.ref x0, .int x1, .int x2, .int x3] σ = ru d 201 0 [.ref x0, .int x1, .int x2, .int x3, uu] [] σ := callD_ru ml201 rfl rfl (Nat.le_of_ble_eq_true rfl)
-- 202: Model.body_(I)I
theorem t202_0 : decode (mb 202) 0 = .ok (.iload_n 1, 1) := by decide +kernel
theorem s202_0 (d : Nat) (l0 : Value) (i1 : Int32) (σ : Hs) : ru d 202 0 [l0, .int i1] [] σ = ru d 202 1 [l0, .int i1] [.int i1] σ := q_iload_n t202_0 rfl
theorem t202_1 : decode (mb 202) 1 = .ok (.iconst 0, 1) := by decide +kernel
theorem s202_1 (d : Nat) (l0 : Value) (l1 : Value) (w0 : Value) (σ : Hs) : ru d 202 1 [l0, l1] [w0] σ = ru d 202 2 [l0, l1] [.int 0, w0] σ := q_iconst t202_1 (by decide +kernel)
theorem t202_2 : decode (mb 202) 2 = .ok (.aload_n 0, 1) := by decide +kernel
theorem s202_2 (d : Nat) (a0 : Nat) (l1 : Value) (w0 w1 : Value) (σ : Hs) : ru d 202 2 [.ref a0, l1] [w0, w1] σ = ru d 202 3 [.ref a0, l1] [.ref a0, w0, w1] σ := q_aload_n t202_2 rfl
theorem t202_3 : decode (mb 202) 3 = .ok (.getfield 303, 3) := by decide +kernel
theorem s202_3_o87 (d : Nat) (l0 : Value) (l1 : Value) (w0 w1 : Value) (σ : Hs) : ru d 202 3 [l0, l1] [.ref 87, w0, w1] σ = ru d 202 6 [l0, l1] [.int (σ 87 19), w0, w1] σ := q_getf t202_3 mo202 F8_303 rfl rfl
theorem t202_6 : decode (mb 202) 6 = .ok (.iconst 1, 1) := by decide +kernel
theorem s202_6 (d : Nat) (l0 : Value) (l1 : Value) (w0 w1 w2 : Value) (σ : Hs) : ru d 202 6 [l0, l1] [w0, w1, w2] σ = ru d 202 7 [l0, l1] [.int 1, w0, w1, w2] σ := q_iconst t202_6 (by decide +kernel)
theorem t202_7 : decode (mb 202) 7 = .ok (.isub, 1) := by decide +kernel
theorem s202_7 (d : Nat) (l0 : Value) (l1 : Value) (x y : Int32) (w0 w1 : Value) (σ : Hs) : ru d 202 7 [l0, l1] [.int y, .int x, w0, w1] σ = ru d 202 8 [l0, l1] [.int (x - y), w0, w1] σ := q_isub t202_7
theorem t202_8 : decode (mb 202) 8 = .ok (.invokestatic 81, 3) := by decide +kernel
theorem s202_8 (d : Nat) (l0 : Value) (l1 : Value) (v0 v1 v2 : Value) (σ : Hs) : ru d 202 8 [l0, l1] [v2, v1, v0] σ = kont (callD d 112 [v0, v1, v2] σ) d 202 11 [l0, l1] [] := q_invs t202_8 mo202 (by decide +kernel) K8_81 mj112 (Nat.le_of_ble_eq_true rfl) rfl rfl (Nat.le_of_ble_eq_true rfl)
theorem t202_11 : decode (mb 202) 11 = .ok (.ifCond .eq 12, 3) := by decide +kernel
theorem s202_11 (d : Nat) (l0 : Value) (l1 : Value) (x : Int32) (σ : Hs) : ru d 202 11 [l0, l1] [.int x] σ = if x = 0 then ru d 202 23 [l0, l1] [] σ else ru d 202 14 [l0, l1] [] σ := q_if_eq t202_11 (by decide +kernel)
theorem t202_14 : decode (mb 202) 14 = .ok (.aload_n 0, 1) := by decide +kernel
theorem s202_14 (d : Nat) (a0 : Nat) (l1 : Value) (σ : Hs) : ru d 202 14 [.ref a0, l1] [] σ = ru d 202 15 [.ref a0, l1] [.ref a0] σ := q_aload_n t202_14 rfl
theorem t202_15 : decode (mb 202) 15 = .ok (.getfield 52, 3) := by decide +kernel
theorem s202_15_o87 (d : Nat) (l0 : Value) (l1 : Value) (σ : Hs) : ru d 202 15 [l0, l1] [.ref 87] σ = ru d 202 18 [l0, l1] [.ref 99] σ := q_getf t202_15 mo202 F8_52 rfl rfl
theorem t202_18 : decode (mb 202) 18 = .ok (.iload_n 1, 1) := by decide +kernel
theorem s202_18 (d : Nat) (l0 : Value) (i1 : Int32) (w0 : Value) (σ : Hs) : ru d 202 18 [l0, .int i1] [w0] σ = ru d 202 19 [l0, .int i1] [.int i1, w0] σ := q_iload_n t202_18 rfl
theorem t202_19 : decode (mb 202) 19 = .ok (.iaload, 1) := by decide +kernel
theorem s202_19_o99 (d : Nat) (l0 : Value) (l1 : Value) (i : Int32) (σ : Hs) : ru d 202 19 [l0, l1] [.int i, .ref 99] σ = gd (vp_in i 30) (ru d 202 20 [l0, l1] [.int (σ 99 i.toNatClampNeg)] σ) := q_iald t202_19 rfl (by decide +kernel) rfl
theorem t202_20 : decode (mb 202) 20 = .ok (.goto 9, 3) := by decide +kernel
theorem s202_20 (d : Nat) (l0 : Value) (l1 : Value) (w0 : Value) (σ : Hs) : ru d 202 20 [l0, l1] [w0] σ = ru d 202 29 [l0, l1] [w0] σ := q_goto t202_20 (by decide +kernel)
theorem t202_23 : decode (mb 202) 23 = .ok (.aload_n 0, 1) := by decide +kernel
theorem s202_23 (d : Nat) (a0 : Nat) (l1 : Value) (σ : Hs) : ru d 202 23 [.ref a0, l1] [] σ = ru d 202 24 [.ref a0, l1] [.ref a0] σ := q_aload_n t202_23 rfl
theorem t202_24 : decode (mb 202) 24 = .ok (.ldc 116, 2) := by decide +kernel
theorem s202_24 (d : Nat) (l0 : Value) (l1 : Value) (w0 : Value) (σ : Hs) : ru d 202 24 [l0, l1] [w0] σ = ru d 202 26 [l0, l1] [.int (-1000002), w0] σ := q_ldc t202_24 mo202 C8_116
theorem t202_26 : decode (mb 202) 26 = .ok (.invokevirtual 105, 3) := by decide +kernel
theorem s202_26_o87 (d : Nat) (l0 : Value) (l1 : Value) (v1 : Value) (σ : Hs) : ru d 202 26 [l0, l1] [v1, .ref 87] σ = kont (callD d 111 [.ref 87, v1] σ) d 202 29 [l0, l1] [] := q_invv t202_26 mo202 K8_105 mj111 rfl rfl rfl rfl (Nat.le_of_ble_eq_true rfl)
theorem t202_29 : decode (mb 202) 29 = .ok (.ireturn, 1) := by decide +kernel
theorem s202_29 (d : Nat) (l0 : Value) (l1 : Value) (x : Int32) (σ : Hs) : ru d 202 29 [l0, l1] [.int x] σ = some (some (.int x), σ) := q_ireti t202_29 mr202
theorem c202 (d : Nat) (x0 : Nat) (x1 : Int32) (σ : Hs) : callD (d + 1) 202 [.ref x0, .int x1] σ = ru d 202 0 [.ref x0, .int x1] [] σ := callD_ru ml202 rfl rfl (Nat.le_of_ble_eq_true rfl)
-- 203: Model.isSheet(I)Z
theorem t203_0 : decode (mb 203) 0 = .ok (.iload_n 0, 1) := by decide +kernel
theorem s203_0 (d : Nat) (i0 : Int32) (σ : Hs) : ru d 203 0 [.int i0] [] σ = ru d 203 1 [.int i0] [.int i0] σ := q_iload_n t203_0 rfl
theorem t203_1 : decode (mb 203) 1 = .ok (.iconst 0, 1) := by decide +kernel
theorem s203_1 (d : Nat) (l0 : Value) (w0 : Value) (σ : Hs) : ru d 203 1 [l0] [w0] σ = ru d 203 2 [l0] [.int 0, w0] σ := q_iconst t203_1 (by decide +kernel)
theorem t203_2 : decode (mb 203) 2 = .ok (.iconst 3, 1) := by decide +kernel
theorem s203_2 (d : Nat) (l0 : Value) (w0 w1 : Value) (σ : Hs) : ru d 203 2 [l0] [w0, w1] σ = ru d 203 3 [l0] [.int 3, w0, w1] σ := q_iconst t203_2 (by decide +kernel)
theorem t203_3 : decode (mb 203) 3 = .ok (.invokestatic 81, 3) := by decide +kernel
theorem s203_3 (d : Nat) (l0 : Value) (v0 v1 v2 : Value) (σ : Hs) : ru d 203 3 [l0] [v2, v1, v0] σ = kont (callD d 112 [v0, v1, v2] σ) d 203 6 [l0] [] := q_invs t203_3 mo203 (by decide +kernel) K8_81 mj112 (Nat.le_of_ble_eq_true rfl) rfl rfl (Nat.le_of_ble_eq_true rfl)
theorem t203_6 : decode (mb 203) 6 = .ok (.ireturn, 1) := by decide +kernel
theorem s203_6 (d : Nat) (l0 : Value) (x : Int32) (hx : isB x) (σ : Hs) : ru d 203 6 [l0] [.int x] σ = some (some (.int x), σ) := q_iretz t203_6 mr203 hx
theorem c203 (d : Nat) (x0 : Int32) (σ : Hs) : callD (d + 1) 203 [.int x0] σ = ru d 203 0 [.int x0] [] σ := callD_ru ml203 rfl rfl (Nat.le_of_ble_eq_true rfl)
-- 204: Model.sheet(III)I
theorem t204_0 : decode (mb 204) 0 = .ok (.iload_n 1, 1) := by decide +kernel
theorem s204_0 (d : Nat) (l0 : Value) (i1 : Int32) (l2 : Value) (l3 : Value) (l4 : Value) (σ : Hs) : ru d 204 0 [l0, .int i1, l2, l3, l4] [] σ = ru d 204 1 [l0, .int i1, l2, l3, l4] [.int i1] σ := q_iload_n t204_0 rfl
theorem t204_1 : decode (mb 204) 1 = .ok (.invokestatic 328, 3) := by decide +kernel
theorem s204_1 (d : Nat) (l0 : Value) (l1 : Value) (l2 : Value) (l3 : Value) (l4 : Value) (v0 : Value) (σ : Hs) : ru d 204 1 [l0, l1, l2, l3, l4] [v0] σ = kont (callD d 203 [v0] σ) d 204 4 [l0, l1, l2, l3, l4] [] := q_invs t204_1 mo204 (by decide +kernel) K8_328 mj203 (Nat.le_of_ble_eq_true rfl) rfl rfl (Nat.le_of_ble_eq_true rfl)
theorem t204_4 : decode (mb 204) 4 = .ok (.ifCond .eq 25, 3) := by decide +kernel
theorem s204_4 (d : Nat) (l0 : Value) (l1 : Value) (l2 : Value) (l3 : Value) (l4 : Value) (x : Int32) (σ : Hs) : ru d 204 4 [l0, l1, l2, l3, l4] [.int x] σ = if x = 0 then ru d 204 29 [l0, l1, l2, l3, l4] [] σ else ru d 204 7 [l0, l1, l2, l3, l4] [] σ := q_if_eq t204_4 (by decide +kernel)
theorem t204_7 : decode (mb 204) 7 = .ok (.iload_n 2, 1) := by decide +kernel
theorem s204_7 (d : Nat) (l0 : Value) (l1 : Value) (i2 : Int32) (l3 : Value) (l4 : Value) (σ : Hs) : ru d 204 7 [l0, l1, .int i2, l3, l4] [] σ = ru d 204 8 [l0, l1, .int i2, l3, l4] [.int i2] σ := q_iload_n t204_7 rfl
theorem t204_8 : decode (mb 204) 8 = .ok (.ifCond .eq 28, 3) := by decide +kernel
theorem s204_8 (d : Nat) (l0 : Value) (l1 : Value) (l2 : Value) (l3 : Value) (l4 : Value) (x : Int32) (σ : Hs) : ru d 204 8 [l0, l1, l2, l3, l4] [.int x] σ = if x = 0 then ru d 204 36 [l0, l1, l2, l3, l4] [] σ else ru d 204 11 [l0, l1, l2, l3, l4] [] σ := q_if_eq t204_8 (by decide +kernel)
theorem t204_11 : decode (mb 204) 11 = .ok (.iload_n 2, 1) := by decide +kernel
theorem s204_11 (d : Nat) (l0 : Value) (l1 : Value) (i2 : Int32) (l3 : Value) (l4 : Value) (σ : Hs) : ru d 204 11 [l0, l1, .int i2, l3, l4] [] σ = ru d 204 12 [l0, l1, .int i2, l3, l4] [.int i2] σ := q_iload_n t204_11 rfl
theorem t204_12 : decode (mb 204) 12 = .ok (.bipush 8, 2) := by decide +kernel
theorem s204_12 (d : Nat) (l0 : Value) (l1 : Value) (l2 : Value) (l3 : Value) (l4 : Value) (w0 : Value) (σ : Hs) : ru d 204 12 [l0, l1, l2, l3, l4] [w0] σ = ru d 204 14 [l0, l1, l2, l3, l4] [.int 8, w0] σ := q_bipush t204_12 (by decide +kernel)
theorem t204_14 : decode (mb 204) 14 = .ok (.if_icmp .eq 22, 3) := by decide +kernel
theorem s204_14 (d : Nat) (l0 : Value) (l1 : Value) (l2 : Value) (l3 : Value) (l4 : Value) (x y : Int32) (σ : Hs) : ru d 204 14 [l0, l1, l2, l3, l4] [.int y, .int x] σ = if x = y then ru d 204 36 [l0, l1, l2, l3, l4] [] σ else ru d 204 17 [l0, l1, l2, l3, l4] [] σ := q_ic_eq t204_14 (by decide +kernel)
theorem t204_17 : decode (mb 204) 17 = .ok (.iload_n 2, 1) := by decide +kernel
theorem s204_17 (d : Nat) (l0 : Value) (l1 : Value) (i2 : Int32) (l3 : Value) (l4 : Value) (σ : Hs) : ru d 204 17 [l0, l1, .int i2, l3, l4] [] σ = ru d 204 18 [l0, l1, .int i2, l3, l4] [.int i2] σ := q_iload_n t204_17 rfl
theorem t204_18 : decode (mb 204) 18 = .ok (.bipush 16, 2) := by decide +kernel
theorem s204_18 (d : Nat) (l0 : Value) (l1 : Value) (l2 : Value) (l3 : Value) (l4 : Value) (w0 : Value) (σ : Hs) : ru d 204 18 [l0, l1, l2, l3, l4] [w0] σ = ru d 204 20 [l0, l1, l2, l3, l4] [.int 16, w0] σ := q_bipush t204_18 (by decide +kernel)
theorem t204_20 : decode (mb 204) 20 = .ok (.if_icmp .eq 16, 3) := by decide +kernel
theorem s204_20 (d : Nat) (l0 : Value) (l1 : Value) (l2 : Value) (l3 : Value) (l4 : Value) (x y : Int32) (σ : Hs) : ru d 204 20 [l0, l1, l2, l3, l4] [.int y, .int x] σ = if x = y then ru d 204 36 [l0, l1, l2, l3, l4] [] σ else ru d 204 23 [l0, l1, l2, l3, l4] [] σ := q_ic_eq t204_20 (by decide +kernel)
theorem t204_23 : decode (mb 204) 23 = .ok (.iload_n 2, 1) := by decide +kernel
theorem s204_23 (d : Nat) (l0 : Value) (l1 : Value) (i2 : Int32) (l3 : Value) (l4 : Value) (σ : Hs) : ru d 204 23 [l0, l1, .int i2, l3, l4] [] σ = ru d 204 24 [l0, l1, .int i2, l3, l4] [.int i2] σ := q_iload_n t204_23 rfl
theorem t204_24 : decode (mb 204) 24 = .ok (.bipush 32, 2) := by decide +kernel
theorem s204_24 (d : Nat) (l0 : Value) (l1 : Value) (l2 : Value) (l3 : Value) (l4 : Value) (w0 : Value) (σ : Hs) : ru d 204 24 [l0, l1, l2, l3, l4] [w0] σ = ru d 204 26 [l0, l1, l2, l3, l4] [.int 32, w0] σ := q_bipush t204_24 (by decide +kernel)
theorem t204_26 : decode (mb 204) 26 = .ok (.if_icmp .eq 10, 3) := by decide +kernel
theorem s204_26 (d : Nat) (l0 : Value) (l1 : Value) (l2 : Value) (l3 : Value) (l4 : Value) (x y : Int32) (σ : Hs) : ru d 204 26 [l0, l1, l2, l3, l4] [.int y, .int x] σ = if x = y then ru d 204 36 [l0, l1, l2, l3, l4] [] σ else ru d 204 29 [l0, l1, l2, l3, l4] [] σ := q_ic_eq t204_26 (by decide +kernel)
theorem t204_29 : decode (mb 204) 29 = .ok (.aload_n 0, 1) := by decide +kernel
theorem s204_29 (d : Nat) (a0 : Nat) (l1 : Value) (l2 : Value) (l3 : Value) (l4 : Value) (σ : Hs) : ru d 204 29 [.ref a0, l1, l2, l3, l4] [] σ = ru d 204 30 [.ref a0, l1, l2, l3, l4] [.ref a0] σ := q_aload_n t204_29 rfl
theorem t204_30 : decode (mb 204) 30 = .ok (.ldc 104, 2) := by decide +kernel
theorem s204_30 (d : Nat) (l0 : Value) (l1 : Value) (l2 : Value) (l3 : Value) (l4 : Value) (w0 : Value) (σ : Hs) : ru d 204 30 [l0, l1, l2, l3, l4] [w0] σ = ru d 204 32 [l0, l1, l2, l3, l4] [.int (-1000001), w0] σ := q_ldc t204_30 mo204 C8_104
theorem t204_32 : decode (mb 204) 32 = .ok (.invokevirtual 105, 3) := by decide +kernel
theorem s204_32_o87 (d : Nat) (l0 : Value) (l1 : Value) (l2 : Value) (l3 : Value) (l4 : Value) (v1 : Value) (σ : Hs) : ru d 204 32 [l0, l1, l2, l3, l4] [v1, .ref 87] σ = kont (callD d 111 [.ref 87, v1] σ) d 204 35 [l0, l1, l2, l3, l4] [] := q_invv t204_32 mo204 K8_105 mj111 rfl rfl rfl rfl (Nat.le_of_ble_eq_true rfl)
theorem t204_35 : decode (mb 204) 35 = .ok (.ireturn, 1) := by decide +kernel
theorem s204_35 (d : Nat) (l0 : Value) (l1 : Value) (l2 : Value) (l3 : Value) (l4 : Value) (x : Int32) (σ : Hs) : ru d 204 35 [l0, l1, l2, l3, l4] [.int x] σ = some (some (.int x), σ) := q_ireti t204_35 mr204
theorem t204_36 : decode (mb 204) 36 = .ok (.iload_n 2, 1) := by decide +kernel
theorem s204_36 (d : Nat) (l0 : Value) (l1 : Value) (i2 : Int32) (l3 : Value) (l4 : Value) (σ : Hs) : ru d 204 36 [l0, l1, .int i2, l3, l4] [] σ = ru d 204 37 [l0, l1, .int i2, l3, l4] [.int i2] σ := q_iload_n t204_36 rfl
theorem t204_37 : decode (mb 204) 37 = .ok (.ifCond .eq 14, 3) := by decide +kernel
theorem s204_37 (d : Nat) (l0 : Value) (l1 : Value) (l2 : Value) (l3 : Value) (l4 : Value) (x : Int32) (σ : Hs) : ru d 204 37 [l0, l1, l2, l3, l4] [.int x] σ = if x = 0 then ru d 204 51 [l0, l1, l2, l3, l4] [] σ else ru d 204 40 [l0, l1, l2, l3, l4] [] σ := q_if_eq t204_37 (by decide +kernel)
theorem t204_40 : decode (mb 204) 40 = .ok (.iload_n 3, 1) := by decide +kernel
theorem s204_40 (d : Nat) (l0 : Value) (l1 : Value) (l2 : Value) (i3 : Int32) (l4 : Value) (σ : Hs) : ru d 204 40 [l0, l1, l2, .int i3, l4] [] σ = ru d 204 41 [l0, l1, l2, .int i3, l4] [.int i3] σ := q_iload_n t204_40 rfl
theorem t204_41 : decode (mb 204) 41 = .ok (.ifCond .ge 10, 3) := by decide +kernel
theorem s204_41 (d : Nat) (l0 : Value) (l1 : Value) (l2 : Value) (l3 : Value) (l4 : Value) (x : Int32) (σ : Hs) : ru d 204 41 [l0, l1, l2, l3, l4] [.int x] σ = if 0 ≤ x then ru d 204 51 [l0, l1, l2, l3, l4] [] σ else ru d 204 44 [l0, l1, l2, l3, l4] [] σ := q_if_ge t204_41 (by decide +kernel)
theorem t204_44 : decode (mb 204) 44 = .ok (.aload_n 0, 1) := by decide +kernel
theorem s204_44 (d : Nat) (a0 : Nat) (l1 : Value) (l2 : Value) (l3 : Value) (l4 : Value) (σ : Hs) : ru d 204 44 [.ref a0, l1, l2, l3, l4] [] σ = ru d 204 45 [.ref a0, l1, l2, l3, l4] [.ref a0] σ := q_aload_n t204_44 rfl
theorem t204_45 : decode (mb 204) 45 = .ok (.ldc 149, 2) := by decide +kernel
theorem s204_45 (d : Nat) (l0 : Value) (l1 : Value) (l2 : Value) (l3 : Value) (l4 : Value) (w0 : Value) (σ : Hs) : ru d 204 45 [l0, l1, l2, l3, l4] [w0] σ = ru d 204 47 [l0, l1, l2, l3, l4] [.int (-1000003), w0] σ := q_ldc t204_45 mo204 C8_149
theorem t204_47 : decode (mb 204) 47 = .ok (.invokevirtual 105, 3) := by decide +kernel
theorem s204_47_o87 (d : Nat) (l0 : Value) (l1 : Value) (l2 : Value) (l3 : Value) (l4 : Value) (v1 : Value) (σ : Hs) : ru d 204 47 [l0, l1, l2, l3, l4] [v1, .ref 87] σ = kont (callD d 111 [.ref 87, v1] σ) d 204 50 [l0, l1, l2, l3, l4] [] := q_invv t204_47 mo204 K8_105 mj111 rfl rfl rfl rfl (Nat.le_of_ble_eq_true rfl)
theorem t204_50 : decode (mb 204) 50 = .ok (.ireturn, 1) := by decide +kernel
theorem s204_50 (d : Nat) (l0 : Value) (l1 : Value) (l2 : Value) (l3 : Value) (l4 : Value) (x : Int32) (σ : Hs) : ru d 204 50 [l0, l1, l2, l3, l4] [.int x] σ = some (some (.int x), σ) := q_ireti t204_50 mr204
theorem t204_51 : decode (mb 204) 51 = .ok (.iload_n 2, 1) := by decide +kernel
theorem s204_51 (d : Nat) (l0 : Value) (l1 : Value) (i2 : Int32) (l3 : Value) (l4 : Value) (σ : Hs) : ru d 204 51 [l0, l1, .int i2, l3, l4] [] σ = ru d 204 52 [l0, l1, .int i2, l3, l4] [.int i2] σ := q_iload_n t204_51 rfl
theorem t204_52 : decode (mb 204) 52 = .ok (.ifCond .eq 16, 3) := by decide +kernel
theorem s204_52 (d : Nat) (l0 : Value) (l1 : Value) (l2 : Value) (l3 : Value) (l4 : Value) (x : Int32) (σ : Hs) : ru d 204 52 [l0, l1, l2, l3, l4] [.int x] σ = if x = 0 then ru d 204 68 [l0, l1, l2, l3, l4] [] σ else ru d 204 55 [l0, l1, l2, l3, l4] [] σ := q_if_eq t204_52 (by decide +kernel)
theorem t204_55 : decode (mb 204) 55 = .ok (.iload_n 3, 1) := by decide +kernel
theorem s204_55 (d : Nat) (l0 : Value) (l1 : Value) (l2 : Value) (i3 : Int32) (l4 : Value) (σ : Hs) : ru d 204 55 [l0, l1, l2, .int i3, l4] [] σ = ru d 204 56 [l0, l1, l2, .int i3, l4] [.int i3] σ := q_iload_n t204_55 rfl
theorem t204_56 : decode (mb 204) 56 = .ok (.bipush 24, 2) := by decide +kernel
theorem s204_56 (d : Nat) (l0 : Value) (l1 : Value) (l2 : Value) (l3 : Value) (l4 : Value) (w0 : Value) (σ : Hs) : ru d 204 56 [l0, l1, l2, l3, l4] [w0] σ = ru d 204 58 [l0, l1, l2, l3, l4] [.int 24, w0] σ := q_bipush t204_56 (by decide +kernel)
theorem t204_58 : decode (mb 204) 58 = .ok (.if_icmp .le 10, 3) := by decide +kernel
theorem s204_58 (d : Nat) (l0 : Value) (l1 : Value) (l2 : Value) (l3 : Value) (l4 : Value) (x y : Int32) (σ : Hs) : ru d 204 58 [l0, l1, l2, l3, l4] [.int y, .int x] σ = if x ≤ y then ru d 204 68 [l0, l1, l2, l3, l4] [] σ else ru d 204 61 [l0, l1, l2, l3, l4] [] σ := q_ic_le t204_58 (by decide +kernel)
theorem t204_61 : decode (mb 204) 61 = .ok (.aload_n 0, 1) := by decide +kernel
theorem s204_61 (d : Nat) (a0 : Nat) (l1 : Value) (l2 : Value) (l3 : Value) (l4 : Value) (σ : Hs) : ru d 204 61 [.ref a0, l1, l2, l3, l4] [] σ = ru d 204 62 [.ref a0, l1, l2, l3, l4] [.ref a0] σ := q_aload_n t204_61 rfl
theorem t204_62 : decode (mb 204) 62 = .ok (.ldc 104, 2) := by decide +kernel
theorem s204_62 (d : Nat) (l0 : Value) (l1 : Value) (l2 : Value) (l3 : Value) (l4 : Value) (w0 : Value) (σ : Hs) : ru d 204 62 [l0, l1, l2, l3, l4] [w0] σ = ru d 204 64 [l0, l1, l2, l3, l4] [.int (-1000001), w0] σ := q_ldc t204_62 mo204 C8_104
theorem t204_64 : decode (mb 204) 64 = .ok (.invokevirtual 105, 3) := by decide +kernel
theorem s204_64_o87 (d : Nat) (l0 : Value) (l1 : Value) (l2 : Value) (l3 : Value) (l4 : Value) (v1 : Value) (σ : Hs) : ru d 204 64 [l0, l1, l2, l3, l4] [v1, .ref 87] σ = kont (callD d 111 [.ref 87, v1] σ) d 204 67 [l0, l1, l2, l3, l4] [] := q_invv t204_64 mo204 K8_105 mj111 rfl rfl rfl rfl (Nat.le_of_ble_eq_true rfl)
theorem t204_67 : decode (mb 204) 67 = .ok (.ireturn, 1) := by decide +kernel
theorem s204_67 (d : Nat) (l0 : Value) (l1 : Value) (l2 : Value) (l3 : Value) (l4 : Value) (x : Int32) (σ : Hs) : ru d 204 67 [l0, l1, l2, l3, l4] [.int x] σ = some (some (.int x), σ) := q_ireti t204_67 mr204
theorem t204_68 : decode (mb 204) 68 = .ok (.aload_n 0, 1) := by decide +kernel
theorem s204_68 (d : Nat) (a0 : Nat) (l1 : Value) (l2 : Value) (l3 : Value) (l4 : Value) (σ : Hs) : ru d 204 68 [.ref a0, l1, l2, l3, l4] [] σ = ru d 204 69 [.ref a0, l1, l2, l3, l4] [.ref a0] σ := q_aload_n t204_68 rfl
theorem t204_69 : decode (mb 204) 69 = .ok (.getfield 55, 3) := by decide +kernel
theorem s204_69_o87 (d : Nat) (l0 : Value) (l1 : Value) (l2 : Value) (l3 : Value) (l4 : Value) (σ : Hs) : ru d 204 69 [l0, l1, l2, l3, l4] [.ref 87] σ = ru d 204 72 [l0, l1, l2, l3, l4] [.ref 100] σ := q_getf t204_69 mo204 F8_55 rfl rfl
theorem t204_72 : decode (mb 204) 72 = .ok (.iload_n 1, 1) := by decide +kernel
theorem s204_72 (d : Nat) (l0 : Value) (i1 : Int32) (l2 : Value) (l3 : Value) (l4 : Value) (w0 : Value) (σ : Hs) : ru d 204 72 [l0, .int i1, l2, l3, l4] [w0] σ = ru d 204 73 [l0, .int i1, l2, l3, l4] [.int i1, w0] σ := q_iload_n t204_72 rfl
theorem t204_73 : decode (mb 204) 73 = .ok (.iload_n 2, 1) := by decide +kernel
theorem s204_73 (d : Nat) (l0 : Value) (l1 : Value) (i2 : Int32) (l3 : Value) (l4 : Value) (w0 w1 : Value) (σ : Hs) : ru d 204 73 [l0, l1, .int i2, l3, l4] [w0, w1] σ = ru d 204 74 [l0, l1, .int i2, l3, l4] [.int i2, w0, w1] σ := q_iload_n t204_73 rfl
theorem t204_74 : decode (mb 204) 74 = .ok (.iastore, 1) := by decide +kernel
theorem s204_74_o100 (d : Nat) (l0 : Value) (l1 : Value) (l2 : Value) (l3 : Value) (l4 : Value) (i x : Int32) (σ : Hs) : ru d 204 74 [l0, l1, l2, l3, l4] [.int x, .int i, .ref 100] σ = gd (vp_in i 4) (ru d 204 75 [l0, l1, l2, l3, l4] [] (up2 σ 100 i.toNatClampNeg x)) := q_iast t204_74 (by decide +kernel) rfl rfl
theorem t204_75 : decode (mb 204) 75 = .ok (.aload_n 0, 1) := by decide +kernel
theorem s204_75 (d : Nat) (a0 : Nat) (l1 : Value) (l2 : Value) (l3 : Value) (l4 : Value) (σ : Hs) : ru d 204 75 [.ref a0, l1, l2, l3, l4] [] σ = ru d 204 76 [.ref a0, l1, l2, l3, l4] [.ref a0] σ := q_aload_n t204_75 rfl
theorem t204_76 : decode (mb 204) 76 = .ok (.getfield 58, 3) := by decide +kernel
theorem s204_76_o87 (d : Nat) (l0 : Value) (l1 : Value) (l2 : Value) (l3 : Value) (l4 : Value) (σ : Hs) : ru d 204 76 [l0, l1, l2, l3, l4] [.ref 87] σ = ru d 204 79 [l0, l1, l2, l3, l4] [.ref 101] σ := q_getf t204_76 mo204 F8_58 rfl rfl
theorem t204_79 : decode (mb 204) 79 = .ok (.iload_n 1, 1) := by decide +kernel
theorem s204_79 (d : Nat) (l0 : Value) (i1 : Int32) (l2 : Value) (l3 : Value) (l4 : Value) (w0 : Value) (σ : Hs) : ru d 204 79 [l0, .int i1, l2, l3, l4] [w0] σ = ru d 204 80 [l0, .int i1, l2, l3, l4] [.int i1, w0] σ := q_iload_n t204_79 rfl
theorem t204_80 : decode (mb 204) 80 = .ok (.iload_n 2, 1) := by decide +kernel
theorem s204_80 (d : Nat) (l0 : Value) (l1 : Value) (i2 : Int32) (l3 : Value) (l4 : Value) (w0 w1 : Value) (σ : Hs) : ru d 204 80 [l0, l1, .int i2, l3, l4] [w0, w1] σ = ru d 204 81 [l0, l1, .int i2, l3, l4] [.int i2, w0, w1] σ := q_iload_n t204_80 rfl
theorem t204_81 : decode (mb 204) 81 = .ok (.ifCond .ne 7, 3) := by decide +kernel
theorem s204_81 (d : Nat) (l0 : Value) (l1 : Value) (l2 : Value) (l3 : Value) (l4 : Value) (x : Int32) (w0 w1 : Value) (σ : Hs) : ru d 204 81 [l0, l1, l2, l3, l4] [.int x, w0, w1] σ = if x = 0 then ru d 204 84 [l0, l1, l2, l3, l4] [w0, w1] σ else ru d 204 88 [l0, l1, l2, l3, l4] [w0, w1] σ := q_if_ne t204_81 (by decide +kernel)
theorem t204_84 : decode (mb 204) 84 = .ok (.iconst 0, 1) := by decide +kernel
theorem s204_84 (d : Nat) (l0 : Value) (l1 : Value) (l2 : Value) (l3 : Value) (l4 : Value) (w0 w1 : Value) (σ : Hs) : ru d 204 84 [l0, l1, l2, l3, l4] [w0, w1] σ = ru d 204 85 [l0, l1, l2, l3, l4] [.int 0, w0, w1] σ := q_iconst t204_84 (by decide +kernel)
theorem t204_85 : decode (mb 204) 85 = .ok (.goto 4, 3) := by decide +kernel
theorem s204_85 (d : Nat) (l0 : Value) (l1 : Value) (l2 : Value) (l3 : Value) (l4 : Value) (w0 w1 w2 : Value) (σ : Hs) : ru d 204 85 [l0, l1, l2, l3, l4] [w0, w1, w2] σ = ru d 204 89 [l0, l1, l2, l3, l4] [w0, w1, w2] σ := q_goto t204_85 (by decide +kernel)
theorem t204_88 : decode (mb 204) 88 = .ok (.iload_n 3, 1) := by decide +kernel
theorem s204_88 (d : Nat) (l0 : Value) (l1 : Value) (l2 : Value) (i3 : Int32) (l4 : Value) (w0 w1 : Value) (σ : Hs) : ru d 204 88 [l0, l1, l2, .int i3, l4] [w0, w1] σ = ru d 204 89 [l0, l1, l2, .int i3, l4] [.int i3, w0, w1] σ := q_iload_n t204_88 rfl
theorem t204_89 : decode (mb 204) 89 = .ok (.iastore, 1) := by decide +kernel
theorem s204_89_o101 (d : Nat) (l0 : Value) (l1 : Value) (l2 : Value) (l3 : Value) (l4 : Value) (i x : Int32) (σ : Hs) : ru d 204 89 [l0, l1, l2, l3, l4] [.int x, .int i, .ref 101] σ = gd (vp_in i 4) (ru d 204 90 [l0, l1, l2, l3, l4] [] (up2 σ 101 i.toNatClampNeg x)) := q_iast t204_89 (by decide +kernel) rfl rfl
theorem t204_90 : decode (mb 204) 90 = .ok (.iconst 0, 1) := by decide +kernel
theorem s204_90 (d : Nat) (l0 : Value) (l1 : Value) (l2 : Value) (l3 : Value) (l4 : Value) (σ : Hs) : ru d 204 90 [l0, l1, l2, l3, l4] [] σ = ru d 204 91 [l0, l1, l2, l3, l4] [.int 0] σ := q_iconst t204_90 (by decide +kernel)
theorem t204_91 : decode (mb 204) 91 = .ok (.istore 4, 2) := by decide +kernel
theorem s204_91 (d : Nat) (l0 : Value) (l1 : Value) (l2 : Value) (i3 : Int32) (l4 : Value) (x : Int32) (σ : Hs) : ru d 204 91 [l0, l1, l2, .int i3, l4] [.int x] σ = ru d 204 93 [l0, l1, l2, .int i3, .int x] [] σ := q_istore t204_91 ⟨Nat.le_of_ble_eq_true rfl, rfl⟩ rfl
theorem t204_93 : decode (mb 204) 93 = .ok (.iload 4, 2) := by decide +kernel
theorem s204_93 (d : Nat) (l0 : Value) (l1 : Value) (l2 : Value) (l3 : Value) (i4 : Int32) (σ : Hs) : ru d 204 93 [l0, l1, l2, l3, .int i4] [] σ = ru d 204 95 [l0, l1, l2, l3, .int i4] [.int i4] σ := q_iload t204_93 rfl
theorem t204_95 : decode (mb 204) 95 = .ok (.bipush 24, 2) := by decide +kernel
theorem s204_95 (d : Nat) (l0 : Value) (l1 : Value) (l2 : Value) (l3 : Value) (l4 : Value) (w0 : Value) (σ : Hs) : ru d 204 95 [l0, l1, l2, l3, l4] [w0] σ = ru d 204 97 [l0, l1, l2, l3, l4] [.int 24, w0] σ := q_bipush t204_95 (by decide +kernel)
theorem t204_97 : decode (mb 204) 97 = .ok (.if_icmp .ge 22, 3) := by decide +kernel
theorem s204_97 (d : Nat) (l0 : Value) (l1 : Value) (l2 : Value) (l3 : Value) (l4 : Value) (x y : Int32) (σ : Hs) : ru d 204 97 [l0, l1, l2, l3, l4] [.int y, .int x] σ = if y ≤ x then ru d 204 119 [l0, l1, l2, l3, l4] [] σ else ru d 204 100 [l0, l1, l2, l3, l4] [] σ := q_ic_ge t204_97 (by decide +kernel)
theorem t204_100 : decode (mb 204) 100 = .ok (.aload_n 0, 1) := by decide +kernel
theorem s204_100 (d : Nat) (a0 : Nat) (l1 : Value) (l2 : Value) (l3 : Value) (l4 : Value) (σ : Hs) : ru d 204 100 [.ref a0, l1, l2, l3, l4] [] σ = ru d 204 101 [.ref a0, l1, l2, l3, l4] [.ref a0] σ := q_aload_n t204_100 rfl
theorem t204_101 : decode (mb 204) 101 = .ok (.getfield 61, 3) := by decide +kernel
theorem s204_101_o87 (d : Nat) (l0 : Value) (l1 : Value) (l2 : Value) (l3 : Value) (l4 : Value) (σ : Hs) : ru d 204 101 [l0, l1, l2, l3, l4] [.ref 87] σ = ru d 204 104 [l0, l1, l2, l3, l4] [.ref 102] σ := q_getf t204_101 mo204 F8_61 rfl rfl
theorem t204_104 : decode (mb 204) 104 = .ok (.bipush 24, 2) := by decide +kernel
theorem s204_104 (d : Nat) (l0 : Value) (l1 : Value) (l2 : Value) (l3 : Value) (l4 : Value) (w0 : Value) (σ : Hs) : ru d 204 104 [l0, l1, l2, l3, l4] [w0] σ = ru d 204 106 [l0, l1, l2, l3, l4] [.int 24, w0] σ := q_bipush t204_104 (by decide +kernel)
theorem t204_106 : decode (mb 204) 106 = .ok (.iload_n 1, 1) := by decide +kernel
theorem s204_106 (d : Nat) (l0 : Value) (i1 : Int32) (l2 : Value) (l3 : Value) (l4 : Value) (w0 w1 : Value) (σ : Hs) : ru d 204 106 [l0, .int i1, l2, l3, l4] [w0, w1] σ = ru d 204 107 [l0, .int i1, l2, l3, l4] [.int i1, w0, w1] σ := q_iload_n t204_106 rfl
theorem t204_107 : decode (mb 204) 107 = .ok (.imul, 1) := by decide +kernel
theorem s204_107 (d : Nat) (l0 : Value) (l1 : Value) (l2 : Value) (l3 : Value) (l4 : Value) (x y : Int32) (w0 : Value) (σ : Hs) : ru d 204 107 [l0, l1, l2, l3, l4] [.int y, .int x, w0] σ = ru d 204 108 [l0, l1, l2, l3, l4] [.int (x * y), w0] σ := q_imul t204_107
theorem t204_108 : decode (mb 204) 108 = .ok (.iload 4, 2) := by decide +kernel
theorem s204_108 (d : Nat) (l0 : Value) (l1 : Value) (l2 : Value) (l3 : Value) (i4 : Int32) (w0 w1 : Value) (σ : Hs) : ru d 204 108 [l0, l1, l2, l3, .int i4] [w0, w1] σ = ru d 204 110 [l0, l1, l2, l3, .int i4] [.int i4, w0, w1] σ := q_iload t204_108 rfl
theorem t204_110 : decode (mb 204) 110 = .ok (.iadd, 1) := by decide +kernel
theorem s204_110 (d : Nat) (l0 : Value) (l1 : Value) (l2 : Value) (l3 : Value) (l4 : Value) (x y : Int32) (w0 : Value) (σ : Hs) : ru d 204 110 [l0, l1, l2, l3, l4] [.int y, .int x, w0] σ = ru d 204 111 [l0, l1, l2, l3, l4] [.int (x + y), w0] σ := q_iadd t204_110
theorem t204_111 : decode (mb 204) 111 = .ok (.iconst 0, 1) := by decide +kernel
theorem s204_111 (d : Nat) (l0 : Value) (l1 : Value) (l2 : Value) (l3 : Value) (l4 : Value) (w0 w1 : Value) (σ : Hs) : ru d 204 111 [l0, l1, l2, l3, l4] [w0, w1] σ = ru d 204 112 [l0, l1, l2, l3, l4] [.int 0, w0, w1] σ := q_iconst t204_111 (by decide +kernel)
theorem t204_112 : decode (mb 204) 112 = .ok (.iastore, 1) := by decide +kernel
theorem s204_112_o102 (d : Nat) (l0 : Value) (l1 : Value) (l2 : Value) (l3 : Value) (l4 : Value) (i x : Int32) (σ : Hs) : ru d 204 112 [l0, l1, l2, l3, l4] [.int x, .int i, .ref 102] σ = gd (vp_in i 96) (ru d 204 113 [l0, l1, l2, l3, l4] [] (up2 σ 102 i.toNatClampNeg x)) := q_iast t204_112 (by decide +kernel) rfl rfl
theorem t204_113 : decode (mb 204) 113 = .ok (.iinc 4 1, 3) := by decide +kernel
theorem s204_113 (d : Nat) (l0 : Value) (l1 : Value) (l2 : Value) (i3 : Int32) (i4 : Int32) (σ : Hs) : ru d 204 113 [l0, l1, l2, .int i3, .int i4] [] σ = ru d 204 116 [l0, l1, l2, .int i3, .int (i4 + 1)] [] σ := q_iinc t204_113 ⟨Nat.le_of_ble_eq_true rfl, rfl⟩ rfl (by decide +kernel) rfl
theorem t204_116 : decode (mb 204) 116 = .ok (.goto (-23), 3) := by decide +kernel
theorem s204_116 (d : Nat) (l0 : Value) (l1 : Value) (l2 : Value) (l3 : Value) (l4 : Value) (σ : Hs) : ru d 204 116 [l0, l1, l2, l3, l4] [] σ = ru d 204 93 [l0, l1, l2, l3, l4] [] σ := q_goto t204_116 (by decide +kernel)
theorem t204_119 : decode (mb 204) 119 = .ok (.iconst 1, 1) := by decide +kernel
theorem s204_119 (d : Nat) (l0 : Value) (l1 : Value) (l2 : Value) (l3 : Value) (l4 : Value) (σ : Hs) : ru d 204 119 [l0, l1, l2, l3, l4] [] σ = ru d 204 120 [l0, l1, l2, l3, l4] [.int 1] σ := q_iconst t204_119 (by decide +kernel)
theorem t204_120 : decode (mb 204) 120 = .ok (.ireturn, 1) := by decide +kernel
theorem s204_120 (d : Nat) (l0 : Value) (l1 : Value) (l2 : Value) (l3 : Value) (l4 : Value) (x : Int32) (σ : Hs) : ru d 204 120 [l0, l1, l2, l3, l4] [.int x] σ = some (some (.int x), σ) := q_ireti t204_120 mr204
theorem c204 (d : Nat) (x0 : Nat) (x1 : Int32) (x2 : Int32) (x3 : Int32) (σ : Hs) : callD (d + 1) 204 [.ref x0, .int x1, .int x2, .int x3] σ = ru d 204 0 [.ref x0, .int x1, .int x2, .int x3, uu] [] σ := callD_ru ml204 rfl rfl (Nat.le_of_ble_eq_true rfl)
-- 205: Model.put(III)I
theorem t205_0 : decode (mb 205) 0 = .ok (.iload_n 1, 1) := by decide +kernel
theorem s205_0 (d : Nat) (l0 : Value) (i1 : Int32) (l2 : Value) (l3 : Value) (σ : Hs) : ru d 205 0 [l0, .int i1, l2, l3] [] σ = ru d 205 1 [l0, .int i1, l2, l3] [.int i1] σ := q_iload_n t205_0 rfl
theorem t205_1 : decode (mb 205) 1 = .ok (.invokestatic 328, 3) := by decide +kernel
theorem s205_1 (d : Nat) (l0 : Value) (l1 : Value) (l2 : Value) (l3 : Value) (v0 : Value) (σ : Hs) : ru d 205 1 [l0, l1, l2, l3] [v0] σ = kont (callD d 203 [v0] σ) d 205 4 [l0, l1, l2, l3] [] := q_invs t205_1 mo205 (by decide +kernel) K8_328 mj203 (Nat.le_of_ble_eq_true rfl) rfl rfl (Nat.le_of_ble_eq_true rfl)
theorem t205_4 : decode (mb 205) 4 = .ok (.ifCond .ne 10, 3) := by decide +kernel
theorem s205_4 (d : Nat) (l0 : Value) (l1 : Value) (l2 : Value) (l3 : Value) (x : Int32) (σ : Hs) : ru d 205 4 [l0, l1, l2, l3] [.int x] σ = if x = 0 then ru d 205 7 [l0, l1, l2, l3] [] σ else ru d 205 14 [l0, l1, l2, l3] [] σ := q_if_ne t205_4 (by decide +kernel)
theorem t205_7 : decode (mb 205) 7 = .ok (.aload_n 0, 1) := by decide +kernel
theorem s205_7 (d : Nat) (a0 : Nat) (l1 : Value) (l2 : Value) (l3 : Value) (σ : Hs) : ru d 205 7 [.ref a0, l1, l2, l3] [] σ = ru d 205 8 [.ref a0, l1, l2, l3] [.ref a0] σ := q_aload_n t205_7 rfl
theorem t205_8 : decode (mb 205) 8 = .ok (.ldc 104, 2) := by decide +kernel
theorem s205_8 (d : Nat) (l0 : Value) (l1 : Value) (l2 : Value) (l3 : Value) (w0 : Value) (σ : Hs) : ru d 205 8 [l0, l1, l2, l3] [w0] σ = ru d 205 10 [l0, l1, l2, l3] [.int (-1000001), w0] σ := q_ldc t205_8 mo205 C8_104
theorem t205_10 : decode (mb 205) 10 = .ok (.invokevirtual 105, 3) := by decide +kernel
theorem s205_10_o87 (d : Nat) (l0 : Value) (l1 : Value) (l2 : Value) (l3 : Value) (v1 : Value) (σ : Hs) : ru d 205 10 [l0, l1, l2, l3] [v1, .ref 87] σ = kont (callD d 111 [.ref 87, v1] σ) d 205 13 [l0, l1, l2, l3] [] := q_invv t205_10 mo205 K8_105 mj111 rfl rfl rfl rfl (Nat.le_of_ble_eq_true rfl)
theorem t205_13 : decode (mb 205) 13 = .ok (.ireturn, 1) := by decide +kernel
theorem s205_13 (d : Nat) (l0 : Value) (l1 : Value) (l2 : Value) (l3 : Value) (x : Int32) (σ : Hs) : ru d 205 13 [l0, l1, l2, l3] [.int x] σ = some (some (.int x), σ) := q_ireti t205_13 mr205
theorem t205_14 : decode (mb 205) 14 = .ok (.aload_n 0, 1) := by decide +kernel
theorem s205_14 (d : Nat) (a0 : Nat) (l1 : Value) (l2 : Value) (l3 : Value) (σ : Hs) : ru d 205 14 [.ref a0, l1, l2, l3] [] σ = ru d 205 15 [.ref a0, l1, l2, l3] [.ref a0] σ := q_aload_n t205_14 rfl
theorem t205_15 : decode (mb 205) 15 = .ok (.getfield 55, 3) := by decide +kernel
theorem s205_15_o87 (d : Nat) (l0 : Value) (l1 : Value) (l2 : Value) (l3 : Value) (σ : Hs) : ru d 205 15 [l0, l1, l2, l3] [.ref 87] σ = ru d 205 18 [l0, l1, l2, l3] [.ref 100] σ := q_getf t205_15 mo205 F8_55 rfl rfl
theorem t205_18 : decode (mb 205) 18 = .ok (.iload_n 1, 1) := by decide +kernel
theorem s205_18 (d : Nat) (l0 : Value) (i1 : Int32) (l2 : Value) (l3 : Value) (w0 : Value) (σ : Hs) : ru d 205 18 [l0, .int i1, l2, l3] [w0] σ = ru d 205 19 [l0, .int i1, l2, l3] [.int i1, w0] σ := q_iload_n t205_18 rfl
theorem t205_19 : decode (mb 205) 19 = .ok (.iaload, 1) := by decide +kernel
theorem s205_19_o100 (d : Nat) (l0 : Value) (l1 : Value) (l2 : Value) (l3 : Value) (i : Int32) (σ : Hs) : ru d 205 19 [l0, l1, l2, l3] [.int i, .ref 100] σ = gd (vp_in i 4) (ru d 205 20 [l0, l1, l2, l3] [.int (σ 100 i.toNatClampNeg)] σ) := q_iald t205_19 rfl (by decide +kernel) rfl
theorem t205_20 : decode (mb 205) 20 = .ok (.ifCond .ne 10, 3) := by decide +kernel
theorem s205_20 (d : Nat) (l0 : Value) (l1 : Value) (l2 : Value) (l3 : Value) (x : Int32) (σ : Hs) : ru d 205 20 [l0, l1, l2, l3] [.int x] σ = if x = 0 then ru d 205 23 [l0, l1, l2, l3] [] σ else ru d 205 30 [l0, l1, l2, l3] [] σ := q_if_ne t205_20 (by decide +kernel)
theorem t205_23 : decode (mb 205) 23 = .ok (.aload_n 0, 1) := by decide +kernel
theorem s205_23 (d : Nat) (a0 : Nat) (l1 : Value) (l2 : Value) (l3 : Value) (σ : Hs) : ru d 205 23 [.ref a0, l1, l2, l3] [] σ = ru d 205 24 [.ref a0, l1, l2, l3] [.ref a0] σ := q_aload_n t205_23 rfl
theorem t205_24 : decode (mb 205) 24 = .ok (.ldc 116, 2) := by decide +kernel
theorem s205_24 (d : Nat) (l0 : Value) (l1 : Value) (l2 : Value) (l3 : Value) (w0 : Value) (σ : Hs) : ru d 205 24 [l0, l1, l2, l3] [w0] σ = ru d 205 26 [l0, l1, l2, l3] [.int (-1000002), w0] σ := q_ldc t205_24 mo205 C8_116
theorem t205_26 : decode (mb 205) 26 = .ok (.invokevirtual 105, 3) := by decide +kernel
theorem s205_26_o87 (d : Nat) (l0 : Value) (l1 : Value) (l2 : Value) (l3 : Value) (v1 : Value) (σ : Hs) : ru d 205 26 [l0, l1, l2, l3] [v1, .ref 87] σ = kont (callD d 111 [.ref 87, v1] σ) d 205 29 [l0, l1, l2, l3] [] := q_invv t205_26 mo205 K8_105 mj111 rfl rfl rfl rfl (Nat.le_of_ble_eq_true rfl)
theorem t205_29 : decode (mb 205) 29 = .ok (.ireturn, 1) := by decide +kernel
theorem s205_29 (d : Nat) (l0 : Value) (l1 : Value) (l2 : Value) (l3 : Value) (x : Int32) (σ : Hs) : ru d 205 29 [l0, l1, l2, l3] [.int x] σ = some (some (.int x), σ) := q_ireti t205_29 mr205
theorem t205_30 : decode (mb 205) 30 = .ok (.iload_n 2, 1) := by decide +kernel
theorem s205_30 (d : Nat) (l0 : Value) (l1 : Value) (i2 : Int32) (l3 : Value) (σ : Hs) : ru d 205 30 [l0, l1, .int i2, l3] [] σ = ru d 205 31 [l0, l1, .int i2, l3] [.int i2] σ := q_iload_n t205_30 rfl
theorem t205_31 : decode (mb 205) 31 = .ok (.iconst 0, 1) := by decide +kernel
theorem s205_31 (d : Nat) (l0 : Value) (l1 : Value) (l2 : Value) (l3 : Value) (w0 : Value) (σ : Hs) : ru d 205 31 [l0, l1, l2, l3] [w0] σ = ru d 205 32 [l0, l1, l2, l3] [.int 0, w0] σ := q_iconst t205_31 (by decide +kernel)
theorem t205_32 : decode (mb 205) 32 = .ok (.aload_n 0, 1) := by decide +kernel
theorem s205_32 (d : Nat) (a0 : Nat) (l1 : Value) (l2 : Value) (l3 : Value) (w0 w1 : Value) (σ : Hs) : ru d 205 32 [.ref a0, l1, l2, l3] [w0, w1] σ = ru d 205 33 [.ref a0, l1, l2, l3] [.ref a0, w0, w1] σ := q_aload_n t205_32 rfl
theorem t205_33 : decode (mb 205) 33 = .ok (.getfield 58, 3) := by decide +kernel
theorem s205_33_o87 (d : Nat) (l0 : Value) (l1 : Value) (l2 : Value) (l3 : Value) (w0 w1 : Value) (σ : Hs) : ru d 205 33 [l0, l1, l2, l3] [.ref 87, w0, w1] σ = ru d 205 36 [l0, l1, l2, l3] [.ref 101, w0, w1] σ := q_getf t205_33 mo205 F8_58 rfl rfl
theorem t205_36 : decode (mb 205) 36 = .ok (.iload_n 1, 1) := by decide +kernel
theorem s205_36 (d : Nat) (l0 : Value) (i1 : Int32) (l2 : Value) (l3 : Value) (w0 w1 w2 : Value) (σ : Hs) : ru d 205 36 [l0, .int i1, l2, l3] [w0, w1, w2] σ = ru d 205 37 [l0, .int i1, l2, l3] [.int i1, w0, w1, w2] σ := q_iload_n t205_36 rfl
theorem t205_37 : decode (mb 205) 37 = .ok (.iaload, 1) := by decide +kernel
theorem s205_37_o101 (d : Nat) (l0 : Value) (l1 : Value) (l2 : Value) (l3 : Value) (i : Int32) (w0 w1 : Value) (σ : Hs) : ru d 205 37 [l0, l1, l2, l3] [.int i, .ref 101, w0, w1] σ = gd (vp_in i 4) (ru d 205 38 [l0, l1, l2, l3] [.int (σ 101 i.toNatClampNeg), w0, w1] σ) := q_iald t205_37 rfl (by decide +kernel) rfl
theorem t205_38 : decode (mb 205) 38 = .ok (.iconst 1, 1) := by decide +kernel
theorem s205_38 (d : Nat) (l0 : Value) (l1 : Value) (l2 : Value) (l3 : Value) (w0 w1 w2 : Value) (σ : Hs) : ru d 205 38 [l0, l1, l2, l3] [w0, w1, w2] σ = ru d 205 39 [l0, l1, l2, l3] [.int 1, w0, w1, w2] σ := q_iconst t205_38 (by decide +kernel)
theorem t205_39 : decode (mb 205) 39 = .ok (.isub, 1) := by decide +kernel
theorem s205_39 (d : Nat) (l0 : Value) (l1 : Value) (l2 : Value) (l3 : Value) (x y : Int32) (w0 w1 : Value) (σ : Hs) : ru d 205 39 [l0, l1, l2, l3] [.int y, .int x, w0, w1] σ = ru d 205 40 [l0, l1, l2, l3] [.int (x - y), w0, w1] σ := q_isub t205_39
theorem t205_40 : decode (mb 205) 40 = .ok (.invokestatic 81, 3) := by decide +kernel
theorem s205_40 (d : Nat) (l0 : Value) (l1 : Value) (l2 : Value) (l3 : Value) (v0 v1 v2 : Value) (σ : Hs) : ru d 205 40 [l0, l1, l2, l3] [v2, v1, v0] σ = kont (callD d 112 [v0, v1, v2] σ) d 205 43 [l0, l1, l2, l3] [] := q_invs t205_40 mo205 (by decide +kernel) K8_81 mj112 (Nat.le_of_ble_eq_true rfl) rfl rfl (Nat.le_of_ble_eq_true rfl)
theorem t205_43 : decode (mb 205) 43 = .ok (.ifCond .ne 10, 3) := by decide +kernel
theorem s205_43 (d : Nat) (l0 : Value) (l1 : Value) (l2 : Value) (l3 : Value) (x : Int32) (σ : Hs) : ru d 205 43 [l0, l1, l2, l3] [.int x] σ = if x = 0 then ru d 205 46 [l0, l1, l2, l3] [] σ else ru d 205 53 [l0, l1, l2, l3] [] σ := q_if_ne t205_43 (by decide +kernel)
theorem t205_46 : decode (mb 205) 46 = .ok (.aload_n 0, 1) := by decide +kernel
theorem s205_46 (d : Nat) (a0 : Nat) (l1 : Value) (l2 : Value) (l3 : Value) (σ : Hs) : ru d 205 46 [.ref a0, l1, l2, l3] [] σ = ru d 205 47 [.ref a0, l1, l2, l3] [.ref a0] σ := q_aload_n t205_46 rfl
theorem t205_47 : decode (mb 205) 47 = .ok (.ldc 104, 2) := by decide +kernel
theorem s205_47 (d : Nat) (l0 : Value) (l1 : Value) (l2 : Value) (l3 : Value) (w0 : Value) (σ : Hs) : ru d 205 47 [l0, l1, l2, l3] [w0] σ = ru d 205 49 [l0, l1, l2, l3] [.int (-1000001), w0] σ := q_ldc t205_47 mo205 C8_104
theorem t205_49 : decode (mb 205) 49 = .ok (.invokevirtual 105, 3) := by decide +kernel
theorem s205_49_o87 (d : Nat) (l0 : Value) (l1 : Value) (l2 : Value) (l3 : Value) (v1 : Value) (σ : Hs) : ru d 205 49 [l0, l1, l2, l3] [v1, .ref 87] σ = kont (callD d 111 [.ref 87, v1] σ) d 205 52 [l0, l1, l2, l3] [] := q_invv t205_49 mo205 K8_105 mj111 rfl rfl rfl rfl (Nat.le_of_ble_eq_true rfl)
theorem t205_52 : decode (mb 205) 52 = .ok (.ireturn, 1) := by decide +kernel
theorem s205_52 (d : Nat) (l0 : Value) (l1 : Value) (l2 : Value) (l3 : Value) (x : Int32) (σ : Hs) : ru d 205 52 [l0, l1, l2, l3] [.int x] σ = some (some (.int x), σ) := q_ireti t205_52 mr205
theorem t205_53 : decode (mb 205) 53 = .ok (.aload_n 0, 1) := by decide +kernel
theorem s205_53 (d : Nat) (a0 : Nat) (l1 : Value) (l2 : Value) (l3 : Value) (σ : Hs) : ru d 205 53 [.ref a0, l1, l2, l3] [] σ = ru d 205 54 [.ref a0, l1, l2, l3] [.ref a0] σ := q_aload_n t205_53 rfl
theorem t205_54 : decode (mb 205) 54 = .ok (.getfield 61, 3) := by decide +kernel
theorem s205_54_o87 (d : Nat) (l0 : Value) (l1 : Value) (l2 : Value) (l3 : Value) (σ : Hs) : ru d 205 54 [l0, l1, l2, l3] [.ref 87] σ = ru d 205 57 [l0, l1, l2, l3] [.ref 102] σ := q_getf t205_54 mo205 F8_61 rfl rfl
theorem t205_57 : decode (mb 205) 57 = .ok (.bipush 24, 2) := by decide +kernel
theorem s205_57 (d : Nat) (l0 : Value) (l1 : Value) (l2 : Value) (l3 : Value) (w0 : Value) (σ : Hs) : ru d 205 57 [l0, l1, l2, l3] [w0] σ = ru d 205 59 [l0, l1, l2, l3] [.int 24, w0] σ := q_bipush t205_57 (by decide +kernel)
theorem t205_59 : decode (mb 205) 59 = .ok (.iload_n 1, 1) := by decide +kernel
theorem s205_59 (d : Nat) (l0 : Value) (i1 : Int32) (l2 : Value) (l3 : Value) (w0 w1 : Value) (σ : Hs) : ru d 205 59 [l0, .int i1, l2, l3] [w0, w1] σ = ru d 205 60 [l0, .int i1, l2, l3] [.int i1, w0, w1] σ := q_iload_n t205_59 rfl
theorem t205_60 : decode (mb 205) 60 = .ok (.imul, 1) := by decide +kernel
theorem s205_60 (d : Nat) (l0 : Value) (l1 : Value) (l2 : Value) (l3 : Value) (x y : Int32) (w0 : Value) (σ : Hs) : ru d 205 60 [l0, l1, l2, l3] [.int y, .int x, w0] σ = ru d 205 61 [l0, l1, l2, l3] [.int (x * y), w0] σ := q_imul t205_60
theorem t205_61 : decode (mb 205) 61 = .ok (.iload_n 2, 1) := by decide +kernel
theorem s205_61 (d : Nat) (l0 : Value) (l1 : Value) (i2 : Int32) (l3 : Value) (w0 w1 : Value) (σ : Hs) : ru d 205 61 [l0, l1, .int i2, l3] [w0, w1] σ = ru d 205 62 [l0, l1, .int i2, l3] [.int i2, w0, w1] σ := q_iload_n t205_61 rfl
theorem t205_62 : decode (mb 205) 62 = .ok (.iadd, 1) := by decide +kernel
theorem s205_62 (d : Nat) (l0 : Value) (l1 : Value) (l2 : Value) (l3 : Value) (x y : Int32) (w0 : Value) (σ : Hs) : ru d 205 62 [l0, l1, l2, l3] [.int y, .int x, w0] σ = ru d 205 63 [l0, l1, l2, l3] [.int (x + y), w0] σ := q_iadd t205_62
theorem t205_63 : decode (mb 205) 63 = .ok (.aload_n 0, 1) := by decide +kernel
theorem s205_63 (d : Nat) (a0 : Nat) (l1 : Value) (l2 : Value) (l3 : Value) (w0 w1 : Value) (σ : Hs) : ru d 205 63 [.ref a0, l1, l2, l3] [w0, w1] σ = ru d 205 64 [.ref a0, l1, l2, l3] [.ref a0, w0, w1] σ := q_aload_n t205_63 rfl
theorem t205_64 : decode (mb 205) 64 = .ok (.getfield 55, 3) := by decide +kernel
theorem s205_64_o87 (d : Nat) (l0 : Value) (l1 : Value) (l2 : Value) (l3 : Value) (w0 w1 : Value) (σ : Hs) : ru d 205 64 [l0, l1, l2, l3] [.ref 87, w0, w1] σ = ru d 205 67 [l0, l1, l2, l3] [.ref 100, w0, w1] σ := q_getf t205_64 mo205 F8_55 rfl rfl
theorem t205_67 : decode (mb 205) 67 = .ok (.iload_n 1, 1) := by decide +kernel
theorem s205_67 (d : Nat) (l0 : Value) (i1 : Int32) (l2 : Value) (l3 : Value) (w0 w1 w2 : Value) (σ : Hs) : ru d 205 67 [l0, .int i1, l2, l3] [w0, w1, w2] σ = ru d 205 68 [l0, .int i1, l2, l3] [.int i1, w0, w1, w2] σ := q_iload_n t205_67 rfl
theorem t205_68 : decode (mb 205) 68 = .ok (.iaload, 1) := by decide +kernel
theorem s205_68_o100 (d : Nat) (l0 : Value) (l1 : Value) (l2 : Value) (l3 : Value) (i : Int32) (w0 w1 : Value) (σ : Hs) : ru d 205 68 [l0, l1, l2, l3] [.int i, .ref 100, w0, w1] σ = gd (vp_in i 4) (ru d 205 69 [l0, l1, l2, l3] [.int (σ 100 i.toNatClampNeg), w0, w1] σ) := q_iald t205_68 rfl (by decide +kernel) rfl
theorem t205_69 : decode (mb 205) 69 = .ok (.bipush 8, 2) := by decide +kernel
theorem s205_69 (d : Nat) (l0 : Value) (l1 : Value) (l2 : Value) (l3 : Value) (w0 w1 w2 : Value) (σ : Hs) : ru d 205 69 [l0, l1, l2, l3] [w0, w1, w2] σ = ru d 205 71 [l0, l1, l2, l3] [.int 8, w0, w1, w2] σ := q_bipush t205_69 (by decide +kernel)
theorem t205_71 : decode (mb 205) 71 = .ok (.if_icmp .ne 8, 3) := by decide +kernel
theorem s205_71 (d : Nat) (l0 : Value) (l1 : Value) (l2 : Value) (l3 : Value) (x y : Int32) (w0 w1 : Value) (σ : Hs) : ru d 205 71 [l0, l1, l2, l3] [.int y, .int x, w0, w1] σ = if x = y then ru d 205 74 [l0, l1, l2, l3] [w0, w1] σ else ru d 205 79 [l0, l1, l2, l3] [w0, w1] σ := q_ic_ne t205_71 (by decide +kernel)
theorem t205_74 : decode (mb 205) 74 = .ok (.iload_n 3, 1) := by decide +kernel
theorem s205_74 (d : Nat) (l0 : Value) (l1 : Value) (l2 : Value) (i3 : Int32) (w0 w1 : Value) (σ : Hs) : ru d 205 74 [l0, l1, l2, .int i3] [w0, w1] σ = ru d 205 75 [l0, l1, l2, .int i3] [.int i3, w0, w1] σ := q_iload_n t205_74 rfl
theorem t205_75 : decode (mb 205) 75 = .ok (.i2b, 1) := by decide +kernel
theorem s205_75 (d : Nat) (l0 : Value) (l1 : Value) (l2 : Value) (l3 : Value) (x : Int32) (w0 w1 : Value) (σ : Hs) : ru d 205 75 [l0, l1, l2, l3] [.int x, w0, w1] σ = ru d 205 76 [l0, l1, l2, l3] [.int x.toInt8.toInt32, w0, w1] σ := q_i2b t205_75
theorem t205_76 : decode (mb 205) 76 = .ok (.goto 20, 3) := by decide +kernel
theorem s205_76 (d : Nat) (l0 : Value) (l1 : Value) (l2 : Value) (l3 : Value) (w0 w1 w2 : Value) (σ : Hs) : ru d 205 76 [l0, l1, l2, l3] [w0, w1, w2] σ = ru d 205 96 [l0, l1, l2, l3] [w0, w1, w2] σ := q_goto t205_76 (by decide +kernel)
theorem t205_79 : decode (mb 205) 79 = .ok (.aload_n 0, 1) := by decide +kernel
theorem s205_79 (d : Nat) (a0 : Nat) (l1 : Value) (l2 : Value) (l3 : Value) (w0 w1 : Value) (σ : Hs) : ru d 205 79 [.ref a0, l1, l2, l3] [w0, w1] σ = ru d 205 80 [.ref a0, l1, l2, l3] [.ref a0, w0, w1] σ := q_aload_n t205_79 rfl
theorem t205_80 : decode (mb 205) 80 = .ok (.getfield 55, 3) := by decide +kernel
theorem s205_80_o87 (d : Nat) (l0 : Value) (l1 : Value) (l2 : Value) (l3 : Value) (w0 w1 : Value) (σ : Hs) : ru d 205 80 [l0, l1, l2, l3] [.ref 87, w0, w1] σ = ru d 205 83 [l0, l1, l2, l3] [.ref 100, w0, w1] σ := q_getf t205_80 mo205 F8_55 rfl rfl
theorem t205_83 : decode (mb 205) 83 = .ok (.iload_n 1, 1) := by decide +kernel
theorem s205_83 (d : Nat) (l0 : Value) (i1 : Int32) (l2 : Value) (l3 : Value) (w0 w1 w2 : Value) (σ : Hs) : ru d 205 83 [l0, .int i1, l2, l3] [w0, w1, w2] σ = ru d 205 84 [l0, .int i1, l2, l3] [.int i1, w0, w1, w2] σ := q_iload_n t205_83 rfl
theorem t205_84 : decode (mb 205) 84 = .ok (.iaload, 1) := by decide +kernel
theorem s205_84_o100 (d : Nat) (l0 : Value) (l1 : Value) (l2 : Value) (l3 : Value) (i : Int32) (w0 w1 : Value) (σ : Hs) : ru d 205 84 [l0, l1, l2, l3] [.int i, .ref 100, w0, w1] σ = gd (vp_in i 4) (ru d 205 85 [l0, l1, l2, l3] [.int (σ 100 i.toNatClampNeg), w0, w1] σ) := q_iald t205_84 rfl (by decide +kernel) rfl
theorem t205_85 : decode (mb 205) 85 = .ok (.bipush 16, 2) := by decide +kernel
theorem s205_85 (d : Nat) (l0 : Value) (l1 : Value) (l2 : Value) (l3 : Value) (w0 w1 w2 : Value) (σ : Hs) : ru d 205 85 [l0, l1, l2, l3] [w0, w1, w2] σ = ru d 205 87 [l0, l1, l2, l3] [.int 16, w0, w1, w2] σ := q_bipush t205_85 (by decide +kernel)
theorem t205_87 : decode (mb 205) 87 = .ok (.if_icmp .ne 8, 3) := by decide +kernel
theorem s205_87 (d : Nat) (l0 : Value) (l1 : Value) (l2 : Value) (l3 : Value) (x y : Int32) (w0 w1 : Value) (σ : Hs) : ru d 205 87 [l0, l1, l2, l3] [.int y, .int x, w0, w1] σ = if x = y then ru d 205 90 [l0, l1, l2, l3] [w0, w1] σ else ru d 205 95 [l0, l1, l2, l3] [w0, w1] σ := q_ic_ne t205_87 (by decide +kernel)
theorem t205_90 : decode (mb 205) 90 = .ok (.iload_n 3, 1) := by decide +kernel
theorem s205_90 (d : Nat) (l0 : Value) (l1 : Value) (l2 : Value) (i3 : Int32) (w0 w1 : Value) (σ : Hs) : ru d 205 90 [l0, l1, l2, .int i3] [w0, w1] σ = ru d 205 91 [l0, l1, l2, .int i3] [.int i3, w0, w1] σ := q_iload_n t205_90 rfl
theorem t205_91 : decode (mb 205) 91 = .ok (.i2s, 1) := by decide +kernel
theorem s205_91 (d : Nat) (l0 : Value) (l1 : Value) (l2 : Value) (l3 : Value) (x : Int32) (w0 w1 : Value) (σ : Hs) : ru d 205 91 [l0, l1, l2, l3] [.int x, w0, w1] σ = ru d 205 92 [l0, l1, l2, l3] [.int x.toInt16.toInt32, w0, w1] σ := q_i2s t205_91
theorem t205_92 : decode (mb 205) 92 = .ok (.goto 4, 3) := by decide +kernel
theorem s205_92 (d : Nat) (l0 : Value) (l1 : Value) (l2 : Value) (l3 : Value) (w0 w1 w2 : Value) (σ : Hs) : ru d 205 92 [l0, l1, l2, l3] [w0, w1, w2] σ = ru d 205 96 [l0, l1, l2, l3] [w0, w1, w2] σ := q_goto t205_92 (by decide +kernel)
theorem t205_95 : decode (mb 205) 95 = .ok (.iload_n 3, 1) := by decide +kernel
theorem s205_95 (d : Nat) (l0 : Value) (l1 : Value) (l2 : Value) (i3 : Int32) (w0 w1 : Value) (σ : Hs) : ru d 205 95 [l0, l1, l2, .int i3] [w0, w1] σ = ru d 205 96 [l0, l1, l2, .int i3] [.int i3, w0, w1] σ := q_iload_n t205_95 rfl
theorem t205_96 : decode (mb 205) 96 = .ok (.iastore, 1) := by decide +kernel
theorem s205_96_o102 (d : Nat) (l0 : Value) (l1 : Value) (l2 : Value) (l3 : Value) (i x : Int32) (σ : Hs) : ru d 205 96 [l0, l1, l2, l3] [.int x, .int i, .ref 102] σ = gd (vp_in i 96) (ru d 205 97 [l0, l1, l2, l3] [] (up2 σ 102 i.toNatClampNeg x)) := q_iast t205_96 (by decide +kernel) rfl rfl
theorem t205_97 : decode (mb 205) 97 = .ok (.iconst 1, 1) := by decide +kernel
theorem s205_97 (d : Nat) (l0 : Value) (l1 : Value) (l2 : Value) (l3 : Value) (σ : Hs) : ru d 205 97 [l0, l1, l2, l3] [] σ = ru d 205 98 [l0, l1, l2, l3] [.int 1] σ := q_iconst t205_97 (by decide +kernel)
theorem t205_98 : decode (mb 205) 98 = .ok (.ireturn, 1) := by decide +kernel
theorem s205_98 (d : Nat) (l0 : Value) (l1 : Value) (l2 : Value) (l3 : Value) (x : Int32) (σ : Hs) : ru d 205 98 [l0, l1, l2, l3] [.int x] σ = some (some (.int x), σ) := q_ireti t205_98 mr205
theorem c205 (d : Nat) (x0 : Nat) (x1 : Int32) (x2 : Int32) (x3 : Int32) (σ : Hs) : callD (d + 1) 205 [.ref x0, .int x1, .int x2, .int x3] σ = ru d 205 0 [.ref x0, .int x1, .int x2, .int x3] [] σ := callD_ru ml205 rfl rfl (Nat.le_of_ble_eq_true rfl)
-- 206: Model.move(IIIII)I
theorem t206_0 : decode (mb 206) 0 = .ok (.iload_n 1, 1) := by decide +kernel
theorem s206_0 (d : Nat) (l0 : Value) (i1 : Int32) (l2 : Value) (l3 : Value) (l4 : Value) (l5 : Value) (l6 : Value) (σ : Hs) : ru d 206 0 [l0, .int i1, l2, l3, l4, l5, l6] [] σ = ru d 206 1 [l0, .int i1, l2, l3, l4, l5, l6] [.int i1] σ := q_iload_n t206_0 rfl
theorem t206_1 : decode (mb 206) 1 = .ok (.invokestatic 328, 3) := by decide +kernel
theorem s206_1 (d : Nat) (l0 : Value) (l1 : Value) (l2 : Value) (l3 : Value) (l4 : Value) (l5 : Value) (l6 : Value) (v0 : Value) (σ : Hs) : ru d 206 1 [l0, l1, l2, l3, l4, l5, l6] [v0] σ = kont (callD d 203 [v0] σ) d 206 4 [l0, l1, l2, l3, l4, l5, l6] [] := q_invs t206_1 mo206 (by decide +kernel) K8_328 mj203 (Nat.le_of_ble_eq_true rfl) rfl rfl (Nat.le_of_ble_eq_true rfl)
theorem t206_4 : decode (mb 206) 4 = .ok (.ifCond .eq 10, 3) := by decide +kernel
theorem s206_4 (d : Nat) (l0 : Value) (l1 : Value) (l2 : Value) (l3 : Value) (l4 : Value) (l5 : Value) (l6 : Value) (x : Int32) (σ : Hs) : ru d 206 4 [l0, l1, l2, l3, l4, l5, l6] [.int x] σ = if x = 0 then ru d 206 14 [l0, l1, l2, l3, l4, l5, l6] [] σ else ru d 206 7 [l0, l1, l2, l3, l4, l5, l6] [] σ := q_if_eq t206_4 (by decide +kernel)
theorem t206_7 : decode (mb 206) 7 = .ok (.iload_n 3, 1) := by decide +kernel
theorem s206_7 (d : Nat) (l0 : Value) (l1 : Value) (l2 : Value) (i3 : Int32) (l4 : Value) (l5 : Value) (l6 : Value) (σ : Hs) : ru d 206 7 [l0, l1, l2, .int i3, l4, l5, l6] [] σ = ru d 206 8 [l0, l1, l2, .int i3, l4, l5, l6] [.int i3] σ := q_iload_n t206_7 rfl
theorem t206_8 : decode (mb 206) 8 = .ok (.invokestatic 328, 3) := by decide +kernel
theorem s206_8 (d : Nat) (l0 : Value) (l1 : Value) (l2 : Value) (l3 : Value) (l4 : Value) (l5 : Value) (l6 : Value) (v0 : Value) (σ : Hs) : ru d 206 8 [l0, l1, l2, l3, l4, l5, l6] [v0] σ = kont (callD d 203 [v0] σ) d 206 11 [l0, l1, l2, l3, l4, l5, l6] [] := q_invs t206_8 mo206 (by decide +kernel) K8_328 mj203 (Nat.le_of_ble_eq_true rfl) rfl rfl (Nat.le_of_ble_eq_true rfl)
theorem t206_11 : decode (mb 206) 11 = .ok (.ifCond .ne 10, 3) := by decide +kernel
theorem s206_11 (d : Nat) (l0 : Value) (l1 : Value) (l2 : Value) (l3 : Value) (l4 : Value) (l5 : Value) (l6 : Value) (x : Int32) (σ : Hs) : ru d 206 11 [l0, l1, l2, l3, l4, l5, l6] [.int x] σ = if x = 0 then ru d 206 14 [l0, l1, l2, l3, l4, l5, l6] [] σ else ru d 206 21 [l0, l1, l2, l3, l4, l5, l6] [] σ := q_if_ne t206_11 (by decide +kernel)
theorem t206_14 : decode (mb 206) 14 = .ok (.aload_n 0, 1) := by decide +kernel
theorem s206_14 (d : Nat) (a0 : Nat) (l1 : Value) (l2 : Value) (l3 : Value) (l4 : Value) (l5 : Value) (l6 : Value) (σ : Hs) : ru d 206 14 [.ref a0, l1, l2, l3, l4, l5, l6] [] σ = ru d 206 15 [.ref a0, l1, l2, l3, l4, l5, l6] [.ref a0] σ := q_aload_n t206_14 rfl
theorem t206_15 : decode (mb 206) 15 = .ok (.ldc 104, 2) := by decide +kernel
theorem s206_15 (d : Nat) (l0 : Value) (l1 : Value) (l2 : Value) (l3 : Value) (l4 : Value) (l5 : Value) (l6 : Value) (w0 : Value) (σ : Hs) : ru d 206 15 [l0, l1, l2, l3, l4, l5, l6] [w0] σ = ru d 206 17 [l0, l1, l2, l3, l4, l5, l6] [.int (-1000001), w0] σ := q_ldc t206_15 mo206 C8_104
theorem t206_17 : decode (mb 206) 17 = .ok (.invokevirtual 105, 3) := by decide +kernel
theorem s206_17_o87 (d : Nat) (l0 : Value) (l1 : Value) (l2 : Value) (l3 : Value) (l4 : Value) (l5 : Value) (l6 : Value) (v1 : Value) (σ : Hs) : ru d 206 17 [l0, l1, l2, l3, l4, l5, l6] [v1, .ref 87] σ = kont (callD d 111 [.ref 87, v1] σ) d 206 20 [l0, l1, l2, l3, l4, l5, l6] [] := q_invv t206_17 mo206 K8_105 mj111 rfl rfl rfl rfl (Nat.le_of_ble_eq_true rfl)
theorem t206_20 : decode (mb 206) 20 = .ok (.ireturn, 1) := by decide +kernel
theorem s206_20 (d : Nat) (l0 : Value) (l1 : Value) (l2 : Value) (l3 : Value) (l4 : Value) (l5 : Value) (l6 : Value) (x : Int32) (σ : Hs) : ru d 206 20 [l0, l1, l2, l3, l4, l5, l6] [.int x] σ = some (some (.int x), σ) := q_ireti t206_20 mr206
theorem t206_21 : decode (mb 206) 21 = .ok (.aload_n 0, 1) := by decide +kernel
theorem s206_21 (d : Nat) (a0 : Nat) (l1 : Value) (l2 : Value) (l3 : Value) (l4 : Value) (l5 : Value) (l6 : Value) (σ : Hs) : ru d 206 21 [.ref a0, l1, l2, l3, l4, l5, l6] [] σ = ru d 206 22 [.ref a0, l1, l2, l3, l4, l5, l6] [.ref a0] σ := q_aload_n t206_21 rfl
theorem t206_22 : decode (mb 206) 22 = .ok (.getfield 55, 3) := by decide +kernel
theorem s206_22_o87 (d : Nat) (l0 : Value) (l1 : Value) (l2 : Value) (l3 : Value) (l4 : Value) (l5 : Value) (l6 : Value) (σ : Hs) : ru d 206 22 [l0, l1, l2, l3, l4, l5, l6] [.ref 87] σ = ru d 206 25 [l0, l1, l2, l3, l4, l5, l6] [.ref 100] σ := q_getf t206_22 mo206 F8_55 rfl rfl
theorem t206_25 : decode (mb 206) 25 = .ok (.iload_n 1, 1) := by decide +kernel
theorem s206_25 (d : Nat) (l0 : Value) (i1 : Int32) (l2 : Value) (l3 : Value) (l4 : Value) (l5 : Value) (l6 : Value) (w0 : Value) (σ : Hs) : ru d 206 25 [l0, .int i1, l2, l3, l4, l5, l6] [w0] σ = ru d 206 26 [l0, .int i1, l2, l3, l4, l5, l6] [.int i1, w0] σ := q_iload_n t206_25 rfl
theorem t206_26 : decode (mb 206) 26 = .ok (.iaload, 1) := by decide +kernel
theorem s206_26_o100 (d : Nat) (l0 : Value) (l1 : Value) (l2 : Value) (l3 : Value) (l4 : Value) (l5 : Value) (l6 : Value) (i : Int32) (σ : Hs) : ru d 206 26 [l0, l1, l2, l3, l4, l5, l6] [.int i, .ref 100] σ = gd (vp_in i 4) (ru d 206 27 [l0, l1, l2, l3, l4, l5, l6] [.int (σ 100 i.toNatClampNeg)] σ) := q_iald t206_26 rfl (by decide +kernel) rfl
theorem t206_27 : decode (mb 206) 27 = .ok (.ifCond .eq 12, 3) := by decide +kernel
theorem s206_27 (d : Nat) (l0 : Value) (l1 : Value) (l2 : Value) (l3 : Value) (l4 : Value) (l5 : Value) (l6 : Value) (x : Int32) (σ : Hs) : ru d 206 27 [l0, l1, l2, l3, l4, l5, l6] [.int x] σ = if x = 0 then ru d 206 39 [l0, l1, l2, l3, l4, l5, l6] [] σ else ru d 206 30 [l0, l1, l2, l3, l4, l5, l6] [] σ := q_if_eq t206_27 (by decide +kernel)
theorem t206_30 : decode (mb 206) 30 = .ok (.aload_n 0, 1) := by decide +kernel
theorem s206_30 (d : Nat) (a0 : Nat) (l1 : Value) (l2 : Value) (l3 : Value) (l4 : Value) (l5 : Value) (l6 : Value) (σ : Hs) : ru d 206 30 [.ref a0, l1, l2, l3, l4, l5, l6] [] σ = ru d 206 31 [.ref a0, l1, l2, l3, l4, l5, l6] [.ref a0] σ := q_aload_n t206_30 rfl
theorem t206_31 : decode (mb 206) 31 = .ok (.getfield 55, 3) := by decide +kernel
theorem s206_31_o87 (d : Nat) (l0 : Value) (l1 : Value) (l2 : Value) (l3 : Value) (l4 : Value) (l5 : Value) (l6 : Value) (σ : Hs) : ru d 206 31 [l0, l1, l2, l3, l4, l5, l6] [.ref 87] σ = ru d 206 34 [l0, l1, l2, l3, l4, l5, l6] [.ref 100] σ := q_getf t206_31 mo206 F8_55 rfl rfl
theorem t206_34 : decode (mb 206) 34 = .ok (.iload_n 3, 1) := by decide +kernel
theorem s206_34 (d : Nat) (l0 : Value) (l1 : Value) (l2 : Value) (i3 : Int32) (l4 : Value) (l5 : Value) (l6 : Value) (w0 : Value) (σ : Hs) : ru d 206 34 [l0, l1, l2, .int i3, l4, l5, l6] [w0] σ = ru d 206 35 [l0, l1, l2, .int i3, l4, l5, l6] [.int i3, w0] σ := q_iload_n t206_34 rfl
theorem t206_35 : decode (mb 206) 35 = .ok (.iaload, 1) := by decide +kernel
theorem s206_35_o100 (d : Nat) (l0 : Value) (l1 : Value) (l2 : Value) (l3 : Value) (l4 : Value) (l5 : Value) (l6 : Value) (i : Int32) (σ : Hs) : ru d 206 35 [l0, l1, l2, l3, l4, l5, l6] [.int i, .ref 100] σ = gd (vp_in i 4) (ru d 206 36 [l0, l1, l2, l3, l4, l5, l6] [.int (σ 100 i.toNatClampNeg)] σ) := q_iald t206_35 rfl (by decide +kernel) rfl
theorem t206_36 : decode (mb 206) 36 = .ok (.ifCond .ne 10, 3) := by decide +kernel
theorem s206_36 (d : Nat) (l0 : Value) (l1 : Value) (l2 : Value) (l3 : Value) (l4 : Value) (l5 : Value) (l6 : Value) (x : Int32) (σ : Hs) : ru d 206 36 [l0, l1, l2, l3, l4, l5, l6] [.int x] σ = if x = 0 then ru d 206 39 [l0, l1, l2, l3, l4, l5, l6] [] σ else ru d 206 46 [l0, l1, l2, l3, l4, l5, l6] [] σ := q_if_ne t206_36 (by decide +kernel)
theorem t206_39 : decode (mb 206) 39 = .ok (.aload_n 0, 1) := by decide +kernel
theorem s206_39 (d : Nat) (a0 : Nat) (l1 : Value) (l2 : Value) (l3 : Value) (l4 : Value) (l5 : Value) (l6 : Value) (σ : Hs) : ru d 206 39 [.ref a0, l1, l2, l3, l4, l5, l6] [] σ = ru d 206 40 [.ref a0, l1, l2, l3, l4, l5, l6] [.ref a0] σ := q_aload_n t206_39 rfl
theorem t206_40 : decode (mb 206) 40 = .ok (.ldc 116, 2) := by decide +kernel
theorem s206_40 (d : Nat) (l0 : Value) (l1 : Value) (l2 : Value) (l3 : Value) (l4 : Value) (l5 : Value) (l6 : Value) (w0 : Value) (σ : Hs) : ru d 206 40 [l0, l1, l2, l3, l4, l5, l6] [w0] σ = ru d 206 42 [l0, l1, l2, l3, l4, l5, l6] [.int (-1000002), w0] σ := q_ldc t206_40 mo206 C8_116
theorem t206_42 : decode (mb 206) 42 = .ok (.invokevirtual 105, 3) := by decide +kernel
theorem s206_42_o87 (d : Nat) (l0 : Value) (l1 : Value) (l2 : Value) (l3 : Value) (l4 : Value) (l5 : Value) (l6 : Value) (v1 : Value) (σ : Hs) : ru d 206 42 [l0, l1, l2, l3, l4, l5, l6] [v1, .ref 87] σ = kont (callD d 111 [.ref 87, v1] σ) d 206 45 [l0, l1, l2, l3, l4, l5, l6] [] := q_invv t206_42 mo206 K8_105 mj111 rfl rfl rfl rfl (Nat.le_of_ble_eq_true rfl)
theorem t206_45 : decode (mb 206) 45 = .ok (.ireturn, 1) := by decide +kernel
theorem s206_45 (d : Nat) (l0 : Value) (l1 : Value) (l2 : Value) (l3 : Value) (l4 : Value) (l5 : Value) (l6 : Value) (x : Int32) (σ : Hs) : ru d 206 45 [l0, l1, l2, l3, l4, l5, l6] [.int x] σ = some (some (.int x), σ) := q_ireti t206_45 mr206
theorem t206_46 : decode (mb 206) 46 = .ok (.aload_n 0, 1) := by decide +kernel
theorem s206_46 (d : Nat) (a0 : Nat) (l1 : Value) (l2 : Value) (l3 : Value) (l4 : Value) (l5 : Value) (l6 : Value) (σ : Hs) : ru d 206 46 [.ref a0, l1, l2, l3, l4, l5, l6] [] σ = ru d 206 47 [.ref a0, l1, l2, l3, l4, l5, l6] [.ref a0] σ := q_aload_n t206_46 rfl
theorem t206_47 : decode (mb 206) 47 = .ok (.getfield 55, 3) := by decide +kernel
theorem s206_47_o87 (d : Nat) (l0 : Value) (l1 : Value) (l2 : Value) (l3 : Value) (l4 : Value) (l5 : Value) (l6 : Value) (σ : Hs) : ru d 206 47 [l0, l1, l2, l3, l4, l5, l6] [.ref 87] σ = ru d 206 50 [l0, l1, l2, l3, l4, l5, l6] [.ref 100] σ := q_getf t206_47 mo206 F8_55 rfl rfl
theorem t206_50 : decode (mb 206) 50 = .ok (.iload_n 1, 1) := by decide +kernel
theorem s206_50 (d : Nat) (l0 : Value) (i1 : Int32) (l2 : Value) (l3 : Value) (l4 : Value) (l5 : Value) (l6 : Value) (w0 : Value) (σ : Hs) : ru d 206 50 [l0, .int i1, l2, l3, l4, l5, l6] [w0] σ = ru d 206 51 [l0, .int i1, l2, l3, l4, l5, l6] [.int i1, w0] σ := q_iload_n t206_50 rfl
theorem t206_51 : decode (mb 206) 51 = .ok (.iaload, 1) := by decide +kernel
theorem s206_51_o100 (d : Nat) (l0 : Value) (l1 : Value) (l2 : Value) (l3 : Value) (l4 : Value) (l5 : Value) (l6 : Value) (i : Int32) (σ : Hs) : ru d 206 51 [l0, l1, l2, l3, l4, l5, l6] [.int i, .ref 100] σ = gd (vp_in i 4) (ru d 206 52 [l0, l1, l2, l3, l4, l5, l6] [.int (σ 100 i.toNatClampNeg)] σ) := q_iald t206_51 rfl (by decide +kernel) rfl
theorem t206_52 : decode (mb 206) 52 = .ok (.aload_n 0, 1) := by decide +kernel
theorem s206_52 (d : Nat) (a0 : Nat) (l1 : Value) (l2 : Value) (l3 : Value) (l4 : Value) (l5 : Value) (l6 : Value) (w0 : Value) (σ : Hs) : ru d 206 52 [.ref a0, l1, l2, l3, l4, l5, l6] [w0] σ = ru d 206 53 [.ref a0, l1, l2, l3, l4, l5, l6] [.ref a0, w0] σ := q_aload_n t206_52 rfl
theorem t206_53 : decode (mb 206) 53 = .ok (.getfield 55, 3) := by decide +kernel
theorem s206_53_o87 (d : Nat) (l0 : Value) (l1 : Value) (l2 : Value) (l3 : Value) (l4 : Value) (l5 : Value) (l6 : Value) (w0 : Value) (σ : Hs) : ru d 206 53 [l0, l1, l2, l3, l4, l5, l6] [.ref 87, w0] σ = ru d 206 56 [l0, l1, l2, l3, l4, l5, l6] [.ref 100, w0] σ := q_getf t206_53 mo206 F8_55 rfl rfl
theorem t206_56 : decode (mb 206) 56 = .ok (.iload_n 3, 1) := by decide +kernel
theorem s206_56 (d : Nat) (l0 : Value) (l1 : Value) (l2 : Value) (i3 : Int32) (l4 : Value) (l5 : Value) (l6 : Value) (w0 w1 : Value) (σ : Hs) : ru d 206 56 [l0, l1, l2, .int i3, l4, l5, l6] [w0, w1] σ = ru d 206 57 [l0, l1, l2, .int i3, l4, l5, l6] [.int i3, w0, w1] σ := q_iload_n t206_56 rfl
theorem t206_57 : decode (mb 206) 57 = .ok (.iaload, 1) := by decide +kernel
theorem s206_57_o100 (d : Nat) (l0 : Value) (l1 : Value) (l2 : Value) (l3 : Value) (l4 : Value) (l5 : Value) (l6 : Value) (i : Int32) (w0 : Value) (σ : Hs) : ru d 206 57 [l0, l1, l2, l3, l4, l5, l6] [.int i, .ref 100, w0] σ = gd (vp_in i 4) (ru d 206 58 [l0, l1, l2, l3, l4, l5, l6] [.int (σ 100 i.toNatClampNeg), w0] σ) := q_iald t206_57 rfl (by decide +kernel) rfl
theorem t206_58 : decode (mb 206) 58 = .ok (.if_icmp .eq 10, 3) := by decide +kernel
theorem s206_58 (d : Nat) (l0 : Value) (l1 : Value) (l2 : Value) (l3 : Value) (l4 : Value) (l5 : Value) (l6 : Value) (x y : Int32) (σ : Hs) : ru d 206 58 [l0, l1, l2, l3, l4, l5, l6] [.int y, .int x] σ = if x = y then ru d 206 68 [l0, l1, l2, l3, l4, l5, l6] [] σ else ru d 206 61 [l0, l1, l2, l3, l4, l5, l6] [] σ := q_ic_eq t206_58 (by decide +kernel)
theorem t206_61 : decode (mb 206) 61 = .ok (.aload_n 0, 1) := by decide +kernel
theorem s206_61 (d : Nat) (a0 : Nat) (l1 : Value) (l2 : Value) (l3 : Value) (l4 : Value) (l5 : Value) (l6 : Value) (σ : Hs) : ru d 206 61 [.ref a0, l1, l2, l3, l4, l5, l6] [] σ = ru d 206 62 [.ref a0, l1, l2, l3, l4, l5, l6] [.ref a0] σ := q_aload_n t206_61 rfl
theorem t206_62 : decode (mb 206) 62 = .ok (.ldc 134, 2) := by decide +kernel
theorem s206_62 (d : Nat) (l0 : Value) (l1 : Value) (l2 : Value) (l3 : Value) (l4 : Value) (l5 : Value) (l6 : Value) (w0 : Value) (σ : Hs) : ru d 206 62 [l0, l1, l2, l3, l4, l5, l6] [w0] σ = ru d 206 64 [l0, l1, l2, l3, l4, l5, l6] [.int (-1000005), w0] σ := q_ldc t206_62 mo206 C8_134
theorem t206_64 : decode (mb 206) 64 = .ok (.invokevirtual 105, 3) := by decide +kernel
theorem s206_64_o87 (d : Nat) (l0 : Value) (l1 : Value) (l2 : Value) (l3 : Value) (l4 : Value) (l5 : Value) (l6 : Value) (v1 : Value) (σ : Hs) : ru d 206 64 [l0, l1, l2, l3, l4, l5, l6] [v1, .ref 87] σ = kont (callD d 111 [.ref 87, v1] σ) d 206 67 [l0, l1, l2, l3, l4, l5, l6] [] := q_invv t206_64 mo206 K8_105 mj111 rfl rfl rfl rfl (Nat.le_of_ble_eq_true rfl)
theorem t206_67 : decode (mb 206) 67 = .ok (.ireturn, 1) := by decide +kernel
theorem s206_67 (d : Nat) (l0 : Value) (l1 : Value) (l2 : Value) (l3 : Value) (l4 : Value) (l5 : Value) (l6 : Value) (x : Int32) (σ : Hs) : ru d 206 67 [l0, l1, l2, l3, l4, l5, l6] [.int x] σ = some (some (.int x), σ) := q_ireti t206_67 mr206
theorem t206_68 : decode (mb 206) 68 = .ok (.iload 5, 2) := by decide +kernel
theorem s206_68 (d : Nat) (l0 : Value) (l1 : Value) (l2 : Value) (l3 : Value) (l4 : Value) (i5 : Int32) (l6 : Value) (σ : Hs) : ru d 206 68 [l0, l1, l2, l3, l4, .int i5, l6] [] σ = ru d 206 70 [l0, l1, l2, l3, l4, .int i5, l6] [.int i5] σ := q_iload t206_68 rfl
theorem t206_70 : decode (mb 206) 70 = .ok (.ifCond .lt 47, 3) := by decide +kernel
theorem s206_70 (d : Nat) (l0 : Value) (l1 : Value) (l2 : Value) (l3 : Value) (l4 : Value) (l5 : Value) (l6 : Value) (x : Int32) (σ : Hs) : ru d 206 70 [l0, l1, l2, l3, l4, l5, l6] [.int x] σ = if x < 0 then ru d 206 117 [l0, l1, l2, l3, l4, l5, l6] [] σ else ru d 206 73 [l0, l1, l2, l3, l4, l5, l6] [] σ := q_if_lt t206_70 (by decide +kernel)
theorem t206_73 : decode (mb 206) 73 = .ok (.iload_n 2, 1) := by decide +kernel
theorem s206_73 (d : Nat) (l0 : Value) (l1 : Value) (i2 : Int32) (l3 : Value) (l4 : Value) (l5 : Value) (l6 : Value) (σ : Hs) : ru d 206 73 [l0, l1, .int i2, l3, l4, l5, l6] [] σ = ru d 206 74 [l0, l1, .int i2, l3, l4, l5, l6] [.int i2] σ := q_iload_n t206_73 rfl
theorem t206_74 : decode (mb 206) 74 = .ok (.ifCond .lt 43, 3) := by decide +kernel
theorem s206_74 (d : Nat) (l0 : Value) (l1 : Value) (l2 : Value) (l3 : Value) (l4 : Value) (l5 : Value) (l6 : Value) (x : Int32) (σ : Hs) : ru d 206 74 [l0, l1, l2, l3, l4, l5, l6] [.int x] σ = if x < 0 then ru d 206 117 [l0, l1, l2, l3, l4, l5, l6] [] σ else ru d 206 77 [l0, l1, l2, l3, l4, l5, l6] [] σ := q_if_lt t206_74 (by decide +kernel)
theorem t206_77 : decode (mb 206) 77 = .ok (.iload 4, 2) := by decide +kernel
theorem s206_77 (d : Nat) (l0 : Value) (l1 : Value) (l2 : Value) (l3 : Value) (i4 : Int32) (l5 : Value) (l6 : Value) (σ : Hs) : ru d 206 77 [l0, l1, l2, l3, .int i4, l5, l6] [] σ = ru d 206 79 [l0, l1, l2, l3, .int i4, l5, l6] [.int i4] σ := q_iload t206_77 rfl
theorem t206_79 : decode (mb 206) 79 = .ok (.ifCond .lt 38, 3) := by decide +kernel
theorem s206_79 (d : Nat) (l0 : Value) (l1 : Value) (l2 : Value) (l3 : Value) (l4 : Value) (l5 : Value) (l6 : Value) (x : Int32) (σ : Hs) : ru d 206 79 [l0, l1, l2, l3, l4, l5, l6] [.int x] σ = if x < 0 then ru d 206 117 [l0, l1, l2, l3, l4, l5, l6] [] σ else ru d 206 82 [l0, l1, l2, l3, l4, l5, l6] [] σ := q_if_lt t206_79 (by decide +kernel)
theorem t206_82 : decode (mb 206) 82 = .ok (.iload_n 2, 1) := by decide +kernel
theorem s206_82 (d : Nat) (l0 : Value) (l1 : Value) (i2 : Int32) (l3 : Value) (l4 : Value) (l5 : Value) (l6 : Value) (σ : Hs) : ru d 206 82 [l0, l1, .int i2, l3, l4, l5, l6] [] σ = ru d 206 83 [l0, l1, .int i2, l3, l4, l5, l6] [.int i2] σ := q_iload_n t206_82 rfl
theorem t206_83 : decode (mb 206) 83 = .ok (.i2l, 1) := by decide +kernel
theorem s206_83 (d : Nat) (l0 : Value) (l1 : Value) (l2 : Value) (l3 : Value) (l4 : Value) (l5 : Value) (l6 : Value) (x : Int32) (σ : Hs) : ru d 206 83 [l0, l1, l2, l3, l4, l5, l6] [.int x] σ = ru d 206 84 [l0, l1, l2, l3, l4, l5, l6] [.long x.toInt64] σ := q_i2l t206_83
theorem t206_84 : decode (mb 206) 84 = .ok (.iload 5, 2) := by decide +kernel
theorem s206_84 (d : Nat) (l0 : Value) (l1 : Value) (l2 : Value) (l3 : Value) (l4 : Value) (i5 : Int32) (l6 : Value) (w0 : Value) (σ : Hs) : ru d 206 84 [l0, l1, l2, l3, l4, .int i5, l6] [w0] σ = ru d 206 86 [l0, l1, l2, l3, l4, .int i5, l6] [.int i5, w0] σ := q_iload t206_84 rfl
theorem t206_86 : decode (mb 206) 86 = .ok (.i2l, 1) := by decide +kernel
theorem s206_86 (d : Nat) (l0 : Value) (l1 : Value) (l2 : Value) (l3 : Value) (l4 : Value) (l5 : Value) (l6 : Value) (x : Int32) (w0 : Value) (σ : Hs) : ru d 206 86 [l0, l1, l2, l3, l4, l5, l6] [.int x, w0] σ = ru d 206 87 [l0, l1, l2, l3, l4, l5, l6] [.long x.toInt64, w0] σ := q_i2l t206_86
theorem t206_87 : decode (mb 206) 87 = .ok (.ladd, 1) := by decide +kernel
theorem s206_87 (d : Nat) (l0 : Value) (l1 : Value) (l2 : Value) (l3 : Value) (l4 : Value) (l5 : Value) (l6 : Value) (x y : Int64) (σ : Hs) : ru d 206 87 [l0, l1, l2, l3, l4, l5, l6] [.long y, .long x] σ = ru d 206 88 [l0, l1, l2, l3, l4, l5, l6] [.long (x + y)] σ := q_ladd t206_87
theorem t206_88 : decode (mb 206) 88 = .ok (.aload_n 0, 1) := by decide +kernel
theorem s206_88 (d : Nat) (a0 : Nat) (l1 : Value) (l2 : Value) (l3 : Value) (l4 : Value) (l5 : Value) (l6 : Value) (w0 : Value) (σ : Hs) : ru d 206 88 [.ref a0, l1, l2, l3, l4, l5, l6] [w0] σ = ru d 206 89 [.ref a0, l1, l2, l3, l4, l5, l6] [.ref a0, w0] σ := q_aload_n t206_88 rfl
theorem t206_89 : decode (mb 206) 89 = .ok (.getfield 58, 3) := by decide +kernel
theorem s206_89_o87 (d : Nat) (l0 : Value) (l1 : Value) (l2 : Value) (l3 : Value) (l4 : Value) (l5 : Value) (l6 : Value) (w0 : Value) (σ : Hs) : ru d 206 89 [l0, l1, l2, l3, l4, l5, l6] [.ref 87, w0] σ = ru d 206 92 [l0, l1, l2, l3, l4, l5, l6] [.ref 101, w0] σ := q_getf t206_89 mo206 F8_58 rfl rfl
theorem t206_92 : decode (mb 206) 92 = .ok (.iload_n 1, 1) := by decide +kernel
theorem s206_92 (d : Nat) (l0 : Value) (i1 : Int32) (l2 : Value) (l3 : Value) (l4 : Value) (l5 : Value) (l6 : Value) (w0 w1 : Value) (σ : Hs) : ru d 206 92 [l0, .int i1, l2, l3, l4, l5, l6] [w0, w1] σ = ru d 206 93 [l0, .int i1, l2, l3, l4, l5, l6] [.int i1, w0, w1] σ := q_iload_n t206_92 rfl
theorem t206_93 : decode (mb 206) 93 = .ok (.iaload, 1) := by decide +kernel
theorem s206_93_o101 (d : Nat) (l0 : Value) (l1 : Value) (l2 : Value) (l3 : Value) (l4 : Value) (l5 : Value) (l6 : Value) (i : Int32) (w0 : Value) (σ : Hs) : ru d 206 93 [l0, l1, l2, l3, l4, l5, l6] [.int i, .ref 101, w0] σ = gd (vp_in i 4) (ru d 206 94 [l0, l1, l2, l3, l4, l5, l6] [.int (σ 101 i.toNatClampNeg), w0] σ) := q_iald t206_93 rfl (by decide +kernel) rfl
theorem t206_94 : decode (mb 206) 94 = .ok (.i2l, 1) := by decide +kernel
theorem s206_94 (d : Nat) (l0 : Value) (l1 : Value) (l2 : Value) (l3 : Value) (l4 : Value) (l5 : Value) (l6 : Value) (x : Int32) (w0 : Value) (σ : Hs) : ru d 206 94 [l0, l1, l2, l3, l4, l5, l6] [.int x, w0] σ = ru d 206 95 [l0, l1, l2, l3, l4, l5, l6] [.long x.toInt64, w0] σ := q_i2l t206_94
theorem t206_95 : decode (mb 206) 95 = .ok (.lcmp, 1) := by decide +kernel
theorem s206_95 (d : Nat) (l0 : Value) (l1 : Value) (l2 : Value) (l3 : Value) (l4 : Value) (l5 : Value) (l6 : Value) (x y : Int64) (σ : Hs) : ru d 206 95 [l0, l1, l2, l3, l4, l5, l6] [.long y, .long x] σ = ru d 206 96 [l0, l1, l2, l3, l4, l5, l6] [.int (lg_cmp x y)] σ := q_lcmp t206_95
theorem t206_96 : decode (mb 206) 96 = .ok (.ifCond .gt 21, 3) := by decide +kernel
theorem s206_96 (d : Nat) (l0 : Value) (l1 : Value) (l2 : Value) (l3 : Value) (l4 : Value) (l5 : Value) (l6 : Value) (x : Int32) (σ : Hs) : ru d 206 96 [l0, l1, l2, l3, l4, l5, l6] [.int x] σ = if 0 < x then ru d 206 117 [l0, l1, l2, l3, l4, l5, l6] [] σ else ru d 206 99 [l0, l1, l2, l3, l4, l5, l6] [] σ := q_if_gt t206_96 (by decide +kernel)
theorem t206_99 : decode (mb 206) 99 = .ok (.iload 4, 2) := by decide +kernel
theorem s206_99 (d : Nat) (l0 : Value) (l1 : Value) (l2 : Value) (l3 : Value) (i4 : Int32) (l5 : Value) (l6 : Value) (σ : Hs) : ru d 206 99 [l0, l1, l2, l3, .int i4, l5, l6] [] σ = ru d 206 101 [l0, l1, l2, l3, .int i4, l5, l6] [.int i4] σ := q_iload t206_99 rfl
theorem t206_101 : decode (mb 206) 101 = .ok (.i2l, 1) := by decide +kernel
theorem s206_101 (d : Nat) (l0 : Value) (l1 : Value) (l2 : Value) (l3 : Value) (l4 : Value) (l5 : Value) (l6 : Value) (x : Int32) (σ : Hs) : ru d 206 101 [l0, l1, l2, l3, l4, l5, l6] [.int x] σ = ru d 206 102 [l0, l1, l2, l3, l4, l5, l6] [.long x.toInt64] σ := q_i2l t206_101
theorem t206_102 : decode (mb 206) 102 = .ok (.iload 5, 2) := by decide +kernel
theorem s206_102 (d : Nat) (l0 : Value) (l1 : Value) (l2 : Value) (l3 : Value) (l4 : Value) (i5 : Int32) (l6 : Value) (w0 : Value) (σ : Hs) : ru d 206 102 [l0, l1, l2, l3, l4, .int i5, l6] [w0] σ = ru d 206 104 [l0, l1, l2, l3, l4, .int i5, l6] [.int i5, w0] σ := q_iload t206_102 rfl
theorem t206_104 : decode (mb 206) 104 = .ok (.i2l, 1) := by decide +kernel
theorem s206_104 (d : Nat) (l0 : Value) (l1 : Value) (l2 : Value) (l3 : Value) (l4 : Value) (l5 : Value) (l6 : Value) (x : Int32) (w0 : Value) (σ : Hs) : ru d 206 104 [l0, l1, l2, l3, l4, l5, l6] [.int x, w0] σ = ru d 206 105 [l0, l1, l2, l3, l4, l5, l6] [.long x.toInt64, w0] σ := q_i2l t206_104
theorem t206_105 : decode (mb 206) 105 = .ok (.ladd, 1) := by decide +kernel
theorem s206_105 (d : Nat) (l0 : Value) (l1 : Value) (l2 : Value) (l3 : Value) (l4 : Value) (l5 : Value) (l6 : Value) (x y : Int64) (σ : Hs) : ru d 206 105 [l0, l1, l2, l3, l4, l5, l6] [.long y, .long x] σ = ru d 206 106 [l0, l1, l2, l3, l4, l5, l6] [.long (x + y)] σ := q_ladd t206_105
theorem t206_106 : decode (mb 206) 106 = .ok (.aload_n 0, 1) := by decide +kernel
theorem s206_106 (d : Nat) (a0 : Nat) (l1 : Value) (l2 : Value) (l3 : Value) (l4 : Value) (l5 : Value) (l6 : Value) (w0 : Value) (σ : Hs) : ru d 206 106 [.ref a0, l1, l2, l3, l4, l5, l6] [w0] σ = ru d 206 107 [.ref a0, l1, l2, l3, l4, l5, l6] [.ref a0, w0] σ := q_aload_n t206_106 rfl
theorem t206_107 : decode (mb 206) 107 = .ok (.getfield 58, 3) := by decide +kernel
theorem s206_107_o87 (d : Nat) (l0 : Value) (l1 : Value) (l2 : Value) (l3 : Value) (l4 : Value) (l5 : Value) (l6 : Value) (w0 : Value) (σ : Hs) : ru d 206 107 [l0, l1, l2, l3, l4, l5, l6] [.ref 87, w0] σ = ru d 206 110 [l0, l1, l2, l3, l4, l5, l6] [.ref 101, w0] σ := q_getf t206_107 mo206 F8_58 rfl rfl
theorem t206_110 : decode (mb 206) 110 = .ok (.iload_n 3, 1) := by decide +kernel
theorem s206_110 (d : Nat) (l0 : Value) (l1 : Value) (l2 : Value) (i3 : Int32) (l4 : Value) (l5 : Value) (l6 : Value) (w0 w1 : Value) (σ : Hs) : ru d 206 110 [l0, l1, l2, .int i3, l4, l5, l6] [w0, w1] σ = ru d 206 111 [l0, l1, l2, .int i3, l4, l5, l6] [.int i3, w0, w1] σ := q_iload_n t206_110 rfl
theorem t206_111 : decode (mb 206) 111 = .ok (.iaload, 1) := by decide +kernel
theorem s206_111_o101 (d : Nat) (l0 : Value) (l1 : Value) (l2 : Value) (l3 : Value) (l4 : Value) (l5 : Value) (l6 : Value) (i : Int32) (w0 : Value) (σ : Hs) : ru d 206 111 [l0, l1, l2, l3, l4, l5, l6] [.int i, .ref 101, w0] σ = gd (vp_in i 4) (ru d 206 112 [l0, l1, l2, l3, l4, l5, l6] [.int (σ 101 i.toNatClampNeg), w0] σ) := q_iald t206_111 rfl (by decide +kernel) rfl
theorem t206_112 : decode (mb 206) 112 = .ok (.i2l, 1) := by decide +kernel
theorem s206_112 (d : Nat) (l0 : Value) (l1 : Value) (l2 : Value) (l3 : Value) (l4 : Value) (l5 : Value) (l6 : Value) (x : Int32) (w0 : Value) (σ : Hs) : ru d 206 112 [l0, l1, l2, l3, l4, l5, l6] [.int x, w0] σ = ru d 206 113 [l0, l1, l2, l3, l4, l5, l6] [.long x.toInt64, w0] σ := q_i2l t206_112
theorem t206_113 : decode (mb 206) 113 = .ok (.lcmp, 1) := by decide +kernel
theorem s206_113 (d : Nat) (l0 : Value) (l1 : Value) (l2 : Value) (l3 : Value) (l4 : Value) (l5 : Value) (l6 : Value) (x y : Int64) (σ : Hs) : ru d 206 113 [l0, l1, l2, l3, l4, l5, l6] [.long y, .long x] σ = ru d 206 114 [l0, l1, l2, l3, l4, l5, l6] [.int (lg_cmp x y)] σ := q_lcmp t206_113
theorem t206_114 : decode (mb 206) 114 = .ok (.ifCond .le 10, 3) := by decide +kernel
theorem s206_114 (d : Nat) (l0 : Value) (l1 : Value) (l2 : Value) (l3 : Value) (l4 : Value) (l5 : Value) (l6 : Value) (x : Int32) (σ : Hs) : ru d 206 114 [l0, l1, l2, l3, l4, l5, l6] [.int x] σ = if x ≤ 0 then ru d 206 124 [l0, l1, l2, l3, l4, l5, l6] [] σ else ru d 206 117 [l0, l1, l2, l3, l4, l5, l6] [] σ := q_if_le t206_114 (by decide +kernel)
theorem t206_117 : decode (mb 206) 117 = .ok (.aload_n 0, 1) := by decide +kernel
theorem s206_117 (d : Nat) (a0 : Nat) (l1 : Value) (l2 : Value) (l3 : Value) (l4 : Value) (l5 : Value) (l6 : Value) (σ : Hs) : ru d 206 117 [.ref a0, l1, l2, l3, l4, l5, l6] [] σ = ru d 206 118 [.ref a0, l1, l2, l3, l4, l5, l6] [.ref a0] σ := q_aload_n t206_117 rfl
theorem t206_118 : decode (mb 206) 118 = .ok (.ldc 104, 2) := by decide +kernel
theorem s206_118 (d : Nat) (l0 : Value) (l1 : Value) (l2 : Value) (l3 : Value) (l4 : Value) (l5 : Value) (l6 : Value) (w0 : Value) (σ : Hs) : ru d 206 118 [l0, l1, l2, l3, l4, l5, l6] [w0] σ = ru d 206 120 [l0, l1, l2, l3, l4, l5, l6] [.int (-1000001), w0] σ := q_ldc t206_118 mo206 C8_104
theorem t206_120 : decode (mb 206) 120 = .ok (.invokevirtual 105, 3) := by decide +kernel
theorem s206_120_o87 (d : Nat) (l0 : Value) (l1 : Value) (l2 : Value) (l3 : Value) (l4 : Value) (l5 : Value) (l6 : Value) (v1 : Value) (σ : Hs) : ru d 206 120 [l0, l1, l2, l3, l4, l5, l6] [v1, .ref 87] σ = kont (callD d 111 [.ref 87, v1] σ) d 206 123 [l0, l1, l2, l3, l4, l5, l6] [] := q_invv t206_120 mo206 K8_105 mj111 rfl rfl rfl rfl (Nat.le_of_ble_eq_true rfl)
theorem t206_123 : decode (mb 206) 123 = .ok (.ireturn, 1) := by decide +kernel
theorem s206_123 (d : Nat) (l0 : Value) (l1 : Value) (l2 : Value) (l3 : Value) (l4 : Value) (l5 : Value) (l6 : Value) (x : Int32) (σ : Hs) : ru d 206 123 [l0, l1, l2, l3, l4, l5, l6] [.int x] σ = some (some (.int x), σ) := q_ireti t206_123 mr206
theorem t206_124 : decode (mb 206) 124 = .ok (.iconst 0, 1) := by decide +kernel
theorem s206_124 (d : Nat) (l0 : Value) (l1 : Value) (l2 : Value) (l3 : Value) (l4 : Value) (l5 : Value) (l6 : Value) (σ : Hs) : ru d 206 124 [l0, l1, l2, l3, l4, l5, l6] [] σ = ru d 206 125 [l0, l1, l2, l3, l4, l5, l6] [.int 0] σ := q_iconst t206_124 (by decide +kernel)
theorem t206_125 : decode (mb 206) 125 = .ok (.istore 6, 2) := by decide +kernel
theorem s206_125 (d : Nat) (l0 : Value) (l1 : Value) (l2 : Value) (l3 : Value) (l4 : Value) (i5 : Int32) (l6 : Value) (x : Int32) (σ : Hs) : ru d 206 125 [l0, l1, l2, l3, l4, .int i5, l6] [.int x] σ = ru d 206 127 [l0, l1, l2, l3, l4, .int i5, .int x] [] σ := q_istore t206_125 ⟨Nat.le_of_ble_eq_true rfl, rfl⟩ rfl
theorem t206_127 : decode (mb 206) 127 = .ok (.iload 6, 2) := by decide +kernel
theorem s206_127 (d : Nat) (l0 : Value) (l1 : Value) (l2 : Value) (l3 : Value) (l4 : Value) (l5 : Value) (i6 : Int32) (σ : Hs) : ru d 206 127 [l0, l1, l2, l3, l4, l5, .int i6] [] σ = ru d 206 129 [l0, l1, l2, l3, l4, l5, .int i6] [.int i6] σ := q_iload t206_127 rfl
theorem t206_129 : decode (mb 206) 129 = .ok (.iload 5, 2) := by decide +kernel
theorem s206_129 (d : Nat) (l0 : Value) (l1 : Value) (l2 : Value) (l3 : Value) (l4 : Value) (i5 : Int32) (l6 : Value) (w0 : Value) (σ : Hs) : ru d 206 129 [l0, l1, l2, l3, l4, .int i5, l6] [w0] σ = ru d 206 131 [l0, l1, l2, l3, l4, .int i5, l6] [.int i5, w0] σ := q_iload t206_129 rfl
theorem t206_131 : decode (mb 206) 131 = .ok (.if_icmp .ge 30, 3) := by decide +kernel
theorem s206_131 (d : Nat) (l0 : Value) (l1 : Value) (l2 : Value) (l3 : Value) (l4 : Value) (l5 : Value) (l6 : Value) (x y : Int32) (σ : Hs) : ru d 206 131 [l0, l1, l2, l3, l4, l5, l6] [.int y, .int x] σ = if y ≤ x then ru d 206 161 [l0, l1, l2, l3, l4, l5, l6] [] σ else ru d 206 134 [l0, l1, l2, l3, l4, l5, l6] [] σ := q_ic_ge t206_131 (by decide +kernel)
theorem t206_134 : decode (mb 206) 134 = .ok (.aload_n 0, 1) := by decide +kernel
theorem s206_134 (d : Nat) (a0 : Nat) (l1 : Value) (l2 : Value) (l3 : Value) (l4 : Value) (l5 : Value) (l6 : Value) (σ : Hs) : ru d 206 134 [.ref a0, l1, l2, l3, l4, l5, l6] [] σ = ru d 206 135 [.ref a0, l1, l2, l3, l4, l5, l6] [.ref a0] σ := q_aload_n t206_134 rfl
theorem t206_135 : decode (mb 206) 135 = .ok (.getfield 64, 3) := by decide +kernel
theorem s206_135_o87 (d : Nat) (l0 : Value) (l1 : Value) (l2 : Value) (l3 : Value) (l4 : Value) (l5 : Value) (l6 : Value) (σ : Hs) : ru d 206 135 [l0, l1, l2, l3, l4, l5, l6] [.ref 87] σ = ru d 206 138 [l0, l1, l2, l3, l4, l5, l6] [.ref 103] σ := q_getf t206_135 mo206 F8_64 rfl rfl
theorem t206_138 : decode (mb 206) 138 = .ok (.iload 6, 2) := by decide +kernel
theorem s206_138 (d : Nat) (l0 : Value) (l1 : Value) (l2 : Value) (l3 : Value) (l4 : Value) (l5 : Value) (i6 : Int32) (w0 : Value) (σ : Hs) : ru d 206 138 [l0, l1, l2, l3, l4, l5, .int i6] [w0] σ = ru d 206 140 [l0, l1, l2, l3, l4, l5, .int i6] [.int i6, w0] σ := q_iload t206_138 rfl
theorem t206_140 : decode (mb 206) 140 = .ok (.aload_n 0, 1) := by decide +kernel
theorem s206_140 (d : Nat) (a0 : Nat) (l1 : Value) (l2 : Value) (l3 : Value) (l4 : Value) (l5 : Value) (l6 : Value) (w0 w1 : Value) (σ : Hs) : ru d 206 140 [.ref a0, l1, l2, l3, l4, l5, l6] [w0, w1] σ = ru d 206 141 [.ref a0, l1, l2, l3, l4, l5, l6] [.ref a0, w0, w1] σ := q_aload_n t206_140 rfl
theorem t206_141 : decode (mb 206) 141 = .ok (.getfield 61, 3) := by decide +kernel
theorem s206_141_o87 (d : Nat) (l0 : Value) (l1 : Value) (l2 : Value) (l3 : Value) (l4 : Value) (l5 : Value) (l6 : Value) (w0 w1 : Value) (σ : Hs) : ru d 206 141 [l0, l1, l2, l3, l4, l5, l6] [.ref 87, w0, w1] σ = ru d 206 144 [l0, l1, l2, l3, l4, l5, l6] [.ref 102, w0, w1] σ := q_getf t206_141 mo206 F8_61 rfl rfl
theorem t206_144 : decode (mb 206) 144 = .ok (.bipush 24, 2) := by decide +kernel
theorem s206_144 (d : Nat) (l0 : Value) (l1 : Value) (l2 : Value) (l3 : Value) (l4 : Value) (l5 : Value) (l6 : Value) (w0 w1 w2 : Value) (σ : Hs) : ru d 206 144 [l0, l1, l2, l3, l4, l5, l6] [w0, w1, w2] σ = ru d 206 146 [l0, l1, l2, l3, l4, l5, l6] [.int 24, w0, w1, w2] σ := q_bipush t206_144 (by decide +kernel)
theorem t206_146 : decode (mb 206) 146 = .ok (.iload_n 1, 1) := by decide +kernel
theorem s206_146 (d : Nat) (l0 : Value) (i1 : Int32) (l2 : Value) (l3 : Value) (l4 : Value) (l5 : Value) (l6 : Value) (w0 w1 w2 w3 : Value) (σ : Hs) : ru d 206 146 [l0, .int i1, l2, l3, l4, l5, l6] [w0, w1, w2, w3] σ = ru d 206 147 [l0, .int i1, l2, l3, l4, l5, l6] [.int i1, w0, w1, w2, w3] σ := q_iload_n t206_146 rfl
theorem t206_147 : decode (mb 206) 147 = .ok (.imul, 1) := by decide +kernel
theorem s206_147 (d : Nat) (l0 : Value) (l1 : Value) (l2 : Value) (l3 : Value) (l4 : Value) (l5 : Value) (l6 : Value) (x y : Int32) (w0 w1 w2 : Value) (σ : Hs) : ru d 206 147 [l0, l1, l2, l3, l4, l5, l6] [.int y, .int x, w0, w1, w2] σ = ru d 206 148 [l0, l1, l2, l3, l4, l5, l6] [.int (x * y), w0, w1, w2] σ := q_imul t206_147
theorem t206_148 : decode (mb 206) 148 = .ok (.iload_n 2, 1) := by decide +kernel
theorem s206_148 (d : Nat) (l0 : Value) (l1 : Value) (i2 : Int32) (l3 : Value) (l4 : Value) (l5 : Value) (l6 : Value) (w0 w1 w2 w3 : Value) (σ : Hs) : ru d 206 148 [l0, l1, .int i2, l3, l4, l5, l6] [w0, w1, w2, w3] σ = ru d 206 149 [l0, l1, .int i2, l3, l4, l5, l6] [.int i2, w0, w1, w2, w3] σ := q_iload_n t206_148 rfl
theorem t206_149 : decode (mb 206) 149 = .ok (.iadd, 1) := by decide +kernel
theorem s206_149 (d : Nat) (l0 : Value) (l1 : Value) (l2 : Value) (l3 : Value) (l4 : Value) (l5 : Value) (l6 : Value) (x y : Int32) (w0 w1 w2 : Value) (σ : Hs) : ru d 206 149 [l0, l1, l2, l3, l4, l5, l6] [.int y, .int x, w0, w1, w2] σ = ru d 206 150 [l0, l1, l2, l3, l4, l5, l6] [.int (x + y), w0, w1, w2] σ := q_iadd t206_149
theorem t206_150 : decode (mb 206) 150 = .ok (.iload 6, 2) := by decide +kernel
theorem s206_150 (d : Nat) (l0 : Value) (l1 : Value) (l2 : Value) (l3 : Value) (l4 : Value) (l5 : Value) (i6 : Int32) (w0 w1 w2 w3 : Value) (σ : Hs) : ru d 206 150 [l0, l1, l2, l3, l4, l5, .int i6] [w0, w1, w2, w3] σ = ru d 206 152 [l0, l1, l2, l3, l4, l5, .int i6] [.int i6, w0, w1, w2, w3] σ := q_iload t206_150 rfl
theorem t206_152 : decode (mb 206) 152 = .ok (.iadd, 1) := by decide +kernel
theorem s206_152 (d : Nat) (l0 : Value) (l1 : Value) (l2 : Value) (l3 : Value) (l4 : Value) (l5 : Value) (l6 : Value) (x y : Int32) (w0 w1 w2 : Value) (σ : Hs) : ru d 206 152 [l0, l1, l2, l3, l4, l5, l6] [.int y, .int x, w0, w1, w2] σ = ru d 206 153 [l0, l1, l2, l3, l4, l5, l6] [.int (x + y), w0, w1, w2] σ := q_iadd t206_152
theorem t206_153 : decode (mb 206) 153 = .ok (.iaload, 1) := by decide +kernel
theorem s206_153_o102 (d : Nat) (l0 : Value) (l1 : Value) (l2 : Value) (l3 : Value) (l4 : Value) (l5 : Value) (l6 : Value) (i : Int32) (w0 w1 : Value) (σ : Hs) : ru d 206 153 [l0, l1, l2, l3, l4, l5, l6] [.int i, .ref 102, w0, w1] σ = gd (vp_in i 96) (ru d 206 154 [l0, l1, l2, l3, l4, l5, l6] [.int (σ 102 i.toNatClampNeg), w0, w1] σ) := q_iald t206_153 rfl (by decide +kernel) rfl
theorem t206_154 : decode (mb 206) 154 = .ok (.iastore, 1) := by decide +kernel
theorem s206_154_o103 (d : Nat) (l0 : Value) (l1 : Value) (l2 : Value) (l3 : Value) (l4 : Value) (l5 : Value) (l6 : Value) (i x : Int32) (σ : Hs) : ru d 206 154 [l0, l1, l2, l3, l4, l5, l6] [.int x, .int i, .ref 103] σ = gd (vp_in i 24) (ru d 206 155 [l0, l1, l2, l3, l4, l5, l6] [] (up2 σ 103 i.toNatClampNeg x)) := q_iast t206_154 (by decide +kernel) rfl rfl
theorem t206_155 : decode (mb 206) 155 = .ok (.iinc 6 1, 3) := by decide +kernel
theorem s206_155 (d : Nat) (l0 : Value) (l1 : Value) (l2 : Value) (l3 : Value) (l4 : Value) (i5 : Int32) (i6 : Int32) (σ : Hs) : ru d 206 155 [l0, l1, l2, l3, l4, .int i5, .int i6] [] σ = ru d 206 158 [l0, l1, l2, l3, l4, .int i5, .int (i6 + 1)] [] σ := q_iinc t206_155 ⟨Nat.le_of_ble_eq_true rfl, rfl⟩ rfl (by decide +kernel) rfl
theorem t206_158 : decode (mb 206) 158 = .ok (.goto (-31), 3) := by decide +kernel
theorem s206_158 (d : Nat) (l0 : Value) (l1 : Value) (l2 : Value) (l3 : Value) (l4 : Value) (l5 : Value) (l6 : Value) (σ : Hs) : ru d 206 158 [l0, l1, l2, l3, l4, l5, l6] [] σ = ru d 206 127 [l0, l1, l2, l3, l4, l5, l6] [] σ := q_goto t206_158 (by decide +kernel)
theorem t206_161 : decode (mb 206) 161 = .ok (.iconst 0, 1) := by decide +kernel
theorem s206_161 (d : Nat) (l0 : Value) (l1 : Value) (l2 : Value) (l3 : Value) (l4 : Value) (l5 : Value) (l6 : Value) (σ : Hs) : ru d 206 161 [l0, l1, l2, l3, l4, l5, l6] [] σ = ru d 206 162 [l0, l1, l2, l3, l4, l5, l6] [.int 0] σ := q_iconst t206_161 (by decide +kernel)
theorem t206_162 : decode (mb 206) 162 = .ok (.istore 6, 2) := by decide +kernel
theorem s206_162 (d : Nat) (l0 : Value) (l1 : Value) (l2 : Value) (l3 : Value) (l4 : Value) (i5 : Int32) (l6 : Value) (x : Int32) (σ : Hs) : ru d 206 162 [l0, l1, l2, l3, l4, .int i5, l6] [.int x] σ = ru d 206 164 [l0, l1, l2, l3, l4, .int i5, .int x] [] σ := q_istore t206_162 ⟨Nat.le_of_ble_eq_true rfl, rfl⟩ rfl
theorem t206_164 : decode (mb 206) 164 = .ok (.iload 6, 2) := by decide +kernel
theorem s206_164 (d : Nat) (l0 : Value) (l1 : Value) (l2 : Value) (l3 : Value) (l4 : Value) (l5 : Value) (i6 : Int32) (σ : Hs) : ru d 206 164 [l0, l1, l2, l3, l4, l5, .int i6] [] σ = ru d 206 166 [l0, l1, l2, l3, l4, l5, .int i6] [.int i6] σ := q_iload t206_164 rfl
theorem t206_166 : decode (mb 206) 166 = .ok (.iload 5, 2) := by decide +kernel
theorem s206_166 (d : Nat) (l0 : Value) (l1 : Value) (l2 : Value) (l3 : Value) (l4 : Value) (i5 : Int32) (l6 : Value) (w0 : Value) (σ : Hs) : ru d 206 166 [l0, l1, l2, l3, l4, .int i5, l6] [w0] σ = ru d 206 168 [l0, l1, l2, l3, l4, .int i5, l6] [.int i5, w0] σ := q_iload t206_166 rfl
theorem t206_168 : decode (mb 206) 168 = .ok (.if_icmp .ge 31, 3) := by decide +kernel
theorem s206_168 (d : Nat) (l0 : Value) (l1 : Value) (l2 : Value) (l3 : Value) (l4 : Value) (l5 : Value) (l6 : Value) (x y : Int32) (σ : Hs) : ru d 206 168 [l0, l1, l2, l3, l4, l5, l6] [.int y, .int x] σ = if y ≤ x then ru d 206 199 [l0, l1, l2, l3, l4, l5, l6] [] σ else ru d 206 171 [l0, l1, l2, l3, l4, l5, l6] [] σ := q_ic_ge t206_168 (by decide +kernel)
theorem t206_171 : decode (mb 206) 171 = .ok (.aload_n 0, 1) := by decide +kernel
theorem s206_171 (d : Nat) (a0 : Nat) (l1 : Value) (l2 : Value) (l3 : Value) (l4 : Value) (l5 : Value) (l6 : Value) (σ : Hs) : ru d 206 171 [.ref a0, l1, l2, l3, l4, l5, l6] [] σ = ru d 206 172 [.ref a0, l1, l2, l3, l4, l5, l6] [.ref a0] σ := q_aload_n t206_171 rfl
theorem t206_172 : decode (mb 206) 172 = .ok (.getfield 61, 3) := by decide +kernel
theorem s206_172_o87 (d : Nat) (l0 : Value) (l1 : Value) (l2 : Value) (l3 : Value) (l4 : Value) (l5 : Value) (l6 : Value) (σ : Hs) : ru d 206 172 [l0, l1, l2, l3, l4, l5, l6] [.ref 87] σ = ru d 206 175 [l0, l1, l2, l3, l4, l5, l6] [.ref 102] σ := q_getf t206_172 mo206 F8_61 rfl rfl
theorem t206_175 : decode (mb 206) 175 = .ok (.bipush 24, 2) := by decide +kernel
theorem s206_175 (d : Nat) (l0 : Value) (l1 : Value) (l2 : Value) (l3 : Value) (l4 : Value) (l5 : Value) (l6 : Value) (w0 : Value) (σ : Hs) : ru d 206 175 [l0, l1, l2, l3, l4, l5, l6] [w0] σ = ru d 206 177 [l0, l1, l2, l3, l4, l5, l6] [.int 24, w0] σ := q_bipush t206_175 (by decide +kernel)
theorem t206_177 : decode (mb 206) 177 = .ok (.iload_n 3, 1) := by decide +kernel
theorem s206_177 (d : Nat) (l0 : Value) (l1 : Value) (l2 : Value) (i3 : Int32) (l4 : Value) (l5 : Value) (l6 : Value) (w0 w1 : Value) (σ : Hs) : ru d 206 177 [l0, l1, l2, .int i3, l4, l5, l6] [w0, w1] σ = ru d 206 178 [l0, l1, l2, .int i3, l4, l5, l6] [.int i3, w0, w1] σ := q_iload_n t206_177 rfl
theorem t206_178 : decode (mb 206) 178 = .ok (.imul, 1) := by decide +kernel
theorem s206_178 (d : Nat) (l0 : Value) (l1 : Value) (l2 : Value) (l3 : Value) (l4 : Value) (l5 : Value) (l6 : Value) (x y : Int32) (w0 : Value) (σ : Hs) : ru d 206 178 [l0, l1, l2, l3, l4, l5, l6] [.int y, .int x, w0] σ = ru d 206 179 [l0, l1, l2, l3, l4, l5, l6] [.int (x * y), w0] σ := q_imul t206_178
theorem t206_179 : decode (mb 206) 179 = .ok (.iload 4, 2) := by decide +kernel
theorem s206_179 (d : Nat) (l0 : Value) (l1 : Value) (l2 : Value) (l3 : Value) (i4 : Int32) (l5 : Value) (l6 : Value) (w0 w1 : Value) (σ : Hs) : ru d 206 179 [l0, l1, l2, l3, .int i4, l5, l6] [w0, w1] σ = ru d 206 181 [l0, l1, l2, l3, .int i4, l5, l6] [.int i4, w0, w1] σ := q_iload t206_179 rfl
theorem t206_181 : decode (mb 206) 181 = .ok (.iadd, 1) := by decide +kernel
theorem s206_181 (d : Nat) (l0 : Value) (l1 : Value) (l2 : Value) (l3 : Value) (l4 : Value) (l5 : Value) (l6 : Value) (x y : Int32) (w0 : Value) (σ : Hs) : ru d 206 181 [l0, l1, l2, l3, l4, l5, l6] [.int y, .int x, w0] σ = ru d 206 182 [l0, l1, l2, l3, l4, l5, l6] [.int (x + y), w0] σ := q_iadd t206_181
theorem t206_182 : decode (mb 206) 182 = .ok (.iload 6, 2) := by decide +kernel
theorem s206_182 (d : Nat) (l0 : Value) (l1 : Value) (l2 : Value) (l3 : Value) (l4 : Value) (l5 : Value) (i6 : Int32) (w0 w1 : Value) (σ : Hs) : ru d 206 182 [l0, l1, l2, l3, l4, l5, .int i6] [w0, w1] σ = ru d 206 184 [l0, l1, l2, l3, l4, l5, .int i6] [.int i6, w0, w1] σ := q_iload t206_182 rfl
theorem t206_184 : decode (mb 206) 184 = .ok (.iadd, 1) := by decide +kernel
theorem s206_184 (d : Nat) (l0 : Value) (l1 : Value) (l2 : Value) (l3 : Value) (l4 : Value) (l5 : Value) (l6 : Value) (x y : Int32) (w0 : Value) (σ : Hs) : ru d 206 184 [l0, l1, l2, l3, l4, l5, l6] [.int y, .int x, w0] σ = ru d 206 185 [l0, l1, l2, l3, l4, l5, l6] [.int (x + y), w0] σ := q_iadd t206_184
theorem t206_185 : decode (mb 206) 185 = .ok (.aload_n 0, 1) := by decide +kernel
theorem s206_185 (d : Nat) (a0 : Nat) (l1 : Value) (l2 : Value) (l3 : Value) (l4 : Value) (l5 : Value) (l6 : Value) (w0 w1 : Value) (σ : Hs) : ru d 206 185 [.ref a0, l1, l2, l3, l4, l5, l6] [w0, w1] σ = ru d 206 186 [.ref a0, l1, l2, l3, l4, l5, l6] [.ref a0, w0, w1] σ := q_aload_n t206_185 rfl
theorem t206_186 : decode (mb 206) 186 = .ok (.getfield 64, 3) := by decide +kernel
theorem s206_186_o87 (d : Nat) (l0 : Value) (l1 : Value) (l2 : Value) (l3 : Value) (l4 : Value) (l5 : Value) (l6 : Value) (w0 w1 : Value) (σ : Hs) : ru d 206 186 [l0, l1, l2, l3, l4, l5, l6] [.ref 87, w0, w1] σ = ru d 206 189 [l0, l1, l2, l3, l4, l5, l6] [.ref 103, w0, w1] σ := q_getf t206_186 mo206 F8_64 rfl rfl
theorem t206_189 : decode (mb 206) 189 = .ok (.iload 6, 2) := by decide +kernel
theorem s206_189 (d : Nat) (l0 : Value) (l1 : Value) (l2 : Value) (l3 : Value) (l4 : Value) (l5 : Value) (i6 : Int32) (w0 w1 w2 : Value) (σ : Hs) : ru d 206 189 [l0, l1, l2, l3, l4, l5, .int i6] [w0, w1, w2] σ = ru d 206 191 [l0, l1, l2, l3, l4, l5, .int i6] [.int i6, w0, w1, w2] σ := q_iload t206_189 rfl
theorem t206_191 : decode (mb 206) 191 = .ok (.iaload, 1) := by decide +kernel
theorem s206_191_o103 (d : Nat) (l0 : Value) (l1 : Value) (l2 : Value) (l3 : Value) (l4 : Value) (l5 : Value) (l6 : Value) (i : Int32) (w0 w1 : Value) (σ : Hs) : ru d 206 191 [l0, l1, l2, l3, l4, l5, l6] [.int i, .ref 103, w0, w1] σ = gd (vp_in i 24) (ru d 206 192 [l0, l1, l2, l3, l4, l5, l6] [.int (σ 103 i.toNatClampNeg), w0, w1] σ) := q_iald t206_191 rfl (by decide +kernel) rfl
theorem t206_192 : decode (mb 206) 192 = .ok (.iastore, 1) := by decide +kernel
theorem s206_192_o102 (d : Nat) (l0 : Value) (l1 : Value) (l2 : Value) (l3 : Value) (l4 : Value) (l5 : Value) (l6 : Value) (i x : Int32) (σ : Hs) : ru d 206 192 [l0, l1, l2, l3, l4, l5, l6] [.int x, .int i, .ref 102] σ = gd (vp_in i 96) (ru d 206 193 [l0, l1, l2, l3, l4, l5, l6] [] (up2 σ 102 i.toNatClampNeg x)) := q_iast t206_192 (by decide +kernel) rfl rfl
theorem t206_193 : decode (mb 206) 193 = .ok (.iinc 6 1, 3) := by decide +kernel
theorem s206_193 (d : Nat) (l0 : Value) (l1 : Value) (l2 : Value) (l3 : Value) (l4 : Value) (i5 : Int32) (i6 : Int32) (σ : Hs) : ru d 206 193 [l0, l1, l2, l3, l4, .int i5, .int i6] [] σ = ru d 206 196 [l0, l1, l2, l3, l4, .int i5, .int (i6 + 1)] [] σ := q_iinc t206_193 ⟨Nat.le_of_ble_eq_true rfl, rfl⟩ rfl (by decide +kernel) rfl
theorem t206_196 : decode (mb 206) 196 = .ok (.goto (-32), 3) := by decide +kernel
theorem s206_196 (d : Nat) (l0 : Value) (l1 : Value) (l2 : Value) (l3 : Value) (l4 : Value) (l5 : Value) (l6 : Value) (σ : Hs) : ru d 206 196 [l0, l1, l2, l3, l4, l5, l6] [] σ = ru d 206 164 [l0, l1, l2, l3, l4, l5, l6] [] σ := q_goto t206_196 (by decide +kernel)
theorem t206_199 : decode (mb 206) 199 = .ok (.iload 5, 2) := by decide +kernel
theorem s206_199 (d : Nat) (l0 : Value) (l1 : Value) (l2 : Value) (l3 : Value) (l4 : Value) (i5 : Int32) (l6 : Value) (σ : Hs) : ru d 206 199 [l0, l1, l2, l3, l4, .int i5, l6] [] σ = ru d 206 201 [l0, l1, l2, l3, l4, .int i5, l6] [.int i5] σ := q_iload t206_199 rfl
theorem t206_201 : decode (mb 206) 201 = .ok (.ireturn, 1) := by decide +kernel
theorem s206_201 (d : Nat) (l0 : Value) (l1 : Value) (l2 : Value) (l3 : Value) (l4 : Value) (l5 : Value) (l6 : Value) (x : Int32) (σ : Hs) : ru d 206 201 [l0, l1, l2, l3, l4, l5, l6] [.int x] σ = some (some (.int x), σ) := q_ireti t206_201 mr206
theorem c206 (d : Nat) (x0 : Nat) (x1 : Int32) (x2 : Int32) (x3 : Int32) (x4 : Int32) (x5 : Int32) (σ : Hs) : callD (d + 1) 206 [.ref x0, .int x1, .int x2, .int x3, .int x4, .int x5] σ = ru d 206 0 [.ref x0, .int x1, .int x2, .int x3, .int x4, .int x5, uu] [] σ := callD_ru ml206 rfl rfl (Nat.le_of_ble_eq_true rfl)
-- 207: Model.armfuls(I)I
theorem t207_0 : decode (mb 207) 0 = .ok (.iload_n 1, 1) := by decide +kernel
theorem s207_0 (d : Nat) (l0 : Value) (i1 : Int32) (l2 : Value) (l3 : Value) (l4 : Value) (σ : Hs) : ru d 207 0 [l0, .int i1, l2, l3, l4] [] σ = ru d 207 1 [l0, .int i1, l2, l3, l4] [.int i1] σ := q_iload_n t207_0 rfl
theorem t207_1 : decode (mb 207) 1 = .ok (.invokestatic 328, 3) := by decide +kernel
theorem s207_1 (d : Nat) (l0 : Value) (l1 : Value) (l2 : Value) (l3 : Value) (l4 : Value) (v0 : Value) (σ : Hs) : ru d 207 1 [l0, l1, l2, l3, l4] [v0] σ = kont (callD d 203 [v0] σ) d 207 4 [l0, l1, l2, l3, l4] [] := q_invs t207_1 mo207 (by decide +kernel) K8_328 mj203 (Nat.le_of_ble_eq_true rfl) rfl rfl (Nat.le_of_ble_eq_true rfl)
theorem t207_4 : decode (mb 207) 4 = .ok (.ifCond .ne 10, 3) := by decide +kernel
theorem s207_4 (d : Nat) (l0 : Value) (l1 : Value) (l2 : Value) (l3 : Value) (l4 : Value) (x : Int32) (σ : Hs) : ru d 207 4 [l0, l1, l2, l3, l4] [.int x] σ = if x = 0 then ru d 207 7 [l0, l1, l2, l3, l4] [] σ else ru d 207 14 [l0, l1, l2, l3, l4] [] σ := q_if_ne t207_4 (by decide +kernel)
theorem t207_7 : decode (mb 207) 7 = .ok (.aload_n 0, 1) := by decide +kernel
theorem s207_7 (d : Nat) (a0 : Nat) (l1 : Value) (l2 : Value) (l3 : Value) (l4 : Value) (σ : Hs) : ru d 207 7 [.ref a0, l1, l2, l3, l4] [] σ = ru d 207 8 [.ref a0, l1, l2, l3, l4] [.ref a0] σ := q_aload_n t207_7 rfl
theorem t207_8 : decode (mb 207) 8 = .ok (.ldc 104, 2) := by decide +kernel
theorem s207_8 (d : Nat) (l0 : Value) (l1 : Value) (l2 : Value) (l3 : Value) (l4 : Value) (w0 : Value) (σ : Hs) : ru d 207 8 [l0, l1, l2, l3, l4] [w0] σ = ru d 207 10 [l0, l1, l2, l3, l4] [.int (-1000001), w0] σ := q_ldc t207_8 mo207 C8_104
theorem t207_10 : decode (mb 207) 10 = .ok (.invokevirtual 105, 3) := by decide +kernel
theorem s207_10_o87 (d : Nat) (l0 : Value) (l1 : Value) (l2 : Value) (l3 : Value) (l4 : Value) (v1 : Value) (σ : Hs) : ru d 207 10 [l0, l1, l2, l3, l4] [v1, .ref 87] σ = kont (callD d 111 [.ref 87, v1] σ) d 207 13 [l0, l1, l2, l3, l4] [] := q_invv t207_10 mo207 K8_105 mj111 rfl rfl rfl rfl (Nat.le_of_ble_eq_true rfl)
theorem t207_13 : decode (mb 207) 13 = .ok (.ireturn, 1) := by decide +kernel
theorem s207_13 (d : Nat) (l0 : Value) (l1 : Value) (l2 : Value) (l3 : Value) (l4 : Value) (x : Int32) (σ : Hs) : ru d 207 13 [l0, l1, l2, l3, l4] [.int x] σ = some (some (.int x), σ) := q_ireti t207_13 mr207
theorem t207_14 : decode (mb 207) 14 = .ok (.aload_n 0, 1) := by decide +kernel
theorem s207_14 (d : Nat) (a0 : Nat) (l1 : Value) (l2 : Value) (l3 : Value) (l4 : Value) (σ : Hs) : ru d 207 14 [.ref a0, l1, l2, l3, l4] [] σ = ru d 207 15 [.ref a0, l1, l2, l3, l4] [.ref a0] σ := q_aload_n t207_14 rfl
theorem t207_15 : decode (mb 207) 15 = .ok (.getfield 55, 3) := by decide +kernel
theorem s207_15_o87 (d : Nat) (l0 : Value) (l1 : Value) (l2 : Value) (l3 : Value) (l4 : Value) (σ : Hs) : ru d 207 15 [l0, l1, l2, l3, l4] [.ref 87] σ = ru d 207 18 [l0, l1, l2, l3, l4] [.ref 100] σ := q_getf t207_15 mo207 F8_55 rfl rfl
theorem t207_18 : decode (mb 207) 18 = .ok (.iload_n 1, 1) := by decide +kernel
theorem s207_18 (d : Nat) (l0 : Value) (i1 : Int32) (l2 : Value) (l3 : Value) (l4 : Value) (w0 : Value) (σ : Hs) : ru d 207 18 [l0, .int i1, l2, l3, l4] [w0] σ = ru d 207 19 [l0, .int i1, l2, l3, l4] [.int i1, w0] σ := q_iload_n t207_18 rfl
theorem t207_19 : decode (mb 207) 19 = .ok (.iaload, 1) := by decide +kernel
theorem s207_19_o100 (d : Nat) (l0 : Value) (l1 : Value) (l2 : Value) (l3 : Value) (l4 : Value) (i : Int32) (σ : Hs) : ru d 207 19 [l0, l1, l2, l3, l4] [.int i, .ref 100] σ = gd (vp_in i 4) (ru d 207 20 [l0, l1, l2, l3, l4] [.int (σ 100 i.toNatClampNeg)] σ) := q_iald t207_19 rfl (by decide +kernel) rfl
theorem t207_20 : decode (mb 207) 20 = .ok (.ifCond .ne 10, 3) := by decide +kernel
theorem s207_20 (d : Nat) (l0 : Value) (l1 : Value) (l2 : Value) (l3 : Value) (l4 : Value) (x : Int32) (σ : Hs) : ru d 207 20 [l0, l1, l2, l3, l4] [.int x] σ = if x = 0 then ru d 207 23 [l0, l1, l2, l3, l4] [] σ else ru d 207 30 [l0, l1, l2, l3, l4] [] σ := q_if_ne t207_20 (by decide +kernel)
theorem t207_23 : decode (mb 207) 23 = .ok (.aload_n 0, 1) := by decide +kernel
theorem s207_23 (d : Nat) (a0 : Nat) (l1 : Value) (l2 : Value) (l3 : Value) (l4 : Value) (σ : Hs) : ru d 207 23 [.ref a0, l1, l2, l3, l4] [] σ = ru d 207 24 [.ref a0, l1, l2, l3, l4] [.ref a0] σ := q_aload_n t207_23 rfl
theorem t207_24 : decode (mb 207) 24 = .ok (.ldc 116, 2) := by decide +kernel
theorem s207_24 (d : Nat) (l0 : Value) (l1 : Value) (l2 : Value) (l3 : Value) (l4 : Value) (w0 : Value) (σ : Hs) : ru d 207 24 [l0, l1, l2, l3, l4] [w0] σ = ru d 207 26 [l0, l1, l2, l3, l4] [.int (-1000002), w0] σ := q_ldc t207_24 mo207 C8_116
theorem t207_26 : decode (mb 207) 26 = .ok (.invokevirtual 105, 3) := by decide +kernel
theorem s207_26_o87 (d : Nat) (l0 : Value) (l1 : Value) (l2 : Value) (l3 : Value) (l4 : Value) (v1 : Value) (σ : Hs) : ru d 207 26 [l0, l1, l2, l3, l4] [v1, .ref 87] σ = kont (callD d 111 [.ref 87, v1] σ) d 207 29 [l0, l1, l2, l3, l4] [] := q_invv t207_26 mo207 K8_105 mj111 rfl rfl rfl rfl (Nat.le_of_ble_eq_true rfl)
theorem t207_29 : decode (mb 207) 29 = .ok (.ireturn, 1) := by decide +kernel
theorem s207_29 (d : Nat) (l0 : Value) (l1 : Value) (l2 : Value) (l3 : Value) (l4 : Value) (x : Int32) (σ : Hs) : ru d 207 29 [l0, l1, l2, l3, l4] [.int x] σ = some (some (.int x), σ) := q_ireti t207_29 mr207
theorem t207_30 : decode (mb 207) 30 = .ok (.iconst 0, 1) := by decide +kernel
theorem s207_30 (d : Nat) (l0 : Value) (l1 : Value) (l2 : Value) (l3 : Value) (l4 : Value) (σ : Hs) : ru d 207 30 [l0, l1, l2, l3, l4] [] σ = ru d 207 31 [l0, l1, l2, l3, l4] [.int 0] σ := q_iconst t207_30 (by decide +kernel)
theorem t207_31 : decode (mb 207) 31 = .ok (.istore_n 2, 1) := by decide +kernel
theorem s207_31 (d : Nat) (l0 : Value) (i1 : Int32) (l2 : Value) (l3 : Value) (l4 : Value) (x : Int32) (σ : Hs) : ru d 207 31 [l0, .int i1, l2, l3, l4] [.int x] σ = ru d 207 32 [l0, .int i1, .int x, l3, l4] [] σ := q_istore_n t207_31 ⟨Nat.le_of_ble_eq_true rfl, rfl⟩ rfl
theorem t207_32 : decode (mb 207) 32 = .ok (.bipush 24, 2) := by decide +kernel
theorem s207_32 (d : Nat) (l0 : Value) (l1 : Value) (l2 : Value) (l3 : Value) (l4 : Value) (σ : Hs) : ru d 207 32 [l0, l1, l2, l3, l4] [] σ = ru d 207 34 [l0, l1, l2, l3, l4] [.int 24] σ := q_bipush t207_32 (by decide +kernel)
theorem t207_34 : decode (mb 207) 34 = .ok (.iload_n 1, 1) := by decide +kernel
theorem s207_34 (d : Nat) (l0 : Value) (i1 : Int32) (l2 : Value) (l3 : Value) (l4 : Value) (w0 : Value) (σ : Hs) : ru d 207 34 [l0, .int i1, l2, l3, l4] [w0] σ = ru d 207 35 [l0, .int i1, l2, l3, l4] [.int i1, w0] σ := q_iload_n t207_34 rfl
theorem t207_35 : decode (mb 207) 35 = .ok (.imul, 1) := by decide +kernel
theorem s207_35 (d : Nat) (l0 : Value) (l1 : Value) (l2 : Value) (l3 : Value) (l4 : Value) (x y : Int32) (σ : Hs) : ru d 207 35 [l0, l1, l2, l3, l4] [.int y, .int x] σ = ru d 207 36 [l0, l1, l2, l3, l4] [.int (x * y)] σ := q_imul t207_35
theorem t207_36 : decode (mb 207) 36 = .ok (.istore_n 3, 1) := by decide +kernel
theorem s207_36 (d : Nat) (l0 : Value) (l1 : Value) (i2 : Int32) (l3 : Value) (l4 : Value) (x : Int32) (σ : Hs) : ru d 207 36 [l0, l1, .int i2, l3, l4] [.int x] σ = ru d 207 37 [l0, l1, .int i2, .int x, l4] [] σ := q_istore_n t207_36 ⟨Nat.le_of_ble_eq_true rfl, rfl⟩ rfl
theorem t207_37 : decode (mb 207) 37 = .ok (.iconst 4, 1) := by decide +kernel
theorem s207_37 (d : Nat) (l0 : Value) (l1 : Value) (l2 : Value) (l3 : Value) (l4 : Value) (σ : Hs) : ru d 207 37 [l0, l1, l2, l3, l4] [] σ = ru d 207 38 [l0, l1, l2, l3, l4] [.int 4] σ := q_iconst t207_37 (by decide +kernel)
theorem t207_38 : decode (mb 207) 38 = .ok (.iload_n 2, 1) := by decide +kernel
theorem s207_38 (d : Nat) (l0 : Value) (l1 : Value) (i2 : Int32) (l3 : Value) (l4 : Value) (w0 : Value) (σ : Hs) : ru d 207 38 [l0, l1, .int i2, l3, l4] [w0] σ = ru d 207 39 [l0, l1, .int i2, l3, l4] [.int i2, w0] σ := q_iload_n t207_38 rfl
theorem t207_39 : decode (mb 207) 39 = .ok (.imul, 1) := by decide +kernel
theorem s207_39 (d : Nat) (l0 : Value) (l1 : Value) (l2 : Value) (l3 : Value) (l4 : Value) (x y : Int32) (σ : Hs) : ru d 207 39 [l0, l1, l2, l3, l4] [.int y, .int x] σ = ru d 207 40 [l0, l1, l2, l3, l4] [.int (x * y)] σ := q_imul t207_39
theorem t207_40 : decode (mb 207) 40 = .ok (.iconst 4, 1) := by decide +kernel
theorem s207_40 (d : Nat) (l0 : Value) (l1 : Value) (l2 : Value) (l3 : Value) (l4 : Value) (w0 : Value) (σ : Hs) : ru d 207 40 [l0, l1, l2, l3, l4] [w0] σ = ru d 207 41 [l0, l1, l2, l3, l4] [.int 4, w0] σ := q_iconst t207_40 (by decide +kernel)
theorem t207_41 : decode (mb 207) 41 = .ok (.iadd, 1) := by decide +kernel
theorem s207_41 (d : Nat) (l0 : Value) (l1 : Value) (l2 : Value) (l3 : Value) (l4 : Value) (x y : Int32) (σ : Hs) : ru d 207 41 [l0, l1, l2, l3, l4] [.int y, .int x] σ = ru d 207 42 [l0, l1, l2, l3, l4] [.int (x + y)] σ := q_iadd t207_41
theorem t207_42 : decode (mb 207) 42 = .ok (.aload_n 0, 1) := by decide +kernel
theorem s207_42 (d : Nat) (a0 : Nat) (l1 : Value) (l2 : Value) (l3 : Value) (l4 : Value) (w0 : Value) (σ : Hs) : ru d 207 42 [.ref a0, l1, l2, l3, l4] [w0] σ = ru d 207 43 [.ref a0, l1, l2, l3, l4] [.ref a0, w0] σ := q_aload_n t207_42 rfl
theorem t207_43 : decode (mb 207) 43 = .ok (.getfield 58, 3) := by decide +kernel
theorem s207_43_o87 (d : Nat) (l0 : Value) (l1 : Value) (l2 : Value) (l3 : Value) (l4 : Value) (w0 : Value) (σ : Hs) : ru d 207 43 [l0, l1, l2, l3, l4] [.ref 87, w0] σ = ru d 207 46 [l0, l1, l2, l3, l4] [.ref 101, w0] σ := q_getf t207_43 mo207 F8_58 rfl rfl
theorem t207_46 : decode (mb 207) 46 = .ok (.iload_n 1, 1) := by decide +kernel
theorem s207_46 (d : Nat) (l0 : Value) (i1 : Int32) (l2 : Value) (l3 : Value) (l4 : Value) (w0 w1 : Value) (σ : Hs) : ru d 207 46 [l0, .int i1, l2, l3, l4] [w0, w1] σ = ru d 207 47 [l0, .int i1, l2, l3, l4] [.int i1, w0, w1] σ := q_iload_n t207_46 rfl
theorem t207_47 : decode (mb 207) 47 = .ok (.iaload, 1) := by decide +kernel
theorem s207_47_o101 (d : Nat) (l0 : Value) (l1 : Value) (l2 : Value) (l3 : Value) (l4 : Value) (i : Int32) (w0 : Value) (σ : Hs) : ru d 207 47 [l0, l1, l2, l3, l4] [.int i, .ref 101, w0] σ = gd (vp_in i 4) (ru d 207 48 [l0, l1, l2, l3, l4] [.int (σ 101 i.toNatClampNeg), w0] σ) := q_iald t207_47 rfl (by decide +kernel) rfl
theorem t207_48 : decode (mb 207) 48 = .ok (.if_icmp .gt 103, 3) := by decide +kernel
theorem s207_48 (d : Nat) (l0 : Value) (l1 : Value) (l2 : Value) (l3 : Value) (l4 : Value) (x y : Int32) (σ : Hs) : ru d 207 48 [l0, l1, l2, l3, l4] [.int y, .int x] σ = if y < x then ru d 207 151 [l0, l1, l2, l3, l4] [] σ else ru d 207 51 [l0, l1, l2, l3, l4] [] σ := q_ic_gt t207_48 (by decide +kernel)
theorem t207_51 : decode (mb 207) 51 = .ok (.aload_n 0, 1) := by decide +kernel
theorem s207_51 (d : Nat) (a0 : Nat) (l1 : Value) (l2 : Value) (l3 : Value) (l4 : Value) (σ : Hs) : ru d 207 51 [.ref a0, l1, l2, l3, l4] [] σ = ru d 207 52 [.ref a0, l1, l2, l3, l4] [.ref a0] σ := q_aload_n t207_51 rfl
theorem t207_52 : decode (mb 207) 52 = .ok (.aload_n 0, 1) := by decide +kernel
theorem s207_52 (d : Nat) (a0 : Nat) (l1 : Value) (l2 : Value) (l3 : Value) (l4 : Value) (w0 : Value) (σ : Hs) : ru d 207 52 [.ref a0, l1, l2, l3, l4] [w0] σ = ru d 207 53 [.ref a0, l1, l2, l3, l4] [.ref a0, w0] σ := q_aload_n t207_52 rfl
theorem t207_53 : decode (mb 207) 53 = .ok (.getfield 61, 3) := by decide +kernel
theorem s207_53_o87 (d : Nat) (l0 : Value) (l1 : Value) (l2 : Value) (l3 : Value) (l4 : Value) (w0 : Value) (σ : Hs) : ru d 207 53 [l0, l1, l2, l3, l4] [.ref 87, w0] σ = ru d 207 56 [l0, l1, l2, l3, l4] [.ref 102, w0] σ := q_getf t207_53 mo207 F8_61 rfl rfl
theorem t207_56 : decode (mb 207) 56 = .ok (.iload_n 3, 1) := by decide +kernel
theorem s207_56 (d : Nat) (l0 : Value) (l1 : Value) (l2 : Value) (i3 : Int32) (l4 : Value) (w0 w1 : Value) (σ : Hs) : ru d 207 56 [l0, l1, l2, .int i3, l4] [w0, w1] σ = ru d 207 57 [l0, l1, l2, .int i3, l4] [.int i3, w0, w1] σ := q_iload_n t207_56 rfl
theorem t207_57 : decode (mb 207) 57 = .ok (.iaload, 1) := by decide +kernel
theorem s207_57_o102 (d : Nat) (l0 : Value) (l1 : Value) (l2 : Value) (l3 : Value) (l4 : Value) (i : Int32) (w0 : Value) (σ : Hs) : ru d 207 57 [l0, l1, l2, l3, l4] [.int i, .ref 102, w0] σ = gd (vp_in i 96) (ru d 207 58 [l0, l1, l2, l3, l4] [.int (σ 102 i.toNatClampNeg), w0] σ) := q_iald t207_57 rfl (by decide +kernel) rfl
theorem t207_58 : decode (mb 207) 58 = .ok (.aload_n 0, 1) := by decide +kernel
theorem s207_58 (d : Nat) (a0 : Nat) (l1 : Value) (l2 : Value) (l3 : Value) (l4 : Value) (w0 w1 : Value) (σ : Hs) : ru d 207 58 [.ref a0, l1, l2, l3, l4] [w0, w1] σ = ru d 207 59 [.ref a0, l1, l2, l3, l4] [.ref a0, w0, w1] σ := q_aload_n t207_58 rfl
theorem t207_59 : decode (mb 207) 59 = .ok (.getfield 61, 3) := by decide +kernel
theorem s207_59_o87 (d : Nat) (l0 : Value) (l1 : Value) (l2 : Value) (l3 : Value) (l4 : Value) (w0 w1 : Value) (σ : Hs) : ru d 207 59 [l0, l1, l2, l3, l4] [.ref 87, w0, w1] σ = ru d 207 62 [l0, l1, l2, l3, l4] [.ref 102, w0, w1] σ := q_getf t207_59 mo207 F8_61 rfl rfl
theorem t207_62 : decode (mb 207) 62 = .ok (.iload_n 3, 1) := by decide +kernel
theorem s207_62 (d : Nat) (l0 : Value) (l1 : Value) (l2 : Value) (i3 : Int32) (l4 : Value) (w0 w1 w2 : Value) (σ : Hs) : ru d 207 62 [l0, l1, l2, .int i3, l4] [w0, w1, w2] σ = ru d 207 63 [l0, l1, l2, .int i3, l4] [.int i3, w0, w1, w2] σ := q_iload_n t207_62 rfl
theorem t207_63 : decode (mb 207) 63 = .ok (.iconst 1, 1) := by decide +kernel
theorem s207_63 (d : Nat) (l0 : Value) (l1 : Value) (l2 : Value) (l3 : Value) (l4 : Value) (w0 w1 w2 w3 : Value) (σ : Hs) : ru d 207 63 [l0, l1, l2, l3, l4] [w0, w1, w2, w3] σ = ru d 207 64 [l0, l1, l2, l3, l4] [.int 1, w0, w1, w2, w3] σ := q_iconst t207_63 (by decide +kernel)
theorem t207_64 : decode (mb 207) 64 = .ok (.iadd, 1) := by decide +kernel
theorem s207_64 (d : Nat) (l0 : Value) (l1 : Value) (l2 : Value) (l3 : Value) (l4 : Value) (x y : Int32) (w0 w1 w2 : Value) (σ : Hs) : ru d 207 64 [l0, l1, l2, l3, l4] [.int y, .int x, w0, w1, w2] σ = ru d 207 65 [l0, l1, l2, l3, l4] [.int (x + y), w0, w1, w2] σ := q_iadd t207_64
theorem t207_65 : decode (mb 207) 65 = .ok (.iaload, 1) := by decide +kernel
theorem s207_65_o102 (d : Nat) (l0 : Value) (l1 : Value) (l2 : Value) (l3 : Value) (l4 : Value) (i : Int32) (w0 w1 : Value) (σ : Hs) : ru d 207 65 [l0, l1, l2, l3, l4] [.int i, .ref 102, w0, w1] σ = gd (vp_in i 96) (ru d 207 66 [l0, l1, l2, l3, l4] [.int (σ 102 i.toNatClampNeg), w0, w1] σ) := q_iald t207_65 rfl (by decide +kernel) rfl
theorem t207_66 : decode (mb 207) 66 = .ok (.aload_n 0, 1) := by decide +kernel
theorem s207_66 (d : Nat) (a0 : Nat) (l1 : Value) (l2 : Value) (l3 : Value) (l4 : Value) (w0 w1 w2 : Value) (σ : Hs) : ru d 207 66 [.ref a0, l1, l2, l3, l4] [w0, w1, w2] σ = ru d 207 67 [.ref a0, l1, l2, l3, l4] [.ref a0, w0, w1, w2] σ := q_aload_n t207_66 rfl
theorem t207_67 : decode (mb 207) 67 = .ok (.getfield 61, 3) := by decide +kernel
theorem s207_67_o87 (d : Nat) (l0 : Value) (l1 : Value) (l2 : Value) (l3 : Value) (l4 : Value) (w0 w1 w2 : Value) (σ : Hs) : ru d 207 67 [l0, l1, l2, l3, l4] [.ref 87, w0, w1, w2] σ = ru d 207 70 [l0, l1, l2, l3, l4] [.ref 102, w0, w1, w2] σ := q_getf t207_67 mo207 F8_61 rfl rfl
theorem t207_70 : decode (mb 207) 70 = .ok (.iload_n 3, 1) := by decide +kernel
theorem s207_70 (d : Nat) (l0 : Value) (l1 : Value) (l2 : Value) (i3 : Int32) (l4 : Value) (w0 w1 w2 w3 : Value) (σ : Hs) : ru d 207 70 [l0, l1, l2, .int i3, l4] [w0, w1, w2, w3] σ = ru d 207 71 [l0, l1, l2, .int i3, l4] [.int i3, w0, w1, w2, w3] σ := q_iload_n t207_70 rfl
theorem t207_71 : decode (mb 207) 71 = .ok (.iconst 2, 1) := by decide +kernel
theorem s207_71 (d : Nat) (l0 : Value) (l1 : Value) (l2 : Value) (l3 : Value) (l4 : Value) (w0 w1 w2 w3 w4 : Value) (σ : Hs) : ru d 207 71 [l0, l1, l2, l3, l4] [w0, w1, w2, w3, w4] σ = ru d 207 72 [l0, l1, l2, l3, l4] [.int 2, w0, w1, w2, w3, w4] σ := q_iconst t207_71 (by decide +kernel)
theorem t207_72 : decode (mb 207) 72 = .ok (.iadd, 1) := by decide +kernel
theorem s207_72 (d : Nat) (l0 : Value) (l1 : Value) (l2 : Value) (l3 : Value) (l4 : Value) (x y : Int32) (w0 w1 w2 w3 : Value) (σ : Hs) : ru d 207 72 [l0, l1, l2, l3, l4] [.int y, .int x, w0, w1, w2, w3] σ = ru d 207 73 [l0, l1, l2, l3, l4] [.int (x + y), w0, w1, w2, w3] σ := q_iadd t207_72
theorem t207_73 : decode (mb 207) 73 = .ok (.iaload, 1) := by decide +kernel
theorem s207_73_o102 (d : Nat) (l0 : Value) (l1 : Value) (l2 : Value) (l3 : Value) (l4 : Value) (i : Int32) (w0 w1 w2 : Value) (σ : Hs) : ru d 207 73 [l0, l1, l2, l3, l4] [.int i, .ref 102, w0, w1, w2] σ = gd (vp_in i 96) (ru d 207 74 [l0, l1, l2, l3, l4] [.int (σ 102 i.toNatClampNeg), w0, w1, w2] σ) := q_iald t207_73 rfl (by decide +kernel) rfl
theorem t207_74 : decode (mb 207) 74 = .ok (.aload_n 0, 1) := by decide +kernel
theorem s207_74 (d : Nat) (a0 : Nat) (l1 : Value) (l2 : Value) (l3 : Value) (l4 : Value) (w0 w1 w2 w3 : Value) (σ : Hs) : ru d 207 74 [.ref a0, l1, l2, l3, l4] [w0, w1, w2, w3] σ = ru d 207 75 [.ref a0, l1, l2, l3, l4] [.ref a0, w0, w1, w2, w3] σ := q_aload_n t207_74 rfl
theorem t207_75 : decode (mb 207) 75 = .ok (.getfield 61, 3) := by decide +kernel
theorem s207_75_o87 (d : Nat) (l0 : Value) (l1 : Value) (l2 : Value) (l3 : Value) (l4 : Value) (w0 w1 w2 w3 : Value) (σ : Hs) : ru d 207 75 [l0, l1, l2, l3, l4] [.ref 87, w0, w1, w2, w3] σ = ru d 207 78 [l0, l1, l2, l3, l4] [.ref 102, w0, w1, w2, w3] σ := q_getf t207_75 mo207 F8_61 rfl rfl
theorem t207_78 : decode (mb 207) 78 = .ok (.iload_n 3, 1) := by decide +kernel
theorem s207_78 (d : Nat) (l0 : Value) (l1 : Value) (l2 : Value) (i3 : Int32) (l4 : Value) (w0 w1 w2 w3 w4 : Value) (σ : Hs) : ru d 207 78 [l0, l1, l2, .int i3, l4] [w0, w1, w2, w3, w4] σ = ru d 207 79 [l0, l1, l2, .int i3, l4] [.int i3, w0, w1, w2, w3, w4] σ := q_iload_n t207_78 rfl
theorem t207_79 : decode (mb 207) 79 = .ok (.iconst 3, 1) := by decide +kernel
theorem s207_79 (d : Nat) (l0 : Value) (l1 : Value) (l2 : Value) (l3 : Value) (l4 : Value) (w0 w1 w2 w3 w4 w5 : Value) (σ : Hs) : ru d 207 79 [l0, l1, l2, l3, l4] [w0, w1, w2, w3, w4, w5] σ = ru d 207 80 [l0, l1, l2, l3, l4] [.int 3, w0, w1, w2, w3, w4, w5] σ := q_iconst t207_79 (by decide +kernel)
theorem t207_80 : decode (mb 207) 80 = .ok (.iadd, 1) := by decide +kernel
theorem s207_80 (d : Nat) (l0 : Value) (l1 : Value) (l2 : Value) (l3 : Value) (l4 : Value) (x y : Int32) (w0 w1 w2 w3 w4 : Value) (σ : Hs) : ru d 207 80 [l0, l1, l2, l3, l4] [.int y, .int x, w0, w1, w2, w3, w4] σ = ru d 207 81 [l0, l1, l2, l3, l4] [.int (x + y), w0, w1, w2, w3, w4] σ := q_iadd t207_80
theorem t207_81 : decode (mb 207) 81 = .ok (.iaload, 1) := by decide +kernel
theorem s207_81_o102 (d : Nat) (l0 : Value) (l1 : Value) (l2 : Value) (l3 : Value) (l4 : Value) (i : Int32) (w0 w1 w2 w3 : Value) (σ : Hs) : ru d 207 81 [l0, l1, l2, l3, l4] [.int i, .ref 102, w0, w1, w2, w3] σ = gd (vp_in i 96) (ru d 207 82 [l0, l1, l2, l3, l4] [.int (σ 102 i.toNatClampNeg), w0, w1, w2, w3] σ) := q_iald t207_81 rfl (by decide +kernel) rfl
theorem t207_82 : decode (mb 207) 82 = .ok (.invokevirtual 100, 3) := by decide +kernel
theorem s207_82_o87 (d : Nat) (l0 : Value) (l1 : Value) (l2 : Value) (l3 : Value) (l4 : Value) (v1 v2 v3 v4 : Value) (σ : Hs) : ru d 207 82 [l0, l1, l2, l3, l4] [v4, v3, v2, v1, .ref 87] σ = kont (callD d 124 [.ref 87, v1, v2, v3, v4] σ) d 207 85 [l0, l1, l2, l3, l4] [] := q_invv t207_82 mo207 K8_100 mj124 rfl rfl rfl rfl (Nat.le_of_ble_eq_true rfl)
theorem t207_85 : decode (mb 207) 85 = .ok (.ifCond .eq 19, 3) := by decide +kernel
theorem s207_85 (d : Nat) (l0 : Value) (l1 : Value) (l2 : Value) (l3 : Value) (l4 : Value) (x : Int32) (σ : Hs) : ru d 207 85 [l0, l1, l2, l3, l4] [.int x] σ = if x = 0 then ru d 207 104 [l0, l1, l2, l3, l4] [] σ else ru d 207 88 [l0, l1, l2, l3, l4] [] σ := q_if_eq t207_85 (by decide +kernel)
theorem t207_88 : decode (mb 207) 88 = .ok (.aload_n 0, 1) := by decide +kernel
theorem s207_88 (d : Nat) (a0 : Nat) (l1 : Value) (l2 : Value) (l3 : Value) (l4 : Value) (σ : Hs) : ru d 207 88 [.ref a0, l1, l2, l3, l4] [] σ = ru d 207 89 [.ref a0, l1, l2, l3, l4] [.ref a0] σ := q_aload_n t207_88 rfl
theorem t207_89 : decode (mb 207) 89 = .ok (.aload_n 0, 1) := by decide +kernel
theorem s207_89 (d : Nat) (a0 : Nat) (l1 : Value) (l2 : Value) (l3 : Value) (l4 : Value) (w0 : Value) (σ : Hs) : ru d 207 89 [.ref a0, l1, l2, l3, l4] [w0] σ = ru d 207 90 [.ref a0, l1, l2, l3, l4] [.ref a0, w0] σ := q_aload_n t207_89 rfl
theorem t207_90 : decode (mb 207) 90 = .ok (.getfield 61, 3) := by decide +kernel
theorem s207_90_o87 (d : Nat) (l0 : Value) (l1 : Value) (l2 : Value) (l3 : Value) (l4 : Value) (w0 : Value) (σ : Hs) : ru d 207 90 [l0, l1, l2, l3, l4] [.ref 87, w0] σ = ru d 207 93 [l0, l1, l2, l3, l4] [.ref 102, w0] σ := q_getf t207_90 mo207 F8_61 rfl rfl
theorem t207_93 : decode (mb 207) 93 = .ok (.iload_n 3, 1) := by decide +kernel
theorem s207_93 (d : Nat) (l0 : Value) (l1 : Value) (l2 : Value) (i3 : Int32) (l4 : Value) (w0 w1 : Value) (σ : Hs) : ru d 207 93 [l0, l1, l2, .int i3, l4] [w0, w1] σ = ru d 207 94 [l0, l1, l2, .int i3, l4] [.int i3, w0, w1] σ := q_iload_n t207_93 rfl
theorem t207_94 : decode (mb 207) 94 = .ok (.iconst 1, 1) := by decide +kernel
theorem s207_94 (d : Nat) (l0 : Value) (l1 : Value) (l2 : Value) (l3 : Value) (l4 : Value) (w0 w1 w2 : Value) (σ : Hs) : ru d 207 94 [l0, l1, l2, l3, l4] [w0, w1, w2] σ = ru d 207 95 [l0, l1, l2, l3, l4] [.int 1, w0, w1, w2] σ := q_iconst t207_94 (by decide +kernel)
theorem t207_95 : decode (mb 207) 95 = .ok (.iadd, 1) := by decide +kernel
theorem s207_95 (d : Nat) (l0 : Value) (l1 : Value) (l2 : Value) (l3 : Value) (l4 : Value) (x y : Int32) (w0 w1 : Value) (σ : Hs) : ru d 207 95 [l0, l1, l2, l3, l4] [.int y, .int x, w0, w1] σ = ru d 207 96 [l0, l1, l2, l3, l4] [.int (x + y), w0, w1] σ := q_iadd t207_95
theorem t207_96 : decode (mb 207) 96 = .ok (.iaload, 1) := by decide +kernel
theorem s207_96_o102 (d : Nat) (l0 : Value) (l1 : Value) (l2 : Value) (l3 : Value) (l4 : Value) (i : Int32) (w0 : Value) (σ : Hs) : ru d 207 96 [l0, l1, l2, l3, l4] [.int i, .ref 102, w0] σ = gd (vp_in i 96) (ru d 207 97 [l0, l1, l2, l3, l4] [.int (σ 102 i.toNatClampNeg), w0] σ) := q_iald t207_96 rfl (by decide +kernel) rfl
theorem t207_97 : decode (mb 207) 97 = .ok (.invokevirtual 92, 3) := by decide +kernel
theorem s207_97_o87 (d : Nat) (l0 : Value) (l1 : Value) (l2 : Value) (l3 : Value) (l4 : Value) (v1 : Value) (σ : Hs) : ru d 207 97 [l0, l1, l2, l3, l4] [v1, .ref 87] σ = kont (callD d 123 [.ref 87, v1] σ) d 207 100 [l0, l1, l2, l3, l4] [] := q_invv t207_97 mo207 K8_92 mj123 rfl rfl rfl rfl (Nat.le_of_ble_eq_true rfl)
theorem t207_100 : decode (mb 207) 100 = .ok (.iconst 5, 1) := by decide +kernel
theorem s207_100 (d : Nat) (l0 : Value) (l1 : Value) (l2 : Value) (l3 : Value) (l4 : Value) (w0 : Value) (σ : Hs) : ru d 207 100 [l0, l1, l2, l3, l4] [w0] σ = ru d 207 101 [l0, l1, l2, l3, l4] [.int 5, w0] σ := q_iconst t207_100 (by decide +kernel)
theorem t207_101 : decode (mb 207) 101 = .ok (.if_icmp .ne 5, 3) := by decide +kernel
theorem s207_101 (d : Nat) (l0 : Value) (l1 : Value) (l2 : Value) (l3 : Value) (l4 : Value) (x y : Int32) (σ : Hs) : ru d 207 101 [l0, l1, l2, l3, l4] [.int y, .int x] σ = if x = y then ru d 207 104 [l0, l1, l2, l3, l4] [] σ else ru d 207 106 [l0, l1, l2, l3, l4] [] σ := q_ic_ne t207_101 (by decide +kernel)
theorem t207_104 : decode (mb 207) 104 = .ok (.iload_n 2, 1) := by decide +kernel
theorem s207_104 (d : Nat) (l0 : Value) (l1 : Value) (i2 : Int32) (l3 : Value) (l4 : Value) (σ : Hs) : ru d 207 104 [l0, l1, .int i2, l3, l4] [] σ = ru d 207 105 [l0, l1, .int i2, l3, l4] [.int i2] σ := q_iload_n t207_104 rfl
theorem t207_105 : decode (mb 207) 105 = .ok (.ireturn, 1) := by decide +kernel
theorem s207_105 (d : Nat) (l0 : Value) (l1 : Value) (l2 : Value) (l3 : Value) (l4 : Value) (x : Int32) (σ : Hs) : ru d 207 105 [l0, l1, l2, l3, l4] [.int x] σ = some (some (.int x), σ) := q_ireti t207_105 mr207
theorem t207_106 : decode (mb 207) 106 = .ok (.aload_n 0, 1) := by decide +kernel
theorem s207_106 (d : Nat) (a0 : Nat) (l1 : Value) (l2 : Value) (l3 : Value) (l4 : Value) (σ : Hs) : ru d 207 106 [.ref a0, l1, l2, l3, l4] [] σ = ru d 207 107 [.ref a0, l1, l2, l3, l4] [.ref a0] σ := q_aload_n t207_106 rfl
theorem t207_107 : decode (mb 207) 107 = .ok (.aload_n 0, 1) := by decide +kernel
theorem s207_107 (d : Nat) (a0 : Nat) (l1 : Value) (l2 : Value) (l3 : Value) (l4 : Value) (w0 : Value) (σ : Hs) : ru d 207 107 [.ref a0, l1, l2, l3, l4] [w0] σ = ru d 207 108 [.ref a0, l1, l2, l3, l4] [.ref a0, w0] σ := q_aload_n t207_107 rfl
theorem t207_108 : decode (mb 207) 108 = .ok (.getfield 61, 3) := by decide +kernel
theorem s207_108_o87 (d : Nat) (l0 : Value) (l1 : Value) (l2 : Value) (l3 : Value) (l4 : Value) (w0 : Value) (σ : Hs) : ru d 207 108 [l0, l1, l2, l3, l4] [.ref 87, w0] σ = ru d 207 111 [l0, l1, l2, l3, l4] [.ref 102, w0] σ := q_getf t207_108 mo207 F8_61 rfl rfl
theorem t207_111 : decode (mb 207) 111 = .ok (.iload_n 3, 1) := by decide +kernel
theorem s207_111 (d : Nat) (l0 : Value) (l1 : Value) (l2 : Value) (i3 : Int32) (l4 : Value) (w0 w1 : Value) (σ : Hs) : ru d 207 111 [l0, l1, l2, .int i3, l4] [w0, w1] σ = ru d 207 112 [l0, l1, l2, .int i3, l4] [.int i3, w0, w1] σ := q_iload_n t207_111 rfl
theorem t207_112 : decode (mb 207) 112 = .ok (.iaload, 1) := by decide +kernel
theorem s207_112_o102 (d : Nat) (l0 : Value) (l1 : Value) (l2 : Value) (l3 : Value) (l4 : Value) (i : Int32) (w0 : Value) (σ : Hs) : ru d 207 112 [l0, l1, l2, l3, l4] [.int i, .ref 102, w0] σ = gd (vp_in i 96) (ru d 207 113 [l0, l1, l2, l3, l4] [.int (σ 102 i.toNatClampNeg), w0] σ) := q_iald t207_112 rfl (by decide +kernel) rfl
theorem t207_113 : decode (mb 207) 113 = .ok (.aload_n 0, 1) := by decide +kernel
theorem s207_113 (d : Nat) (a0 : Nat) (l1 : Value) (l2 : Value) (l3 : Value) (l4 : Value) (w0 w1 : Value) (σ : Hs) : ru d 207 113 [.ref a0, l1, l2, l3, l4] [w0, w1] σ = ru d 207 114 [.ref a0, l1, l2, l3, l4] [.ref a0, w0, w1] σ := q_aload_n t207_113 rfl
theorem t207_114 : decode (mb 207) 114 = .ok (.getfield 61, 3) := by decide +kernel
theorem s207_114_o87 (d : Nat) (l0 : Value) (l1 : Value) (l2 : Value) (l3 : Value) (l4 : Value) (w0 w1 : Value) (σ : Hs) : ru d 207 114 [l0, l1, l2, l3, l4] [.ref 87, w0, w1] σ = ru d 207 117 [l0, l1, l2, l3, l4] [.ref 102, w0, w1] σ := q_getf t207_114 mo207 F8_61 rfl rfl
theorem t207_117 : decode (mb 207) 117 = .ok (.iload_n 3, 1) := by decide +kernel
theorem s207_117 (d : Nat) (l0 : Value) (l1 : Value) (l2 : Value) (i3 : Int32) (l4 : Value) (w0 w1 w2 : Value) (σ : Hs) : ru d 207 117 [l0, l1, l2, .int i3, l4] [w0, w1, w2] σ = ru d 207 118 [l0, l1, l2, .int i3, l4] [.int i3, w0, w1, w2] σ := q_iload_n t207_117 rfl
theorem t207_118 : decode (mb 207) 118 = .ok (.iconst 1, 1) := by decide +kernel
theorem s207_118 (d : Nat) (l0 : Value) (l1 : Value) (l2 : Value) (l3 : Value) (l4 : Value) (w0 w1 w2 w3 : Value) (σ : Hs) : ru d 207 118 [l0, l1, l2, l3, l4] [w0, w1, w2, w3] σ = ru d 207 119 [l0, l1, l2, l3, l4] [.int 1, w0, w1, w2, w3] σ := q_iconst t207_118 (by decide +kernel)
theorem t207_119 : decode (mb 207) 119 = .ok (.iadd, 1) := by decide +kernel
theorem s207_119 (d : Nat) (l0 : Value) (l1 : Value) (l2 : Value) (l3 : Value) (l4 : Value) (x y : Int32) (w0 w1 w2 : Value) (σ : Hs) : ru d 207 119 [l0, l1, l2, l3, l4] [.int y, .int x, w0, w1, w2] σ = ru d 207 120 [l0, l1, l2, l3, l4] [.int (x + y), w0, w1, w2] σ := q_iadd t207_119
theorem t207_120 : decode (mb 207) 120 = .ok (.iaload, 1) := by decide +kernel
theorem s207_120_o102 (d : Nat) (l0 : Value) (l1 : Value) (l2 : Value) (l3 : Value) (l4 : Value) (i : Int32) (w0 w1 : Value) (σ : Hs) : ru d 207 120 [l0, l1, l2, l3, l4] [.int i, .ref 102, w0, w1] σ = gd (vp_in i 96) (ru d 207 121 [l0, l1, l2, l3, l4] [.int (σ 102 i.toNatClampNeg), w0, w1] σ) := q_iald t207_120 rfl (by decide +kernel) rfl
theorem t207_121 : decode (mb 207) 121 = .ok (.aload_n 0, 1) := by decide +kernel
theorem s207_121 (d : Nat) (a0 : Nat) (l1 : Value) (l2 : Value) (l3 : Value) (l4 : Value) (w0 w1 w2 : Value) (σ : Hs) : ru d 207 121 [.ref a0, l1, l2, l3, l4] [w0, w1, w2] σ = ru d 207 122 [.ref a0, l1, l2, l3, l4] [.ref a0, w0, w1, w2] σ := q_aload_n t207_121 rfl
theorem t207_122 : decode (mb 207) 122 = .ok (.getfield 61, 3) := by decide +kernel
theorem s207_122_o87 (d : Nat) (l0 : Value) (l1 : Value) (l2 : Value) (l3 : Value) (l4 : Value) (w0 w1 w2 : Value) (σ : Hs) : ru d 207 122 [l0, l1, l2, l3, l4] [.ref 87, w0, w1, w2] σ = ru d 207 125 [l0, l1, l2, l3, l4] [.ref 102, w0, w1, w2] σ := q_getf t207_122 mo207 F8_61 rfl rfl
theorem t207_125 : decode (mb 207) 125 = .ok (.iload_n 3, 1) := by decide +kernel
theorem s207_125 (d : Nat) (l0 : Value) (l1 : Value) (l2 : Value) (i3 : Int32) (l4 : Value) (w0 w1 w2 w3 : Value) (σ : Hs) : ru d 207 125 [l0, l1, l2, .int i3, l4] [w0, w1, w2, w3] σ = ru d 207 126 [l0, l1, l2, .int i3, l4] [.int i3, w0, w1, w2, w3] σ := q_iload_n t207_125 rfl
theorem t207_126 : decode (mb 207) 126 = .ok (.iconst 2, 1) := by decide +kernel
theorem s207_126 (d : Nat) (l0 : Value) (l1 : Value) (l2 : Value) (l3 : Value) (l4 : Value) (w0 w1 w2 w3 w4 : Value) (σ : Hs) : ru d 207 126 [l0, l1, l2, l3, l4] [w0, w1, w2, w3, w4] σ = ru d 207 127 [l0, l1, l2, l3, l4] [.int 2, w0, w1, w2, w3, w4] σ := q_iconst t207_126 (by decide +kernel)
theorem t207_127 : decode (mb 207) 127 = .ok (.iadd, 1) := by decide +kernel
theorem s207_127 (d : Nat) (l0 : Value) (l1 : Value) (l2 : Value) (l3 : Value) (l4 : Value) (x y : Int32) (w0 w1 w2 w3 : Value) (σ : Hs) : ru d 207 127 [l0, l1, l2, l3, l4] [.int y, .int x, w0, w1, w2, w3] σ = ru d 207 128 [l0, l1, l2, l3, l4] [.int (x + y), w0, w1, w2, w3] σ := q_iadd t207_127
theorem t207_128 : decode (mb 207) 128 = .ok (.iaload, 1) := by decide +kernel
theorem s207_128_o102 (d : Nat) (l0 : Value) (l1 : Value) (l2 : Value) (l3 : Value) (l4 : Value) (i : Int32) (w0 w1 w2 : Value) (σ : Hs) : ru d 207 128 [l0, l1, l2, l3, l4] [.int i, .ref 102, w0, w1, w2] σ = gd (vp_in i 96) (ru d 207 129 [l0, l1, l2, l3, l4] [.int (σ 102 i.toNatClampNeg), w0, w1, w2] σ) := q_iald t207_128 rfl (by decide +kernel) rfl
theorem t207_129 : decode (mb 207) 129 = .ok (.aload_n 0, 1) := by decide +kernel
theorem s207_129 (d : Nat) (a0 : Nat) (l1 : Value) (l2 : Value) (l3 : Value) (l4 : Value) (w0 w1 w2 w3 : Value) (σ : Hs) : ru d 207 129 [.ref a0, l1, l2, l3, l4] [w0, w1, w2, w3] σ = ru d 207 130 [.ref a0, l1, l2, l3, l4] [.ref a0, w0, w1, w2, w3] σ := q_aload_n t207_129 rfl
theorem t207_130 : decode (mb 207) 130 = .ok (.getfield 61, 3) := by decide +kernel
theorem s207_130_o87 (d : Nat) (l0 : Value) (l1 : Value) (l2 : Value) (l3 : Value) (l4 : Value) (w0 w1 w2 w3 : Value) (σ : Hs) : ru d 207 130 [l0, l1, l2, l3, l4] [.ref 87, w0, w1, w2, w3] σ = ru d 207 133 [l0, l1, l2, l3, l4] [.ref 102, w0, w1, w2, w3] σ := q_getf t207_130 mo207 F8_61 rfl rfl
theorem t207_133 : decode (mb 207) 133 = .ok (.iload_n 3, 1) := by decide +kernel
theorem s207_133 (d : Nat) (l0 : Value) (l1 : Value) (l2 : Value) (i3 : Int32) (l4 : Value) (w0 w1 w2 w3 w4 : Value) (σ : Hs) : ru d 207 133 [l0, l1, l2, .int i3, l4] [w0, w1, w2, w3, w4] σ = ru d 207 134 [l0, l1, l2, .int i3, l4] [.int i3, w0, w1, w2, w3, w4] σ := q_iload_n t207_133 rfl
theorem t207_134 : decode (mb 207) 134 = .ok (.iconst 3, 1) := by decide +kernel
theorem s207_134 (d : Nat) (l0 : Value) (l1 : Value) (l2 : Value) (l3 : Value) (l4 : Value) (w0 w1 w2 w3 w4 w5 : Value) (σ : Hs) : ru d 207 134 [l0, l1, l2, l3, l4] [w0, w1, w2, w3, w4, w5] σ = ru d 207 135 [l0, l1, l2, l3, l4] [.int 3, w0, w1, w2, w3, w4, w5] σ := q_iconst t207_134 (by decide +kernel)
theorem t207_135 : decode (mb 207) 135 = .ok (.iadd, 1) := by decide +kernel
theorem s207_135 (d : Nat) (l0 : Value) (l1 : Value) (l2 : Value) (l3 : Value) (l4 : Value) (x y : Int32) (w0 w1 w2 w3 w4 : Value) (σ : Hs) : ru d 207 135 [l0, l1, l2, l3, l4] [.int y, .int x, w0, w1, w2, w3, w4] σ = ru d 207 136 [l0, l1, l2, l3, l4] [.int (x + y), w0, w1, w2, w3, w4] σ := q_iadd t207_135
theorem t207_136 : decode (mb 207) 136 = .ok (.iaload, 1) := by decide +kernel
theorem s207_136_o102 (d : Nat) (l0 : Value) (l1 : Value) (l2 : Value) (l3 : Value) (l4 : Value) (i : Int32) (w0 w1 w2 w3 : Value) (σ : Hs) : ru d 207 136 [l0, l1, l2, l3, l4] [.int i, .ref 102, w0, w1, w2, w3] σ = gd (vp_in i 96) (ru d 207 137 [l0, l1, l2, l3, l4] [.int (σ 102 i.toNatClampNeg), w0, w1, w2, w3] σ) := q_iald t207_136 rfl (by decide +kernel) rfl
theorem t207_137 : decode (mb 207) 137 = .ok (.invokevirtual 109, 3) := by decide +kernel
theorem s207_137_o87 (d : Nat) (l0 : Value) (l1 : Value) (l2 : Value) (l3 : Value) (l4 : Value) (v1 v2 v3 v4 : Value) (σ : Hs) : ru d 207 137 [l0, l1, l2, l3, l4] [v4, v3, v2, v1, .ref 87] σ = kont (callD d 125 [.ref 87, v1, v2, v3, v4] σ) d 207 140 [l0, l1, l2, l3, l4] [] := q_invv t207_137 mo207 K8_109 mj125 rfl rfl rfl rfl (Nat.le_of_ble_eq_true rfl)
theorem t207_140 : decode (mb 207) 140 = .ok (.istore 4, 2) := by decide +kernel
theorem s207_140 (d : Nat) (l0 : Value) (l1 : Value) (l2 : Value) (i3 : Int32) (l4 : Value) (x : Int32) (σ : Hs) : ru d 207 140 [l0, l1, l2, .int i3, l4] [.int x] σ = ru d 207 142 [l0, l1, l2, .int i3, .int x] [] σ := q_istore t207_140 ⟨Nat.le_of_ble_eq_true rfl, rfl⟩ rfl
theorem t207_142 : decode (mb 207) 142 = .ok (.iinc 2 1, 3) := by decide +kernel
theorem s207_142 (d : Nat) (l0 : Value) (i1 : Int32) (i2 : Int32) (l3 : Value) (l4 : Value) (σ : Hs) : ru d 207 142 [l0, .int i1, .int i2, l3, l4] [] σ = ru d 207 145 [l0, .int i1, .int (i2 + 1), l3, l4] [] σ := q_iinc t207_142 ⟨Nat.le_of_ble_eq_true rfl, rfl⟩ rfl (by decide +kernel) rfl
theorem t207_145 : decode (mb 207) 145 = .ok (.iinc 3 4, 3) := by decide +kernel
theorem s207_145 (d : Nat) (l0 : Value) (l1 : Value) (i2 : Int32) (i3 : Int32) (l4 : Value) (σ : Hs) : ru d 207 145 [l0, l1, .int i2, .int i3, l4] [] σ = ru d 207 148 [l0, l1, .int i2, .int (i3 + 4), l4] [] σ := q_iinc t207_145 ⟨Nat.le_of_ble_eq_true rfl, rfl⟩ rfl (by decide +kernel) rfl
theorem t207_148 : decode (mb 207) 148 = .ok (.goto (-111), 3) := by decide +kernel
theorem s207_148 (d : Nat) (l0 : Value) (l1 : Value) (l2 : Value) (l3 : Value) (l4 : Value) (σ : Hs) : ru d 207 148 [l0, l1, l2, l3, l4] [] σ = ru d 207 37 [l0, l1, l2, l3, l4] [] σ := q_goto t207_148 (by decide +kernel)
theorem t207_151 : decode (mb 207) 151 = .ok (.iload_n 2, 1) := by decide +kernel
theorem s207_151 (d : Nat) (l0 : Value) (l1 : Value) (i2 : Int32) (l3 : Value) (l4 : Value) (σ : Hs) : ru d 207 151 [l0, l1, .int i2, l3, l4] [] σ = ru d 207 152 [l0, l1, .int i2, l3, l4] [.int i2] σ := q_iload_n t207_151 rfl
theorem t207_152 : decode (mb 207) 152 = .ok (.ireturn, 1) := by decide +kernel
theorem s207_152 (d : Nat) (l0 : Value) (l1 : Value) (l2 : Value) (l3 : Value) (l4 : Value) (x : Int32) (σ : Hs) : ru d 207 152 [l0, l1, l2, l3, l4] [.int x] σ = some (some (.int x), σ) := q_ireti t207_152 mr207
theorem c207 (d : Nat) (x0 : Nat) (x1 : Int32) (σ : Hs) : callD (d + 1) 207 [.ref x0, .int x1] σ = ru d 207 0 [.ref x0, .int x1, uu, uu, uu] [] σ := callD_ru ml207 rfl rfl (Nat.le_of_ble_eq_true rfl)
-- 208: Model.image()I
theorem t208_0 : decode (mb 208) 0 = .ok (.aload_n 0, 1) := by decide +kernel
theorem s208_0 (d : Nat) (a0 : Nat) (σ : Hs) : ru d 208 0 [.ref a0] [] σ = ru d 208 1 [.ref a0] [.ref a0] σ := q_aload_n t208_0 rfl
theorem t208_1 : decode (mb 208) 1 = .ok (.getfield 9, 3) := by decide +kernel
theorem s208_1_o87 (d : Nat) (l0 : Value) (σ : Hs) : ru d 208 1 [l0] [.ref 87] σ = ru d 208 4 [l0] [.ref 88] σ := q_getf t208_1 mo208 F8_9 rfl rfl
theorem t208_4 : decode (mb 208) 4 = .ok (.aload_n 0, 1) := by decide +kernel
theorem s208_4 (d : Nat) (a0 : Nat) (w0 : Value) (σ : Hs) : ru d 208 4 [.ref a0] [w0] σ = ru d 208 5 [.ref a0] [.ref a0, w0] σ := q_aload_n t208_4 rfl
theorem t208_5 : decode (mb 208) 5 = .ok (.getfield 13, 3) := by decide +kernel
theorem s208_5_o87 (d : Nat) (l0 : Value) (w0 : Value) (σ : Hs) : ru d 208 5 [l0] [.ref 87, w0] σ = ru d 208 8 [l0] [.ref 89, w0] σ := q_getf t208_5 mo208 F8_13 rfl rfl
theorem t208_8 : decode (mb 208) 8 = .ok (.invokestatic 77, 3) := by decide +kernel
theorem s208_8 (d : Nat) (l0 : Value) (v0 v1 : Value) (σ : Hs) : ru d 208 8 [l0] [v1, v0] σ = kont (callD d 115 [v0, v1] σ) d 208 11 [l0] [] := q_invs t208_8 mo208 (by decide +kernel) K8_77 mj115 (Nat.le_of_ble_eq_true rfl) rfl rfl (Nat.le_of_ble_eq_true rfl)
theorem t208_11 : decode (mb 208) 11 = .ok (.aload_n 0, 1) := by decide +kernel
theorem s208_11 (d : Nat) (a0 : Nat) (σ : Hs) : ru d 208 11 [.ref a0] [] σ = ru d 208 12 [.ref a0] [.ref a0] σ := q_aload_n t208_11 rfl
theorem t208_12 : decode (mb 208) 12 = .ok (.dup, 1) := by decide +kernel
theorem s208_12 (d : Nat) (l0 : Value) (x : Nat) (σ : Hs) : ru d 208 12 [l0] [.ref x] σ = ru d 208 13 [l0] [.ref x, .ref x] σ := q_dup t208_12 rfl
theorem t208_13 : decode (mb 208) 13 = .ok (.getfield 331, 3) := by decide +kernel
theorem s208_13_o87 (d : Nat) (l0 : Value) (w0 : Value) (σ : Hs) : ru d 208 13 [l0] [.ref 87, w0] σ = ru d 208 16 [l0] [.int (σ 87 3), w0] σ := q_getf t208_13 mo208 F8_331 rfl rfl
theorem t208_16 : decode (mb 208) 16 = .ok (.iconst 1, 1) := by decide +kernel
theorem s208_16 (d : Nat) (l0 : Value) (w0 w1 : Value) (σ : Hs) : ru d 208 16 [l0] [w0, w1] σ = ru d 208 17 [l0] [.int 1, w0, w1] σ := q_iconst t208_16 (by decide +kernel)
theorem t208_17 : decode (mb 208) 17 = .ok (.iadd, 1) := by decide +kernel
theorem s208_17 (d : Nat) (l0 : Value) (x y : Int32) (w0 : Value) (σ : Hs) : ru d 208 17 [l0] [.int y, .int x, w0] σ = ru d 208 18 [l0] [.int (x + y), w0] σ := q_iadd t208_17
theorem t208_18 : decode (mb 208) 18 = .ok (.putfield 331, 3) := by decide +kernel
theorem s208_18_o87 (d : Nat) (l0 : Value) (x : Int32) (σ : Hs) : ru d 208 18 [l0] [.int x, .ref 87] σ = ru d 208 21 [l0] [] (up2 σ 87 3 x) := q_puti t208_18 mo208 F8_331 (by decide +kernel) rfl rfl
theorem t208_21 : decode (mb 208) 21 = .ok (.aload_n 0, 1) := by decide +kernel
theorem s208_21 (d : Nat) (a0 : Nat) (σ : Hs) : ru d 208 21 [.ref a0] [] σ = ru d 208 22 [.ref a0] [.ref a0] σ := q_aload_n t208_21 rfl
theorem t208_22 : decode (mb 208) 22 = .ok (.getfield 331, 3) := by decide +kernel
theorem s208_22_o87 (d : Nat) (l0 : Value) (σ : Hs) : ru d 208 22 [l0] [.ref 87] σ = ru d 208 25 [l0] [.int (σ 87 3)] σ := q_getf t208_22 mo208 F8_331 rfl rfl
theorem t208_25 : decode (mb 208) 25 = .ok (.ireturn, 1) := by decide +kernel
theorem s208_25 (d : Nat) (l0 : Value) (x : Int32) (σ : Hs) : ru d 208 25 [l0] [.int x] σ = some (some (.int x), σ) := q_ireti t208_25 mr208
theorem c208 (d : Nat) (x0 : Nat) (σ : Hs) : callD (d + 1) 208 [.ref x0] σ = ru d 208 0 [.ref x0] [] σ := callD_ru ml208 rfl rfl (Nat.le_of_ble_eq_true rfl)
-- 209: Model.restore()I
theorem t209_0 : decode (mb 209) 0 = .ok (.aload_n 0, 1) := by decide +kernel
theorem s209_0 (d : Nat) (a0 : Nat) (σ : Hs) : ru d 209 0 [.ref a0] [] σ = ru d 209 1 [.ref a0] [.ref a0] σ := q_aload_n t209_0 rfl
theorem t209_1 : decode (mb 209) 1 = .ok (.getfield 331, 3) := by decide +kernel
theorem s209_1_o87 (d : Nat) (l0 : Value) (σ : Hs) : ru d 209 1 [l0] [.ref 87] σ = ru d 209 4 [l0] [.int (σ 87 3)] σ := q_getf t209_1 mo209 F8_331 rfl rfl
theorem t209_4 : decode (mb 209) 4 = .ok (.ifCond .ne 10, 3) := by decide +kernel
theorem s209_4 (d : Nat) (l0 : Value) (x : Int32) (σ : Hs) : ru d 209 4 [l0] [.int x] σ = if x = 0 then ru d 209 7 [l0] [] σ else ru d 209 14 [l0] [] σ := q_if_ne t209_4 (by decide +kernel)
theorem t209_7 : decode (mb 209) 7 = .ok (.aload_n 0, 1) := by decide +kernel
theorem s209_7 (d : Nat) (a0 : Nat) (σ : Hs) : ru d 209 7 [.ref a0] [] σ = ru d 209 8 [.ref a0] [.ref a0] σ := q_aload_n t209_7 rfl
theorem t209_8 : decode (mb 209) 8 = .ok (.ldc 116, 2) := by decide +kernel
theorem s209_8 (d : Nat) (l0 : Value) (w0 : Value) (σ : Hs) : ru d 209 8 [l0] [w0] σ = ru d 209 10 [l0] [.int (-1000002), w0] σ := q_ldc t209_8 mo209 C8_116
theorem t209_10 : decode (mb 209) 10 = .ok (.invokevirtual 105, 3) := by decide +kernel
theorem s209_10_o87 (d : Nat) (l0 : Value) (v1 : Value) (σ : Hs) : ru d 209 10 [l0] [v1, .ref 87] σ = kont (callD d 111 [.ref 87, v1] σ) d 209 13 [l0] [] := q_invv t209_10 mo209 K8_105 mj111 rfl rfl rfl rfl (Nat.le_of_ble_eq_true rfl)
theorem t209_13 : decode (mb 209) 13 = .ok (.ireturn, 1) := by decide +kernel
theorem s209_13 (d : Nat) (l0 : Value) (x : Int32) (σ : Hs) : ru d 209 13 [l0] [.int x] σ = some (some (.int x), σ) := q_ireti t209_13 mr209
theorem t209_14 : decode (mb 209) 14 = .ok (.aload_n 0, 1) := by decide +kernel
theorem s209_14 (d : Nat) (a0 : Nat) (σ : Hs) : ru d 209 14 [.ref a0] [] σ = ru d 209 15 [.ref a0] [.ref a0] σ := q_aload_n t209_14 rfl
theorem t209_15 : decode (mb 209) 15 = .ok (.getfield 13, 3) := by decide +kernel
theorem s209_15_o87 (d : Nat) (l0 : Value) (σ : Hs) : ru d 209 15 [l0] [.ref 87] σ = ru d 209 18 [l0] [.ref 89] σ := q_getf t209_15 mo209 F8_13 rfl rfl
theorem t209_18 : decode (mb 209) 18 = .ok (.aload_n 0, 1) := by decide +kernel
theorem s209_18 (d : Nat) (a0 : Nat) (w0 : Value) (σ : Hs) : ru d 209 18 [.ref a0] [w0] σ = ru d 209 19 [.ref a0] [.ref a0, w0] σ := q_aload_n t209_18 rfl
theorem t209_19 : decode (mb 209) 19 = .ok (.getfield 9, 3) := by decide +kernel
theorem s209_19_o87 (d : Nat) (l0 : Value) (w0 : Value) (σ : Hs) : ru d 209 19 [l0] [.ref 87, w0] σ = ru d 209 22 [l0] [.ref 88, w0] σ := q_getf t209_19 mo209 F8_9 rfl rfl
theorem t209_22 : decode (mb 209) 22 = .ok (.invokestatic 77, 3) := by decide +kernel
theorem s209_22 (d : Nat) (l0 : Value) (v0 v1 : Value) (σ : Hs) : ru d 209 22 [l0] [v1, v0] σ = kont (callD d 115 [v0, v1] σ) d 209 25 [l0] [] := q_invs t209_22 mo209 (by decide +kernel) K8_77 mj115 (Nat.le_of_ble_eq_true rfl) rfl rfl (Nat.le_of_ble_eq_true rfl)
theorem t209_25 : decode (mb 209) 25 = .ok (.aload_n 0, 1) := by decide +kernel
theorem s209_25 (d : Nat) (a0 : Nat) (σ : Hs) : ru d 209 25 [.ref a0] [] σ = ru d 209 26 [.ref a0] [.ref a0] σ := q_aload_n t209_25 rfl
theorem t209_26 : decode (mb 209) 26 = .ok (.getfield 9, 3) := by decide +kernel
theorem s209_26_o87 (d : Nat) (l0 : Value) (σ : Hs) : ru d 209 26 [l0] [.ref 87] σ = ru d 209 29 [l0] [.ref 88] σ := q_getf t209_26 mo209 F8_9 rfl rfl
theorem t209_29 : decode (mb 209) 29 = .ok (.iconst 0, 1) := by decide +kernel
theorem s209_29 (d : Nat) (l0 : Value) (w0 : Value) (σ : Hs) : ru d 209 29 [l0] [w0] σ = ru d 209 30 [l0] [.int 0, w0] σ := q_iconst t209_29 (by decide +kernel)
theorem t209_30 : decode (mb 209) 30 = .ok (.iaload, 1) := by decide +kernel
theorem s209_30_o88 (d : Nat) (l0 : Value) (i : Int32) (σ : Hs) : ru d 209 30 [l0] [.int i, .ref 88] σ = gd (vp_in i 545) (ru d 209 31 [l0] [.int (σ 88 i.toNatClampNeg)] σ) := q_iald t209_30 rfl (by decide +kernel) rfl
theorem t209_31 : decode (mb 209) 31 = .ok (.ireturn, 1) := by decide +kernel
theorem s209_31 (d : Nat) (l0 : Value) (x : Int32) (σ : Hs) : ru d 209 31 [l0] [.int x] σ = some (some (.int x), σ) := q_ireti t209_31 mr209
theorem c209 (d : Nat) (x0 : Nat) (σ : Hs) : callD (d + 1) 209 [.ref x0] σ = ru d 209 0 [.ref x0] [] σ := callD_ru ml209 rfl rfl (Nat.le_of_ble_eq_true rfl)
-- 210: Model.tell(I)I
theorem t210_0 : decode (mb 210) 0 = .ok (.aload_n 0, 1) := by decide +kernel
theorem s210_0 (d : Nat) (a0 : Nat) (l1 : Value) (σ : Hs) : ru d 210 0 [.ref a0, l1] [] σ = ru d 210 1 [.ref a0, l1] [.ref a0] σ := q_aload_n t210_0 rfl
theorem t210_1 : decode (mb 210) 1 = .ok (.getfield 9, 3) := by decide +kernel
theorem s210_1_o87 (d : Nat) (l0 : Value) (l1 : Value) (σ : Hs) : ru d 210 1 [l0, l1] [.ref 87] σ = ru d 210 4 [l0, l1] [.ref 88] σ := q_getf t210_1 mo210 F8_9 rfl rfl
theorem t210_4 : decode (mb 210) 4 = .ok (.iconst 2, 1) := by decide +kernel
theorem s210_4 (d : Nat) (l0 : Value) (l1 : Value) (w0 : Value) (σ : Hs) : ru d 210 4 [l0, l1] [w0] σ = ru d 210 5 [l0, l1] [.int 2, w0] σ := q_iconst t210_4 (by decide +kernel)
theorem t210_5 : decode (mb 210) 5 = .ok (.iaload, 1) := by decide +kernel
theorem s210_5_o88 (d : Nat) (l0 : Value) (l1 : Value) (i : Int32) (σ : Hs) : ru d 210 5 [l0, l1] [.int i, .ref 88] σ = gd (vp_in i 545) (ru d 210 6 [l0, l1] [.int (σ 88 i.toNatClampNeg)] σ) := q_iald t210_5 rfl (by decide +kernel) rfl
theorem t210_6 : decode (mb 210) 6 = .ok (.bipush 24, 2) := by decide +kernel
theorem s210_6 (d : Nat) (l0 : Value) (l1 : Value) (w0 : Value) (σ : Hs) : ru d 210 6 [l0, l1] [w0] σ = ru d 210 8 [l0, l1] [.int 24, w0] σ := q_bipush t210_6 (by decide +kernel)
theorem t210_8 : decode (mb 210) 8 = .ok (.if_icmp .ne 10, 3) := by decide +kernel
theorem s210_8 (d : Nat) (l0 : Value) (l1 : Value) (x y : Int32) (σ : Hs) : ru d 210 8 [l0, l1] [.int y, .int x] σ = if x = y then ru d 210 11 [l0, l1] [] σ else ru d 210 18 [l0, l1] [] σ := q_ic_ne t210_8 (by decide +kernel)
theorem t210_11 : decode (mb 210) 11 = .ok (.aload_n 0, 1) := by decide +kernel
theorem s210_11 (d : Nat) (a0 : Nat) (l1 : Value) (σ : Hs) : ru d 210 11 [.ref a0, l1] [] σ = ru d 210 12 [.ref a0, l1] [.ref a0] σ := q_aload_n t210_11 rfl
theorem t210_12 : decode (mb 210) 12 = .ok (.ldc 108, 2) := by decide +kernel
theorem s210_12 (d : Nat) (l0 : Value) (l1 : Value) (w0 : Value) (σ : Hs) : ru d 210 12 [l0, l1] [w0] σ = ru d 210 14 [l0, l1] [.int (-1000004), w0] σ := q_ldc t210_12 mo210 C8_108
theorem t210_14 : decode (mb 210) 14 = .ok (.invokevirtual 105, 3) := by decide +kernel
theorem s210_14_o87 (d : Nat) (l0 : Value) (l1 : Value) (v1 : Value) (σ : Hs) : ru d 210 14 [l0, l1] [v1, .ref 87] σ = kont (callD d 111 [.ref 87, v1] σ) d 210 17 [l0, l1] [] := q_invv t210_14 mo210 K8_105 mj111 rfl rfl rfl rfl (Nat.le_of_ble_eq_true rfl)
theorem t210_17 : decode (mb 210) 17 = .ok (.ireturn, 1) := by decide +kernel
theorem s210_17 (d : Nat) (l0 : Value) (l1 : Value) (x : Int32) (σ : Hs) : ru d 210 17 [l0, l1] [.int x] σ = some (some (.int x), σ) := q_ireti t210_17 mr210
theorem t210_18 : decode (mb 210) 18 = .ok (.aload_n 0, 1) := by decide +kernel
theorem s210_18 (d : Nat) (a0 : Nat) (l1 : Value) (σ : Hs) : ru d 210 18 [.ref a0, l1] [] σ = ru d 210 19 [.ref a0, l1] [.ref a0] σ := q_aload_n t210_18 rfl
theorem t210_19 : decode (mb 210) 19 = .ok (.getfield 9, 3) := by decide +kernel
theorem s210_19_o87 (d : Nat) (l0 : Value) (l1 : Value) (σ : Hs) : ru d 210 19 [l0, l1] [.ref 87] σ = ru d 210 22 [l0, l1] [.ref 88] σ := q_getf t210_19 mo210 F8_9 rfl rfl
theorem t210_22 : decode (mb 210) 22 = .ok (.sipush 335, 3) := by decide +kernel
theorem s210_22 (d : Nat) (l0 : Value) (l1 : Value) (w0 : Value) (σ : Hs) : ru d 210 22 [l0, l1] [w0] σ = ru d 210 25 [l0, l1] [.int 335, w0] σ := q_sipush t210_22 (by decide +kernel)
theorem t210_25 : decode (mb 210) 25 = .ok (.aload_n 0, 1) := by decide +kernel
theorem s210_25 (d : Nat) (a0 : Nat) (l1 : Value) (w0 w1 : Value) (σ : Hs) : ru d 210 25 [.ref a0, l1] [w0, w1] σ = ru d 210 26 [.ref a0, l1] [.ref a0, w0, w1] σ := q_aload_n t210_25 rfl
theorem t210_26 : decode (mb 210) 26 = .ok (.getfield 9, 3) := by decide +kernel
theorem s210_26_o87 (d : Nat) (l0 : Value) (l1 : Value) (w0 w1 : Value) (σ : Hs) : ru d 210 26 [l0, l1] [.ref 87, w0, w1] σ = ru d 210 29 [l0, l1] [.ref 88, w0, w1] σ := q_getf t210_26 mo210 F8_9 rfl rfl
theorem t210_29 : decode (mb 210) 29 = .ok (.iconst 2, 1) := by decide +kernel
theorem s210_29 (d : Nat) (l0 : Value) (l1 : Value) (w0 w1 w2 : Value) (σ : Hs) : ru d 210 29 [l0, l1] [w0, w1, w2] σ = ru d 210 30 [l0, l1] [.int 2, w0, w1, w2] σ := q_iconst t210_29 (by decide +kernel)
theorem t210_30 : decode (mb 210) 30 = .ok (.iaload, 1) := by decide +kernel
theorem s210_30_o88 (d : Nat) (l0 : Value) (l1 : Value) (i : Int32) (w0 w1 : Value) (σ : Hs) : ru d 210 30 [l0, l1] [.int i, .ref 88, w0, w1] σ = gd (vp_in i 545) (ru d 210 31 [l0, l1] [.int (σ 88 i.toNatClampNeg), w0, w1] σ) := q_iald t210_30 rfl (by decide +kernel) rfl
theorem t210_31 : decode (mb 210) 31 = .ok (.iadd, 1) := by decide +kernel
theorem s210_31 (d : Nat) (l0 : Value) (l1 : Value) (x y : Int32) (w0 : Value) (σ : Hs) : ru d 210 31 [l0, l1] [.int y, .int x, w0] σ = ru d 210 32 [l0, l1] [.int (x + y), w0] σ := q_iadd t210_31
theorem t210_32 : decode (mb 210) 32 = .ok (.iload_n 1, 1) := by decide +kernel
theorem s210_32 (d : Nat) (l0 : Value) (i1 : Int32) (w0 w1 : Value) (σ : Hs) : ru d 210 32 [l0, .int i1] [w0, w1] σ = ru d 210 33 [l0, .int i1] [.int i1, w0, w1] σ := q_iload_n t210_32 rfl
theorem t210_33 : decode (mb 210) 33 = .ok (.iastore, 1) := by decide +kernel
theorem s210_33_o88 (d : Nat) (l0 : Value) (l1 : Value) (i x : Int32) (σ : Hs) : ru d 210 33 [l0, l1] [.int x, .int i, .ref 88] σ = gd (vp_in i 545) (ru d 210 34 [l0, l1] [] (up2 σ 88 i.toNatClampNeg x)) := q_iast t210_33 (by decide +kernel) rfl rfl
theorem t210_34 : decode (mb 210) 34 = .ok (.aload_n 0, 1) := by decide +kernel
theorem s210_34 (d : Nat) (a0 : Nat) (l1 : Value) (σ : Hs) : ru d 210 34 [.ref a0, l1] [] σ = ru d 210 35 [.ref a0, l1] [.ref a0] σ := q_aload_n t210_34 rfl
theorem t210_35 : decode (mb 210) 35 = .ok (.getfield 9, 3) := by decide +kernel
theorem s210_35_o87 (d : Nat) (l0 : Value) (l1 : Value) (σ : Hs) : ru d 210 35 [l0, l1] [.ref 87] σ = ru d 210 38 [l0, l1] [.ref 88] σ := q_getf t210_35 mo210 F8_9 rfl rfl
theorem t210_38 : decode (mb 210) 38 = .ok (.iconst 2, 1) := by decide +kernel
theorem s210_38 (d : Nat) (l0 : Value) (l1 : Value) (w0 : Value) (σ : Hs) : ru d 210 38 [l0, l1] [w0] σ = ru d 210 39 [l0, l1] [.int 2, w0] σ := q_iconst t210_38 (by decide +kernel)
theorem t210_39 : decode (mb 210) 39 = .ok (.dup2, 1) := by decide +kernel
theorem s210_39 (d : Nat) (l0 : Value) (l1 : Value) (x0 : Int32) (x1 : Nat) (σ : Hs) : ru d 210 39 [l0, l1] [.int x0, .ref x1] σ = ru d 210 40 [l0, l1] [.int x0, .ref x1, .int x0, .ref x1] σ := q_dup2 t210_39 rfl rfl
theorem t210_40 : decode (mb 210) 40 = .ok (.iaload, 1) := by decide +kernel
theorem s210_40_o88 (d : Nat) (l0 : Value) (l1 : Value) (i : Int32) (w0 w1 : Value) (σ : Hs) : ru d 210 40 [l0, l1] [.int i, .ref 88, w0, w1] σ = gd (vp_in i 545) (ru d 210 41 [l0, l1] [.int (σ 88 i.toNatClampNeg), w0, w1] σ) := q_iald t210_40 rfl (by decide +kernel) rfl
theorem t210_41 : decode (mb 210) 41 = .ok (.iconst 1, 1) := by decide +kernel
theorem s210_41 (d : Nat) (l0 : Value) (l1 : Value) (w0 w1 w2 : Value) (σ : Hs) : ru d 210 41 [l0, l1] [w0, w1, w2] σ = ru d 210 42 [l0, l1] [.int 1, w0, w1, w2] σ := q_iconst t210_41 (by decide +kernel)
theorem t210_42 : decode (mb 210) 42 = .ok (.iadd, 1) := by decide +kernel
theorem s210_42 (d : Nat) (l0 : Value) (l1 : Value) (x y : Int32) (w0 w1 : Value) (σ : Hs) : ru d 210 42 [l0, l1] [.int y, .int x, w0, w1] σ = ru d 210 43 [l0, l1] [.int (x + y), w0, w1] σ := q_iadd t210_42
theorem t210_43 : decode (mb 210) 43 = .ok (.iastore, 1) := by decide +kernel
theorem s210_43_o88 (d : Nat) (l0 : Value) (l1 : Value) (i x : Int32) (σ : Hs) : ru d 210 43 [l0, l1] [.int x, .int i, .ref 88] σ = gd (vp_in i 545) (ru d 210 44 [l0, l1] [] (up2 σ 88 i.toNatClampNeg x)) := q_iast t210_43 (by decide +kernel) rfl rfl
theorem t210_44 : decode (mb 210) 44 = .ok (.aload_n 0, 1) := by decide +kernel
theorem s210_44 (d : Nat) (a0 : Nat) (l1 : Value) (σ : Hs) : ru d 210 44 [.ref a0, l1] [] σ = ru d 210 45 [.ref a0, l1] [.ref a0] σ := q_aload_n t210_44 rfl
theorem t210_45 : decode (mb 210) 45 = .ok (.getfield 9, 3) := by decide +kernel
theorem s210_45_o87 (d : Nat) (l0 : Value) (l1 : Value) (σ : Hs) : ru d 210 45 [l0, l1] [.ref 87] σ = ru d 210 48 [l0, l1] [.ref 88] σ := q_getf t210_45 mo210 F8_9 rfl rfl
theorem t210_48 : decode (mb 210) 48 = .ok (.iconst 2, 1) := by decide +kernel
theorem s210_48 (d : Nat) (l0 : Value) (l1 : Value) (w0 : Value) (σ : Hs) : ru d 210 48 [l0, l1] [w0] σ = ru d 210 49 [l0, l1] [.int 2, w0] σ := q_iconst t210_48 (by decide +kernel)
theorem t210_49 : decode (mb 210) 49 = .ok (.iaload, 1) := by decide +kernel
theorem s210_49_o88 (d : Nat) (l0 : Value) (l1 : Value) (i : Int32) (σ : Hs) : ru d 210 49 [l0, l1] [.int i, .ref 88] σ = gd (vp_in i 545) (ru d 210 50 [l0, l1] [.int (σ 88 i.toNatClampNeg)] σ) := q_iald t210_49 rfl (by decide +kernel) rfl
theorem t210_50 : decode (mb 210) 50 = .ok (.ireturn, 1) := by decide +kernel
theorem s210_50 (d : Nat) (l0 : Value) (l1 : Value) (x : Int32) (σ : Hs) : ru d 210 50 [l0, l1] [.int x] σ = some (some (.int x), σ) := q_ireti t210_50 mr210
theorem c210 (d : Nat) (x0 : Nat) (x1 : Int32) (σ : Hs) : callD (d + 1) 210 [.ref x0, .int x1] σ = ru d 210 0 [.ref x0, .int x1] [] σ := callD_ru ml210 rfl rfl (Nat.le_of_ble_eq_true rfl)
-- 211: Model.check(I)I
theorem t211_0 : decode (mb 211) 0 = .ok (.aload_n 0, 1) := by decide +kernel
theorem s211_0 (d : Nat) (a0 : Nat) (l1 : Value) (l2 : Value) (l3 : Value) (l4 : Value) (σ : Hs) : ru d 211 0 [.ref a0, l1, l2, l3, l4] [] σ = ru d 211 1 [.ref a0, l1, l2, l3, l4] [.ref a0] σ := q_aload_n t211_0 rfl
theorem t211_1 : decode (mb 211) 1 = .ok (.getfield 9, 3) := by decide +kernel
theorem s211_1_o87 (d : Nat) (l0 : Value) (l1 : Value) (l2 : Value) (l3 : Value) (l4 : Value) (σ : Hs) : ru d 211 1 [l0, l1, l2, l3, l4] [.ref 87] σ = ru d 211 4 [l0, l1, l2, l3, l4] [.ref 88] σ := q_getf t211_1 mo211 F8_9 rfl rfl
theorem t211_4 : decode (mb 211) 4 = .ok (.iconst 2, 1) := by decide +kernel
theorem s211_4 (d : Nat) (l0 : Value) (l1 : Value) (l2 : Value) (l3 : Value) (l4 : Value) (w0 : Value) (σ : Hs) : ru d 211 4 [l0, l1, l2, l3, l4] [w0] σ = ru d 211 5 [l0, l1, l2, l3, l4] [.int 2, w0] σ := q_iconst t211_4 (by decide +kernel)
theorem t211_5 : decode (mb 211) 5 = .ok (.iaload, 1) := by decide +kernel
theorem s211_5_o88 (d : Nat) (l0 : Value) (l1 : Value) (l2 : Value) (l3 : Value) (l4 : Value) (i : Int32) (σ : Hs) : ru d 211 5 [l0, l1, l2, l3, l4] [.int i, .ref 88] σ = gd (vp_in i 545) (ru d 211 6 [l0, l1, l2, l3, l4] [.int (σ 88 i.toNatClampNeg)] σ) := q_iald t211_5 rfl (by decide +kernel) rfl
theorem t211_6 : decode (mb 211) 6 = .ok (.istore_n 2, 1) := by decide +kernel
theorem s211_6 (d : Nat) (l0 : Value) (i1 : Int32) (l2 : Value) (l3 : Value) (l4 : Value) (x : Int32) (σ : Hs) : ru d 211 6 [l0, .int i1, l2, l3, l4] [.int x] σ = ru d 211 7 [l0, .int i1, .int x, l3, l4] [] σ := q_istore_n t211_6 ⟨Nat.le_of_ble_eq_true rfl, rfl⟩ rfl
theorem t211_7 : decode (mb 211) 7 = .ok (.aload_n 0, 1) := by decide +kernel
theorem s211_7 (d : Nat) (a0 : Nat) (l1 : Value) (l2 : Value) (l3 : Value) (l4 : Value) (σ : Hs) : ru d 211 7 [.ref a0, l1, l2, l3, l4] [] σ = ru d 211 8 [.ref a0, l1, l2, l3, l4] [.ref a0] σ := q_aload_n t211_7 rfl
theorem t211_8 : decode (mb 211) 8 = .ok (.getfield 9, 3) := by decide +kernel
theorem s211_8_o87 (d : Nat) (l0 : Value) (l1 : Value) (l2 : Value) (l3 : Value) (l4 : Value) (σ : Hs) : ru d 211 8 [l0, l1, l2, l3, l4] [.ref 87] σ = ru d 211 11 [l0, l1, l2, l3, l4] [.ref 88] σ := q_getf t211_8 mo211 F8_9 rfl rfl
theorem t211_11 : decode (mb 211) 11 = .ok (.iconst 2, 1) := by decide +kernel
theorem s211_11 (d : Nat) (l0 : Value) (l1 : Value) (l2 : Value) (l3 : Value) (l4 : Value) (w0 : Value) (σ : Hs) : ru d 211 11 [l0, l1, l2, l3, l4] [w0] σ = ru d 211 12 [l0, l1, l2, l3, l4] [.int 2, w0] σ := q_iconst t211_11 (by decide +kernel)
theorem t211_12 : decode (mb 211) 12 = .ok (.iconst 0, 1) := by decide +kernel
theorem s211_12 (d : Nat) (l0 : Value) (l1 : Value) (l2 : Value) (l3 : Value) (l4 : Value) (w0 w1 : Value) (σ : Hs) : ru d 211 12 [l0, l1, l2, l3, l4] [w0, w1] σ = ru d 211 13 [l0, l1, l2, l3, l4] [.int 0, w0, w1] σ := q_iconst t211_12 (by decide +kernel)
theorem t211_13 : decode (mb 211) 13 = .ok (.iastore, 1) := by decide +kernel
theorem s211_13_o88 (d : Nat) (l0 : Value) (l1 : Value) (l2 : Value) (l3 : Value) (l4 : Value) (i x : Int32) (σ : Hs) : ru d 211 13 [l0, l1, l2, l3, l4] [.int x, .int i, .ref 88] σ = gd (vp_in i 545) (ru d 211 14 [l0, l1, l2, l3, l4] [] (up2 σ 88 i.toNatClampNeg x)) := q_iast t211_13 (by decide +kernel) rfl rfl
theorem t211_14 : decode (mb 211) 14 = .ok (.iload_n 1, 1) := by decide +kernel
theorem s211_14 (d : Nat) (l0 : Value) (i1 : Int32) (l2 : Value) (l3 : Value) (l4 : Value) (σ : Hs) : ru d 211 14 [l0, .int i1, l2, l3, l4] [] σ = ru d 211 15 [l0, .int i1, l2, l3, l4] [.int i1] σ := q_iload_n t211_14 rfl
theorem t211_15 : decode (mb 211) 15 = .ok (.iconst 0, 1) := by decide +kernel
theorem s211_15 (d : Nat) (l0 : Value) (l1 : Value) (l2 : Value) (l3 : Value) (l4 : Value) (w0 : Value) (σ : Hs) : ru d 211 15 [l0, l1, l2, l3, l4] [w0] σ = ru d 211 16 [l0, l1, l2, l3, l4] [.int 0, w0] σ := q_iconst t211_15 (by decide +kernel)
theorem t211_16 : decode (mb 211) 16 = .ok (.iconst 5, 1) := by decide +kernel
theorem s211_16 (d : Nat) (l0 : Value) (l1 : Value) (l2 : Value) (l3 : Value) (l4 : Value) (w0 w1 : Value) (σ : Hs) : ru d 211 16 [l0, l1, l2, l3, l4] [w0, w1] σ = ru d 211 17 [l0, l1, l2, l3, l4] [.int 5, w0, w1] σ := q_iconst t211_16 (by decide +kernel)
theorem t211_17 : decode (mb 211) 17 = .ok (.invokestatic 81, 3) := by decide +kernel
theorem s211_17 (d : Nat) (l0 : Value) (l1 : Value) (l2 : Value) (l3 : Value) (l4 : Value) (v0 v1 v2 : Value) (σ : Hs) : ru d 211 17 [l0, l1, l2, l3, l4] [v2, v1, v0] σ = kont (callD d 112 [v0, v1, v2] σ) d 211 20 [l0, l1, l2, l3, l4] [] := q_invs t211_17 mo211 (by decide +kernel) K8_81 mj112 (Nat.le_of_ble_eq_true rfl) rfl rfl (Nat.le_of_ble_eq_true rfl)
theorem t211_20 : decode (mb 211) 20 = .ok (.ifCond .ne 10, 3) := by decide +kernel
theorem s211_20 (d : Nat) (l0 : Value) (l1 : Value) (l2 : Value) (l3 : Value) (l4 : Value) (x : Int32) (σ : Hs) : ru d 211 20 [l0, l1, l2, l3, l4] [.int x] σ = if x = 0 then ru d 211 23 [l0, l1, l2, l3, l4] [] σ else ru d 211 30 [l0, l1, l2, l3, l4] [] σ := q_if_ne t211_20 (by decide +kernel)
theorem t211_23 : decode (mb 211) 23 = .ok (.aload_n 0, 1) := by decide +kernel
theorem s211_23 (d : Nat) (a0 : Nat) (l1 : Value) (l2 : Value) (l3 : Value) (l4 : Value) (σ : Hs) : ru d 211 23 [.ref a0, l1, l2, l3, l4] [] σ = ru d 211 24 [.ref a0, l1, l2, l3, l4] [.ref a0] σ := q_aload_n t211_23 rfl
theorem t211_24 : decode (mb 211) 24 = .ok (.ldc 104, 2) := by decide +kernel
theorem s211_24 (d : Nat) (l0 : Value) (l1 : Value) (l2 : Value) (l3 : Value) (l4 : Value) (w0 : Value) (σ : Hs) : ru d 211 24 [l0, l1, l2, l3, l4] [w0] σ = ru d 211 26 [l0, l1, l2, l3, l4] [.int (-1000001), w0] σ := q_ldc t211_24 mo211 C8_104
theorem t211_26 : decode (mb 211) 26 = .ok (.invokevirtual 105, 3) := by decide +kernel
theorem s211_26_o87 (d : Nat) (l0 : Value) (l1 : Value) (l2 : Value) (l3 : Value) (l4 : Value) (v1 : Value) (σ : Hs) : ru d 211 26 [l0, l1, l2, l3, l4] [v1, .ref 87] σ = kont (callD d 111 [.ref 87, v1] σ) d 211 29 [l0, l1, l2, l3, l4] [] := q_invv t211_26 mo211 K8_105 mj111 rfl rfl rfl rfl (Nat.le_of_ble_eq_true rfl)
theorem t211_29 : decode (mb 211) 29 = .ok (.ireturn, 1) := by decide +kernel
theorem s211_29 (d : Nat) (l0 : Value) (l1 : Value) (l2 : Value) (l3 : Value) (l4 : Value) (x : Int32) (σ : Hs) : ru d 211 29 [l0, l1, l2, l3, l4] [.int x] σ = some (some (.int x), σ) := q_ireti t211_29 mr211
theorem t211_30 : decode (mb 211) 30 = .ok (.aload_n 0, 1) := by decide +kernel
theorem s211_30 (d : Nat) (a0 : Nat) (l1 : Value) (l2 : Value) (l3 : Value) (l4 : Value) (σ : Hs) : ru d 211 30 [.ref a0, l1, l2, l3, l4] [] σ = ru d 211 31 [.ref a0, l1, l2, l3, l4] [.ref a0] σ := q_aload_n t211_30 rfl
theorem t211_31 : decode (mb 211) 31 = .ok (.iload_n 1, 1) := by decide +kernel
theorem s211_31 (d : Nat) (l0 : Value) (i1 : Int32) (l2 : Value) (l3 : Value) (l4 : Value) (w0 : Value) (σ : Hs) : ru d 211 31 [l0, .int i1, l2, l3, l4] [w0] σ = ru d 211 32 [l0, .int i1, l2, l3, l4] [.int i1, w0] σ := q_iload_n t211_31 rfl
theorem t211_32 : decode (mb 211) 32 = .ok (.invokevirtual 92, 3) := by decide +kernel
theorem s211_32_o87 (d : Nat) (l0 : Value) (l1 : Value) (l2 : Value) (l3 : Value) (l4 : Value) (v1 : Value) (σ : Hs) : ru d 211 32 [l0, l1, l2, l3, l4] [v1, .ref 87] σ = kont (callD d 123 [.ref 87, v1] σ) d 211 35 [l0, l1, l2, l3, l4] [] := q_invv t211_32 mo211 K8_92 mj123 rfl rfl rfl rfl (Nat.le_of_ble_eq_true rfl)
theorem t211_35 : decode (mb 211) 35 = .ok (.istore_n 3, 1) := by decide +kernel
theorem s211_35 (d : Nat) (l0 : Value) (l1 : Value) (i2 : Int32) (l3 : Value) (l4 : Value) (x : Int32) (σ : Hs) : ru d 211 35 [l0, l1, .int i2, l3, l4] [.int x] σ = ru d 211 36 [l0, l1, .int i2, .int x, l4] [] σ := q_istore_n t211_35 ⟨Nat.le_of_ble_eq_true rfl, rfl⟩ rfl
theorem t211_36 : decode (mb 211) 36 = .ok (.iconst 0, 1) := by decide +kernel
theorem s211_36 (d : Nat) (l0 : Value) (l1 : Value) (l2 : Value) (l3 : Value) (l4 : Value) (σ : Hs) : ru d 211 36 [l0, l1, l2, l3, l4] [] σ = ru d 211 37 [l0, l1, l2, l3, l4] [.int 0] σ := q_iconst t211_36 (by decide +kernel)
theorem t211_37 : decode (mb 211) 37 = .ok (.istore 4, 2) := by decide +kernel
theorem s211_37 (d : Nat) (l0 : Value) (l1 : Value) (l2 : Value) (i3 : Int32) (l4 : Value) (x : Int32) (σ : Hs) : ru d 211 37 [l0, l1, l2, .int i3, l4] [.int x] σ = ru d 211 39 [l0, l1, l2, .int i3, .int x] [] σ := q_istore t211_37 ⟨Nat.le_of_ble_eq_true rfl, rfl⟩ rfl
theorem t211_39 : decode (mb 211) 39 = .ok (.iload 4, 2) := by decide +kernel
theorem s211_39 (d : Nat) (l0 : Value) (l1 : Value) (l2 : Value) (l3 : Value) (i4 : Int32) (σ : Hs) : ru d 211 39 [l0, l1, l2, l3, .int i4] [] σ = ru d 211 41 [l0, l1, l2, l3, .int i4] [.int i4] σ := q_iload t211_39 rfl
theorem t211_41 : decode (mb 211) 41 = .ok (.iload_n 2, 1) := by decide +kernel
theorem s211_41 (d : Nat) (l0 : Value) (l1 : Value) (i2 : Int32) (l3 : Value) (l4 : Value) (w0 : Value) (σ : Hs) : ru d 211 41 [l0, l1, .int i2, l3, l4] [w0] σ = ru d 211 42 [l0, l1, .int i2, l3, l4] [.int i2, w0] σ := q_iload_n t211_41 rfl
theorem t211_42 : decode (mb 211) 42 = .ok (.if_icmp .ge 41, 3) := by decide +kernel
theorem s211_42 (d : Nat) (l0 : Value) (l1 : Value) (l2 : Value) (l3 : Value) (l4 : Value) (x y : Int32) (σ : Hs) : ru d 211 42 [l0, l1, l2, l3, l4] [.int y, .int x] σ = if y ≤ x then ru d 211 83 [l0, l1, l2, l3, l4] [] σ else ru d 211 45 [l0, l1, l2, l3, l4] [] σ := q_ic_ge t211_42 (by decide +kernel)
theorem t211_45 : decode (mb 211) 45 = .ok (.iload 4, 2) := by decide +kernel
theorem s211_45 (d : Nat) (l0 : Value) (l1 : Value) (l2 : Value) (l3 : Value) (i4 : Int32) (σ : Hs) : ru d 211 45 [l0, l1, l2, l3, .int i4] [] σ = ru d 211 47 [l0, l1, l2, l3, .int i4] [.int i4] σ := q_iload t211_45 rfl
theorem t211_47 : decode (mb 211) 47 = .ok (.iload_n 3, 1) := by decide +kernel
theorem s211_47 (d : Nat) (l0 : Value) (l1 : Value) (l2 : Value) (i3 : Int32) (l4 : Value) (w0 : Value) (σ : Hs) : ru d 211 47 [l0, l1, l2, .int i3, l4] [w0] σ = ru d 211 48 [l0, l1, l2, .int i3, l4] [.int i3, w0] σ := q_iload_n t211_47 rfl
theorem t211_48 : decode (mb 211) 48 = .ok (.if_icmp .ge 35, 3) := by decide +kernel
theorem s211_48 (d : Nat) (l0 : Value) (l1 : Value) (l2 : Value) (l3 : Value) (l4 : Value) (x y : Int32) (σ : Hs) : ru d 211 48 [l0, l1, l2, l3, l4] [.int y, .int x] σ = if y ≤ x then ru d 211 83 [l0, l1, l2, l3, l4] [] σ else ru d 211 51 [l0, l1, l2, l3, l4] [] σ := q_ic_ge t211_48 (by decide +kernel)
theorem t211_51 : decode (mb 211) 51 = .ok (.aload_n 0, 1) := by decide +kernel
theorem s211_51 (d : Nat) (a0 : Nat) (l1 : Value) (l2 : Value) (l3 : Value) (l4 : Value) (σ : Hs) : ru d 211 51 [.ref a0, l1, l2, l3, l4] [] σ = ru d 211 52 [.ref a0, l1, l2, l3, l4] [.ref a0] σ := q_aload_n t211_51 rfl
theorem t211_52 : decode (mb 211) 52 = .ok (.getfield 9, 3) := by decide +kernel
theorem s211_52_o87 (d : Nat) (l0 : Value) (l1 : Value) (l2 : Value) (l3 : Value) (l4 : Value) (σ : Hs) : ru d 211 52 [l0, l1, l2, l3, l4] [.ref 87] σ = ru d 211 55 [l0, l1, l2, l3, l4] [.ref 88] σ := q_getf t211_52 mo211 F8_9 rfl rfl
theorem t211_55 : decode (mb 211) 55 = .ok (.sipush 335, 3) := by decide +kernel
theorem s211_55 (d : Nat) (l0 : Value) (l1 : Value) (l2 : Value) (l3 : Value) (l4 : Value) (w0 : Value) (σ : Hs) : ru d 211 55 [l0, l1, l2, l3, l4] [w0] σ = ru d 211 58 [l0, l1, l2, l3, l4] [.int 335, w0] σ := q_sipush t211_55 (by decide +kernel)
theorem t211_58 : decode (mb 211) 58 = .ok (.iload 4, 2) := by decide +kernel
theorem s211_58 (d : Nat) (l0 : Value) (l1 : Value) (l2 : Value) (l3 : Value) (i4 : Int32) (w0 w1 : Value) (σ : Hs) : ru d 211 58 [l0, l1, l2, l3, .int i4] [w0, w1] σ = ru d 211 60 [l0, l1, l2, l3, .int i4] [.int i4, w0, w1] σ := q_iload t211_58 rfl
theorem t211_60 : decode (mb 211) 60 = .ok (.iadd, 1) := by decide +kernel
theorem s211_60 (d : Nat) (l0 : Value) (l1 : Value) (l2 : Value) (l3 : Value) (l4 : Value) (x y : Int32) (w0 : Value) (σ : Hs) : ru d 211 60 [l0, l1, l2, l3, l4] [.int y, .int x, w0] σ = ru d 211 61 [l0, l1, l2, l3, l4] [.int (x + y), w0] σ := q_iadd t211_60
theorem t211_61 : decode (mb 211) 61 = .ok (.iaload, 1) := by decide +kernel
theorem s211_61_o88 (d : Nat) (l0 : Value) (l1 : Value) (l2 : Value) (l3 : Value) (l4 : Value) (i : Int32) (σ : Hs) : ru d 211 61 [l0, l1, l2, l3, l4] [.int i, .ref 88] σ = gd (vp_in i 545) (ru d 211 62 [l0, l1, l2, l3, l4] [.int (σ 88 i.toNatClampNeg)] σ) := q_iald t211_61 rfl (by decide +kernel) rfl
theorem t211_62 : decode (mb 211) 62 = .ok (.aload_n 0, 1) := by decide +kernel
theorem s211_62 (d : Nat) (a0 : Nat) (l1 : Value) (l2 : Value) (l3 : Value) (l4 : Value) (w0 : Value) (σ : Hs) : ru d 211 62 [.ref a0, l1, l2, l3, l4] [w0] σ = ru d 211 63 [.ref a0, l1, l2, l3, l4] [.ref a0, w0] σ := q_aload_n t211_62 rfl
theorem t211_63 : decode (mb 211) 63 = .ok (.bipush 6, 2) := by decide +kernel
theorem s211_63 (d : Nat) (l0 : Value) (l1 : Value) (l2 : Value) (l3 : Value) (l4 : Value) (w0 w1 : Value) (σ : Hs) : ru d 211 63 [l0, l1, l2, l3, l4] [w0, w1] σ = ru d 211 65 [l0, l1, l2, l3, l4] [.int 6, w0, w1] σ := q_bipush t211_63 (by decide +kernel)
theorem t211_65 : decode (mb 211) 65 = .ok (.iload 4, 2) := by decide +kernel
theorem s211_65 (d : Nat) (l0 : Value) (l1 : Value) (l2 : Value) (l3 : Value) (i4 : Int32) (w0 w1 w2 : Value) (σ : Hs) : ru d 211 65 [l0, l1, l2, l3, .int i4] [w0, w1, w2] σ = ru d 211 67 [l0, l1, l2, l3, .int i4] [.int i4, w0, w1, w2] σ := q_iload t211_65 rfl
theorem t211_67 : decode (mb 211) 67 = .ok (.imul, 1) := by decide +kernel
theorem s211_67 (d : Nat) (l0 : Value) (l1 : Value) (l2 : Value) (l3 : Value) (l4 : Value) (x y : Int32) (w0 w1 : Value) (σ : Hs) : ru d 211 67 [l0, l1, l2, l3, l4] [.int y, .int x, w0, w1] σ = ru d 211 68 [l0, l1, l2, l3, l4] [.int (x * y), w0, w1] σ := q_imul t211_67
theorem t211_68 : decode (mb 211) 68 = .ok (.iload_n 1, 1) := by decide +kernel
theorem s211_68 (d : Nat) (l0 : Value) (i1 : Int32) (l2 : Value) (l3 : Value) (l4 : Value) (w0 w1 w2 : Value) (σ : Hs) : ru d 211 68 [l0, .int i1, l2, l3, l4] [w0, w1, w2] σ = ru d 211 69 [l0, .int i1, l2, l3, l4] [.int i1, w0, w1, w2] σ := q_iload_n t211_68 rfl
theorem t211_69 : decode (mb 211) 69 = .ok (.iadd, 1) := by decide +kernel
theorem s211_69 (d : Nat) (l0 : Value) (l1 : Value) (l2 : Value) (l3 : Value) (l4 : Value) (x y : Int32) (w0 w1 : Value) (σ : Hs) : ru d 211 69 [l0, l1, l2, l3, l4] [.int y, .int x, w0, w1] σ = ru d 211 70 [l0, l1, l2, l3, l4] [.int (x + y), w0, w1] σ := q_iadd t211_69
theorem t211_70 : decode (mb 211) 70 = .ok (.iconst 1, 1) := by decide +kernel
theorem s211_70 (d : Nat) (l0 : Value) (l1 : Value) (l2 : Value) (l3 : Value) (l4 : Value) (w0 w1 w2 : Value) (σ : Hs) : ru d 211 70 [l0, l1, l2, l3, l4] [w0, w1, w2] σ = ru d 211 71 [l0, l1, l2, l3, l4] [.int 1, w0, w1, w2] σ := q_iconst t211_70 (by decide +kernel)
theorem t211_71 : decode (mb 211) 71 = .ok (.invokevirtual 85, 3) := by decide +kernel
theorem s211_71_o87 (d : Nat) (l0 : Value) (l1 : Value) (l2 : Value) (l3 : Value) (l4 : Value) (v1 v2 : Value) (w0 : Int32) (σ : Hs) : ru d 211 71 [l0, l1, l2, l3, l4] [v2, v1, .ref 87, .int w0] σ = kont (callD d 118 [.ref 87, v1, v2] σ) d 211 74 [l0, l1, l2, l3, l4] [.int w0] := q_invv t211_71 mo211 K8_85 mj118 rfl rfl rfl rfl (Nat.le_of_ble_eq_true rfl)
theorem t211_74 : decode (mb 211) 74 = .ok (.if_icmp .ne 9, 3) := by decide +kernel
theorem s211_74 (d : Nat) (l0 : Value) (l1 : Value) (l2 : Value) (l3 : Value) (l4 : Value) (x y : Int32) (σ : Hs) : ru d 211 74 [l0, l1, l2, l3, l4] [.int y, .int x] σ = if x = y then ru d 211 77 [l0, l1, l2, l3, l4] [] σ else ru d 211 83 [l0, l1, l2, l3, l4] [] σ := q_ic_ne t211_74 (by decide +kernel)
theorem t211_77 : decode (mb 211) 77 = .ok (.iinc 4 1, 3) := by decide +kernel
theorem s211_77 (d : Nat) (l0 : Value) (l1 : Value) (l2 : Value) (i3 : Int32) (i4 : Int32) (σ : Hs) : ru d 211 77 [l0, l1, l2, .int i3, .int i4] [] σ = ru d 211 80 [l0, l1, l2, .int i3, .int (i4 + 1)] [] σ := q_iinc t211_77 ⟨Nat.le_of_ble_eq_true rfl, rfl⟩ rfl (by decide +kernel) rfl
theorem t211_80 : decode (mb 211) 80 = .ok (.goto (-41), 3) := by decide +kernel
theorem s211_80 (d : Nat) (l0 : Value) (l1 : Value) (l2 : Value) (l3 : Value) (l4 : Value) (σ : Hs) : ru d 211 80 [l0, l1, l2, l3, l4] [] σ = ru d 211 39 [l0, l1, l2, l3, l4] [] σ := q_goto t211_80 (by decide +kernel)
theorem t211_83 : decode (mb 211) 83 = .ok (.iload 4, 2) := by decide +kernel
theorem s211_83 (d : Nat) (l0 : Value) (l1 : Value) (l2 : Value) (l3 : Value) (i4 : Int32) (σ : Hs) : ru d 211 83 [l0, l1, l2, l3, .int i4] [] σ = ru d 211 85 [l0, l1, l2, l3, .int i4] [.int i4] σ := q_iload t211_83 rfl
theorem t211_85 : decode (mb 211) 85 = .ok (.iload_n 2, 1) := by decide +kernel
theorem s211_85 (d : Nat) (l0 : Value) (l1 : Value) (i2 : Int32) (l3 : Value) (l4 : Value) (w0 : Value) (σ : Hs) : ru d 211 85 [l0, l1, .int i2, l3, l4] [w0] σ = ru d 211 86 [l0, l1, .int i2, l3, l4] [.int i2, w0] σ := q_iload_n t211_85 rfl
theorem t211_86 : decode (mb 211) 86 = .ok (.if_icmp .ne 13, 3) := by decide +kernel
theorem s211_86 (d : Nat) (l0 : Value) (l1 : Value) (l2 : Value) (l3 : Value) (l4 : Value) (x y : Int32) (σ : Hs) : ru d 211 86 [l0, l1, l2, l3, l4] [.int y, .int x] σ = if x = y then ru d 211 89 [l0, l1, l2, l3, l4] [] σ else ru d 211 99 [l0, l1, l2, l3, l4] [] σ := q_ic_ne t211_86 (by decide +kernel)
theorem t211_89 : decode (mb 211) 89 = .ok (.iload 4, 2) := by decide +kernel
theorem s211_89 (d : Nat) (l0 : Value) (l1 : Value) (l2 : Value) (l3 : Value) (i4 : Int32) (σ : Hs) : ru d 211 89 [l0, l1, l2, l3, .int i4] [] σ = ru d 211 91 [l0, l1, l2, l3, .int i4] [.int i4] σ := q_iload t211_89 rfl
theorem t211_91 : decode (mb 211) 91 = .ok (.iload_n 3, 1) := by decide +kernel
theorem s211_91 (d : Nat) (l0 : Value) (l1 : Value) (l2 : Value) (i3 : Int32) (l4 : Value) (w0 : Value) (σ : Hs) : ru d 211 91 [l0, l1, l2, .int i3, l4] [w0] σ = ru d 211 92 [l0, l1, l2, .int i3, l4] [.int i3, w0] σ := q_iload_n t211_91 rfl
theorem t211_92 : decode (mb 211) 92 = .ok (.if_icmp .ne 7, 3) := by decide +kernel
theorem s211_92 (d : Nat) (l0 : Value) (l1 : Value) (l2 : Value) (l3 : Value) (l4 : Value) (x y : Int32) (σ : Hs) : ru d 211 92 [l0, l1, l2, l3, l4] [.int y, .int x] σ = if x = y then ru d 211 95 [l0, l1, l2, l3, l4] [] σ else ru d 211 99 [l0, l1, l2, l3, l4] [] σ := q_ic_ne t211_92 (by decide +kernel)
theorem t211_95 : decode (mb 211) 95 = .ok (.iconst 0, 1) := by decide +kernel
theorem s211_95 (d : Nat) (l0 : Value) (l1 : Value) (l2 : Value) (l3 : Value) (l4 : Value) (σ : Hs) : ru d 211 95 [l0, l1, l2, l3, l4] [] σ = ru d 211 96 [l0, l1, l2, l3, l4] [.int 0] σ := q_iconst t211_95 (by decide +kernel)
theorem t211_96 : decode (mb 211) 96 = .ok (.goto 7, 3) := by decide +kernel
theorem s211_96 (d : Nat) (l0 : Value) (l1 : Value) (l2 : Value) (l3 : Value) (l4 : Value) (w0 : Value) (σ : Hs) : ru d 211 96 [l0, l1, l2, l3, l4] [w0] σ = ru d 211 103 [l0, l1, l2, l3, l4] [w0] σ := q_goto t211_96 (by decide +kernel)
theorem t211_99 : decode (mb 211) 99 = .ok (.iconst 1, 1) := by decide +kernel
theorem s211_99 (d : Nat) (l0 : Value) (l1 : Value) (l2 : Value) (l3 : Value) (l4 : Value) (σ : Hs) : ru d 211 99 [l0, l1, l2, l3, l4] [] σ = ru d 211 100 [l0, l1, l2, l3, l4] [.int 1] σ := q_iconst t211_99 (by decide +kernel)
theorem t211_100 : decode (mb 211) 100 = .ok (.iload 4, 2) := by decide +kernel
theorem s211_100 (d : Nat) (l0 : Value) (l1 : Value) (l2 : Value) (l3 : Value) (i4 : Int32) (w0 : Value) (σ : Hs) : ru d 211 100 [l0, l1, l2, l3, .int i4] [w0] σ = ru d 211 102 [l0, l1, l2, l3, .int i4] [.int i4, w0] σ := q_iload t211_100 rfl
theorem t211_102 : decode (mb 211) 102 = .ok (.iadd, 1) := by decide +kernel
theorem s211_102 (d : Nat) (l0 : Value) (l1 : Value) (l2 : Value) (l3 : Value) (l4 : Value) (x y : Int32) (σ : Hs) : ru d 211 102 [l0, l1, l2, l3, l4] [.int y, .int x] σ = ru d 211 103 [l0, l1, l2, l3, l4] [.int (x + y)] σ := q_iadd t211_102
theorem t211_103 : decode (mb 211) 103 = .ok (.ireturn, 1) := by decide +kernel
theorem s211_103 (d : Nat) (l0 : Value) (l1 : Value) (l2 : Value) (l3 : Value) (l4 : Value) (x : Int32) (σ : Hs) : ru d 211 103 [l0, l1, l2, l3, l4] [.int x] σ = some (some (.int x), σ) := q_ireti t211_103 mr211
theorem c211 (d : Nat) (x0 : Nat) (x1 : Int32) (σ : Hs) : callD (d + 1) 211 [.ref x0, .int x1] σ = ru d 211 0 [.ref x0, .int x1, uu, uu, uu] [] σ := callD_ru ml211 rfl rfl (Nat.le_of_ble_eq_true rfl)
