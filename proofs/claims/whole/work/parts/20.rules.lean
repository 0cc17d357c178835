-- 201: Model.body(III)I
theorem t201_0 : decode (mb 201) 0 = .ok (.aload_n 0, 1) := by decide +kernel
theorem s201_0 (d : Nat) (a0 : Nat) (l1 : Value) (l2 : Value) (l3 : Value) (l4 : Value) (l5 : Value) (σ : Hs) : ru d 201 0 [.ref a0, l1, l2, l3, l4, l5] [] σ = ru d 201 1 [.ref a0, l1, l2, l3, l4, l5] [.ref a0] σ := q_aload_n t201_0 rfl
theorem t201_1 : decode (mb 201) 1 = .ok (.aload_n 0, 1) := by decide +kernel
theorem s201_1 (d : Nat) (a0 : Nat) (l1 : Value) (l2 : Value) (l3 : Value) (l4 : Value) (l5 : Value) (w0 : Value) (σ : Hs) : ru d 201 1 [.ref a0, l1, l2, l3, l4, l5] [w0] σ = ru d 201 2 [.ref a0, l1, l2, l3, l4, l5] [.ref a0, w0] σ := q_aload_n t201_1 rfl
theorem t201_2 : decode (mb 201) 2 = .ok (.getfield 306, 3) := by decide +kernel
theorem s201_2_o87 (d : Nat) (l0 : Value) (l1 : Value) (l2 : Value) (l3 : Value) (l4 : Value) (l5 : Value) (w0 : Value) (σ : Hs) : ru d 201 2 [l0, l1, l2, l3, l4, l5] [.ref 87, w0] σ = ru d 201 5 [l0, l1, l2, l3, l4, l5] [.int (σ 87 20), w0] σ := q_getf t201_2 mo201 F8_306 rfl rfl
theorem t201_5 : decode (mb 201) 5 = .ok (.iconst 2, 1) := by decide +kernel
theorem s201_5 (d : Nat) (l0 : Value) (l1 : Value) (l2 : Value) (l3 : Value) (l4 : Value) (l5 : Value) (w0 w1 : Value) (σ : Hs) : ru d 201 5 [l0, l1, l2, l3, l4, l5] [w0, w1] σ = ru d 201 6 [l0, l1, l2, l3, l4, l5] [.int 2, w0, w1] σ := q_iconst t201_5 (by decide +kernel)
theorem t201_6 : decode (mb 201) 6 = .ok (.invokevirtual 85, 3) := by decide +kernel
theorem s201_6_o87 (d : Nat) (l0 : Value) (l1 : Value) (l2 : Value) (l3 : Value) (l4 : Value) (l5 : Value) (v1 v2 : Value) (σ : Hs) : ru d 201 6 [l0, l1, l2, l3, l4, l5] [v2, v1, .ref 87] σ = kont (callD d 119 [.ref 87, v1, v2] σ) d 201 9 [l0, l1, l2, l3, l4, l5] [] := q_invv t201_6 mo201 K8_85 mj119 rfl rfl rfl rfl (Nat.le_of_ble_eq_true rfl)
theorem t201_9 : decode (mb 201) 9 = .ok (.istore 4, 2) := by decide +kernel
theorem s201_9 (d : Nat) (l0 : Value) (l1 : Value) (l2 : Value) (i3 : Int32) (l4 : Value) (l5 : Value) (x : Int32) (σ : Hs) : ru d 201 9 [l0, l1, l2, .int i3, l4, l5] [.int x] σ = ru d 201 11 [l0, l1, l2, .int i3, .int x, l5] [] σ := q_istore t201_9 ⟨Nat.le_of_ble_eq_true rfl, rfl⟩ rfl
theorem t201_11 : decode (mb 201) 11 = .ok (.iconst 4, 1) := by decide +kernel
theorem s201_11 (d : Nat) (l0 : Value) (l1 : Value) (l2 : Value) (l3 : Value) (l4 : Value) (l5 : Value) (σ : Hs) : ru d 201 11 [l0, l1, l2, l3, l4, l5] [] σ = ru d 201 12 [l0, l1, l2, l3, l4, l5] [.int 4] σ := q_iconst t201_11 (by decide +kernel)
theorem t201_12 : decode (mb 201) 12 = .ok (.iload_n 1, 1) := by decide +kernel
theorem s201_12 (d : Nat) (l0 : Value) (i1 : Int32) (l2 : Value) (l3 : Value) (l4 : Value) (l5 : Value) (w0 : Value) (σ : Hs) : ru d 201 12 [l0, .int i1, l2, l3, l4, l5] [w0] σ = ru d 201 13 [l0, .int i1, l2, l3, l4, l5] [.int i1, w0] σ := q_iload_n t201_12 rfl
theorem t201_13 : decode (mb 201) 13 = .ok (.imul, 1) := by decide +kernel
theorem s201_13 (d : Nat) (l0 : Value) (l1 : Value) (l2 : Value) (l3 : Value) (l4 : Value) (l5 : Value) (x y : Int32) (σ : Hs) : ru d 201 13 [l0, l1, l2, l3, l4, l5] [.int y, .int x] σ = ru d 201 14 [l0, l1, l2, l3, l4, l5] [.int (x * y)] σ := q_imul t201_13
theorem t201_14 : decode (mb 201) 14 = .ok (.iload_n 2, 1) := by decide +kernel
theorem s201_14 (d : Nat) (l0 : Value) (l1 : Value) (i2 : Int32) (l3 : Value) (l4 : Value) (l5 : Value) (w0 : Value) (σ : Hs) : ru d 201 14 [l0, l1, .int i2, l3, l4, l5] [w0] σ = ru d 201 15 [l0, l1, .int i2, l3, l4, l5] [.int i2, w0] σ := q_iload_n t201_14 rfl
theorem t201_15 : decode (mb 201) 15 = .ok (.iadd, 1) := by decide +kernel
theorem s201_15 (d : Nat) (l0 : Value) (l1 : Value) (l2 : Value) (l3 : Value) (l4 : Value) (l5 : Value) (x y : Int32) (σ : Hs) : ru d 201 15 [l0, l1, l2, l3, l4, l5] [.int y, .int x] σ = ru d 201 16 [l0, l1, l2, l3, l4, l5] [.int (x + y)] σ := q_iadd t201_15
theorem t201_16 : decode (mb 201) 16 = .ok (.tableswitch 363 0 24 #[116, 127, 142, 160, 205, 363, 363, 222, 363, 363, 247, 363, 264, 280, 363, 363, 363, 363, 295, 311, 363, 336, 363, 363, 355], 116) := by decide +kernel
theorem f201_16 (x : Int32) : (tsw 0 24 #[116, 127, 142, 160, 205, 363, 363, 222, 363, 363, 247, 363, 264, 280, 363, 363, 363, 363, 295, 311, 363, 336, 363, 363, 355] 363 x.toInt).bind (tgt 16) = some (if x = 0 then 132 else (if x = 1 then 143 else (if x = 2 then 158 else (if x = 3 then 176 else (if x = 4 then 221 else (if x = 5 then 379 else (if x = 6 then 379 else (if x = 7 then 238 else (if x = 8 then 379 else (if x = 9 then 379 else (if x = 10 then 263 else (if x = 11 then 379 else (if x = 12 then 280 else (if x = 13 then 296 else (if x = 14 then 379 else (if x = 15 then 379 else (if x = 16 then 379 else (if x = 17 then 379 else (if x = 18 then 311 else (if x = 19 then 327 else (if x = 20 then 379 else (if x = 21 then 352 else (if x = 22 then 379 else (if x = 23 then 379 else (if x = 24 then 371 else 379))))))))))))))))))))))))) := by
  by_cases h0 : x = 0
  · subst h0; decide +kernel
  by_cases h1 : x = 1
  · subst h1; decide +kernel
  by_cases h2 : x = 2
  · subst h2; decide +kernel
  by_cases h3 : x = 3
  · subst h3; decide +kernel
  by_cases h4 : x = 4
  · subst h4; decide +kernel
  by_cases h5 : x = 5
  · subst h5; decide +kernel
  by_cases h6 : x = 6
  · subst h6; decide +kernel
  by_cases h7 : x = 7
  · subst h7; decide +kernel
  by_cases h8 : x = 8
  · subst h8; decide +kernel
  by_cases h9 : x = 9
  · subst h9; decide +kernel
  by_cases h10 : x = 10
  · subst h10; decide +kernel
  by_cases h11 : x = 11
  · subst h11; decide +kernel
  by_cases h12 : x = 12
  · subst h12; decide +kernel
  by_cases h13 : x = 13
  · subst h13; decide +kernel
  by_cases h14 : x = 14
  · subst h14; decide +kernel
  by_cases h15 : x = 15
  · subst h15; decide +kernel
  by_cases h16 : x = 16
  · subst h16; decide +kernel
  by_cases h17 : x = 17
  · subst h17; decide +kernel
  by_cases h18 : x = 18
  · subst h18; decide +kernel
  by_cases h19 : x = 19
  · subst h19; decide +kernel
  by_cases h20 : x = 20
  · subst h20; decide +kernel
  by_cases h21 : x = 21
  · subst h21; decide +kernel
  by_cases h22 : x = 22
  · subst h22; decide +kernel
  by_cases h23 : x = 23
  · subst h23; decide +kernel
  by_cases h24 : x = 24
  · subst h24; decide +kernel
  have e0 : ¬ x.toInt = 0 := fun h => h0 (Int32.toInt_inj.mp (h.trans (by decide +kernel)))
  have e1 : ¬ x.toInt = 1 := fun h => h1 (Int32.toInt_inj.mp (h.trans (by decide +kernel)))
  have e2 : ¬ x.toInt = 2 := fun h => h2 (Int32.toInt_inj.mp (h.trans (by decide +kernel)))
  have e3 : ¬ x.toInt = 3 := fun h => h3 (Int32.toInt_inj.mp (h.trans (by decide +kernel)))
  have e4 : ¬ x.toInt = 4 := fun h => h4 (Int32.toInt_inj.mp (h.trans (by decide +kernel)))
  have e5 : ¬ x.toInt = 5 := fun h => h5 (Int32.toInt_inj.mp (h.trans (by decide +kernel)))
  have e6 : ¬ x.toInt = 6 := fun h => h6 (Int32.toInt_inj.mp (h.trans (by decide +kernel)))
  have e7 : ¬ x.toInt = 7 := fun h => h7 (Int32.toInt_inj.mp (h.trans (by decide +kernel)))
  have e8 : ¬ x.toInt = 8 := fun h => h8 (Int32.toInt_inj.mp (h.trans (by decide +kernel)))
  have e9 : ¬ x.toInt = 9 := fun h => h9 (Int32.toInt_inj.mp (h.trans (by decide +kernel)))
  have e10 : ¬ x.toInt = 10 := fun h => h10 (Int32.toInt_inj.mp (h.trans (by decide +kernel)))
  have e11 : ¬ x.toInt = 11 := fun h => h11 (Int32.toInt_inj.mp (h.trans (by decide +kernel)))
  have e12 : ¬ x.toInt = 12 := fun h => h12 (Int32.toInt_inj.mp (h.trans (by decide +kernel)))
  have e13 : ¬ x.toInt = 13 := fun h => h13 (Int32.toInt_inj.mp (h.trans (by decide +kernel)))
  have e14 : ¬ x.toInt = 14 := fun h => h14 (Int32.toInt_inj.mp (h.trans (by decide +kernel)))
  have e15 : ¬ x.toInt = 15 := fun h => h15 (Int32.toInt_inj.mp (h.trans (by decide +kernel)))
  have e16 : ¬ x.toInt = 16 := fun h => h16 (Int32.toInt_inj.mp (h.trans (by decide +kernel)))
  have e17 : ¬ x.toInt = 17 := fun h => h17 (Int32.toInt_inj.mp (h.trans (by decide +kernel)))
  have e18 : ¬ x.toInt = 18 := fun h => h18 (Int32.toInt_inj.mp (h.trans (by decide +kernel)))
  have e19 : ¬ x.toInt = 19 := fun h => h19 (Int32.toInt_inj.mp (h.trans (by decide +kernel)))
  have e20 : ¬ x.toInt = 20 := fun h => h20 (Int32.toInt_inj.mp (h.trans (by decide +kernel)))
  have e21 : ¬ x.toInt = 21 := fun h => h21 (Int32.toInt_inj.mp (h.trans (by decide +kernel)))
  have e22 : ¬ x.toInt = 22 := fun h => h22 (Int32.toInt_inj.mp (h.trans (by decide +kernel)))
  have e23 : ¬ x.toInt = 23 := fun h => h23 (Int32.toInt_inj.mp (h.trans (by decide +kernel)))
  have e24 : ¬ x.toInt = 24 := fun h => h24 (Int32.toInt_inj.mp (h.trans (by decide +kernel)))
  have e : x.toInt < 0 ∨ 24 < x.toInt := by omega
  unfold tsw
  rw [if_pos e, if_neg h0, if_neg h1, if_neg h2, if_neg h3, if_neg h4, if_neg h5, if_neg h6, if_neg h7, if_neg h8, if_neg h9, if_neg h10, if_neg h11, if_neg h12, if_neg h13, if_neg h14, if_neg h15, if_neg h16, if_neg h17, if_neg h18, if_neg h19, if_neg h20, if_neg h21, if_neg h22, if_neg h23, if_neg h24]
  decide +kernel
theorem s201_16 (d : Nat) (l0 : Value) (l1 : Value) (l2 : Value) (l3 : Value) (l4 : Value) (l5 : Value) (x : Int32) (σ : Hs) : ru d 201 16 [l0, l1, l2, l3, l4, l5] [.int x] σ = if x = 0 then ru d 201 132 [l0, l1, l2, l3, l4, l5] [] σ else if x = 1 then ru d 201 143 [l0, l1, l2, l3, l4, l5] [] σ else if x = 2 then ru d 201 158 [l0, l1, l2, l3, l4, l5] [] σ else if x = 3 then ru d 201 176 [l0, l1, l2, l3, l4, l5] [] σ else if x = 4 then ru d 201 221 [l0, l1, l2, l3, l4, l5] [] σ else if x = 5 then ru d 201 379 [l0, l1, l2, l3, l4, l5] [] σ else if x = 6 then ru d 201 379 [l0, l1, l2, l3, l4, l5] [] σ else if x = 7 then ru d 201 238 [l0, l1, l2, l3, l4, l5] [] σ else if x = 8 then ru d 201 379 [l0, l1, l2, l3, l4, l5] [] σ else if x = 9 then ru d 201 379 [l0, l1, l2, l3, l4, l5] [] σ else if x = 10 then ru d 201 263 [l0, l1, l2, l3, l4, l5] [] σ else if x = 11 then ru d 201 379 [l0, l1, l2, l3, l4, l5] [] σ else if x = 12 then ru d 201 280 [l0, l1, l2, l3, l4, l5] [] σ else if x = 13 then ru d 201 296 [l0, l1, l2, l3, l4, l5] [] σ else if x = 14 then ru d 201 379 [l0, l1, l2, l3, l4, l5] [] σ else if x = 15 then ru d 201 379 [l0, l1, l2, l3, l4, l5] [] σ else if x = 16 then ru d 201 379 [l0, l1, l2, l3, l4, l5] [] σ else if x = 17 then ru d 201 379 [l0, l1, l2, l3, l4, l5] [] σ else if x = 18 then ru d 201 311 [l0, l1, l2, l3, l4, l5] [] σ else if x = 19 then ru d 201 327 [l0, l1, l2, l3, l4, l5] [] σ else if x = 20 then ru d 201 379 [l0, l1, l2, l3, l4, l5] [] σ else if x = 21 then ru d 201 352 [l0, l1, l2, l3, l4, l5] [] σ else if x = 22 then ru d 201 379 [l0, l1, l2, l3, l4, l5] [] σ else if x = 23 then ru d 201 379 [l0, l1, l2, l3, l4, l5] [] σ else if x = 24 then ru d 201 371 [l0, l1, l2, l3, l4, l5] [] σ else ru d 201 379 [l0, l1, l2, l3, l4, l5] [] σ := by
  refine (q_tsw t201_16 (fun x => (if x = 0 then 132 else (if x = 1 then 143 else (if x = 2 then 158 else (if x = 3 then 176 else (if x = 4 then 221 else (if x = 5 then 379 else (if x = 6 then 379 else (if x = 7 then 238 else (if x = 8 then 379 else (if x = 9 then 379 else (if x = 10 then 263 else (if x = 11 then 379 else (if x = 12 then 280 else (if x = 13 then 296 else (if x = 14 then 379 else (if x = 15 then 379 else (if x = 16 then 379 else (if x = 17 then 379 else (if x = 18 then 311 else (if x = 19 then 327 else (if x = 20 then 379 else (if x = 21 then 352 else (if x = 22 then 379 else (if x = 23 then 379 else (if x = 24 then 371 else 379)))))))))))))))))))))))))) (f201_16 x)).trans ?_
  by_cases h0 : x = 0
  · rw [if_pos h0, if_pos h0]
  rw [if_neg h0, if_neg h0]
  by_cases h1 : x = 1
  · rw [if_pos h1, if_pos h1]
  rw [if_neg h1, if_neg h1]
  by_cases h2 : x = 2
  · rw [if_pos h2, if_pos h2]
  rw [if_neg h2, if_neg h2]
  by_cases h3 : x = 3
  · rw [if_pos h3, if_pos h3]
  rw [if_neg h3, if_neg h3]
  by_cases h4 : x = 4
  · rw [if_pos h4, if_pos h4]
  rw [if_neg h4, if_neg h4]
  by_cases h5 : x = 5
  · rw [if_pos h5, if_pos h5]
  rw [if_neg h5, if_neg h5]
  by_cases h6 : x = 6
  · rw [if_pos h6, if_pos h6]
  rw [if_neg h6, if_neg h6]
  by_cases h7 : x = 7
  · rw [if_pos h7, if_pos h7]
  rw [if_neg h7, if_neg h7]
  by_cases h8 : x = 8
  · rw [if_pos h8, if_pos h8]
  rw [if_neg h8, if_neg h8]
  by_cases h9 : x = 9
  · rw [if_pos h9, if_pos h9]
  rw [if_neg h9, if_neg h9]
  by_cases h10 : x = 10
  · rw [if_pos h10, if_pos h10]
  rw [if_neg h10, if_neg h10]
  by_cases h11 : x = 11
  · rw [if_pos h11, if_pos h11]
  rw [if_neg h11, if_neg h11]
  by_cases h12 : x = 12
  · rw [if_pos h12, if_pos h12]
  rw [if_neg h12, if_neg h12]
  by_cases h13 : x = 13
  · rw [if_pos h13, if_pos h13]
  rw [if_neg h13, if_neg h13]
  by_cases h14 : x = 14
  · rw [if_pos h14, if_pos h14]
  rw [if_neg h14, if_neg h14]
  by_cases h15 : x = 15
  · rw [if_pos h15, if_pos h15]
  rw [if_neg h15, if_neg h15]
  by_cases h16 : x = 16
  · rw [if_pos h16, if_pos h16]
  rw [if_neg h16, if_neg h16]
  by_cases h17 : x = 17
  · rw [if_pos h17, if_pos h17]
  rw [if_neg h17, if_neg h17]
  by_cases h18 : x = 18
  · rw [if_pos h18, if_pos h18]
  rw [if_neg h18, if_neg h18]
  by_cases h19 : x = 19
  · rw [if_pos h19, if_pos h19]
  rw [if_neg h19, if_neg h19]
  by_cases h20 : x = 20
  · rw [if_pos h20, if_pos h20]
  rw [if_neg h20, if_neg h20]
  by_cases h21 : x = 21
  · rw [if_pos h21, if_pos h21]
  rw [if_neg h21, if_neg h21]
  by_cases h22 : x = 22
  · rw [if_pos h22, if_pos h22]
  rw [if_neg h22, if_neg h22]
  by_cases h23 : x = 23
  · rw [if_pos h23, if_pos h23]
  rw [if_neg h23, if_neg h23]
  by_cases h24 : x = 24
  · rw [if_pos h24, if_pos h24]
  rw [if_neg h24, if_neg h24]
theorem t201_132 : decode (mb 201) 132 = .ok (.aload_n 0, 1) := by decide +kernel
theorem s201_132 (d : Nat) (a0 : Nat) (l1 : Value) (l2 : Value) (l3 : Value) (l4 : Value) (l5 : Value) (σ : Hs) : ru d 201 132 [.ref a0, l1, l2, l3, l4, l5] [] σ = ru d 201 133 [.ref a0, l1, l2, l3, l4, l5] [.ref a0] σ := q_aload_n t201_132 rfl
theorem t201_133 : decode (mb 201) 133 = .ok (.bipush 10, 2) := by decide +kernel
theorem s201_133 (d : Nat) (l0 : Value) (l1 : Value) (l2 : Value) (l3 : Value) (l4 : Value) (l5 : Value) (w0 : Value) (σ : Hs) : ru d 201 133 [l0, l1, l2, l3, l4, l5] [w0] σ = ru d 201 135 [l0, l1, l2, l3, l4, l5] [.int 10, w0] σ := q_bipush t201_133 (by decide +kernel)
theorem t201_135 : decode (mb 201) 135 = .ok (.invokevirtual 321, 3) := by decide +kernel
theorem s201_135_o87 (d : Nat) (l0 : Value) (l1 : Value) (l2 : Value) (l3 : Value) (l4 : Value) (l5 : Value) (v1 : Value) (σ : Hs) : ru d 201 135 [l0, l1, l2, l3, l4, l5] [v1, .ref 87] σ = kont (callD d 197 [.ref 87, v1] σ) d 201 138 [l0, l1, l2, l3, l4, l5] [] := q_invv t201_135 mo201 K8_321 mj197 rfl rfl rfl rfl (Nat.le_of_ble_eq_true rfl)
theorem t201_138 : decode (mb 201) 138 = .ok (.iload_n 3, 1) := by decide +kernel
theorem s201_138 (d : Nat) (l0 : Value) (l1 : Value) (l2 : Value) (i3 : Int32) (l4 : Value) (l5 : Value) (σ : Hs) : ru d 201 138 [l0, l1, l2, .int i3, l4, l5] [] σ = ru d 201 139 [l0, l1, l2, .int i3, l4, l5] [.int i3] σ := q_iload_n t201_138 rfl
theorem t201_139 : decode (mb 201) 139 = .ok (.iload 4, 2) := by decide +kernel
theorem s201_139 (d : Nat) (l0 : Value) (l1 : Value) (l2 : Value) (l3 : Value) (i4 : Int32) (l5 : Value) (w0 : Value) (σ : Hs) : ru d 201 139 [l0, l1, l2, l3, .int i4, l5] [w0] σ = ru d 201 141 [l0, l1, l2, l3, .int i4, l5] [.int i4, w0] σ := q_iload t201_139 rfl
theorem t201_141 : decode (mb 201) 141 = .ok (.iadd, 1) := by decide +kernel
theorem s201_141 (d : Nat) (l0 : Value) (l1 : Value) (l2 : Value) (l3 : Value) (l4 : Value) (l5 : Value) (x y : Int32) (σ : Hs) : ru d 201 141 [l0, l1, l2, l3, l4, l5] [.int y, .int x] σ = ru d 201 142 [l0, l1, l2, l3, l4, l5] [.int (x + y)] σ := q_iadd t201_141
theorem t201_142 : decode (mb 201) 142 = .ok (.ireturn, 1) := by decide +kernel
theorem s201_142 (d : Nat) (l0 : Value) (l1 : Value) (l2 : Value) (l3 : Value) (l4 : Value) (l5 : Value) (x : Int32) (σ : Hs) : ru d 201 142 [l0, l1, l2, l3, l4, l5] [.int x] σ = some (some (.int x), σ) := q_ireti t201_142 mr201
theorem t201_143 : decode (mb 201) 143 = .ok (.aload_n 0, 1) := by decide +kernel
theorem s201_143 (d : Nat) (a0 : Nat) (l1 : Value) (l2 : Value) (l3 : Value) (l4 : Value) (l5 : Value) (σ : Hs) : ru d 201 143 [.ref a0, l1, l2, l3, l4, l5] [] σ = ru d 201 144 [.ref a0, l1, l2, l3, l4, l5] [.ref a0] σ := q_aload_n t201_143 rfl
theorem t201_144 : decode (mb 201) 144 = .ok (.bipush 11, 2) := by decide +kernel
theorem s201_144 (d : Nat) (l0 : Value) (l1 : Value) (l2 : Value) (l3 : Value) (l4 : Value) (l5 : Value) (w0 : Value) (σ : Hs) : ru d 201 144 [l0, l1, l2, l3, l4, l5] [w0] σ = ru d 201 146 [l0, l1, l2, l3, l4, l5] [.int 11, w0] σ := q_bipush t201_144 (by decide +kernel)
theorem t201_146 : decode (mb 201) 146 = .ok (.invokevirtual 321, 3) := by decide +kernel
theorem s201_146_o87 (d : Nat) (l0 : Value) (l1 : Value) (l2 : Value) (l3 : Value) (l4 : Value) (l5 : Value) (v1 : Value) (σ : Hs) : ru d 201 146 [l0, l1, l2, l3, l4, l5] [v1, .ref 87] σ = kont (callD d 197 [.ref 87, v1] σ) d 201 149 [l0, l1, l2, l3, l4, l5] [] := q_invv t201_146 mo201 K8_321 mj197 rfl rfl rfl rfl (Nat.le_of_ble_eq_true rfl)
theorem t201_149 : decode (mb 201) 149 = .ok (.aload_n 0, 1) := by decide +kernel
theorem s201_149 (d : Nat) (a0 : Nat) (l1 : Value) (l2 : Value) (l3 : Value) (l4 : Value) (l5 : Value) (σ : Hs) : ru d 201 149 [.ref a0, l1, l2, l3, l4, l5] [] σ = ru d 201 150 [.ref a0, l1, l2, l3, l4, l5] [.ref a0] σ := q_aload_n t201_149 rfl
theorem t201_150 : decode (mb 201) 150 = .ok (.iconst 0, 1) := by decide +kernel
theorem s201_150 (d : Nat) (l0 : Value) (l1 : Value) (l2 : Value) (l3 : Value) (l4 : Value) (l5 : Value) (w0 : Value) (σ : Hs) : ru d 201 150 [l0, l1, l2, l3, l4, l5] [w0] σ = ru d 201 151 [l0, l1, l2, l3, l4, l5] [.int 0, w0] σ := q_iconst t201_150 (by decide +kernel)
theorem t201_151 : decode (mb 201) 151 = .ok (.iload_n 3, 1) := by decide +kernel
theorem s201_151 (d : Nat) (l0 : Value) (l1 : Value) (l2 : Value) (i3 : Int32) (l4 : Value) (l5 : Value) (w0 w1 : Value) (σ : Hs) : ru d 201 151 [l0, l1, l2, .int i3, l4, l5] [w0, w1] σ = ru d 201 152 [l0, l1, l2, .int i3, l4, l5] [.int i3, w0, w1] σ := q_iload_n t201_151 rfl
theorem t201_152 : decode (mb 201) 152 = .ok (.invokevirtual 324, 3) := by decide +kernel
theorem s201_152_o87 (d : Nat) (l0 : Value) (l1 : Value) (l2 : Value) (l3 : Value) (l4 : Value) (l5 : Value) (v1 v2 : Value) (σ : Hs) : ru d 201 152 [l0, l1, l2, l3, l4, l5] [v2, v1, .ref 87] σ = kont (callD d 199 [.ref 87, v1, v2] σ) d 201 155 [l0, l1, l2, l3, l4, l5] [] := q_invv t201_152 mo201 K8_324 mj199 rfl rfl rfl rfl (Nat.le_of_ble_eq_true rfl)
theorem t201_155 : decode (mb 201) 155 = .ok (.iconst 2, 1) := by decide +kernel
theorem s201_155 (d : Nat) (l0 : Value) (l1 : Value) (l2 : Value) (l3 : Value) (l4 : Value) (l5 : Value) (w0 : Value) (σ : Hs) : ru d 201 155 [l0, l1, l2, l3, l4, l5] [w0] σ = ru d 201 156 [l0, l1, l2, l3, l4, l5] [.int 2, w0] σ := q_iconst t201_155 (by decide +kernel)
theorem t201_156 : decode (mb 201) 156 = .ok (.imul, 1) := by decide +kernel
theorem s201_156 (d : Nat) (l0 : Value) (l1 : Value) (l2 : Value) (l3 : Value) (l4 : Value) (l5 : Value) (x y : Int32) (σ : Hs) : ru d 201 156 [l0, l1, l2, l3, l4, l5] [.int y, .int x] σ = ru d 201 157 [l0, l1, l2, l3, l4, l5] [.int (x * y)] σ := q_imul t201_156
theorem t201_157 : decode (mb 201) 157 = .ok (.ireturn, 1) := by decide +kernel
theorem s201_157 (d : Nat) (l0 : Value) (l1 : Value) (l2 : Value) (l3 : Value) (l4 : Value) (l5 : Value) (x : Int32) (σ : Hs) : ru d 201 157 [l0, l1, l2, l3, l4, l5] [.int x] σ = some (some (.int x), σ) := q_ireti t201_157 mr201
theorem t201_158 : decode (mb 201) 158 = .ok (.aload_n 0, 1) := by decide +kernel
theorem s201_158 (d : Nat) (a0 : Nat) (l1 : Value) (l2 : Value) (l3 : Value) (l4 : Value) (l5 : Value) (σ : Hs) : ru d 201 158 [.ref a0, l1, l2, l3, l4, l5] [] σ = ru d 201 159 [.ref a0, l1, l2, l3, l4, l5] [.ref a0] σ := q_aload_n t201_158 rfl
theorem t201_159 : decode (mb 201) 159 = .ok (.bipush 12, 2) := by decide +kernel
theorem s201_159 (d : Nat) (l0 : Value) (l1 : Value) (l2 : Value) (l3 : Value) (l4 : Value) (l5 : Value) (w0 : Value) (σ : Hs) : ru d 201 159 [l0, l1, l2, l3, l4, l5] [w0] σ = ru d 201 161 [l0, l1, l2, l3, l4, l5] [.int 12, w0] σ := q_bipush t201_159 (by decide +kernel)
theorem t201_161 : decode (mb 201) 161 = .ok (.invokevirtual 321, 3) := by decide +kernel
theorem s201_161_o87 (d : Nat) (l0 : Value) (l1 : Value) (l2 : Value) (l3 : Value) (l4 : Value) (l5 : Value) (v1 : Value) (σ : Hs) : ru d 201 161 [l0, l1, l2, l3, l4, l5] [v1, .ref 87] σ = kont (callD d 197 [.ref 87, v1] σ) d 201 164 [l0, l1, l2, l3, l4, l5] [] := q_invv t201_161 mo201 K8_321 mj197 rfl rfl rfl rfl (Nat.le_of_ble_eq_true rfl)
theorem t201_164 : decode (mb 201) 164 = .ok (.aload_n 0, 1) := by decide +kernel
theorem s201_164 (d : Nat) (a0 : Nat) (l1 : Value) (l2 : Value) (l3 : Value) (l4 : Value) (l5 : Value) (σ : Hs) : ru d 201 164 [.ref a0, l1, l2, l3, l4, l5] [] σ = ru d 201 165 [.ref a0, l1, l2, l3, l4, l5] [.ref a0] σ := q_aload_n t201_164 rfl
theorem t201_165 : decode (mb 201) 165 = .ok (.iconst 1, 1) := by decide +kernel
theorem s201_165 (d : Nat) (l0 : Value) (l1 : Value) (l2 : Value) (l3 : Value) (l4 : Value) (l5 : Value) (w0 : Value) (σ : Hs) : ru d 201 165 [l0, l1, l2, l3, l4, l5] [w0] σ = ru d 201 166 [l0, l1, l2, l3, l4, l5] [.int 1, w0] σ := q_iconst t201_165 (by decide +kernel)
theorem t201_166 : decode (mb 201) 166 = .ok (.iload_n 3, 1) := by decide +kernel
theorem s201_166 (d : Nat) (l0 : Value) (l1 : Value) (l2 : Value) (i3 : Int32) (l4 : Value) (l5 : Value) (w0 w1 : Value) (σ : Hs) : ru d 201 166 [l0, l1, l2, .int i3, l4, l5] [w0, w1] σ = ru d 201 167 [l0, l1, l2, .int i3, l4, l5] [.int i3, w0, w1] σ := q_iload_n t201_166 rfl
theorem t201_167 : decode (mb 201) 167 = .ok (.invokevirtual 324, 3) := by decide +kernel
theorem s201_167_o87 (d : Nat) (l0 : Value) (l1 : Value) (l2 : Value) (l3 : Value) (l4 : Value) (l5 : Value) (v1 v2 : Value) (σ : Hs) : ru d 201 167 [l0, l1, l2, l3, l4, l5] [v2, v1, .ref 87] σ = kont (callD d 199 [.ref 87, v1, v2] σ) d 201 170 [l0, l1, l2, l3, l4, l5] [] := q_invv t201_167 mo201 K8_324 mj199 rfl rfl rfl rfl (Nat.le_of_ble_eq_true rfl)
theorem t201_170 : decode (mb 201) 170 = .ok (.aload_n 0, 1) := by decide +kernel
theorem s201_170 (d : Nat) (a0 : Nat) (l1 : Value) (l2 : Value) (l3 : Value) (l4 : Value) (l5 : Value) (w0 : Value) (σ : Hs) : ru d 201 170 [.ref a0, l1, l2, l3, l4, l5] [w0] σ = ru d 201 171 [.ref a0, l1, l2, l3, l4, l5] [.ref a0, w0] σ := q_aload_n t201_170 rfl
theorem t201_171 : decode (mb 201) 171 = .ok (.getfield 306, 3) := by decide +kernel
theorem s201_171_o87 (d : Nat) (l0 : Value) (l1 : Value) (l2 : Value) (l3 : Value) (l4 : Value) (l5 : Value) (w0 : Value) (σ : Hs) : ru d 201 171 [l0, l1, l2, l3, l4, l5] [.ref 87, w0] σ = ru d 201 174 [l0, l1, l2, l3, l4, l5] [.int (σ 87 20), w0] σ := q_getf t201_171 mo201 F8_306 rfl rfl
theorem t201_174 : decode (mb 201) 174 = .ok (.isub, 1) := by decide +kernel
theorem s201_174 (d : Nat) (l0 : Value) (l1 : Value) (l2 : Value) (l3 : Value) (l4 : Value) (l5 : Value) (x y : Int32) (σ : Hs) : ru d 201 174 [l0, l1, l2, l3, l4, l5] [.int y, .int x] σ = ru d 201 175 [l0, l1, l2, l3, l4, l5] [.int (x - y)] σ := q_isub t201_174
theorem t201_175 : decode (mb 201) 175 = .ok (.ireturn, 1) := by decide +kernel
theorem s201_175 (d : Nat) (l0 : Value) (l1 : Value) (l2 : Value) (l3 : Value) (l4 : Value) (l5 : Value) (x : Int32) (σ : Hs) : ru d 201 175 [l0, l1, l2, l3, l4, l5] [.int x] σ = some (some (.int x), σ) := q_ireti t201_175 mr201
theorem t201_176 : decode (mb 201) 176 = .ok (.aload_n 0, 1) := by decide +kernel
theorem s201_176 (d : Nat) (a0 : Nat) (l1 : Value) (l2 : Value) (l3 : Value) (l4 : Value) (l5 : Value) (σ : Hs) : ru d 201 176 [.ref a0, l1, l2, l3, l4, l5] [] σ = ru d 201 177 [.ref a0, l1, l2, l3, l4, l5] [.ref a0] σ := q_aload_n t201_176 rfl
theorem t201_177 : decode (mb 201) 177 = .ok (.bipush 13, 2) := by decide +kernel
theorem s201_177 (d : Nat) (l0 : Value) (l1 : Value) (l2 : Value) (l3 : Value) (l4 : Value) (l5 : Value) (w0 : Value) (σ : Hs) : ru d 201 177 [l0, l1, l2, l3, l4, l5] [w0] σ = ru d 201 179 [l0, l1, l2, l3, l4, l5] [.int 13, w0] σ := q_bipush t201_177 (by decide +kernel)
theorem t201_179 : decode (mb 201) 179 = .ok (.invokevirtual 321, 3) := by decide +kernel
theorem s201_179_o87 (d : Nat) (l0 : Value) (l1 : Value) (l2 : Value) (l3 : Value) (l4 : Value) (l5 : Value) (v1 : Value) (σ : Hs) : ru d 201 179 [l0, l1, l2, l3, l4, l5] [v1, .ref 87] σ = kont (callD d 197 [.ref 87, v1] σ) d 201 182 [l0, l1, l2, l3, l4, l5] [] := q_invv t201_179 mo201 K8_321 mj197 rfl rfl rfl rfl (Nat.le_of_ble_eq_true rfl)
theorem t201_182 : decode (mb 201) 182 = .ok (.aload_n 0, 1) := by decide +kernel
theorem s201_182 (d : Nat) (a0 : Nat) (l1 : Value) (l2 : Value) (l3 : Value) (l4 : Value) (l5 : Value) (σ : Hs) : ru d 201 182 [.ref a0, l1, l2, l3, l4, l5] [] σ = ru d 201 183 [.ref a0, l1, l2, l3, l4, l5] [.ref a0] σ := q_aload_n t201_182 rfl
theorem t201_183 : decode (mb 201) 183 = .ok (.iload 4, 2) := by decide +kernel
theorem s201_183 (d : Nat) (l0 : Value) (l1 : Value) (l2 : Value) (l3 : Value) (i4 : Int32) (l5 : Value) (w0 : Value) (σ : Hs) : ru d 201 183 [l0, l1, l2, l3, .int i4, l5] [w0] σ = ru d 201 185 [l0, l1, l2, l3, .int i4, l5] [.int i4, w0] σ := q_iload t201_183 rfl
theorem t201_185 : decode (mb 201) 185 = .ok (.aload_n 0, 1) := by decide +kernel
theorem s201_185 (d : Nat) (a0 : Nat) (l1 : Value) (l2 : Value) (l3 : Value) (l4 : Value) (l5 : Value) (w0 w1 : Value) (σ : Hs) : ru d 201 185 [.ref a0, l1, l2, l3, l4, l5] [w0, w1] σ = ru d 201 186 [.ref a0, l1, l2, l3, l4, l5] [.ref a0, w0, w1] σ := q_aload_n t201_185 rfl
theorem t201_186 : decode (mb 201) 186 = .ok (.getfield 306, 3) := by decide +kernel
theorem s201_186_o87 (d : Nat) (l0 : Value) (l1 : Value) (l2 : Value) (l3 : Value) (l4 : Value) (l5 : Value) (w0 w1 : Value) (σ : Hs) : ru d 201 186 [l0, l1, l2, l3, l4, l5] [.ref 87, w0, w1] σ = ru d 201 189 [l0, l1, l2, l3, l4, l5] [.int (σ 87 20), w0, w1] σ := q_getf t201_186 mo201 F8_306 rfl rfl
theorem t201_189 : decode (mb 201) 189 = .ok (.if_icmp .ne 7, 3) := by decide +kernel
theorem s201_189 (d : Nat) (l0 : Value) (l1 : Value) (l2 : Value) (l3 : Value) (l4 : Value) (l5 : Value) (x y : Int32) (w0 : Value) (σ : Hs) : ru d 201 189 [l0, l1, l2, l3, l4, l5] [.int y, .int x, w0] σ = if x = y then ru d 201 192 [l0, l1, l2, l3, l4, l5] [w0] σ else ru d 201 196 [l0, l1, l2, l3, l4, l5] [w0] σ := q_ic_ne t201_189 (by decide +kernel)
theorem t201_192 : decode (mb 201) 192 = .ok (.iconst 1, 1) := by decide +kernel
theorem s201_192 (d : Nat) (l0 : Value) (l1 : Value) (l2 : Value) (l3 : Value) (l4 : Value) (l5 : Value) (w0 : Value) (σ : Hs) : ru d 201 192 [l0, l1, l2, l3, l4, l5] [w0] σ = ru d 201 193 [l0, l1, l2, l3, l4, l5] [.int 1, w0] σ := q_iconst t201_192 (by decide +kernel)
theorem t201_193 : decode (mb 201) 193 = .ok (.goto 4, 3) := by decide +kernel
theorem s201_193 (d : Nat) (l0 : Value) (l1 : Value) (l2 : Value) (l3 : Value) (l4 : Value) (l5 : Value) (w0 w1 : Value) (σ : Hs) : ru d 201 193 [l0, l1, l2, l3, l4, l5] [w0, w1] σ = ru d 201 197 [l0, l1, l2, l3, l4, l5] [w0, w1] σ := q_goto t201_193 (by decide +kernel)
theorem t201_196 : decode (mb 201) 196 = .ok (.iconst 0, 1) := by decide +kernel
theorem s201_196 (d : Nat) (l0 : Value) (l1 : Value) (l2 : Value) (l3 : Value) (l4 : Value) (l5 : Value) (w0 : Value) (σ : Hs) : ru d 201 196 [l0, l1, l2, l3, l4, l5] [w0] σ = ru d 201 197 [l0, l1, l2, l3, l4, l5] [.int 0, w0] σ := q_iconst t201_196 (by decide +kernel)
theorem t201_197 : decode (mb 201) 197 = .ok (.putfield 315, 3) := by decide +kernel
theorem s201_197_o87 (d : Nat) (l0 : Value) (l1 : Value) (l2 : Value) (l3 : Value) (l4 : Value) (l5 : Value) (x : Int32) (hx : isB x) (σ : Hs) : ru d 201 197 [l0, l1, l2, l3, l4, l5] [.int x, .ref 87] σ = ru d 201 200 [l0, l1, l2, l3, l4, l5] [] (up2 σ 87 21 x) := q_putz t201_197 mo201 F8_315 (by decide +kernel) rfl rfl hx
theorem t201_200 : decode (mb 201) 200 = .ok (.aload_n 0, 1) := by decide +kernel
theorem s201_200 (d : Nat) (a0 : Nat) (l1 : Value) (l2 : Value) (l3 : Value) (l4 : Value) (l5 : Value) (σ : Hs) : ru d 201 200 [.ref a0, l1, l2, l3, l4, l5] [] σ = ru d 201 201 [.ref a0, l1, l2, l3, l4, l5] [.ref a0] σ := q_aload_n t201_200 rfl
theorem t201_201 : decode (mb 201) 201 = .ok (.getfield 315, 3) := by decide +kernel
theorem s201_201_o87 (d : Nat) (l0 : Value) (l1 : Value) (l2 : Value) (l3 : Value) (l4 : Value) (l5 : Value) (σ : Hs) : ru d 201 201 [l0, l1, l2, l3, l4, l5] [.ref 87] σ = ru d 201 204 [l0, l1, l2, l3, l4, l5] [.int (σ 87 21)] σ := q_getf t201_201 mo201 F8_315 rfl rfl
theorem t201_204 : decode (mb 201) 204 = .ok (.ifCond .eq 7, 3) := by decide +kernel
theorem s201_204 (d : Nat) (l0 : Value) (l1 : Value) (l2 : Value) (l3 : Value) (l4 : Value) (l5 : Value) (x : Int32) (σ : Hs) : ru d 201 204 [l0, l1, l2, l3, l4, l5] [.int x] σ = if x = 0 then ru d 201 211 [l0, l1, l2, l3, l4, l5] [] σ else ru d 201 207 [l0, l1, l2, l3, l4, l5] [] σ := q_if_eq t201_204 (by decide +kernel)
theorem t201_207 : decode (mb 201) 207 = .ok (.iconst 0, 1) := by decide +kernel
theorem s201_207 (d : Nat) (l0 : Value) (l1 : Value) (l2 : Value) (l3 : Value) (l4 : Value) (l5 : Value) (σ : Hs) : ru d 201 207 [l0, l1, l2, l3, l4, l5] [] σ = ru d 201 208 [l0, l1, l2, l3, l4, l5] [.int 0] σ := q_iconst t201_207 (by decide +kernel)
theorem t201_208 : decode (mb 201) 208 = .ok (.goto 12, 3) := by decide +kernel
theorem s201_208 (d : Nat) (l0 : Value) (l1 : Value) (l2 : Value) (l3 : Value) (l4 : Value) (l5 : Value) (w0 : Value) (σ : Hs) : ru d 201 208 [l0, l1, l2, l3, l4, l5] [w0] σ = ru d 201 220 [l0, l1, l2, l3, l4, l5] [w0] σ := q_goto t201_208 (by decide +kernel)
theorem t201_211 : decode (mb 201) 211 = .ok (.iload_n 3, 1) := by decide +kernel
theorem s201_211 (d : Nat) (l0 : Value) (l1 : Value) (l2 : Value) (i3 : Int32) (l4 : Value) (l5 : Value) (σ : Hs) : ru d 201 211 [l0, l1, l2, .int i3, l4, l5] [] σ = ru d 201 212 [l0, l1, l2, .int i3, l4, l5] [.int i3] σ := q_iload_n t201_211 rfl
theorem t201_212 : decode (mb 201) 212 = .ok (.iload 4, 2) := by decide +kernel
theorem s201_212 (d : Nat) (l0 : Value) (l1 : Value) (l2 : Value) (l3 : Value) (i4 : Int32) (l5 : Value) (w0 : Value) (σ : Hs) : ru d 201 212 [l0, l1, l2, l3, .int i4, l5] [w0] σ = ru d 201 214 [l0, l1, l2, l3, .int i4, l5] [.int i4, w0] σ := q_iload t201_212 rfl
theorem t201_214 : decode (mb 201) 214 = .ok (.aload_n 0, 1) := by decide +kernel
theorem s201_214 (d : Nat) (a0 : Nat) (l1 : Value) (l2 : Value) (l3 : Value) (l4 : Value) (l5 : Value) (w0 w1 : Value) (σ : Hs) : ru d 201 214 [.ref a0, l1, l2, l3, l4, l5] [w0, w1] σ = ru d 201 215 [.ref a0, l1, l2, l3, l4, l5] [.ref a0, w0, w1] σ := q_aload_n t201_214 rfl
theorem t201_215 : decode (mb 201) 215 = .ok (.getfield 306, 3) := by decide +kernel
theorem s201_215_o87 (d : Nat) (l0 : Value) (l1 : Value) (l2 : Value) (l3 : Value) (l4 : Value) (l5 : Value) (w0 w1 : Value) (σ : Hs) : ru d 201 215 [l0, l1, l2, l3, l4, l5] [.ref 87, w0, w1] σ = ru d 201 218 [l0, l1, l2, l3, l4, l5] [.int (σ 87 20), w0, w1] σ := q_getf t201_215 mo201 F8_306 rfl rfl
theorem t201_218 : decode (mb 201) 218 = .ok (.isub, 1) := by decide +kernel
theorem s201_218 (d : Nat) (l0 : Value) (l1 : Value) (l2 : Value) (l3 : Value) (l4 : Value) (l5 : Value) (x y : Int32) (w0 : Value) (σ : Hs) : ru d 201 218 [l0, l1, l2, l3, l4, l5] [.int y, .int x, w0] σ = ru d 201 219 [l0, l1, l2, l3, l4, l5] [.int (x - y), w0] σ := q_isub t201_218
theorem t201_219 : decode (mb 201) 219 = .ok (.idiv, 1) := by decide +kernel
theorem s201_219 (d : Nat) (l0 : Value) (l1 : Value) (l2 : Value) (l3 : Value) (l4 : Value) (l5 : Value) (x y : Int32) (σ : Hs) : ru d 201 219 [l0, l1, l2, l3, l4, l5] [.int y, .int x] σ = gd (¬ y = 0) (ru d 201 220 [l0, l1, l2, l3, l4, l5] [.int (x / y)] σ) := q_idiv t201_219
theorem t201_220 : decode (mb 201) 220 = .ok (.ireturn, 1) := by decide +kernel
theorem s201_220 (d : Nat) (l0 : Value) (l1 : Value) (l2 : Value) (l3 : Value) (l4 : Value) (l5 : Value) (x : Int32) (σ : Hs) : ru d 201 220 [l0, l1, l2, l3, l4, l5] [.int x] σ = some (some (.int x), σ) := q_ireti t201_220 mr201
theorem t201_221 : decode (mb 201) 221 = .ok (.aload_n 0, 1) := by decide +kernel
theorem s201_221 (d : Nat) (a0 : Nat) (l1 : Value) (l2 : Value) (l3 : Value) (l4 : Value) (l5 : Value) (σ : Hs) : ru d 201 221 [.ref a0, l1, l2, l3, l4, l5] [] σ = ru d 201 222 [.ref a0, l1, l2, l3, l4, l5] [.ref a0] σ := q_aload_n t201_221 rfl
theorem t201_222 : decode (mb 201) 222 = .ok (.bipush 20, 2) := by decide +kernel
theorem s201_222 (d : Nat) (l0 : Value) (l1 : Value) (l2 : Value) (l3 : Value) (l4 : Value) (l5 : Value) (w0 : Value) (σ : Hs) : ru d 201 222 [l0, l1, l2, l3, l4, l5] [w0] σ = ru d 201 224 [l0, l1, l2, l3, l4, l5] [.int 20, w0] σ := q_bipush t201_222 (by decide +kernel)
theorem t201_224 : decode (mb 201) 224 = .ok (.invokevirtual 321, 3) := by decide +kernel
theorem s201_224_o87 (d : Nat) (l0 : Value) (l1 : Value) (l2 : Value) (l3 : Value) (l4 : Value) (l5 : Value) (v1 : Value) (σ : Hs) : ru d 201 224 [l0, l1, l2, l3, l4, l5] [v1, .ref 87] σ = kont (callD d 197 [.ref 87, v1] σ) d 201 227 [l0, l1, l2, l3, l4, l5] [] := q_invv t201_224 mo201 K8_321 mj197 rfl rfl rfl rfl (Nat.le_of_ble_eq_true rfl)
theorem t201_227 : decode (mb 201) 227 = .ok (.aload_n 0, 1) := by decide +kernel
theorem s201_227 (d : Nat) (a0 : Nat) (l1 : Value) (l2 : Value) (l3 : Value) (l4 : Value) (l5 : Value) (σ : Hs) : ru d 201 227 [.ref a0, l1, l2, l3, l4, l5] [] σ = ru d 201 228 [.ref a0, l1, l2, l3, l4, l5] [.ref a0] σ := q_aload_n t201_227 rfl
theorem t201_228 : decode (mb 201) 228 = .ok (.iconst 0, 1) := by decide +kernel
theorem s201_228 (d : Nat) (l0 : Value) (l1 : Value) (l2 : Value) (l3 : Value) (l4 : Value) (l5 : Value) (w0 : Value) (σ : Hs) : ru d 201 228 [l0, l1, l2, l3, l4, l5] [w0] σ = ru d 201 229 [l0, l1, l2, l3, l4, l5] [.int 0, w0] σ := q_iconst t201_228 (by decide +kernel)
theorem t201_229 : decode (mb 201) 229 = .ok (.iconst 0, 1) := by decide +kernel
theorem s201_229 (d : Nat) (l0 : Value) (l1 : Value) (l2 : Value) (l3 : Value) (l4 : Value) (l5 : Value) (w0 w1 : Value) (σ : Hs) : ru d 201 229 [l0, l1, l2, l3, l4, l5] [w0, w1] σ = ru d 201 230 [l0, l1, l2, l3, l4, l5] [.int 0, w0, w1] σ := q_iconst t201_229 (by decide +kernel)
theorem t201_230 : decode (mb 201) 230 = .ok (.iload_n 3, 1) := by decide +kernel
theorem s201_230 (d : Nat) (l0 : Value) (l1 : Value) (l2 : Value) (i3 : Int32) (l4 : Value) (l5 : Value) (w0 w1 w2 : Value) (σ : Hs) : ru d 201 230 [l0, l1, l2, .int i3, l4, l5] [w0, w1, w2] σ = ru d 201 231 [l0, l1, l2, .int i3, l4, l5] [.int i3, w0, w1, w2] σ := q_iload_n t201_230 rfl
theorem t201_231 : decode (mb 201) 231 = .ok (.invokevirtual 309, 3) := by decide +kernel
theorem s201_231_o87 (d : Nat) (l0 : Value) (l1 : Value) (l2 : Value) (l3 : Value) (l4 : Value) (l5 : Value) (v1 v2 v3 : Value) (σ : Hs) : ru d 201 231 [l0, l1, l2, l3, l4, l5] [v3, v2, v1, .ref 87] σ = kont (callD d 200 [.ref 87, v1, v2, v3] σ) d 201 234 [l0, l1, l2, l3, l4, l5] [] := q_invv t201_231 mo201 K8_309 mj200 rfl rfl rfl rfl (Nat.le_of_ble_eq_true rfl)
theorem t201_234 : decode (mb 201) 234 = .ok (.bipush 7, 2) := by decide +kernel
theorem s201_234 (d : Nat) (l0 : Value) (l1 : Value) (l2 : Value) (l3 : Value) (l4 : Value) (l5 : Value) (w0 : Value) (σ : Hs) : ru d 201 234 [l0, l1, l2, l3, l4, l5] [w0] σ = ru d 201 236 [l0, l1, l2, l3, l4, l5] [.int 7, w0] σ := q_bipush t201_234 (by decide +kernel)
theorem t201_236 : decode (mb 201) 236 = .ok (.isub, 1) := by decide +kernel
theorem s201_236 (d : Nat) (l0 : Value) (l1 : Value) (l2 : Value) (l3 : Value) (l4 : Value) (l5 : Value) (x y : Int32) (σ : Hs) : ru d 201 236 [l0, l1, l2, l3, l4, l5] [.int y, .int x] σ = ru d 201 237 [l0, l1, l2, l3, l4, l5] [.int (x - y)] σ := q_isub t201_236
theorem t201_237 : decode (mb 201) 237 = .ok (.ireturn, 1) := by decide +kernel
theorem s201_237 (d : Nat) (l0 : Value) (l1 : Value) (l2 : Value) (l3 : Value) (l4 : Value) (l5 : Value) (x : Int32) (σ : Hs) : ru d 201 237 [l0, l1, l2, l3, l4, l5] [.int x] σ = some (some (.int x), σ) := q_ireti t201_237 mr201
theorem t201_238 : decode (mb 201) 238 = .ok (.aload_n 0, 1) := by decide +kernel
theorem s201_238 (d : Nat) (a0 : Nat) (l1 : Value) (l2 : Value) (l3 : Value) (l4 : Value) (l5 : Value) (σ : Hs) : ru d 201 238 [.ref a0, l1, l2, l3, l4, l5] [] σ = ru d 201 239 [.ref a0, l1, l2, l3, l4, l5] [.ref a0] σ := q_aload_n t201_238 rfl
theorem t201_239 : decode (mb 201) 239 = .ok (.bipush 21, 2) := by decide +kernel
theorem s201_239 (d : Nat) (l0 : Value) (l1 : Value) (l2 : Value) (l3 : Value) (l4 : Value) (l5 : Value) (w0 : Value) (σ : Hs) : ru d 201 239 [l0, l1, l2, l3, l4, l5] [w0] σ = ru d 201 241 [l0, l1, l2, l3, l4, l5] [.int 21, w0] σ := q_bipush t201_239 (by decide +kernel)
theorem t201_241 : decode (mb 201) 241 = .ok (.invokevirtual 321, 3) := by decide +kernel
theorem s201_241_o87 (d : Nat) (l0 : Value) (l1 : Value) (l2 : Value) (l3 : Value) (l4 : Value) (l5 : Value) (v1 : Value) (σ : Hs) : ru d 201 241 [l0, l1, l2, l3, l4, l5] [v1, .ref 87] σ = kont (callD d 197 [.ref 87, v1] σ) d 201 244 [l0, l1, l2, l3, l4, l5] [] := q_invv t201_241 mo201 K8_321 mj197 rfl rfl rfl rfl (Nat.le_of_ble_eq_true rfl)
theorem t201_244 : decode (mb 201) 244 = .ok (.aload_n 0, 1) := by decide +kernel
theorem s201_244 (d : Nat) (a0 : Nat) (l1 : Value) (l2 : Value) (l3 : Value) (l4 : Value) (l5 : Value) (σ : Hs) : ru d 201 244 [.ref a0, l1, l2, l3, l4, l5] [] σ = ru d 201 245 [.ref a0, l1, l2, l3, l4, l5] [.ref a0] σ := q_aload_n t201_244 rfl
theorem t201_245 : decode (mb 201) 245 = .ok (.iconst 0, 1) := by decide +kernel
theorem s201_245 (d : Nat) (l0 : Value) (l1 : Value) (l2 : Value) (l3 : Value) (l4 : Value) (l5 : Value) (w0 : Value) (σ : Hs) : ru d 201 245 [l0, l1, l2, l3, l4, l5] [w0] σ = ru d 201 246 [l0, l1, l2, l3, l4, l5] [.int 0, w0] σ := q_iconst t201_245 (by decide +kernel)
theorem t201_246 : decode (mb 201) 246 = .ok (.iconst 3, 1) := by decide +kernel
theorem s201_246 (d : Nat) (l0 : Value) (l1 : Value) (l2 : Value) (l3 : Value) (l4 : Value) (l5 : Value) (w0 w1 : Value) (σ : Hs) : ru d 201 246 [l0, l1, l2, l3, l4, l5] [w0, w1] σ = ru d 201 247 [l0, l1, l2, l3, l4, l5] [.int 3, w0, w1] σ := q_iconst t201_246 (by decide +kernel)
theorem t201_247 : decode (mb 201) 247 = .ok (.iload_n 3, 1) := by decide +kernel
theorem s201_247 (d : Nat) (l0 : Value) (l1 : Value) (l2 : Value) (i3 : Int32) (l4 : Value) (l5 : Value) (w0 w1 w2 : Value) (σ : Hs) : ru d 201 247 [l0, l1, l2, .int i3, l4, l5] [w0, w1, w2] σ = ru d 201 248 [l0, l1, l2, .int i3, l4, l5] [.int i3, w0, w1, w2] σ := q_iload_n t201_247 rfl
theorem t201_248 : decode (mb 201) 248 = .ok (.invokevirtual 309, 3) := by decide +kernel
theorem s201_248_o87 (d : Nat) (l0 : Value) (l1 : Value) (l2 : Value) (l3 : Value) (l4 : Value) (l5 : Value) (v1 v2 v3 : Value) (σ : Hs) : ru d 201 248 [l0, l1, l2, l3, l4, l5] [v3, v2, v1, .ref 87] σ = kont (callD d 200 [.ref 87, v1, v2, v3] σ) d 201 251 [l0, l1, l2, l3, l4, l5] [] := q_invv t201_248 mo201 K8_309 mj200 rfl rfl rfl rfl (Nat.le_of_ble_eq_true rfl)
theorem t201_251 : decode (mb 201) 251 = .ok (.istore 5, 2) := by decide +kernel
theorem s201_251 (d : Nat) (l0 : Value) (l1 : Value) (l2 : Value) (l3 : Value) (i4 : Int32) (l5 : Value) (x : Int32) (σ : Hs) : ru d 201 251 [l0, l1, l2, l3, .int i4, l5] [.int x] σ = ru d 201 253 [l0, l1, l2, l3, .int i4, .int x] [] σ := q_istore t201_251 ⟨Nat.le_of_ble_eq_true rfl, rfl⟩ rfl
theorem t201_253 : decode (mb 201) 253 = .ok (.iload 5, 2) := by decide +kernel
theorem s201_253 (d : Nat) (l0 : Value) (l1 : Value) (l2 : Value) (l3 : Value) (l4 : Value) (i5 : Int32) (σ : Hs) : ru d 201 253 [l0, l1, l2, l3, l4, .int i5] [] σ = ru d 201 255 [l0, l1, l2, l3, l4, .int i5] [.int i5] σ := q_iload t201_253 rfl
theorem t201_255 : decode (mb 201) 255 = .ok (.aload_n 0, 1) := by decide +kernel
theorem s201_255 (d : Nat) (a0 : Nat) (l1 : Value) (l2 : Value) (l3 : Value) (l4 : Value) (l5 : Value) (w0 : Value) (σ : Hs) : ru d 201 255 [.ref a0, l1, l2, l3, l4, l5] [w0] σ = ru d 201 256 [.ref a0, l1, l2, l3, l4, l5] [.ref a0, w0] σ := q_aload_n t201_255 rfl
theorem t201_256 : decode (mb 201) 256 = .ok (.iconst 1, 1) := by decide +kernel
theorem s201_256 (d : Nat) (l0 : Value) (l1 : Value) (l2 : Value) (l3 : Value) (l4 : Value) (l5 : Value) (w0 w1 : Value) (σ : Hs) : ru d 201 256 [l0, l1, l2, l3, l4, l5] [w0, w1] σ = ru d 201 257 [l0, l1, l2, l3, l4, l5] [.int 1, w0, w1] σ := q_iconst t201_256 (by decide +kernel)
theorem t201_257 : decode (mb 201) 257 = .ok (.iconst 1, 1) := by decide +kernel
theorem s201_257 (d : Nat) (l0 : Value) (l1 : Value) (l2 : Value) (l3 : Value) (l4 : Value) (l5 : Value) (w0 w1 w2 : Value) (σ : Hs) : ru d 201 257 [l0, l1, l2, l3, l4, l5] [w0, w1, w2] σ = ru d 201 258 [l0, l1, l2, l3, l4, l5] [.int 1, w0, w1, w2] σ := q_iconst t201_257 (by decide +kernel)
theorem t201_258 : decode (mb 201) 258 = .ok (.invokevirtual 324, 3) := by decide +kernel
theorem s201_258_o87 (d : Nat) (l0 : Value) (l1 : Value) (l2 : Value) (l3 : Value) (l4 : Value) (l5 : Value) (v1 v2 : Value) (w0 : Int32) (σ : Hs) : ru d 201 258 [l0, l1, l2, l3, l4, l5] [v2, v1, .ref 87, .int w0] σ = kont (callD d 199 [.ref 87, v1, v2] σ) d 201 261 [l0, l1, l2, l3, l4, l5] [.int w0] := q_invv t201_258 mo201 K8_324 mj199 rfl rfl rfl rfl (Nat.le_of_ble_eq_true rfl)
theorem t201_261 : decode (mb 201) 261 = .ok (.iadd, 1) := by decide +kernel
theorem s201_261 (d : Nat) (l0 : Value) (l1 : Value) (l2 : Value) (l3 : Value) (l4 : Value) (l5 : Value) (x y : Int32) (σ : Hs) : ru d 201 261 [l0, l1, l2, l3, l4, l5] [.int y, .int x] σ = ru d 201 262 [l0, l1, l2, l3, l4, l5] [.int (x + y)] σ := q_iadd t201_261
theorem t201_262 : decode (mb 201) 262 = .ok (.ireturn, 1) := by decide +kernel
theorem s201_262 (d : Nat) (l0 : Value) (l1 : Value) (l2 : Value) (l3 : Value) (l4 : Value) (l5 : Value) (x : Int32) (σ : Hs) : ru d 201 262 [l0, l1, l2, l3, l4, l5] [.int x] σ = some (some (.int x), σ) := q_ireti t201_262 mr201
theorem t201_263 : decode (mb 201) 263 = .ok (.aload_n 0, 1) := by decide +kernel
theorem s201_263 (d : Nat) (a0 : Nat) (l1 : Value) (l2 : Value) (l3 : Value) (l4 : Value) (l5 : Value) (σ : Hs) : ru d 201 263 [.ref a0, l1, l2, l3, l4, l5] [] σ = ru d 201 264 [.ref a0, l1, l2, l3, l4, l5] [.ref a0] σ := q_aload_n t201_263 rfl
theorem t201_264 : decode (mb 201) 264 = .ok (.bipush 30, 2) := by decide +kernel
theorem s201_264 (d : Nat) (l0 : Value) (l1 : Value) (l2 : Value) (l3 : Value) (l4 : Value) (l5 : Value) (w0 : Value) (σ : Hs) : ru d 201 264 [l0, l1, l2, l3, l4, l5] [w0] σ = ru d 201 266 [l0, l1, l2, l3, l4, l5] [.int 30, w0] σ := q_bipush t201_264 (by decide +kernel)
theorem t201_266 : decode (mb 201) 266 = .ok (.invokevirtual 321, 3) := by decide +kernel
theorem s201_266_o87 (d : Nat) (l0 : Value) (l1 : Value) (l2 : Value) (l3 : Value) (l4 : Value) (l5 : Value) (v1 : Value) (σ : Hs) : ru d 201 266 [l0, l1, l2, l3, l4, l5] [v1, .ref 87] σ = kont (callD d 197 [.ref 87, v1] σ) d 201 269 [l0, l1, l2, l3, l4, l5] [] := q_invv t201_266 mo201 K8_321 mj197 rfl rfl rfl rfl (Nat.le_of_ble_eq_true rfl)
theorem t201_269 : decode (mb 201) 269 = .ok (.aload_n 0, 1) := by decide +kernel
theorem s201_269 (d : Nat) (a0 : Nat) (l1 : Value) (l2 : Value) (l3 : Value) (l4 : Value) (l5 : Value) (σ : Hs) : ru d 201 269 [.ref a0, l1, l2, l3, l4, l5] [] σ = ru d 201 270 [.ref a0, l1, l2, l3, l4, l5] [.ref a0] σ := q_aload_n t201_269 rfl
theorem t201_270 : decode (mb 201) 270 = .ok (.iconst 0, 1) := by decide +kernel
theorem s201_270 (d : Nat) (l0 : Value) (l1 : Value) (l2 : Value) (l3 : Value) (l4 : Value) (l5 : Value) (w0 : Value) (σ : Hs) : ru d 201 270 [l0, l1, l2, l3, l4, l5] [w0] σ = ru d 201 271 [l0, l1, l2, l3, l4, l5] [.int 0, w0] σ := q_iconst t201_270 (by decide +kernel)
theorem t201_271 : decode (mb 201) 271 = .ok (.iconst 2, 1) := by decide +kernel
theorem s201_271 (d : Nat) (l0 : Value) (l1 : Value) (l2 : Value) (l3 : Value) (l4 : Value) (l5 : Value) (w0 w1 : Value) (σ : Hs) : ru d 201 271 [l0, l1, l2, l3, l4, l5] [w0, w1] σ = ru d 201 272 [l0, l1, l2, l3, l4, l5] [.int 2, w0, w1] σ := q_iconst t201_271 (by decide +kernel)
theorem t201_272 : decode (mb 201) 272 = .ok (.iload_n 3, 1) := by decide +kernel
theorem s201_272 (d : Nat) (l0 : Value) (l1 : Value) (l2 : Value) (i3 : Int32) (l4 : Value) (l5 : Value) (w0 w1 w2 : Value) (σ : Hs) : ru d 201 272 [l0, l1, l2, .int i3, l4, l5] [w0, w1, w2] σ = ru d 201 273 [l0, l1, l2, .int i3, l4, l5] [.int i3, w0, w1, w2] σ := q_iload_n t201_272 rfl
theorem t201_273 : decode (mb 201) 273 = .ok (.invokevirtual 309, 3) := by decide +kernel
theorem s201_273_o87 (d : Nat) (l0 : Value) (l1 : Value) (l2 : Value) (l3 : Value) (l4 : Value) (l5 : Value) (v1 v2 v3 : Value) (σ : Hs) : ru d 201 273 [l0, l1, l2, l3, l4, l5] [v3, v2, v1, .ref 87] σ = kont (callD d 200 [.ref 87, v1, v2, v3] σ) d 201 276 [l0, l1, l2, l3, l4, l5] [] := q_invv t201_273 mo201 K8_309 mj200 rfl rfl rfl rfl (Nat.le_of_ble_eq_true rfl)
theorem t201_276 : decode (mb 201) 276 = .ok (.iload 4, 2) := by decide +kernel
theorem s201_276 (d : Nat) (l0 : Value) (l1 : Value) (l2 : Value) (l3 : Value) (i4 : Int32) (l5 : Value) (w0 : Value) (σ : Hs) : ru d 201 276 [l0, l1, l2, l3, .int i4, l5] [w0] σ = ru d 201 278 [l0, l1, l2, l3, .int i4, l5] [.int i4, w0] σ := q_iload t201_276 rfl
theorem t201_278 : decode (mb 201) 278 = .ok (.ixor, 1) := by decide +kernel
theorem s201_278 (d : Nat) (l0 : Value) (l1 : Value) (l2 : Value) (l3 : Value) (l4 : Value) (l5 : Value) (x y : Int32) (σ : Hs) : ru d 201 278 [l0, l1, l2, l3, l4, l5] [.int y, .int x] σ = ru d 201 279 [l0, l1, l2, l3, l4, l5] [.int (x ^^^ y)] σ := q_ixor t201_278
theorem t201_279 : decode (mb 201) 279 = .ok (.ireturn, 1) := by decide +kernel
theorem s201_279 (d : Nat) (l0 : Value) (l1 : Value) (l2 : Value) (l3 : Value) (l4 : Value) (l5 : Value) (x : Int32) (σ : Hs) : ru d 201 279 [l0, l1, l2, l3, l4, l5] [.int x] σ = some (some (.int x), σ) := q_ireti t201_279 mr201
theorem t201_280 : decode (mb 201) 280 = .ok (.aload_n 0, 1) := by decide +kernel
theorem s201_280 (d : Nat) (a0 : Nat) (l1 : Value) (l2 : Value) (l3 : Value) (l4 : Value) (l5 : Value) (σ : Hs) : ru d 201 280 [.ref a0, l1, l2, l3, l4, l5] [] σ = ru d 201 281 [.ref a0, l1, l2, l3, l4, l5] [.ref a0] σ := q_aload_n t201_280 rfl
theorem t201_281 : decode (mb 201) 281 = .ok (.bipush 40, 2) := by decide +kernel
theorem s201_281 (d : Nat) (l0 : Value) (l1 : Value) (l2 : Value) (l3 : Value) (l4 : Value) (l5 : Value) (w0 : Value) (σ : Hs) : ru d 201 281 [l0, l1, l2, l3, l4, l5] [w0] σ = ru d 201 283 [l0, l1, l2, l3, l4, l5] [.int 40, w0] σ := q_bipush t201_281 (by decide +kernel)
theorem t201_283 : decode (mb 201) 283 = .ok (.invokevirtual 321, 3) := by decide +kernel
theorem s201_283_o87 (d : Nat) (l0 : Value) (l1 : Value) (l2 : Value) (l3 : Value) (l4 : Value) (l5 : Value) (v1 : Value) (σ : Hs) : ru d 201 283 [l0, l1, l2, l3, l4, l5] [v1, .ref 87] σ = kont (callD d 197 [.ref 87, v1] σ) d 201 286 [l0, l1, l2, l3, l4, l5] [] := q_invv t201_283 mo201 K8_321 mj197 rfl rfl rfl rfl (Nat.le_of_ble_eq_true rfl)
theorem t201_286 : decode (mb 201) 286 = .ok (.aload_n 0, 1) := by decide +kernel
theorem s201_286 (d : Nat) (a0 : Nat) (l1 : Value) (l2 : Value) (l3 : Value) (l4 : Value) (l5 : Value) (σ : Hs) : ru d 201 286 [.ref a0, l1, l2, l3, l4, l5] [] σ = ru d 201 287 [.ref a0, l1, l2, l3, l4, l5] [.ref a0] σ := q_aload_n t201_286 rfl
theorem t201_287 : decode (mb 201) 287 = .ok (.iconst 1, 1) := by decide +kernel
theorem s201_287 (d : Nat) (l0 : Value) (l1 : Value) (l2 : Value) (l3 : Value) (l4 : Value) (l5 : Value) (w0 : Value) (σ : Hs) : ru d 201 287 [l0, l1, l2, l3, l4, l5] [w0] σ = ru d 201 288 [l0, l1, l2, l3, l4, l5] [.int 1, w0] σ := q_iconst t201_287 (by decide +kernel)
theorem t201_288 : decode (mb 201) 288 = .ok (.iconst 0, 1) := by decide +kernel
theorem s201_288 (d : Nat) (l0 : Value) (l1 : Value) (l2 : Value) (l3 : Value) (l4 : Value) (l5 : Value) (w0 w1 : Value) (σ : Hs) : ru d 201 288 [l0, l1, l2, l3, l4, l5] [w0, w1] σ = ru d 201 289 [l0, l1, l2, l3, l4, l5] [.int 0, w0, w1] σ := q_iconst t201_288 (by decide +kernel)
theorem t201_289 : decode (mb 201) 289 = .ok (.iload_n 3, 1) := by decide +kernel
theorem s201_289 (d : Nat) (l0 : Value) (l1 : Value) (l2 : Value) (i3 : Int32) (l4 : Value) (l5 : Value) (w0 w1 w2 : Value) (σ : Hs) : ru d 201 289 [l0, l1, l2, .int i3, l4, l5] [w0, w1, w2] σ = ru d 201 290 [l0, l1, l2, .int i3, l4, l5] [.int i3, w0, w1, w2] σ := q_iload_n t201_289 rfl
theorem t201_290 : decode (mb 201) 290 = .ok (.iconst 2, 1) := by decide +kernel
theorem s201_290 (d : Nat) (l0 : Value) (l1 : Value) (l2 : Value) (l3 : Value) (l4 : Value) (l5 : Value) (w0 w1 w2 w3 : Value) (σ : Hs) : ru d 201 290 [l0, l1, l2, l3, l4, l5] [w0, w1, w2, w3] σ = ru d 201 291 [l0, l1, l2, l3, l4, l5] [.int 2, w0, w1, w2, w3] σ := q_iconst t201_290 (by decide +kernel)
theorem t201_291 : decode (mb 201) 291 = .ok (.idiv, 1) := by decide +kernel
theorem s201_291 (d : Nat) (l0 : Value) (l1 : Value) (l2 : Value) (l3 : Value) (l4 : Value) (l5 : Value) (x y : Int32) (w0 w1 w2 : Value) (σ : Hs) : ru d 201 291 [l0, l1, l2, l3, l4, l5] [.int y, .int x, w0, w1, w2] σ = gd (¬ y = 0) (ru d 201 292 [l0, l1, l2, l3, l4, l5] [.int (x / y), w0, w1, w2] σ) := q_idiv t201_291
theorem t201_292 : decode (mb 201) 292 = .ok (.invokevirtual 309, 3) := by decide +kernel
theorem s201_292_o87 (d : Nat) (l0 : Value) (l1 : Value) (l2 : Value) (l3 : Value) (l4 : Value) (l5 : Value) (v1 v2 v3 : Value) (σ : Hs) : ru d 201 292 [l0, l1, l2, l3, l4, l5] [v3, v2, v1, .ref 87] σ = kont (callD d 200 [.ref 87, v1, v2, v3] σ) d 201 295 [l0, l1, l2, l3, l4, l5] [] := q_invv t201_292 mo201 K8_309 mj200 rfl rfl rfl rfl (Nat.le_of_ble_eq_true rfl)
theorem t201_295 : decode (mb 201) 295 = .ok (.ireturn, 1) := by decide +kernel
theorem s201_295 (d : Nat) (l0 : Value) (l1 : Value) (l2 : Value) (l3 : Value) (l4 : Value) (l5 : Value) (x : Int32) (σ : Hs) : ru d 201 295 [l0, l1, l2, l3, l4, l5] [.int x] σ = some (some (.int x), σ) := q_ireti t201_295 mr201
theorem t201_296 : decode (mb 201) 296 = .ok (.aload_n 0, 1) := by decide +kernel
theorem s201_296 (d : Nat) (a0 : Nat) (l1 : Value) (l2 : Value) (l3 : Value) (l4 : Value) (l5 : Value) (σ : Hs) : ru d 201 296 [.ref a0, l1, l2, l3, l4, l5] [] σ = ru d 201 297 [.ref a0, l1, l2, l3, l4, l5] [.ref a0] σ := q_aload_n t201_296 rfl
theorem t201_297 : decode (mb 201) 297 = .ok (.bipush 41, 2) := by decide +kernel
theorem s201_297 (d : Nat) (l0 : Value) (l1 : Value) (l2 : Value) (l3 : Value) (l4 : Value) (l5 : Value) (w0 : Value) (σ : Hs) : ru d 201 297 [l0, l1, l2, l3, l4, l5] [w0] σ = ru d 201 299 [l0, l1, l2, l3, l4, l5] [.int 41, w0] σ := q_bipush t201_297 (by decide +kernel)
theorem t201_299 : decode (mb 201) 299 = .ok (.invokevirtual 321, 3) := by decide +kernel
theorem s201_299_o87 (d : Nat) (l0 : Value) (l1 : Value) (l2 : Value) (l3 : Value) (l4 : Value) (l5 : Value) (v1 : Value) (σ : Hs) : ru d 201 299 [l0, l1, l2, l3, l4, l5] [v1, .ref 87] σ = kont (callD d 197 [.ref 87, v1] σ) d 201 302 [l0, l1, l2, l3, l4, l5] [] := q_invv t201_299 mo201 K8_321 mj197 rfl rfl rfl rfl (Nat.le_of_ble_eq_true rfl)
theorem t201_302 : decode (mb 201) 302 = .ok (.aload_n 0, 1) := by decide +kernel
theorem s201_302 (d : Nat) (a0 : Nat) (l1 : Value) (l2 : Value) (l3 : Value) (l4 : Value) (l5 : Value) (σ : Hs) : ru d 201 302 [.ref a0, l1, l2, l3, l4, l5] [] σ = ru d 201 303 [.ref a0, l1, l2, l3, l4, l5] [.ref a0] σ := q_aload_n t201_302 rfl
theorem t201_303 : decode (mb 201) 303 = .ok (.iconst 1, 1) := by decide +kernel
theorem s201_303 (d : Nat) (l0 : Value) (l1 : Value) (l2 : Value) (l3 : Value) (l4 : Value) (l5 : Value) (w0 : Value) (σ : Hs) : ru d 201 303 [l0, l1, l2, l3, l4, l5] [w0] σ = ru d 201 304 [l0, l1, l2, l3, l4, l5] [.int 1, w0] σ := q_iconst t201_303 (by decide +kernel)
theorem t201_304 : decode (mb 201) 304 = .ok (.iconst 1, 1) := by decide +kernel
theorem s201_304 (d : Nat) (l0 : Value) (l1 : Value) (l2 : Value) (l3 : Value) (l4 : Value) (l5 : Value) (w0 w1 : Value) (σ : Hs) : ru d 201 304 [l0, l1, l2, l3, l4, l5] [w0, w1] σ = ru d 201 305 [l0, l1, l2, l3, l4, l5] [.int 1, w0, w1] σ := q_iconst t201_304 (by decide +kernel)
theorem t201_305 : decode (mb 201) 305 = .ok (.iload_n 3, 1) := by decide +kernel
theorem s201_305 (d : Nat) (l0 : Value) (l1 : Value) (l2 : Value) (i3 : Int32) (l4 : Value) (l5 : Value) (w0 w1 w2 : Value) (σ : Hs) : ru d 201 305 [l0, l1, l2, .int i3, l4, l5] [w0, w1, w2] σ = ru d 201 306 [l0, l1, l2, .int i3, l4, l5] [.int i3, w0, w1, w2] σ := q_iload_n t201_305 rfl
theorem t201_306 : decode (mb 201) 306 = .ok (.invokevirtual 309, 3) := by decide +kernel
theorem s201_306_o87 (d : Nat) (l0 : Value) (l1 : Value) (l2 : Value) (l3 : Value) (l4 : Value) (l5 : Value) (v1 v2 v3 : Value) (σ : Hs) : ru d 201 306 [l0, l1, l2, l3, l4, l5] [v3, v2, v1, .ref 87] σ = kont (callD d 200 [.ref 87, v1, v2, v3] σ) d 201 309 [l0, l1, l2, l3, l4, l5] [] := q_invv t201_306 mo201 K8_309 mj200 rfl rfl rfl rfl (Nat.le_of_ble_eq_true rfl)
theorem t201_309 : decode (mb 201) 309 = .ok (.ineg, 1) := by decide +kernel
theorem s201_309 (d : Nat) (l0 : Value) (l1 : Value) (l2 : Value) (l3 : Value) (l4 : Value) (l5 : Value) (x : Int32) (σ : Hs) : ru d 201 309 [l0, l1, l2, l3, l4, l5] [.int x] σ = ru d 201 310 [l0, l1, l2, l3, l4, l5] [.int (-x)] σ := q_ineg t201_309
theorem t201_310 : decode (mb 201) 310 = .ok (.ireturn, 1) := by decide +kernel
theorem s201_310 (d : Nat) (l0 : Value) (l1 : Value) (l2 : Value) (l3 : Value) (l4 : Value) (l5 : Value) (x : Int32) (σ : Hs) : ru d 201 310 [l0, l1, l2, l3, l4, l5] [.int x] σ = some (some (.int x), σ) := q_ireti t201_310 mr201
theorem t201_311 : decode (mb 201) 311 = .ok (.aload_n 0, 1) := by decide +kernel
theorem s201_311 (d : Nat) (a0 : Nat) (l1 : Value) (l2 : Value) (l3 : Value) (l4 : Value) (l5 : Value) (σ : Hs) : ru d 201 311 [.ref a0, l1, l2, l3, l4, l5] [] σ = ru d 201 312 [.ref a0, l1, l2, l3, l4, l5] [.ref a0] σ := q_aload_n t201_311 rfl
theorem t201_312 : decode (mb 201) 312 = .ok (.bipush 50, 2) := by decide +kernel
theorem s201_312 (d : Nat) (l0 : Value) (l1 : Value) (l2 : Value) (l3 : Value) (l4 : Value) (l5 : Value) (w0 : Value) (σ : Hs) : ru d 201 312 [l0, l1, l2, l3, l4, l5] [w0] σ = ru d 201 314 [l0, l1, l2, l3, l4, l5] [.int 50, w0] σ := q_bipush t201_312 (by decide +kernel)
theorem t201_314 : decode (mb 201) 314 = .ok (.invokevirtual 321, 3) := by decide +kernel
theorem s201_314_o87 (d : Nat) (l0 : Value) (l1 : Value) (l2 : Value) (l3 : Value) (l4 : Value) (l5 : Value) (v1 : Value) (σ : Hs) : ru d 201 314 [l0, l1, l2, l3, l4, l5] [v1, .ref 87] σ = kont (callD d 197 [.ref 87, v1] σ) d 201 317 [l0, l1, l2, l3, l4, l5] [] := q_invv t201_314 mo201 K8_321 mj197 rfl rfl rfl rfl (Nat.le_of_ble_eq_true rfl)
theorem t201_317 : decode (mb 201) 317 = .ok (.aload_n 0, 1) := by decide +kernel
theorem s201_317 (d : Nat) (a0 : Nat) (l1 : Value) (l2 : Value) (l3 : Value) (l4 : Value) (l5 : Value) (σ : Hs) : ru d 201 317 [.ref a0, l1, l2, l3, l4, l5] [] σ = ru d 201 318 [.ref a0, l1, l2, l3, l4, l5] [.ref a0] σ := q_aload_n t201_317 rfl
theorem t201_318 : decode (mb 201) 318 = .ok (.iconst 2, 1) := by decide +kernel
theorem s201_318 (d : Nat) (l0 : Value) (l1 : Value) (l2 : Value) (l3 : Value) (l4 : Value) (l5 : Value) (w0 : Value) (σ : Hs) : ru d 201 318 [l0, l1, l2, l3, l4, l5] [w0] σ = ru d 201 319 [l0, l1, l2, l3, l4, l5] [.int 2, w0] σ := q_iconst t201_318 (by decide +kernel)
theorem t201_319 : decode (mb 201) 319 = .ok (.iconst 2, 1) := by decide +kernel
theorem s201_319 (d : Nat) (l0 : Value) (l1 : Value) (l2 : Value) (l3 : Value) (l4 : Value) (l5 : Value) (w0 w1 : Value) (σ : Hs) : ru d 201 319 [l0, l1, l2, l3, l4, l5] [w0, w1] σ = ru d 201 320 [l0, l1, l2, l3, l4, l5] [.int 2, w0, w1] σ := q_iconst t201_319 (by decide +kernel)
theorem t201_320 : decode (mb 201) 320 = .ok (.iload_n 3, 1) := by decide +kernel
theorem s201_320 (d : Nat) (l0 : Value) (l1 : Value) (l2 : Value) (i3 : Int32) (l4 : Value) (l5 : Value) (w0 w1 w2 : Value) (σ : Hs) : ru d 201 320 [l0, l1, l2, .int i3, l4, l5] [w0, w1, w2] σ = ru d 201 321 [l0, l1, l2, .int i3, l4, l5] [.int i3, w0, w1, w2] σ := q_iload_n t201_320 rfl
theorem t201_321 : decode (mb 201) 321 = .ok (.iconst 1, 1) := by decide +kernel
theorem s201_321 (d : Nat) (l0 : Value) (l1 : Value) (l2 : Value) (l3 : Value) (l4 : Value) (l5 : Value) (w0 w1 w2 w3 : Value) (σ : Hs) : ru d 201 321 [l0, l1, l2, l3, l4, l5] [w0, w1, w2, w3] σ = ru d 201 322 [l0, l1, l2, l3, l4, l5] [.int 1, w0, w1, w2, w3] σ := q_iconst t201_321 (by decide +kernel)
theorem t201_322 : decode (mb 201) 322 = .ok (.iadd, 1) := by decide +kernel
theorem s201_322 (d : Nat) (l0 : Value) (l1 : Value) (l2 : Value) (l3 : Value) (l4 : Value) (l5 : Value) (x y : Int32) (w0 w1 w2 : Value) (σ : Hs) : ru d 201 322 [l0, l1, l2, l3, l4, l5] [.int y, .int x, w0, w1, w2] σ = ru d 201 323 [l0, l1, l2, l3, l4, l5] [.int (x + y), w0, w1, w2] σ := q_iadd t201_322
theorem t201_323 : decode (mb 201) 323 = .ok (.invokevirtual 309, 3) := by decide +kernel
theorem s201_323_o87 (d : Nat) (l0 : Value) (l1 : Value) (l2 : Value) (l3 : Value) (l4 : Value) (l5 : Value) (v1 v2 v3 : Value) (σ : Hs) : ru d 201 323 [l0, l1, l2, l3, l4, l5] [v3, v2, v1, .ref 87] σ = kont (callD d 200 [.ref 87, v1, v2, v3] σ) d 201 326 [l0, l1, l2, l3, l4, l5] [] := q_invv t201_323 mo201 K8_309 mj200 rfl rfl rfl rfl (Nat.le_of_ble_eq_true rfl)
theorem t201_326 : decode (mb 201) 326 = .ok (.ireturn, 1) := by decide +kernel
theorem s201_326 (d : Nat) (l0 : Value) (l1 : Value) (l2 : Value) (l3 : Value) (l4 : Value) (l5 : Value) (x : Int32) (σ : Hs) : ru d 201 326 [l0, l1, l2, l3, l4, l5] [.int x] σ = some (some (.int x), σ) := q_ireti t201_326 mr201
theorem t201_327 : decode (mb 201) 327 = .ok (.aload_n 0, 1) := by decide +kernel
theorem s201_327 (d : Nat) (a0 : Nat) (l1 : Value) (l2 : Value) (l3 : Value) (l4 : Value) (l5 : Value) (σ : Hs) : ru d 201 327 [.ref a0, l1, l2, l3, l4, l5] [] σ = ru d 201 328 [.ref a0, l1, l2, l3, l4, l5] [.ref a0] σ := q_aload_n t201_327 rfl
theorem t201_328 : decode (mb 201) 328 = .ok (.bipush 51, 2) := by decide +kernel
theorem s201_328 (d : Nat) (l0 : Value) (l1 : Value) (l2 : Value) (l3 : Value) (l4 : Value) (l5 : Value) (w0 : Value) (σ : Hs) : ru d 201 328 [l0, l1, l2, l3, l4, l5] [w0] σ = ru d 201 330 [l0, l1, l2, l3, l4, l5] [.int 51, w0] σ := q_bipush t201_328 (by decide +kernel)
theorem t201_330 : decode (mb 201) 330 = .ok (.invokevirtual 321, 3) := by decide +kernel
theorem s201_330_o87 (d : Nat) (l0 : Value) (l1 : Value) (l2 : Value) (l3 : Value) (l4 : Value) (l5 : Value) (v1 : Value) (σ : Hs) : ru d 201 330 [l0, l1, l2, l3, l4, l5] [v1, .ref 87] σ = kont (callD d 197 [.ref 87, v1] σ) d 201 333 [l0, l1, l2, l3, l4, l5] [] := q_invv t201_330 mo201 K8_321 mj197 rfl rfl rfl rfl (Nat.le_of_ble_eq_true rfl)
theorem t201_333 : decode (mb 201) 333 = .ok (.aload_n 0, 1) := by decide +kernel
theorem s201_333 (d : Nat) (a0 : Nat) (l1 : Value) (l2 : Value) (l3 : Value) (l4 : Value) (l5 : Value) (σ : Hs) : ru d 201 333 [.ref a0, l1, l2, l3, l4, l5] [] σ = ru d 201 334 [.ref a0, l1, l2, l3, l4, l5] [.ref a0] σ := q_aload_n t201_333 rfl
theorem t201_334 : decode (mb 201) 334 = .ok (.iconst 2, 1) := by decide +kernel
theorem s201_334 (d : Nat) (l0 : Value) (l1 : Value) (l2 : Value) (l3 : Value) (l4 : Value) (l5 : Value) (w0 : Value) (σ : Hs) : ru d 201 334 [l0, l1, l2, l3, l4, l5] [w0] σ = ru d 201 335 [l0, l1, l2, l3, l4, l5] [.int 2, w0] σ := q_iconst t201_334 (by decide +kernel)
theorem t201_335 : decode (mb 201) 335 = .ok (.iconst 3, 1) := by decide +kernel
theorem s201_335 (d : Nat) (l0 : Value) (l1 : Value) (l2 : Value) (l3 : Value) (l4 : Value) (l5 : Value) (w0 w1 : Value) (σ : Hs) : ru d 201 335 [l0, l1, l2, l3, l4, l5] [w0, w1] σ = ru d 201 336 [l0, l1, l2, l3, l4, l5] [.int 3, w0, w1] σ := q_iconst t201_335 (by decide +kernel)
theorem t201_336 : decode (mb 201) 336 = .ok (.iload_n 3, 1) := by decide +kernel
theorem s201_336 (d : Nat) (l0 : Value) (l1 : Value) (l2 : Value) (i3 : Int32) (l4 : Value) (l5 : Value) (w0 w1 w2 : Value) (σ : Hs) : ru d 201 336 [l0, l1, l2, .int i3, l4, l5] [w0, w1, w2] σ = ru d 201 337 [l0, l1, l2, .int i3, l4, l5] [.int i3, w0, w1, w2] σ := q_iload_n t201_336 rfl
theorem t201_337 : decode (mb 201) 337 = .ok (.invokevirtual 309, 3) := by decide +kernel
theorem s201_337_o87 (d : Nat) (l0 : Value) (l1 : Value) (l2 : Value) (l3 : Value) (l4 : Value) (l5 : Value) (v1 v2 v3 : Value) (σ : Hs) : ru d 201 337 [l0, l1, l2, l3, l4, l5] [v3, v2, v1, .ref 87] σ = kont (callD d 200 [.ref 87, v1, v2, v3] σ) d 201 340 [l0, l1, l2, l3, l4, l5] [] := q_invv t201_337 mo201 K8_309 mj200 rfl rfl rfl rfl (Nat.le_of_ble_eq_true rfl)
theorem t201_340 : decode (mb 201) 340 = .ok (.istore 5, 2) := by decide +kernel
theorem s201_340 (d : Nat) (l0 : Value) (l1 : Value) (l2 : Value) (l3 : Value) (i4 : Int32) (l5 : Value) (x : Int32) (σ : Hs) : ru d 201 340 [l0, l1, l2, l3, .int i4, l5] [.int x] σ = ru d 201 342 [l0, l1, l2, l3, .int i4, .int x] [] σ := q_istore t201_340 ⟨Nat.le_of_ble_eq_true rfl, rfl⟩ rfl
theorem t201_342 : decode (mb 201) 342 = .ok (.iload 5, 2) := by decide +kernel
theorem s201_342 (d : Nat) (l0 : Value) (l1 : Value) (l2 : Value) (l3 : Value) (l4 : Value) (i5 : Int32) (σ : Hs) : ru d 201 342 [l0, l1, l2, l3, l4, .int i5] [] σ = ru d 201 344 [l0, l1, l2, l3, l4, .int i5] [.int i5] σ := q_iload t201_342 rfl
theorem t201_344 : decode (mb 201) 344 = .ok (.aload_n 0, 1) := by decide +kernel
theorem s201_344 (d : Nat) (a0 : Nat) (l1 : Value) (l2 : Value) (l3 : Value) (l4 : Value) (l5 : Value) (w0 : Value) (σ : Hs) : ru d 201 344 [.ref a0, l1, l2, l3, l4, l5] [w0] σ = ru d 201 345 [.ref a0, l1, l2, l3, l4, l5] [.ref a0, w0] σ := q_aload_n t201_344 rfl
theorem t201_345 : decode (mb 201) 345 = .ok (.iconst 2, 1) := by decide +kernel
theorem s201_345 (d : Nat) (l0 : Value) (l1 : Value) (l2 : Value) (l3 : Value) (l4 : Value) (l5 : Value) (w0 w1 : Value) (σ : Hs) : ru d 201 345 [l0, l1, l2, l3, l4, l5] [w0, w1] σ = ru d 201 346 [l0, l1, l2, l3, l4, l5] [.int 2, w0, w1] σ := q_iconst t201_345 (by decide +kernel)
theorem t201_346 : decode (mb 201) 346 = .ok (.iconst 0, 1) := by decide +kernel
theorem s201_346 (d : Nat) (l0 : Value) (l1 : Value) (l2 : Value) (l3 : Value) (l4 : Value) (l5 : Value) (w0 w1 w2 : Value) (σ : Hs) : ru d 201 346 [l0, l1, l2, l3, l4, l5] [w0, w1, w2] σ = ru d 201 347 [l0, l1, l2, l3, l4, l5] [.int 0, w0, w1, w2] σ := q_iconst t201_346 (by decide +kernel)
theorem t201_347 : decode (mb 201) 347 = .ok (.invokevirtual 324, 3) := by decide +kernel
theorem s201_347_o87 (d : Nat) (l0 : Value) (l1 : Value) (l2 : Value) (l3 : Value) (l4 : Value) (l5 : Value) (v1 v2 : Value) (w0 : Int32) (σ : Hs) : ru d 201 347 [l0, l1, l2, l3, l4, l5] [v2, v1, .ref 87, .int w0] σ = kont (callD d 199 [.ref 87, v1, v2] σ) d 201 350 [l0, l1, l2, l3, l4, l5] [.int w0] := q_invv t201_347 mo201 K8_324 mj199 rfl rfl rfl rfl (Nat.le_of_ble_eq_true rfl)
theorem t201_350 : decode (mb 201) 350 = .ok (.isub, 1) := by decide +kernel
theorem s201_350 (d : Nat) (l0 : Value) (l1 : Value) (l2 : Value) (l3 : Value) (l4 : Value) (l5 : Value) (x y : Int32) (σ : Hs) : ru d 201 350 [l0, l1, l2, l3, l4, l5] [.int y, .int x] σ = ru d 201 351 [l0, l1, l2, l3, l4, l5] [.int (x - y)] σ := q_isub t201_350
theorem t201_351 : decode (mb 201) 351 = .ok (.ireturn, 1) := by decide +kernel
theorem s201_351 (d : Nat) (l0 : Value) (l1 : Value) (l2 : Value) (l3 : Value) (l4 : Value) (l5 : Value) (x : Int32) (σ : Hs) : ru d 201 351 [l0, l1, l2, l3, l4, l5] [.int x] σ = some (some (.int x), σ) := q_ireti t201_351 mr201
theorem t201_352 : decode (mb 201) 352 = .ok (.aload_n 0, 1) := by decide +kernel
theorem s201_352 (d : Nat) (a0 : Nat) (l1 : Value) (l2 : Value) (l3 : Value) (l4 : Value) (l5 : Value) (σ : Hs) : ru d 201 352 [.ref a0, l1, l2, l3, l4, l5] [] σ = ru d 201 353 [.ref a0, l1, l2, l3, l4, l5] [.ref a0] σ := q_aload_n t201_352 rfl
theorem t201_353 : decode (mb 201) 353 = .ok (.bipush 60, 2) := by decide +kernel
theorem s201_353 (d : Nat) (l0 : Value) (l1 : Value) (l2 : Value) (l3 : Value) (l4 : Value) (l5 : Value) (w0 : Value) (σ : Hs) : ru d 201 353 [l0, l1, l2, l3, l4, l5] [w0] σ = ru d 201 355 [l0, l1, l2, l3, l4, l5] [.int 60, w0] σ := q_bipush t201_353 (by decide +kernel)
theorem t201_355 : decode (mb 201) 355 = .ok (.invokevirtual 321, 3) := by decide +kernel
theorem s201_355_o87 (d : Nat) (l0 : Value) (l1 : Value) (l2 : Value) (l3 : Value) (l4 : Value) (l5 : Value) (v1 : Value) (σ : Hs) : ru d 201 355 [l0, l1, l2, l3, l4, l5] [v1, .ref 87] σ = kont (callD d 197 [.ref 87, v1] σ) d 201 358 [l0, l1, l2, l3, l4, l5] [] := q_invv t201_355 mo201 K8_321 mj197 rfl rfl rfl rfl (Nat.le_of_ble_eq_true rfl)
theorem t201_358 : decode (mb 201) 358 = .ok (.aload_n 0, 1) := by decide +kernel
theorem s201_358 (d : Nat) (a0 : Nat) (l1 : Value) (l2 : Value) (l3 : Value) (l4 : Value) (l5 : Value) (σ : Hs) : ru d 201 358 [.ref a0, l1, l2, l3, l4, l5] [] σ = ru d 201 359 [.ref a0, l1, l2, l3, l4, l5] [.ref a0] σ := q_aload_n t201_358 rfl
theorem t201_359 : decode (mb 201) 359 = .ok (.iconst 0, 1) := by decide +kernel
theorem s201_359 (d : Nat) (l0 : Value) (l1 : Value) (l2 : Value) (l3 : Value) (l4 : Value) (l5 : Value) (w0 : Value) (σ : Hs) : ru d 201 359 [l0, l1, l2, l3, l4, l5] [w0] σ = ru d 201 360 [l0, l1, l2, l3, l4, l5] [.int 0, w0] σ := q_iconst t201_359 (by decide +kernel)
theorem t201_360 : decode (mb 201) 360 = .ok (.iconst 1, 1) := by decide +kernel
theorem s201_360 (d : Nat) (l0 : Value) (l1 : Value) (l2 : Value) (l3 : Value) (l4 : Value) (l5 : Value) (w0 w1 : Value) (σ : Hs) : ru d 201 360 [l0, l1, l2, l3, l4, l5] [w0, w1] σ = ru d 201 361 [l0, l1, l2, l3, l4, l5] [.int 1, w0, w1] σ := q_iconst t201_360 (by decide +kernel)
theorem t201_361 : decode (mb 201) 361 = .ok (.iload_n 3, 1) := by decide +kernel
theorem s201_361 (d : Nat) (l0 : Value) (l1 : Value) (l2 : Value) (i3 : Int32) (l4 : Value) (l5 : Value) (w0 w1 w2 : Value) (σ : Hs) : ru d 201 361 [l0, l1, l2, .int i3, l4, l5] [w0, w1, w2] σ = ru d 201 362 [l0, l1, l2, .int i3, l4, l5] [.int i3, w0, w1, w2] σ := q_iload_n t201_361 rfl
theorem t201_362 : decode (mb 201) 362 = .ok (.invokevirtual 309, 3) := by decide +kernel
theorem s201_362_o87 (d : Nat) (l0 : Value) (l1 : Value) (l2 : Value) (l3 : Value) (l4 : Value) (l5 : Value) (v1 v2 v3 : Value) (σ : Hs) : ru d 201 362 [l0, l1, l2, l3, l4, l5] [v3, v2, v1, .ref 87] σ = kont (callD d 200 [.ref 87, v1, v2, v3] σ) d 201 365 [l0, l1, l2, l3, l4, l5] [] := q_invv t201_362 mo201 K8_309 mj200 rfl rfl rfl rfl (Nat.le_of_ble_eq_true rfl)
theorem t201_365 : decode (mb 201) 365 = .ok (.aload_n 0, 1) := by decide +kernel
theorem s201_365 (d : Nat) (a0 : Nat) (l1 : Value) (l2 : Value) (l3 : Value) (l4 : Value) (l5 : Value) (w0 : Value) (σ : Hs) : ru d 201 365 [.ref a0, l1, l2, l3, l4, l5] [w0] σ = ru d 201 366 [.ref a0, l1, l2, l3, l4, l5] [.ref a0, w0] σ := q_aload_n t201_365 rfl
theorem t201_366 : decode (mb 201) 366 = .ok (.getfield 306, 3) := by decide +kernel
theorem s201_366_o87 (d : Nat) (l0 : Value) (l1 : Value) (l2 : Value) (l3 : Value) (l4 : Value) (l5 : Value) (w0 : Value) (σ : Hs) : ru d 201 366 [l0, l1, l2, l3, l4, l5] [.ref 87, w0] σ = ru d 201 369 [l0, l1, l2, l3, l4, l5] [.int (σ 87 20), w0] σ := q_getf t201_366 mo201 F8_306 rfl rfl
theorem t201_369 : decode (mb 201) 369 = .ok (.iadd, 1) := by decide +kernel
theorem s201_369 (d : Nat) (l0 : Value) (l1 : Value) (l2 : Value) (l3 : Value) (l4 : Value) (l5 : Value) (x y : Int32) (σ : Hs) : ru d 201 369 [l0, l1, l2, l3, l4, l5] [.int y, .int x] σ = ru d 201 370 [l0, l1, l2, l3, l4, l5] [.int (x + y)] σ := q_iadd t201_369
theorem t201_370 : decode (mb 201) 370 = .ok (.ireturn, 1) := by decide +kernel
theorem s201_370 (d : Nat) (l0 : Value) (l1 : Value) (l2 : Value) (l3 : Value) (l4 : Value) (l5 : Value) (x : Int32) (σ : Hs) : ru d 201 370 [l0, l1, l2, l3, l4, l5] [.int x] σ = some (some (.int x), σ) := q_ireti t201_370 mr201
theorem t201_371 : decode (mb 201) 371 = .ok (.aload_n 0, 1) := by decide +kernel
theorem s201_371 (d : Nat) (a0 : Nat) (l1 : Value) (l2 : Value) (l3 : Value) (l4 : Value) (l5 : Value) (σ : Hs) : ru d 201 371 [.ref a0, l1, l2, l3, l4, l5] [] σ = ru d 201 372 [.ref a0, l1, l2, l3, l4, l5] [.ref a0] σ := q_aload_n t201_371 rfl
theorem t201_372 : decode (mb 201) 372 = .ok (.bipush 70, 2) := by decide +kernel
theorem s201_372 (d : Nat) (l0 : Value) (l1 : Value) (l2 : Value) (l3 : Value) (l4 : Value) (l5 : Value) (w0 : Value) (σ : Hs) : ru d 201 372 [l0, l1, l2, l3, l4, l5] [w0] σ = ru d 201 374 [l0, l1, l2, l3, l4, l5] [.int 70, w0] σ := q_bipush t201_372 (by decide +kernel)
theorem t201_374 : decode (mb 201) 374 = .ok (.invokevirtual 321, 3) := by decide +kernel
theorem s201_374_o87 (d : Nat) (l0 : Value) (l1 : Value) (l2 : Value) (l3 : Value) (l4 : Value) (l5 : Value) (v1 : Value) (σ : Hs) : ru d 201 374 [l0, l1, l2, l3, l4, l5] [v1, .ref 87] σ = kont (callD d 197 [.ref 87, v1] σ) d 201 377 [l0, l1, l2, l3, l4, l5] [] := q_invv t201_374 mo201 K8_321 mj197 rfl rfl rfl rfl (Nat.le_of_ble_eq_true rfl)
theorem t201_377 : decode (mb 201) 377 = .ok (.iconst 3, 1) := by decide +kernel
theorem s201_377 (d : Nat) (l0 : Value) (l1 : Value) (l2 : Value) (l3 : Value) (l4 : Value) (l5 : Value) (σ : Hs) : ru d 201 377 [l0, l1, l2, l3, l4, l5] [] σ = ru d 201 378 [l0, l1, l2, l3, l4, l5] [.int 3] σ := q_iconst t201_377 (by decide +kernel)
theorem t201_378 : decode (mb 201) 378 = .ok (.ireturn, 1) := by decide +kernel
theorem s201_378 (d : Nat) (l0 : Value) (l1 : Value) (l2 : Value) (l3 : Value) (l4 : Value) (l5 : Value) (x : Int32) (σ : Hs) : ru d 201 378 [l0, l1, l2, l3, l4, l5] [.int x] σ = some (some (.int x), σ) := q_ireti t201_378 mr201
theorem t201_379 : decode (mb 201) 379 = .ok (.aload_n 0, 1) := by decide +kernel
theorem s201_379 (d : Nat) (a0 : Nat) (l1 : Value) (l2 : Value) (l3 : Value) (l4 : Value) (l5 : Value) (σ : Hs) : ru d 201 379 [.ref a0, l1, l2, l3, l4, l5] [] σ = ru d 201 380 [.ref a0, l1, l2, l3, l4, l5] [.ref a0] σ := q_aload_n t201_379 rfl
theorem t201_380 : decode (mb 201) 380 = .ok (.bipush 71, 2) := by decide +kernel
theorem s201_380 (d : Nat) (l0 : Value) (l1 : Value) (l2 : Value) (l3 : Value) (l4 : Value) (l5 : Value) (w0 : Value) (σ : Hs) : ru d 201 380 [l0, l1, l2, l3, l4, l5] [w0] σ = ru d 201 382 [l0, l1, l2, l3, l4, l5] [.int 71, w0] σ := q_bipush t201_380 (by decide +kernel)
theorem t201_382 : decode (mb 201) 382 = .ok (.invokevirtual 321, 3) := by decide +kernel
theorem s201_382_o87 (d : Nat) (l0 : Value) (l1 : Value) (l2 : Value) (l3 : Value) (l4 : Value) (l5 : Value) (v1 : Value) (σ : Hs) : ru d 201 382 [l0, l1, l2, l3, l4, l5] [v1, .ref 87] σ = kont (callD d 197 [.ref 87, v1] σ) d 201 385 [l0, l1, l2, l3, l4, l5] [] := q_invv t201_382 mo201 K8_321 mj197 rfl rfl rfl rfl (Nat.le_of_ble_eq_true rfl)
theorem t201_385 : decode (mb 201) 385 = .ok (.aload_n 0, 1) := by decide +kernel
theorem s201_385 (d : Nat) (a0 : Nat) (l1 : Value) (l2 : Value) (l3 : Value) (l4 : Value) (l5 : Value) (σ : Hs) : ru d 201 385 [.ref a0, l1, l2, l3, l4, l5] [] σ = ru d 201 386 [.ref a0, l1, l2, l3, l4, l5] [.ref a0] σ := q_aload_n t201_385 rfl
theorem t201_386 : decode (mb 201) 386 = .ok (.iconst 5, 1) := by decide +kernel
theorem s201_386 (d : Nat) (l0 : Value) (l1 : Value) (l2 : Value) (l3 : Value) (l4 : Value) (l5 : Value) (w0 : Value) (σ : Hs) : ru d 201 386 [l0, l1, l2, l3, l4, l5] [w0] σ = ru d 201 387 [l0, l1, l2, l3, l4, l5] [.int 5, w0] σ := q_iconst t201_386 (by decide +kernel)
theorem t201_387 : decode (mb 201) 387 = .ok (.iconst 2, 1) := by decide +kernel
theorem s201_387 (d : Nat) (l0 : Value) (l1 : Value) (l2 : Value) (l3 : Value) (l4 : Value) (l5 : Value) (w0 w1 : Value) (σ : Hs) : ru d 201 387 [l0, l1, l2, l3, l4, l5] [w0, w1] σ = ru d 201 388 [l0, l1, l2, l3, l4, l5] [.int 2, w0, w1] σ := q_iconst t201_387 (by decide +kernel)
theorem t201_388 : decode (mb 201) 388 = .ok (.iload_n 3, 1) := by decide +kernel
theorem s201_388 (d : Nat) (l0 : Value) (l1 : Value) (l2 : Value) (i3 : Int32) (l4 : Value) (l5 : Value) (w0 w1 w2 : Value) (σ : Hs) : ru d 201 388 [l0, l1, l2, .int i3, l4, l5] [w0, w1, w2] σ = ru d 201 389 [l0, l1, l2, .int i3, l4, l5] [.int i3, w0, w1, w2] σ := q_iload_n t201_388 rfl
theorem t201_389 : decode (mb 201) 389 = .ok (.invokevirtual 309, 3) := by decide +kernel
theorem s201_389_o87 (d : Nat) (l0 : Value) (l1 : Value) (l2 : Value) (l3 : Value) (l4 : Value) (l5 : Value) (v1 v2 v3 : Value) (σ : Hs) : ru d 201 389 [l0, l1, l2, l3, l4, l5] [v3, v2, v1, .ref 87] σ = kont (callD d 200 [.ref 87, v1, v2, v3] σ) d 201 392 [l0, l1, l2, l3, l4, l5] [] := q_invv t201_389 mo201 K8_309 mj200 rfl rfl rfl rfl (Nat.le_of_ble_eq_true rfl)
theorem t201_392 : decode (mb 201) 392 = .ok (.iconst 5, 1) := by decide +kernel
theorem s201_392 (d : Nat) (l0 : Value) (l1 : Value) (l2 : Value) (l3 : Value) (l4 : Value) (l5 : Value) (w0 : Value) (σ : Hs) : ru d 201 392 [l0, l1, l2, l3, l4, l5] [w0] σ = ru d 201 393 [l0, l1, l2, l3, l4, l5] [.int 5, w0] σ := q_iconst t201_392 (by decide +kernel)
theorem t201_393 : decode (mb 201) 393 = .ok (.imul, 1) := by decide +kernel
theorem s201_393 (d : Nat) (l0 : Value) (l1 : Value) (l2 : Value) (l3 : Value) (l4 : Value) (l5 : Value) (x y : Int32) (σ : Hs) : ru d 201 393 [l0, l1, l2, l3, l4, l5] [.int y, .int x] σ = ru d 201 394 [l0, l1, l2, l3, l4, l5] [.int (x * y)] σ := q_imul t201_393
theorem t201_394 : decode (mb 201) 394 = .ok (.ireturn, 1) := by decide +kernel
theorem s201_394 (d : Nat) (l0 : Value) (l1 : Value) (l2 : Value) (l3 : Value) (l4 : Value) (l5 : Value) (x : Int32) (σ : Hs) : ru d 201 394 [l0, l1, l2, l3, l4, l5] [.int x] σ = some (some (.int x), σ) := q_ireti t201_394 mr201
theorem c201 (d : Nat) (x0 : Nat) (x1 : Int32) (x2 : Int32) (x3 : Int32) (σ : Hs) : callD (d + 1) 201 [.ref x0, .int x1, .int x2, .int x3] σ = ru d 201 0 [.ref x0, .int x1, .int x2, .int x3, uu, uu] [] σ := callD_ru ml201 rfl rfl (Nat.le_of_ble_eq_true rfl)
-- 202: Model.voice(III)I
theorem t202_0 : decode (mb 202) 0 = .ok (.iload_n 1, 1) := by decide +kernel
theorem s202_0 (d : Nat) (l0 : Value) (i1 : Int32) (l2 : Value) (l3 : Value) (l4 : Value) (σ : Hs) : ru d 202 0 [l0, .int i1, l2, l3, l4] [] σ = ru d 202 1 [l0, .int i1, l2, l3, l4] [.int i1] σ := q_iload_n t202_0 rfl
theorem t202_1 : decode (mb 202) 1 = .ok (.invokestatic 113, 3) := by decide +kernel
theorem s202_1 (d : Nat) (l0 : Value) (l1 : Value) (l2 : Value) (l3 : Value) (l4 : Value) (v0 : Value) (σ : Hs) : ru d 202 1 [l0, l1, l2, l3, l4] [v0] σ = kont (callD d 121 [v0] σ) d 202 4 [l0, l1, l2, l3, l4] [] := q_invs t202_1 mo202 (by decide +kernel) K8_113 mj121 (Nat.le_of_ble_eq_true rfl) rfl rfl (Nat.le_of_ble_eq_true rfl)
theorem t202_4 : decode (mb 202) 4 = .ok (.ifCond .eq 12, 3) := by decide +kernel
theorem s202_4 (d : Nat) (l0 : Value) (l1 : Value) (l2 : Value) (l3 : Value) (l4 : Value) (x : Int32) (σ : Hs) : ru d 202 4 [l0, l1, l2, l3, l4] [.int x] σ = if x = 0 then ru d 202 16 [l0, l1, l2, l3, l4] [] σ else ru d 202 7 [l0, l1, l2, l3, l4] [] σ := q_if_eq t202_4 (by decide +kernel)
theorem t202_7 : decode (mb 202) 7 = .ok (.iload_n 2, 1) := by decide +kernel
theorem s202_7 (d : Nat) (l0 : Value) (l1 : Value) (i2 : Int32) (l3 : Value) (l4 : Value) (σ : Hs) : ru d 202 7 [l0, l1, .int i2, l3, l4] [] σ = ru d 202 8 [l0, l1, .int i2, l3, l4] [.int i2] σ := q_iload_n t202_7 rfl
theorem t202_8 : decode (mb 202) 8 = .ok (.iconst 0, 1) := by decide +kernel
theorem s202_8 (d : Nat) (l0 : Value) (l1 : Value) (l2 : Value) (l3 : Value) (l4 : Value) (w0 : Value) (σ : Hs) : ru d 202 8 [l0, l1, l2, l3, l4] [w0] σ = ru d 202 9 [l0, l1, l2, l3, l4] [.int 0, w0] σ := q_iconst t202_8 (by decide +kernel)
theorem t202_9 : decode (mb 202) 9 = .ok (.iconst 3, 1) := by decide +kernel
theorem s202_9 (d : Nat) (l0 : Value) (l1 : Value) (l2 : Value) (l3 : Value) (l4 : Value) (w0 w1 : Value) (σ : Hs) : ru d 202 9 [l0, l1, l2, l3, l4] [w0, w1] σ = ru d 202 10 [l0, l1, l2, l3, l4] [.int 3, w0, w1] σ := q_iconst t202_9 (by decide +kernel)
theorem t202_10 : decode (mb 202) 10 = .ok (.invokestatic 81, 3) := by decide +kernel
theorem s202_10 (d : Nat) (l0 : Value) (l1 : Value) (l2 : Value) (l3 : Value) (l4 : Value) (v0 v1 v2 : Value) (σ : Hs) : ru d 202 10 [l0, l1, l2, l3, l4] [v2, v1, v0] σ = kont (callD d 113 [v0, v1, v2] σ) d 202 13 [l0, l1, l2, l3, l4] [] := q_invs t202_10 mo202 (by decide +kernel) K8_81 mj113 (Nat.le_of_ble_eq_true rfl) rfl rfl (Nat.le_of_ble_eq_true rfl)
theorem t202_13 : decode (mb 202) 13 = .ok (.ifCond .ne 10, 3) := by decide +kernel
theorem s202_13 (d : Nat) (l0 : Value) (l1 : Value) (l2 : Value) (l3 : Value) (l4 : Value) (x : Int32) (σ : Hs) : ru d 202 13 [l0, l1, l2, l3, l4] [.int x] σ = if x = 0 then ru d 202 16 [l0, l1, l2, l3, l4] [] σ else ru d 202 23 [l0, l1, l2, l3, l4] [] σ := q_if_ne t202_13 (by decide +kernel)
theorem t202_16 : decode (mb 202) 16 = .ok (.aload_n 0, 1) := by decide +kernel
theorem s202_16 (d : Nat) (a0 : Nat) (l1 : Value) (l2 : Value) (l3 : Value) (l4 : Value) (σ : Hs) : ru d 202 16 [.ref a0, l1, l2, l3, l4] [] σ = ru d 202 17 [.ref a0, l1, l2, l3, l4] [.ref a0] σ := q_aload_n t202_16 rfl
theorem t202_17 : decode (mb 202) 17 = .ok (.ldc 104, 2) := by decide +kernel
theorem s202_17 (d : Nat) (l0 : Value) (l1 : Value) (l2 : Value) (l3 : Value) (l4 : Value) (w0 : Value) (σ : Hs) : ru d 202 17 [l0, l1, l2, l3, l4] [w0] σ = ru d 202 19 [l0, l1, l2, l3, l4] [.int (-1000001), w0] σ := q_ldc t202_17 mo202 C8_104
theorem t202_19 : decode (mb 202) 19 = .ok (.invokevirtual 105, 3) := by decide +kernel
theorem s202_19_o87 (d : Nat) (l0 : Value) (l1 : Value) (l2 : Value) (l3 : Value) (l4 : Value) (v1 : Value) (σ : Hs) : ru d 202 19 [l0, l1, l2, l3, l4] [v1, .ref 87] σ = kont (callD d 112 [.ref 87, v1] σ) d 202 22 [l0, l1, l2, l3, l4] [] := q_invv t202_19 mo202 K8_105 mj112 rfl rfl rfl rfl (Nat.le_of_ble_eq_true rfl)
theorem t202_22 : decode (mb 202) 22 = .ok (.ireturn, 1) := by decide +kernel
theorem s202_22 (d : Nat) (l0 : Value) (l1 : Value) (l2 : Value) (l3 : Value) (l4 : Value) (x : Int32) (σ : Hs) : ru d 202 22 [l0, l1, l2, l3, l4] [.int x] σ = some (some (.int x), σ) := q_ireti t202_22 mr202
theorem t202_23 : decode (mb 202) 23 = .ok (.aload_n 0, 1) := by decide +kernel
theorem s202_23 (d : Nat) (a0 : Nat) (l1 : Value) (l2 : Value) (l3 : Value) (l4 : Value) (σ : Hs) : ru d 202 23 [.ref a0, l1, l2, l3, l4] [] σ = ru d 202 24 [.ref a0, l1, l2, l3, l4] [.ref a0] σ := q_aload_n t202_23 rfl
theorem t202_24 : decode (mb 202) 24 = .ok (.iload_n 1, 1) := by decide +kernel
theorem s202_24 (d : Nat) (l0 : Value) (i1 : Int32) (l2 : Value) (l3 : Value) (l4 : Value) (w0 : Value) (σ : Hs) : ru d 202 24 [l0, .int i1, l2, l3, l4] [w0] σ = ru d 202 25 [l0, .int i1, l2, l3, l4] [.int i1, w0] σ := q_iload_n t202_24 rfl
theorem t202_25 : decode (mb 202) 25 = .ok (.invokevirtual 88, 3) := by decide +kernel
theorem s202_25_o87 (d : Nat) (l0 : Value) (l1 : Value) (l2 : Value) (l3 : Value) (l4 : Value) (v1 : Value) (σ : Hs) : ru d 202 25 [l0, l1, l2, l3, l4] [v1, .ref 87] σ = kont (callD d 122 [.ref 87, v1] σ) d 202 28 [l0, l1, l2, l3, l4] [] := q_invv t202_25 mo202 K8_88 mj122 rfl rfl rfl rfl (Nat.le_of_ble_eq_true rfl)
theorem t202_28 : decode (mb 202) 28 = .ok (.ifCond .ne 10, 3) := by decide +kernel
theorem s202_28 (d : Nat) (l0 : Value) (l1 : Value) (l2 : Value) (l3 : Value) (l4 : Value) (x : Int32) (σ : Hs) : ru d 202 28 [l0, l1, l2, l3, l4] [.int x] σ = if x = 0 then ru d 202 31 [l0, l1, l2, l3, l4] [] σ else ru d 202 38 [l0, l1, l2, l3, l4] [] σ := q_if_ne t202_28 (by decide +kernel)
theorem t202_31 : decode (mb 202) 31 = .ok (.aload_n 0, 1) := by decide +kernel
theorem s202_31 (d : Nat) (a0 : Nat) (l1 : Value) (l2 : Value) (l3 : Value) (l4 : Value) (σ : Hs) : ru d 202 31 [.ref a0, l1, l2, l3, l4] [] σ = ru d 202 32 [.ref a0, l1, l2, l3, l4] [.ref a0] σ := q_aload_n t202_31 rfl
theorem t202_32 : decode (mb 202) 32 = .ok (.ldc 116, 2) := by decide +kernel
theorem s202_32 (d : Nat) (l0 : Value) (l1 : Value) (l2 : Value) (l3 : Value) (l4 : Value) (w0 : Value) (σ : Hs) : ru d 202 32 [l0, l1, l2, l3, l4] [w0] σ = ru d 202 34 [l0, l1, l2, l3, l4] [.int (-1000002), w0] σ := q_ldc t202_32 mo202 C8_116
theorem t202_34 : decode (mb 202) 34 = .ok (.invokevirtual 105, 3) := by decide +kernel
theorem s202_34_o87 (d : Nat) (l0 : Value) (l1 : Value) (l2 : Value) (l3 : Value) (l4 : Value) (v1 : Value) (σ : Hs) : ru d 202 34 [l0, l1, l2, l3, l4] [v1, .ref 87] σ = kont (callD d 112 [.ref 87, v1] σ) d 202 37 [l0, l1, l2, l3, l4] [] := q_invv t202_34 mo202 K8_105 mj112 rfl rfl rfl rfl (Nat.le_of_ble_eq_true rfl)
theorem t202_37 : decode (mb 202) 37 = .ok (.ireturn, 1) := by decide +kernel
theorem s202_37 (d : Nat) (l0 : Value) (l1 : Value) (l2 : Value) (l3 : Value) (l4 : Value) (x : Int32) (σ : Hs) : ru d 202 37 [l0, l1, l2, l3, l4] [.int x] σ = some (some (.int x), σ) := q_ireti t202_37 mr202
theorem t202_38 : decode (mb 202) 38 = .ok (.aload_n 0, 1) := by decide +kernel
theorem s202_38 (d : Nat) (a0 : Nat) (l1 : Value) (l2 : Value) (l3 : Value) (l4 : Value) (σ : Hs) : ru d 202 38 [.ref a0, l1, l2, l3, l4] [] σ = ru d 202 39 [.ref a0, l1, l2, l3, l4] [.ref a0] σ := q_aload_n t202_38 rfl
theorem t202_39 : decode (mb 202) 39 = .ok (.iconst 0, 1) := by decide +kernel
theorem s202_39 (d : Nat) (l0 : Value) (l1 : Value) (l2 : Value) (l3 : Value) (l4 : Value) (w0 : Value) (σ : Hs) : ru d 202 39 [l0, l1, l2, l3, l4] [w0] σ = ru d 202 40 [l0, l1, l2, l3, l4] [.int 0, w0] σ := q_iconst t202_39 (by decide +kernel)
theorem t202_40 : decode (mb 202) 40 = .ok (.putfield 303, 3) := by decide +kernel
theorem s202_40_o87 (d : Nat) (l0 : Value) (l1 : Value) (l2 : Value) (l3 : Value) (l4 : Value) (x : Int32) (σ : Hs) : ru d 202 40 [l0, l1, l2, l3, l4] [.int x, .ref 87] σ = ru d 202 43 [l0, l1, l2, l3, l4] [] (up2 σ 87 19 x) := q_puti t202_40 mo202 F8_303 (by decide +kernel) rfl rfl
theorem t202_43 : decode (mb 202) 43 = .ok (.aload_n 0, 1) := by decide +kernel
theorem s202_43 (d : Nat) (a0 : Nat) (l1 : Value) (l2 : Value) (l3 : Value) (l4 : Value) (σ : Hs) : ru d 202 43 [.ref a0, l1, l2, l3, l4] [] σ = ru d 202 44 [.ref a0, l1, l2, l3, l4] [.ref a0] σ := q_aload_n t202_43 rfl
theorem t202_44 : decode (mb 202) 44 = .ok (.iload_n 1, 1) := by decide +kernel
theorem s202_44 (d : Nat) (l0 : Value) (i1 : Int32) (l2 : Value) (l3 : Value) (l4 : Value) (w0 : Value) (σ : Hs) : ru d 202 44 [l0, .int i1, l2, l3, l4] [w0] σ = ru d 202 45 [l0, .int i1, l2, l3, l4] [.int i1, w0] σ := q_iload_n t202_44 rfl
theorem t202_45 : decode (mb 202) 45 = .ok (.putfield 306, 3) := by decide +kernel
theorem s202_45_o87 (d : Nat) (l0 : Value) (l1 : Value) (l2 : Value) (l3 : Value) (l4 : Value) (x : Int32) (σ : Hs) : ru d 202 45 [l0, l1, l2, l3, l4] [.int x, .ref 87] σ = ru d 202 48 [l0, l1, l2, l3, l4] [] (up2 σ 87 20 x) := q_puti t202_45 mo202 F8_306 (by decide +kernel) rfl rfl
theorem t202_48 : decode (mb 202) 48 = .ok (.aload_n 0, 1) := by decide +kernel
theorem s202_48 (d : Nat) (a0 : Nat) (l1 : Value) (l2 : Value) (l3 : Value) (l4 : Value) (σ : Hs) : ru d 202 48 [.ref a0, l1, l2, l3, l4] [] σ = ru d 202 49 [.ref a0, l1, l2, l3, l4] [.ref a0] σ := q_aload_n t202_48 rfl
theorem t202_49 : decode (mb 202) 49 = .ok (.iconst 0, 1) := by decide +kernel
theorem s202_49 (d : Nat) (l0 : Value) (l1 : Value) (l2 : Value) (l3 : Value) (l4 : Value) (w0 : Value) (σ : Hs) : ru d 202 49 [l0, l1, l2, l3, l4] [w0] σ = ru d 202 50 [l0, l1, l2, l3, l4] [.int 0, w0] σ := q_iconst t202_49 (by decide +kernel)
theorem t202_50 : decode (mb 202) 50 = .ok (.putfield 315, 3) := by decide +kernel
theorem s202_50_o87 (d : Nat) (l0 : Value) (l1 : Value) (l2 : Value) (l3 : Value) (l4 : Value) (x : Int32) (hx : isB x) (σ : Hs) : ru d 202 50 [l0, l1, l2, l3, l4] [.int x, .ref 87] σ = ru d 202 53 [l0, l1, l2, l3, l4] [] (up2 σ 87 21 x) := q_putz t202_50 mo202 F8_315 (by decide +kernel) rfl rfl hx
theorem t202_53 : decode (mb 202) 53 = .ok (.aload_n 0, 1) := by decide +kernel
theorem s202_53 (d : Nat) (a0 : Nat) (l1 : Value) (l2 : Value) (l3 : Value) (l4 : Value) (σ : Hs) : ru d 202 53 [.ref a0, l1, l2, l3, l4] [] σ = ru d 202 54 [.ref a0, l1, l2, l3, l4] [.ref a0] σ := q_aload_n t202_53 rfl
theorem t202_54 : decode (mb 202) 54 = .ok (.iload_n 2, 1) := by decide +kernel
theorem s202_54 (d : Nat) (l0 : Value) (l1 : Value) (i2 : Int32) (l3 : Value) (l4 : Value) (w0 : Value) (σ : Hs) : ru d 202 54 [l0, l1, .int i2, l3, l4] [w0] σ = ru d 202 55 [l0, l1, .int i2, l3, l4] [.int i2, w0] σ := q_iload_n t202_54 rfl
theorem t202_55 : decode (mb 202) 55 = .ok (.iload_n 3, 1) := by decide +kernel
theorem s202_55 (d : Nat) (l0 : Value) (l1 : Value) (l2 : Value) (i3 : Int32) (l4 : Value) (w0 w1 : Value) (σ : Hs) : ru d 202 55 [l0, l1, l2, .int i3, l4] [w0, w1] σ = ru d 202 56 [l0, l1, l2, .int i3, l4] [.int i3, w0, w1] σ := q_iload_n t202_55 rfl
theorem t202_56 : decode (mb 202) 56 = .ok (.invokevirtual 324, 3) := by decide +kernel
theorem s202_56_o87 (d : Nat) (l0 : Value) (l1 : Value) (l2 : Value) (l3 : Value) (l4 : Value) (v1 v2 : Value) (σ : Hs) : ru d 202 56 [l0, l1, l2, l3, l4] [v2, v1, .ref 87] σ = kont (callD d 199 [.ref 87, v1, v2] σ) d 202 59 [l0, l1, l2, l3, l4] [] := q_invv t202_56 mo202 K8_324 mj199 rfl rfl rfl rfl (Nat.le_of_ble_eq_true rfl)
theorem t202_59 : decode (mb 202) 59 = .ok (.istore 4, 2) := by decide +kernel
theorem s202_59 (d : Nat) (l0 : Value) (l1 : Value) (l2 : Value) (i3 : Int32) (l4 : Value) (x : Int32) (σ : Hs) : ru d 202 59 [l0, l1, l2, .int i3, l4] [.int x] σ = ru d 202 61 [l0, l1, l2, .int i3, .int x] [] σ := q_istore t202_59 ⟨Nat.le_of_ble_eq_true rfl, rfl⟩ rfl
theorem t202_61 : decode (mb 202) 61 = .ok (.aload_n 0, 1) := by decide +kernel
theorem s202_61 (d : Nat) (a0 : Nat) (l1 : Value) (l2 : Value) (l3 : Value) (l4 : Value) (σ : Hs) : ru d 202 61 [.ref a0, l1, l2, l3, l4] [] σ = ru d 202 62 [.ref a0, l1, l2, l3, l4] [.ref a0] σ := q_aload_n t202_61 rfl
theorem t202_62 : decode (mb 202) 62 = .ok (.getfield 315, 3) := by decide +kernel
theorem s202_62_o87 (d : Nat) (l0 : Value) (l1 : Value) (l2 : Value) (l3 : Value) (l4 : Value) (σ : Hs) : ru d 202 62 [l0, l1, l2, l3, l4] [.ref 87] σ = ru d 202 65 [l0, l1, l2, l3, l4] [.int (σ 87 21)] σ := q_getf t202_62 mo202 F8_315 rfl rfl
theorem t202_65 : decode (mb 202) 65 = .ok (.ifCond .eq 13, 3) := by decide +kernel
theorem s202_65 (d : Nat) (l0 : Value) (l1 : Value) (l2 : Value) (l3 : Value) (l4 : Value) (x : Int32) (σ : Hs) : ru d 202 65 [l0, l1, l2, l3, l4] [.int x] σ = if x = 0 then ru d 202 78 [l0, l1, l2, l3, l4] [] σ else ru d 202 68 [l0, l1, l2, l3, l4] [] σ := q_if_eq t202_65 (by decide +kernel)
theorem t202_68 : decode (mb 202) 68 = .ok (.aload_n 0, 1) := by decide +kernel
theorem s202_68 (d : Nat) (a0 : Nat) (l1 : Value) (l2 : Value) (l3 : Value) (l4 : Value) (σ : Hs) : ru d 202 68 [.ref a0, l1, l2, l3, l4] [] σ = ru d 202 69 [.ref a0, l1, l2, l3, l4] [.ref a0] σ := q_aload_n t202_68 rfl
theorem t202_69 : decode (mb 202) 69 = .ok (.ldc_w 327, 3) := by decide +kernel
theorem s202_69 (d : Nat) (l0 : Value) (l1 : Value) (l2 : Value) (l3 : Value) (l4 : Value) (w0 : Value) (σ : Hs) : ru d 202 69 [l0, l1, l2, l3, l4] [w0] σ = ru d 202 72 [l0, l1, l2, l3, l4] [.int (-1000006), w0] σ := q_ldcw t202_69 mo202 C8_327
theorem t202_72 : decode (mb 202) 72 = .ok (.invokevirtual 105, 3) := by decide +kernel
theorem s202_72_o87 (d : Nat) (l0 : Value) (l1 : Value) (l2 : Value) (l3 : Value) (l4 : Value) (v1 : Value) (σ : Hs) : ru d 202 72 [l0, l1, l2, l3, l4] [v1, .ref 87] σ = kont (callD d 112 [.ref 87, v1] σ) d 202 75 [l0, l1, l2, l3, l4] [] := q_invv t202_72 mo202 K8_105 mj112 rfl rfl rfl rfl (Nat.le_of_ble_eq_true rfl)
theorem t202_75 : decode (mb 202) 75 = .ok (.goto 5, 3) := by decide +kernel
theorem s202_75 (d : Nat) (l0 : Value) (l1 : Value) (l2 : Value) (l3 : Value) (l4 : Value) (w0 : Value) (σ : Hs) : ru d 202 75 [l0, l1, l2, l3, l4] [w0] σ = ru d 202 80 [l0, l1, l2, l3, l4] [w0] σ := q_goto t202_75 (by decide +kernel)
theorem t202_78 : decode (mb 202) 78 = .ok (.iload 4, 2) := by decide +kernel
theorem s202_78 (d : Nat) (l0 : Value) (l1 : Value) (l2 : Value) (l3 : Value) (i4 : Int32) (σ : Hs) : ru d 202 78 [l0, l1, l2, l3, .int i4] [] σ = ru d 202 80 [l0, l1, l2, l3, .int i4] [.int i4] σ := q_iload t202_78 rfl
theorem t202_80 : decode (mb 202) 80 = .ok (.ireturn, 1) := by decide +kernel
theorem s202_80 (d : Nat) (l0 : Value) (l1 : Value) (l2 : Value) (l3 : Value) (l4 : Value) (x : Int32) (σ : Hs) : ru d 202 80 [l0, l1, l2, l3, l4] [.int x] σ = some (some (.int x), σ) := q_ireti t202_80 mr202
theorem c202 (d : Nat) (x0 : Nat) (x1 : Int32) (x2 : Int32) (x3 : Int32) (σ : Hs) : callD (d + 1) 202 [.ref x0, .int x1, .int x2, .int x3] σ = ru d 202 0 [.ref x0, .int x1, .int x2, .int x3, uu] [] σ := callD_ru ml202 rfl rfl (Nat.le_of_ble_eq_true rfl)
-- 203: Model.body_(I)I
theorem t203_0 : decode (mb 203) 0 = .ok (.iload_n 1, 1) := by decide +kernel
theorem s203_0 (d : Nat) (l0 : Value) (i1 : Int32) (σ : Hs) : ru d 203 0 [l0, .int i1] [] σ = ru d 203 1 [l0, .int i1] [.int i1] σ := q_iload_n t203_0 rfl
theorem t203_1 : decode (mb 203) 1 = .ok (.iconst 0, 1) := by decide +kernel
theorem s203_1 (d : Nat) (l0 : Value) (l1 : Value) (w0 : Value) (σ : Hs) : ru d 203 1 [l0, l1] [w0] σ = ru d 203 2 [l0, l1] [.int 0, w0] σ := q_iconst t203_1 (by decide +kernel)
theorem t203_2 : decode (mb 203) 2 = .ok (.aload_n 0, 1) := by decide +kernel
theorem s203_2 (d : Nat) (a0 : Nat) (l1 : Value) (w0 w1 : Value) (σ : Hs) : ru d 203 2 [.ref a0, l1] [w0, w1] σ = ru d 203 3 [.ref a0, l1] [.ref a0, w0, w1] σ := q_aload_n t203_2 rfl
theorem t203_3 : decode (mb 203) 3 = .ok (.getfield 303, 3) := by decide +kernel
theorem s203_3_o87 (d : Nat) (l0 : Value) (l1 : Value) (w0 w1 : Value) (σ : Hs) : ru d 203 3 [l0, l1] [.ref 87, w0, w1] σ = ru d 203 6 [l0, l1] [.int (σ 87 19), w0, w1] σ := q_getf t203_3 mo203 F8_303 rfl rfl
theorem t203_6 : decode (mb 203) 6 = .ok (.iconst 1, 1) := by decide +kernel
theorem s203_6 (d : Nat) (l0 : Value) (l1 : Value) (w0 w1 w2 : Value) (σ : Hs) : ru d 203 6 [l0, l1] [w0, w1, w2] σ = ru d 203 7 [l0, l1] [.int 1, w0, w1, w2] σ := q_iconst t203_6 (by decide +kernel)
theorem t203_7 : decode (mb 203) 7 = .ok (.isub, 1) := by decide +kernel
theorem s203_7 (d : Nat) (l0 : Value) (l1 : Value) (x y : Int32) (w0 w1 : Value) (σ : Hs) : ru d 203 7 [l0, l1] [.int y, .int x, w0, w1] σ = ru d 203 8 [l0, l1] [.int (x - y), w0, w1] σ := q_isub t203_7
theorem t203_8 : decode (mb 203) 8 = .ok (.invokestatic 81, 3) := by decide +kernel
theorem s203_8 (d : Nat) (l0 : Value) (l1 : Value) (v0 v1 v2 : Value) (σ : Hs) : ru d 203 8 [l0, l1] [v2, v1, v0] σ = kont (callD d 113 [v0, v1, v2] σ) d 203 11 [l0, l1] [] := q_invs t203_8 mo203 (by decide +kernel) K8_81 mj113 (Nat.le_of_ble_eq_true rfl) rfl rfl (Nat.le_of_ble_eq_true rfl)
theorem t203_11 : decode (mb 203) 11 = .ok (.ifCond .eq 12, 3) := by decide +kernel
theorem s203_11 (d : Nat) (l0 : Value) (l1 : Value) (x : Int32) (σ : Hs) : ru d 203 11 [l0, l1] [.int x] σ = if x = 0 then ru d 203 23 [l0, l1] [] σ else ru d 203 14 [l0, l1] [] σ := q_if_eq t203_11 (by decide +kernel)
theorem t203_14 : decode (mb 203) 14 = .ok (.aload_n 0, 1) := by decide +kernel
theorem s203_14 (d : Nat) (a0 : Nat) (l1 : Value) (σ : Hs) : ru d 203 14 [.ref a0, l1] [] σ = ru d 203 15 [.ref a0, l1] [.ref a0] σ := q_aload_n t203_14 rfl
theorem t203_15 : decode (mb 203) 15 = .ok (.getfield 52, 3) := by decide +kernel
theorem s203_15_o87 (d : Nat) (l0 : Value) (l1 : Value) (σ : Hs) : ru d 203 15 [l0, l1] [.ref 87] σ = ru d 203 18 [l0, l1] [.ref 99] σ := q_getf t203_15 mo203 F8_52 rfl rfl
theorem t203_18 : decode (mb 203) 18 = .ok (.iload_n 1, 1) := by decide +kernel
theorem s203_18 (d : Nat) (l0 : Value) (i1 : Int32) (w0 : Value) (σ : Hs) : ru d 203 18 [l0, .int i1] [w0] σ = ru d 203 19 [l0, .int i1] [.int i1, w0] σ := q_iload_n t203_18 rfl
theorem t203_19 : decode (mb 203) 19 = .ok (.iaload, 1) := by decide +kernel
theorem s203_19_o99 (d : Nat) (l0 : Value) (l1 : Value) (i : Int32) (σ : Hs) : ru d 203 19 [l0, l1] [.int i, .ref 99] σ = gd (vp_in i 30) (ru d 203 20 [l0, l1] [.int (σ 99 i.toNatClampNeg)] σ) := q_iald t203_19 rfl (by decide +kernel) rfl
theorem t203_20 : decode (mb 203) 20 = .ok (.goto 9, 3) := by decide +kernel
theorem s203_20 (d : Nat) (l0 : Value) (l1 : Value) (w0 : Value) (σ : Hs) : ru d 203 20 [l0, l1] [w0] σ = ru d 203 29 [l0, l1] [w0] σ := q_goto t203_20 (by decide +kernel)
theorem t203_23 : decode (mb 203) 23 = .ok (.aload_n 0, 1) := by decide +kernel
theorem s203_23 (d : Nat) (a0 : Nat) (l1 : Value) (σ : Hs) : ru d 203 23 [.ref a0, l1] [] σ = ru d 203 24 [.ref a0, l1] [.ref a0] σ := q_aload_n t203_23 rfl
theorem t203_24 : decode (mb 203) 24 = .ok (.ldc 116, 2) := by decide +kernel
theorem s203_24 (d : Nat) (l0 : Value) (l1 : Value) (w0 : Value) (σ : Hs) : ru d 203 24 [l0, l1] [w0] σ = ru d 203 26 [l0, l1] [.int (-1000002), w0] σ := q_ldc t203_24 mo203 C8_116
theorem t203_26 : decode (mb 203) 26 = .ok (.invokevirtual 105, 3) := by decide +kernel
theorem s203_26_o87 (d : Nat) (l0 : Value) (l1 : Value) (v1 : Value) (σ : Hs) : ru d 203 26 [l0, l1] [v1, .ref 87] σ = kont (callD d 112 [.ref 87, v1] σ) d 203 29 [l0, l1] [] := q_invv t203_26 mo203 K8_105 mj112 rfl rfl rfl rfl (Nat.le_of_ble_eq_true rfl)
theorem t203_29 : decode (mb 203) 29 = .ok (.ireturn, 1) := by decide +kernel
theorem s203_29 (d : Nat) (l0 : Value) (l1 : Value) (x : Int32) (σ : Hs) : ru d 203 29 [l0, l1] [.int x] σ = some (some (.int x), σ) := q_ireti t203_29 mr203
theorem c203 (d : Nat) (x0 : Nat) (x1 : Int32) (σ : Hs) : callD (d + 1) 203 [.ref x0, .int x1] σ = ru d 203 0 [.ref x0, .int x1] [] σ := callD_ru ml203 rfl rfl (Nat.le_of_ble_eq_true rfl)
-- 204: Model.isSheet(I)Z
theorem t204_0 : decode (mb 204) 0 = .ok (.iload_n 0, 1) := by decide +kernel
theorem s204_0 (d : Nat) (i0 : Int32) (σ : Hs) : ru d 204 0 [.int i0] [] σ = ru d 204 1 [.int i0] [.int i0] σ := q_iload_n t204_0 rfl
theorem t204_1 : decode (mb 204) 1 = .ok (.iconst 0, 1) := by decide +kernel
theorem s204_1 (d : Nat) (l0 : Value) (w0 : Value) (σ : Hs) : ru d 204 1 [l0] [w0] σ = ru d 204 2 [l0] [.int 0, w0] σ := q_iconst t204_1 (by decide +kernel)
theorem t204_2 : decode (mb 204) 2 = .ok (.iconst 3, 1) := by decide +kernel
theorem s204_2 (d : Nat) (l0 : Value) (w0 w1 : Value) (σ : Hs) : ru d 204 2 [l0] [w0, w1] σ = ru d 204 3 [l0] [.int 3, w0, w1] σ := q_iconst t204_2 (by decide +kernel)
theorem t204_3 : decode (mb 204) 3 = .ok (.invokestatic 81, 3) := by decide +kernel
theorem s204_3 (d : Nat) (l0 : Value) (v0 v1 v2 : Value) (σ : Hs) : ru d 204 3 [l0] [v2, v1, v0] σ = kont (callD d 113 [v0, v1, v2] σ) d 204 6 [l0] [] := q_invs t204_3 mo204 (by decide +kernel) K8_81 mj113 (Nat.le_of_ble_eq_true rfl) rfl rfl (Nat.le_of_ble_eq_true rfl)
theorem t204_6 : decode (mb 204) 6 = .ok (.ireturn, 1) := by decide +kernel
theorem s204_6 (d : Nat) (l0 : Value) (x : Int32) (hx : isB x) (σ : Hs) : ru d 204 6 [l0] [.int x] σ = some (some (.int x), σ) := q_iretz t204_6 mr204 hx
theorem c204 (d : Nat) (x0 : Int32) (σ : Hs) : callD (d + 1) 204 [.int x0] σ = ru d 204 0 [.int x0] [] σ := callD_ru ml204 rfl rfl (Nat.le_of_ble_eq_true rfl)
-- 205: Model.sheet(III)I
theorem t205_0 : decode (mb 205) 0 = .ok (.iload_n 1, 1) := by decide +kernel
theorem s205_0 (d : Nat) (l0 : Value) (i1 : Int32) (l2 : Value) (l3 : Value) (l4 : Value) (σ : Hs) : ru d 205 0 [l0, .int i1, l2, l3, l4] [] σ = ru d 205 1 [l0, .int i1, l2, l3, l4] [.int i1] σ := q_iload_n t205_0 rfl
theorem t205_1 : decode (mb 205) 1 = .ok (.invokestatic 328, 3) := by decide +kernel
theorem s205_1 (d : Nat) (l0 : Value) (l1 : Value) (l2 : Value) (l3 : Value) (l4 : Value) (v0 : Value) (σ : Hs) : ru d 205 1 [l0, l1, l2, l3, l4] [v0] σ = kont (callD d 204 [v0] σ) d 205 4 [l0, l1, l2, l3, l4] [] := q_invs t205_1 mo205 (by decide +kernel) K8_328 mj204 (Nat.le_of_ble_eq_true rfl) rfl rfl (Nat.le_of_ble_eq_true rfl)
theorem t205_4 : decode (mb 205) 4 = .ok (.ifCond .eq 25, 3) := by decide +kernel
theorem s205_4 (d : Nat) (l0 : Value) (l1 : Value) (l2 : Value) (l3 : Value) (l4 : Value) (x : Int32) (σ : Hs) : ru d 205 4 [l0, l1, l2, l3, l4] [.int x] σ = if x = 0 then ru d 205 29 [l0, l1, l2, l3, l4] [] σ else ru d 205 7 [l0, l1, l2, l3, l4] [] σ := q_if_eq t205_4 (by decide +kernel)
theorem t205_7 : decode (mb 205) 7 = .ok (.iload_n 2, 1) := by decide +kernel
theorem s205_7 (d : Nat) (l0 : Value) (l1 : Value) (i2 : Int32) (l3 : Value) (l4 : Value) (σ : Hs) : ru d 205 7 [l0, l1, .int i2, l3, l4] [] σ = ru d 205 8 [l0, l1, .int i2, l3, l4] [.int i2] σ := q_iload_n t205_7 rfl
theorem t205_8 : decode (mb 205) 8 = .ok (.ifCond .eq 28, 3) := by decide +kernel
theorem s205_8 (d : Nat) (l0 : Value) (l1 : Value) (l2 : Value) (l3 : Value) (l4 : Value) (x : Int32) (σ : Hs) : ru d 205 8 [l0, l1, l2, l3, l4] [.int x] σ = if x = 0 then ru d 205 36 [l0, l1, l2, l3, l4] [] σ else ru d 205 11 [l0, l1, l2, l3, l4] [] σ := q_if_eq t205_8 (by decide +kernel)
theorem t205_11 : decode (mb 205) 11 = .ok (.iload_n 2, 1) := by decide +kernel
theorem s205_11 (d : Nat) (l0 : Value) (l1 : Value) (i2 : Int32) (l3 : Value) (l4 : Value) (σ : Hs) : ru d 205 11 [l0, l1, .int i2, l3, l4] [] σ = ru d 205 12 [l0, l1, .int i2, l3, l4] [.int i2] σ := q_iload_n t205_11 rfl
theorem t205_12 : decode (mb 205) 12 = .ok (.bipush 8, 2) := by decide +kernel
theorem s205_12 (d : Nat) (l0 : Value) (l1 : Value) (l2 : Value) (l3 : Value) (l4 : Value) (w0 : Value) (σ : Hs) : ru d 205 12 [l0, l1, l2, l3, l4] [w0] σ = ru d 205 14 [l0, l1, l2, l3, l4] [.int 8, w0] σ := q_bipush t205_12 (by decide +kernel)
theorem t205_14 : decode (mb 205) 14 = .ok (.if_icmp .eq 22, 3) := by decide +kernel
theorem s205_14 (d : Nat) (l0 : Value) (l1 : Value) (l2 : Value) (l3 : Value) (l4 : Value) (x y : Int32) (σ : Hs) : ru d 205 14 [l0, l1, l2, l3, l4] [.int y, .int x] σ = if x = y then ru d 205 36 [l0, l1, l2, l3, l4] [] σ else ru d 205 17 [l0, l1, l2, l3, l4] [] σ := q_ic_eq t205_14 (by decide +kernel)
theorem t205_17 : decode (mb 205) 17 = .ok (.iload_n 2, 1) := by decide +kernel
theorem s205_17 (d : Nat) (l0 : Value) (l1 : Value) (i2 : Int32) (l3 : Value) (l4 : Value) (σ : Hs) : ru d 205 17 [l0, l1, .int i2, l3, l4] [] σ = ru d 205 18 [l0, l1, .int i2, l3, l4] [.int i2] σ := q_iload_n t205_17 rfl
theorem t205_18 : decode (mb 205) 18 = .ok (.bipush 16, 2) := by decide +kernel
theorem s205_18 (d : Nat) (l0 : Value) (l1 : Value) (l2 : Value) (l3 : Value) (l4 : Value) (w0 : Value) (σ : Hs) : ru d 205 18 [l0, l1, l2, l3, l4] [w0] σ = ru d 205 20 [l0, l1, l2, l3, l4] [.int 16, w0] σ := q_bipush t205_18 (by decide +kernel)
theorem t205_20 : decode (mb 205) 20 = .ok (.if_icmp .eq 16, 3) := by decide +kernel
theorem s205_20 (d : Nat) (l0 : Value) (l1 : Value) (l2 : Value) (l3 : Value) (l4 : Value) (x y : Int32) (σ : Hs) : ru d 205 20 [l0, l1, l2, l3, l4] [.int y, .int x] σ = if x = y then ru d 205 36 [l0, l1, l2, l3, l4] [] σ else ru d 205 23 [l0, l1, l2, l3, l4] [] σ := q_ic_eq t205_20 (by decide +kernel)
theorem t205_23 : decode (mb 205) 23 = .ok (.iload_n 2, 1) := by decide +kernel
theorem s205_23 (d : Nat) (l0 : Value) (l1 : Value) (i2 : Int32) (l3 : Value) (l4 : Value) (σ : Hs) : ru d 205 23 [l0, l1, .int i2, l3, l4] [] σ = ru d 205 24 [l0, l1, .int i2, l3, l4] [.int i2] σ := q_iload_n t205_23 rfl
theorem t205_24 : decode (mb 205) 24 = .ok (.bipush 32, 2) := by decide +kernel
theorem s205_24 (d : Nat) (l0 : Value) (l1 : Value) (l2 : Value) (l3 : Value) (l4 : Value) (w0 : Value) (σ : Hs) : ru d 205 24 [l0, l1, l2, l3, l4] [w0] σ = ru d 205 26 [l0, l1, l2, l3, l4] [.int 32, w0] σ := q_bipush t205_24 (by decide +kernel)
theorem t205_26 : decode (mb 205) 26 = .ok (.if_icmp .eq 10, 3) := by decide +kernel
theorem s205_26 (d : Nat) (l0 : Value) (l1 : Value) (l2 : Value) (l3 : Value) (l4 : Value) (x y : Int32) (σ : Hs) : ru d 205 26 [l0, l1, l2, l3, l4] [.int y, .int x] σ = if x = y then ru d 205 36 [l0, l1, l2, l3, l4] [] σ else ru d 205 29 [l0, l1, l2, l3, l4] [] σ := q_ic_eq t205_26 (by decide +kernel)
theorem t205_29 : decode (mb 205) 29 = .ok (.aload_n 0, 1) := by decide +kernel
theorem s205_29 (d : Nat) (a0 : Nat) (l1 : Value) (l2 : Value) (l3 : Value) (l4 : Value) (σ : Hs) : ru d 205 29 [.ref a0, l1, l2, l3, l4] [] σ = ru d 205 30 [.ref a0, l1, l2, l3, l4] [.ref a0] σ := q_aload_n t205_29 rfl
theorem t205_30 : decode (mb 205) 30 = .ok (.ldc 104, 2) := by decide +kernel
theorem s205_30 (d : Nat) (l0 : Value) (l1 : Value) (l2 : Value) (l3 : Value) (l4 : Value) (w0 : Value) (σ : Hs) : ru d 205 30 [l0, l1, l2, l3, l4] [w0] σ = ru d 205 32 [l0, l1, l2, l3, l4] [.int (-1000001), w0] σ := q_ldc t205_30 mo205 C8_104
theorem t205_32 : decode (mb 205) 32 = .ok (.invokevirtual 105, 3) := by decide +kernel
theorem s205_32_o87 (d : Nat) (l0 : Value) (l1 : Value) (l2 : Value) (l3 : Value) (l4 : Value) (v1 : Value) (σ : Hs) : ru d 205 32 [l0, l1, l2, l3, l4] [v1, .ref 87] σ = kont (callD d 112 [.ref 87, v1] σ) d 205 35 [l0, l1, l2, l3, l4] [] := q_invv t205_32 mo205 K8_105 mj112 rfl rfl rfl rfl (Nat.le_of_ble_eq_true rfl)
theorem t205_35 : decode (mb 205) 35 = .ok (.ireturn, 1) := by decide +kernel
theorem s205_35 (d : Nat) (l0 : Value) (l1 : Value) (l2 : Value) (l3 : Value) (l4 : Value) (x : Int32) (σ : Hs) : ru d 205 35 [l0, l1, l2, l3, l4] [.int x] σ = some (some (.int x), σ) := q_ireti t205_35 mr205
theorem t205_36 : decode (mb 205) 36 = .ok (.iload_n 2, 1) := by decide +kernel
theorem s205_36 (d : Nat) (l0 : Value) (l1 : Value) (i2 : Int32) (l3 : Value) (l4 : Value) (σ : Hs) : ru d 205 36 [l0, l1, .int i2, l3, l4] [] σ = ru d 205 37 [l0, l1, .int i2, l3, l4] [.int i2] σ := q_iload_n t205_36 rfl
theorem t205_37 : decode (mb 205) 37 = .ok (.ifCond .eq 14, 3) := by decide +kernel
theorem s205_37 (d : Nat) (l0 : Value) (l1 : Value) (l2 : Value) (l3 : Value) (l4 : Value) (x : Int32) (σ : Hs) : ru d 205 37 [l0, l1, l2, l3, l4] [.int x] σ = if x = 0 then ru d 205 51 [l0, l1, l2, l3, l4] [] σ else ru d 205 40 [l0, l1, l2, l3, l4] [] σ := q_if_eq t205_37 (by decide +kernel)
theorem t205_40 : decode (mb 205) 40 = .ok (.iload_n 3, 1) := by decide +kernel
theorem s205_40 (d : Nat) (l0 : Value) (l1 : Value) (l2 : Value) (i3 : Int32) (l4 : Value) (σ : Hs) : ru d 205 40 [l0, l1, l2, .int i3, l4] [] σ = ru d 205 41 [l0, l1, l2, .int i3, l4] [.int i3] σ := q_iload_n t205_40 rfl
theorem t205_41 : decode (mb 205) 41 = .ok (.ifCond .ge 10, 3) := by decide +kernel
theorem s205_41 (d : Nat) (l0 : Value) (l1 : Value) (l2 : Value) (l3 : Value) (l4 : Value) (x : Int32) (σ : Hs) : ru d 205 41 [l0, l1, l2, l3, l4] [.int x] σ = if 0 ≤ x then ru d 205 51 [l0, l1, l2, l3, l4] [] σ else ru d 205 44 [l0, l1, l2, l3, l4] [] σ := q_if_ge t205_41 (by decide +kernel)
theorem t205_44 : decode (mb 205) 44 = .ok (.aload_n 0, 1) := by decide +kernel
theorem s205_44 (d : Nat) (a0 : Nat) (l1 : Value) (l2 : Value) (l3 : Value) (l4 : Value) (σ : Hs) : ru d 205 44 [.ref a0, l1, l2, l3, l4] [] σ = ru d 205 45 [.ref a0, l1, l2, l3, l4] [.ref a0] σ := q_aload_n t205_44 rfl
theorem t205_45 : decode (mb 205) 45 = .ok (.ldc 149, 2) := by decide +kernel
theorem s205_45 (d : Nat) (l0 : Value) (l1 : Value) (l2 : Value) (l3 : Value) (l4 : Value) (w0 : Value) (σ : Hs) : ru d 205 45 [l0, l1, l2, l3, l4] [w0] σ = ru d 205 47 [l0, l1, l2, l3, l4] [.int (-1000003), w0] σ := q_ldc t205_45 mo205 C8_149
theorem t205_47 : decode (mb 205) 47 = .ok (.invokevirtual 105, 3) := by decide +kernel
theorem s205_47_o87 (d : Nat) (l0 : Value) (l1 : Value) (l2 : Value) (l3 : Value) (l4 : Value) (v1 : Value) (σ : Hs) : ru d 205 47 [l0, l1, l2, l3, l4] [v1, .ref 87] σ = kont (callD d 112 [.ref 87, v1] σ) d 205 50 [l0, l1, l2, l3, l4] [] := q_invv t205_47 mo205 K8_105 mj112 rfl rfl rfl rfl (Nat.le_of_ble_eq_true rfl)
theorem t205_50 : decode (mb 205) 50 = .ok (.ireturn, 1) := by decide +kernel
theorem s205_50 (d : Nat) (l0 : Value) (l1 : Value) (l2 : Value) (l3 : Value) (l4 : Value) (x : Int32) (σ : Hs) : ru d 205 50 [l0, l1, l2, l3, l4] [.int x] σ = some (some (.int x), σ) := q_ireti t205_50 mr205
theorem t205_51 : decode (mb 205) 51 = .ok (.iload_n 2, 1) := by decide +kernel
theorem s205_51 (d : Nat) (l0 : Value) (l1 : Value) (i2 : Int32) (l3 : Value) (l4 : Value) (σ : Hs) : ru d 205 51 [l0, l1, .int i2, l3, l4] [] σ = ru d 205 52 [l0, l1, .int i2, l3, l4] [.int i2] σ := q_iload_n t205_51 rfl
theorem t205_52 : decode (mb 205) 52 = .ok (.ifCond .eq 16, 3) := by decide +kernel
theorem s205_52 (d : Nat) (l0 : Value) (l1 : Value) (l2 : Value) (l3 : Value) (l4 : Value) (x : Int32) (σ : Hs) : ru d 205 52 [l0, l1, l2, l3, l4] [.int x] σ = if x = 0 then ru d 205 68 [l0, l1, l2, l3, l4] [] σ else ru d 205 55 [l0, l1, l2, l3, l4] [] σ := q_if_eq t205_52 (by decide +kernel)
theorem t205_55 : decode (mb 205) 55 = .ok (.iload_n 3, 1) := by decide +kernel
theorem s205_55 (d : Nat) (l0 : Value) (l1 : Value) (l2 : Value) (i3 : Int32) (l4 : Value) (σ : Hs) : ru d 205 55 [l0, l1, l2, .int i3, l4] [] σ = ru d 205 56 [l0, l1, l2, .int i3, l4] [.int i3] σ := q_iload_n t205_55 rfl
theorem t205_56 : decode (mb 205) 56 = .ok (.bipush 24, 2) := by decide +kernel
theorem s205_56 (d : Nat) (l0 : Value) (l1 : Value) (l2 : Value) (l3 : Value) (l4 : Value) (w0 : Value) (σ : Hs) : ru d 205 56 [l0, l1, l2, l3, l4] [w0] σ = ru d 205 58 [l0, l1, l2, l3, l4] [.int 24, w0] σ := q_bipush t205_56 (by decide +kernel)
theorem t205_58 : decode (mb 205) 58 = .ok (.if_icmp .le 10, 3) := by decide +kernel
theorem s205_58 (d : Nat) (l0 : Value) (l1 : Value) (l2 : Value) (l3 : Value) (l4 : Value) (x y : Int32) (σ : Hs) : ru d 205 58 [l0, l1, l2, l3, l4] [.int y, .int x] σ = if x ≤ y then ru d 205 68 [l0, l1, l2, l3, l4] [] σ else ru d 205 61 [l0, l1, l2, l3, l4] [] σ := q_ic_le t205_58 (by decide +kernel)
theorem t205_61 : decode (mb 205) 61 = .ok (.aload_n 0, 1) := by decide +kernel
theorem s205_61 (d : Nat) (a0 : Nat) (l1 : Value) (l2 : Value) (l3 : Value) (l4 : Value) (σ : Hs) : ru d 205 61 [.ref a0, l1, l2, l3, l4] [] σ = ru d 205 62 [.ref a0, l1, l2, l3, l4] [.ref a0] σ := q_aload_n t205_61 rfl
theorem t205_62 : decode (mb 205) 62 = .ok (.ldc 104, 2) := by decide +kernel
theorem s205_62 (d : Nat) (l0 : Value) (l1 : Value) (l2 : Value) (l3 : Value) (l4 : Value) (w0 : Value) (σ : Hs) : ru d 205 62 [l0, l1, l2, l3, l4] [w0] σ = ru d 205 64 [l0, l1, l2, l3, l4] [.int (-1000001), w0] σ := q_ldc t205_62 mo205 C8_104
theorem t205_64 : decode (mb 205) 64 = .ok (.invokevirtual 105, 3) := by decide +kernel
theorem s205_64_o87 (d : Nat) (l0 : Value) (l1 : Value) (l2 : Value) (l3 : Value) (l4 : Value) (v1 : Value) (σ : Hs) : ru d 205 64 [l0, l1, l2, l3, l4] [v1, .ref 87] σ = kont (callD d 112 [.ref 87, v1] σ) d 205 67 [l0, l1, l2, l3, l4] [] := q_invv t205_64 mo205 K8_105 mj112 rfl rfl rfl rfl (Nat.le_of_ble_eq_true rfl)
theorem t205_67 : decode (mb 205) 67 = .ok (.ireturn, 1) := by decide +kernel
theorem s205_67 (d : Nat) (l0 : Value) (l1 : Value) (l2 : Value) (l3 : Value) (l4 : Value) (x : Int32) (σ : Hs) : ru d 205 67 [l0, l1, l2, l3, l4] [.int x] σ = some (some (.int x), σ) := q_ireti t205_67 mr205
theorem t205_68 : decode (mb 205) 68 = .ok (.aload_n 0, 1) := by decide +kernel
theorem s205_68 (d : Nat) (a0 : Nat) (l1 : Value) (l2 : Value) (l3 : Value) (l4 : Value) (σ : Hs) : ru d 205 68 [.ref a0, l1, l2, l3, l4] [] σ = ru d 205 69 [.ref a0, l1, l2, l3, l4] [.ref a0] σ := q_aload_n t205_68 rfl
theorem t205_69 : decode (mb 205) 69 = .ok (.getfield 55, 3) := by decide +kernel
theorem s205_69_o87 (d : Nat) (l0 : Value) (l1 : Value) (l2 : Value) (l3 : Value) (l4 : Value) (σ : Hs) : ru d 205 69 [l0, l1, l2, l3, l4] [.ref 87] σ = ru d 205 72 [l0, l1, l2, l3, l4] [.ref 100] σ := q_getf t205_69 mo205 F8_55 rfl rfl
theorem t205_72 : decode (mb 205) 72 = .ok (.iload_n 1, 1) := by decide +kernel
theorem s205_72 (d : Nat) (l0 : Value) (i1 : Int32) (l2 : Value) (l3 : Value) (l4 : Value) (w0 : Value) (σ : Hs) : ru d 205 72 [l0, .int i1, l2, l3, l4] [w0] σ = ru d 205 73 [l0, .int i1, l2, l3, l4] [.int i1, w0] σ := q_iload_n t205_72 rfl
theorem t205_73 : decode (mb 205) 73 = .ok (.iload_n 2, 1) := by decide +kernel
theorem s205_73 (d : Nat) (l0 : Value) (l1 : Value) (i2 : Int32) (l3 : Value) (l4 : Value) (w0 w1 : Value) (σ : Hs) : ru d 205 73 [l0, l1, .int i2, l3, l4] [w0, w1] σ = ru d 205 74 [l0, l1, .int i2, l3, l4] [.int i2, w0, w1] σ := q_iload_n t205_73 rfl
theorem t205_74 : decode (mb 205) 74 = .ok (.iastore, 1) := by decide +kernel
theorem s205_74_o100 (d : Nat) (l0 : Value) (l1 : Value) (l2 : Value) (l3 : Value) (l4 : Value) (i x : Int32) (σ : Hs) : ru d 205 74 [l0, l1, l2, l3, l4] [.int x, .int i, .ref 100] σ = gd (vp_in i 4) (ru d 205 75 [l0, l1, l2, l3, l4] [] (up2 σ 100 i.toNatClampNeg x)) := q_iast t205_74 (by decide +kernel) rfl rfl
theorem t205_75 : decode (mb 205) 75 = .ok (.aload_n 0, 1) := by decide +kernel
theorem s205_75 (d : Nat) (a0 : Nat) (l1 : Value) (l2 : Value) (l3 : Value) (l4 : Value) (σ : Hs) : ru d 205 75 [.ref a0, l1, l2, l3, l4] [] σ = ru d 205 76 [.ref a0, l1, l2, l3, l4] [.ref a0] σ := q_aload_n t205_75 rfl
theorem t205_76 : decode (mb 205) 76 = .ok (.getfield 58, 3) := by decide +kernel
theorem s205_76_o87 (d : Nat) (l0 : Value) (l1 : Value) (l2 : Value) (l3 : Value) (l4 : Value) (σ : Hs) : ru d 205 76 [l0, l1, l2, l3, l4] [.ref 87] σ = ru d 205 79 [l0, l1, l2, l3, l4] [.ref 101] σ := q_getf t205_76 mo205 F8_58 rfl rfl
theorem t205_79 : decode (mb 205) 79 = .ok (.iload_n 1, 1) := by decide +kernel
theorem s205_79 (d : Nat) (l0 : Value) (i1 : Int32) (l2 : Value) (l3 : Value) (l4 : Value) (w0 : Value) (σ : Hs) : ru d 205 79 [l0, .int i1, l2, l3, l4] [w0] σ = ru d 205 80 [l0, .int i1, l2, l3, l4] [.int i1, w0] σ := q_iload_n t205_79 rfl
theorem t205_80 : decode (mb 205) 80 = .ok (.iload_n 2, 1) := by decide +kernel
theorem s205_80 (d : Nat) (l0 : Value) (l1 : Value) (i2 : Int32) (l3 : Value) (l4 : Value) (w0 w1 : Value) (σ : Hs) : ru d 205 80 [l0, l1, .int i2, l3, l4] [w0, w1] σ = ru d 205 81 [l0, l1, .int i2, l3, l4] [.int i2, w0, w1] σ := q_iload_n t205_80 rfl
theorem t205_81 : decode (mb 205) 81 = .ok (.ifCond .ne 7, 3) := by decide +kernel
theorem s205_81 (d : Nat) (l0 : Value) (l1 : Value) (l2 : Value) (l3 : Value) (l4 : Value) (x : Int32) (w0 w1 : Value) (σ : Hs) : ru d 205 81 [l0, l1, l2, l3, l4] [.int x, w0, w1] σ = if x = 0 then ru d 205 84 [l0, l1, l2, l3, l4] [w0, w1] σ else ru d 205 88 [l0, l1, l2, l3, l4] [w0, w1] σ := q_if_ne t205_81 (by decide +kernel)
theorem t205_84 : decode (mb 205) 84 = .ok (.iconst 0, 1) := by decide +kernel
theorem s205_84 (d : Nat) (l0 : Value) (l1 : Value) (l2 : Value) (l3 : Value) (l4 : Value) (w0 w1 : Value) (σ : Hs) : ru d 205 84 [l0, l1, l2, l3, l4] [w0, w1] σ = ru d 205 85 [l0, l1, l2, l3, l4] [.int 0, w0, w1] σ := q_iconst t205_84 (by decide +kernel)
theorem t205_85 : decode (mb 205) 85 = .ok (.goto 4, 3) := by decide +kernel
theorem s205_85 (d : Nat) (l0 : Value) (l1 : Value) (l2 : Value) (l3 : Value) (l4 : Value) (w0 w1 w2 : Value) (σ : Hs) : ru d 205 85 [l0, l1, l2, l3, l4] [w0, w1, w2] σ = ru d 205 89 [l0, l1, l2, l3, l4] [w0, w1, w2] σ := q_goto t205_85 (by decide +kernel)
theorem t205_88 : decode (mb 205) 88 = .ok (.iload_n 3, 1) := by decide +kernel
theorem s205_88 (d : Nat) (l0 : Value) (l1 : Value) (l2 : Value) (i3 : Int32) (l4 : Value) (w0 w1 : Value) (σ : Hs) : ru d 205 88 [l0, l1, l2, .int i3, l4] [w0, w1] σ = ru d 205 89 [l0, l1, l2, .int i3, l4] [.int i3, w0, w1] σ := q_iload_n t205_88 rfl
theorem t205_89 : decode (mb 205) 89 = .ok (.iastore, 1) := by decide +kernel
theorem s205_89_o101 (d : Nat) (l0 : Value) (l1 : Value) (l2 : Value) (l3 : Value) (l4 : Value) (i x : Int32) (σ : Hs) : ru d 205 89 [l0, l1, l2, l3, l4] [.int x, .int i, .ref 101] σ = gd (vp_in i 4) (ru d 205 90 [l0, l1, l2, l3, l4] [] (up2 σ 101 i.toNatClampNeg x)) := q_iast t205_89 (by decide +kernel) rfl rfl
theorem t205_90 : decode (mb 205) 90 = .ok (.iconst 0, 1) := by decide +kernel
theorem s205_90 (d : Nat) (l0 : Value) (l1 : Value) (l2 : Value) (l3 : Value) (l4 : Value) (σ : Hs) : ru d 205 90 [l0, l1, l2, l3, l4] [] σ = ru d 205 91 [l0, l1, l2, l3, l4] [.int 0] σ := q_iconst t205_90 (by decide +kernel)
theorem t205_91 : decode (mb 205) 91 = .ok (.istore 4, 2) := by decide +kernel
theorem s205_91 (d : Nat) (l0 : Value) (l1 : Value) (l2 : Value) (i3 : Int32) (l4 : Value) (x : Int32) (σ : Hs) : ru d 205 91 [l0, l1, l2, .int i3, l4] [.int x] σ = ru d 205 93 [l0, l1, l2, .int i3, .int x] [] σ := q_istore t205_91 ⟨Nat.le_of_ble_eq_true rfl, rfl⟩ rfl
theorem t205_93 : decode (mb 205) 93 = .ok (.iload 4, 2) := by decide +kernel
theorem s205_93 (d : Nat) (l0 : Value) (l1 : Value) (l2 : Value) (l3 : Value) (i4 : Int32) (σ : Hs) : ru d 205 93 [l0, l1, l2, l3, .int i4] [] σ = ru d 205 95 [l0, l1, l2, l3, .int i4] [.int i4] σ := q_iload t205_93 rfl
theorem t205_95 : decode (mb 205) 95 = .ok (.bipush 24, 2) := by decide +kernel
theorem s205_95 (d : Nat) (l0 : Value) (l1 : Value) (l2 : Value) (l3 : Value) (l4 : Value) (w0 : Value) (σ : Hs) : ru d 205 95 [l0, l1, l2, l3, l4] [w0] σ = ru d 205 97 [l0, l1, l2, l3, l4] [.int 24, w0] σ := q_bipush t205_95 (by decide +kernel)
theorem t205_97 : decode (mb 205) 97 = .ok (.if_icmp .ge 22, 3) := by decide +kernel
theorem s205_97 (d : Nat) (l0 : Value) (l1 : Value) (l2 : Value) (l3 : Value) (l4 : Value) (x y : Int32) (σ : Hs) : ru d 205 97 [l0, l1, l2, l3, l4] [.int y, .int x] σ = if y ≤ x then ru d 205 119 [l0, l1, l2, l3, l4] [] σ else ru d 205 100 [l0, l1, l2, l3, l4] [] σ := q_ic_ge t205_97 (by decide +kernel)
theorem t205_100 : decode (mb 205) 100 = .ok (.aload_n 0, 1) := by decide +kernel
theorem s205_100 (d : Nat) (a0 : Nat) (l1 : Value) (l2 : Value) (l3 : Value) (l4 : Value) (σ : Hs) : ru d 205 100 [.ref a0, l1, l2, l3, l4] [] σ = ru d 205 101 [.ref a0, l1, l2, l3, l4] [.ref a0] σ := q_aload_n t205_100 rfl
theorem t205_101 : decode (mb 205) 101 = .ok (.getfield 61, 3) := by decide +kernel
theorem s205_101_o87 (d : Nat) (l0 : Value) (l1 : Value) (l2 : Value) (l3 : Value) (l4 : Value) (σ : Hs) : ru d 205 101 [l0, l1, l2, l3, l4] [.ref 87] σ = ru d 205 104 [l0, l1, l2, l3, l4] [.ref 102] σ := q_getf t205_101 mo205 F8_61 rfl rfl
theorem t205_104 : decode (mb 205) 104 = .ok (.bipush 24, 2) := by decide +kernel
theorem s205_104 (d : Nat) (l0 : Value) (l1 : Value) (l2 : Value) (l3 : Value) (l4 : Value) (w0 : Value) (σ : Hs) : ru d 205 104 [l0, l1, l2, l3, l4] [w0] σ = ru d 205 106 [l0, l1, l2, l3, l4] [.int 24, w0] σ := q_bipush t205_104 (by decide +kernel)
theorem t205_106 : decode (mb 205) 106 = .ok (.iload_n 1, 1) := by decide +kernel
theorem s205_106 (d : Nat) (l0 : Value) (i1 : Int32) (l2 : Value) (l3 : Value) (l4 : Value) (w0 w1 : Value) (σ : Hs) : ru d 205 106 [l0, .int i1, l2, l3, l4] [w0, w1] σ = ru d 205 107 [l0, .int i1, l2, l3, l4] [.int i1, w0, w1] σ := q_iload_n t205_106 rfl
theorem t205_107 : decode (mb 205) 107 = .ok (.imul, 1) := by decide +kernel
theorem s205_107 (d : Nat) (l0 : Value) (l1 : Value) (l2 : Value) (l3 : Value) (l4 : Value) (x y : Int32) (w0 : Value) (σ : Hs) : ru d 205 107 [l0, l1, l2, l3, l4] [.int y, .int x, w0] σ = ru d 205 108 [l0, l1, l2, l3, l4] [.int (x * y), w0] σ := q_imul t205_107
theorem t205_108 : decode (mb 205) 108 = .ok (.iload 4, 2) := by decide +kernel
theorem s205_108 (d : Nat) (l0 : Value) (l1 : Value) (l2 : Value) (l3 : Value) (i4 : Int32) (w0 w1 : Value) (σ : Hs) : ru d 205 108 [l0, l1, l2, l3, .int i4] [w0, w1] σ = ru d 205 110 [l0, l1, l2, l3, .int i4] [.int i4, w0, w1] σ := q_iload t205_108 rfl
theorem t205_110 : decode (mb 205) 110 = .ok (.iadd, 1) := by decide +kernel
theorem s205_110 (d : Nat) (l0 : Value) (l1 : Value) (l2 : Value) (l3 : Value) (l4 : Value) (x y : Int32) (w0 : Value) (σ : Hs) : ru d 205 110 [l0, l1, l2, l3, l4] [.int y, .int x, w0] σ = ru d 205 111 [l0, l1, l2, l3, l4] [.int (x + y), w0] σ := q_iadd t205_110
theorem t205_111 : decode (mb 205) 111 = .ok (.iconst 0, 1) := by decide +kernel
theorem s205_111 (d : Nat) (l0 : Value) (l1 : Value) (l2 : Value) (l3 : Value) (l4 : Value) (w0 w1 : Value) (σ : Hs) : ru d 205 111 [l0, l1, l2, l3, l4] [w0, w1] σ = ru d 205 112 [l0, l1, l2, l3, l4] [.int 0, w0, w1] σ := q_iconst t205_111 (by decide +kernel)
theorem t205_112 : decode (mb 205) 112 = .ok (.iastore, 1) := by decide +kernel
theorem s205_112_o102 (d : Nat) (l0 : Value) (l1 : Value) (l2 : Value) (l3 : Value) (l4 : Value) (i x : Int32) (σ : Hs) : ru d 205 112 [l0, l1, l2, l3, l4] [.int x, .int i, .ref 102] σ = gd (vp_in i 96) (ru d 205 113 [l0, l1, l2, l3, l4] [] (up2 σ 102 i.toNatClampNeg x)) := q_iast t205_112 (by decide +kernel) rfl rfl
theorem t205_113 : decode (mb 205) 113 = .ok (.iinc 4 1, 3) := by decide +kernel
theorem s205_113 (d : Nat) (l0 : Value) (l1 : Value) (l2 : Value) (i3 : Int32) (i4 : Int32) (σ : Hs) : ru d 205 113 [l0, l1, l2, .int i3, .int i4] [] σ = ru d 205 116 [l0, l1, l2, .int i3, .int (i4 + 1)] [] σ := q_iinc t205_113 ⟨Nat.le_of_ble_eq_true rfl, rfl⟩ rfl (by decide +kernel) rfl
theorem t205_116 : decode (mb 205) 116 = .ok (.goto (-23), 3) := by decide +kernel
theorem s205_116 (d : Nat) (l0 : Value) (l1 : Value) (l2 : Value) (l3 : Value) (l4 : Value) (σ : Hs) : ru d 205 116 [l0, l1, l2, l3, l4] [] σ = ru d 205 93 [l0, l1, l2, l3, l4] [] σ := q_goto t205_116 (by decide +kernel)
theorem t205_119 : decode (mb 205) 119 = .ok (.iconst 1, 1) := by decide +kernel
theorem s205_119 (d : Nat) (l0 : Value) (l1 : Value) (l2 : Value) (l3 : Value) (l4 : Value) (σ : Hs) : ru d 205 119 [l0, l1, l2, l3, l4] [] σ = ru d 205 120 [l0, l1, l2, l3, l4] [.int 1] σ := q_iconst t205_119 (by decide +kernel)
theorem t205_120 : decode (mb 205) 120 = .ok (.ireturn, 1) := by decide +kernel
theorem s205_120 (d : Nat) (l0 : Value) (l1 : Value) (l2 : Value) (l3 : Value) (l4 : Value) (x : Int32) (σ : Hs) : ru d 205 120 [l0, l1, l2, l3, l4] [.int x] σ = some (some (.int x), σ) := q_ireti t205_120 mr205
theorem c205 (d : Nat) (x0 : Nat) (x1 : Int32) (x2 : Int32) (x3 : Int32) (σ : Hs) : callD (d + 1) 205 [.ref x0, .int x1, .int x2, .int x3] σ = ru d 205 0 [.ref x0, .int x1, .int x2, .int x3, uu] [] σ := callD_ru ml205 rfl rfl (Nat.le_of_ble_eq_true rfl)
-- 206: Model.put(III)I
theorem t206_0 : decode (mb 206) 0 = .ok (.iload_n 1, 1) := by decide +kernel
theorem s206_0 (d : Nat) (l0 : Value) (i1 : Int32) (l2 : Value) (l3 : Value) (σ : Hs) : ru d 206 0 [l0, .int i1, l2, l3] [] σ = ru d 206 1 [l0, .int i1, l2, l3] [.int i1] σ := q_iload_n t206_0 rfl
theorem t206_1 : decode (mb 206) 1 = .ok (.invokestatic 328, 3) := by decide +kernel
theorem s206_1 (d : Nat) (l0 : Value) (l1 : Value) (l2 : Value) (l3 : Value) (v0 : Value) (σ : Hs) : ru d 206 1 [l0, l1, l2, l3] [v0] σ = kont (callD d 204 [v0] σ) d 206 4 [l0, l1, l2, l3] [] := q_invs t206_1 mo206 (by decide +kernel) K8_328 mj204 (Nat.le_of_ble_eq_true rfl) rfl rfl (Nat.le_of_ble_eq_true rfl)
theorem t206_4 : decode (mb 206) 4 = .ok (.ifCond .ne 10, 3) := by decide +kernel
theorem s206_4 (d : Nat) (l0 : Value) (l1 : Value) (l2 : Value) (l3 : Value) (x : Int32) (σ : Hs) : ru d 206 4 [l0, l1, l2, l3] [.int x] σ = if x = 0 then ru d 206 7 [l0, l1, l2, l3] [] σ else ru d 206 14 [l0, l1, l2, l3] [] σ := q_if_ne t206_4 (by decide +kernel)
theorem t206_7 : decode (mb 206) 7 = .ok (.aload_n 0, 1) := by decide +kernel
theorem s206_7 (d : Nat) (a0 : Nat) (l1 : Value) (l2 : Value) (l3 : Value) (σ : Hs) : ru d 206 7 [.ref a0, l1, l2, l3] [] σ = ru d 206 8 [.ref a0, l1, l2, l3] [.ref a0] σ := q_aload_n t206_7 rfl
theorem t206_8 : decode (mb 206) 8 = .ok (.ldc 104, 2) := by decide +kernel
theorem s206_8 (d : Nat) (l0 : Value) (l1 : Value) (l2 : Value) (l3 : Value) (w0 : Value) (σ : Hs) : ru d 206 8 [l0, l1, l2, l3] [w0] σ = ru d 206 10 [l0, l1, l2, l3] [.int (-1000001), w0] σ := q_ldc t206_8 mo206 C8_104
theorem t206_10 : decode (mb 206) 10 = .ok (.invokevirtual 105, 3) := by decide +kernel
theorem s206_10_o87 (d : Nat) (l0 : Value) (l1 : Value) (l2 : Value) (l3 : Value) (v1 : Value) (σ : Hs) : ru d 206 10 [l0, l1, l2, l3] [v1, .ref 87] σ = kont (callD d 112 [.ref 87, v1] σ) d 206 13 [l0, l1, l2, l3] [] := q_invv t206_10 mo206 K8_105 mj112 rfl rfl rfl rfl (Nat.le_of_ble_eq_true rfl)
theorem t206_13 : decode (mb 206) 13 = .ok (.ireturn, 1) := by decide +kernel
theorem s206_13 (d : Nat) (l0 : Value) (l1 : Value) (l2 : Value) (l3 : Value) (x : Int32) (σ : Hs) : ru d 206 13 [l0, l1, l2, l3] [.int x] σ = some (some (.int x), σ) := q_ireti t206_13 mr206
theorem t206_14 : decode (mb 206) 14 = .ok (.aload_n 0, 1) := by decide +kernel
theorem s206_14 (d : Nat) (a0 : Nat) (l1 : Value) (l2 : Value) (l3 : Value) (σ : Hs) : ru d 206 14 [.ref a0, l1, l2, l3] [] σ = ru d 206 15 [.ref a0, l1, l2, l3] [.ref a0] σ := q_aload_n t206_14 rfl
theorem t206_15 : decode (mb 206) 15 = .ok (.getfield 55, 3) := by decide +kernel
theorem s206_15_o87 (d : Nat) (l0 : Value) (l1 : Value) (l2 : Value) (l3 : Value) (σ : Hs) : ru d 206 15 [l0, l1, l2, l3] [.ref 87] σ = ru d 206 18 [l0, l1, l2, l3] [.ref 100] σ := q_getf t206_15 mo206 F8_55 rfl rfl
theorem t206_18 : decode (mb 206) 18 = .ok (.iload_n 1, 1) := by decide +kernel
theorem s206_18 (d : Nat) (l0 : Value) (i1 : Int32) (l2 : Value) (l3 : Value) (w0 : Value) (σ : Hs) : ru d 206 18 [l0, .int i1, l2, l3] [w0] σ = ru d 206 19 [l0, .int i1, l2, l3] [.int i1, w0] σ := q_iload_n t206_18 rfl
theorem t206_19 : decode (mb 206) 19 = .ok (.iaload, 1) := by decide +kernel
theorem s206_19_o100 (d : Nat) (l0 : Value) (l1 : Value) (l2 : Value) (l3 : Value) (i : Int32) (σ : Hs) : ru d 206 19 [l0, l1, l2, l3] [.int i, .ref 100] σ = gd (vp_in i 4) (ru d 206 20 [l0, l1, l2, l3] [.int (σ 100 i.toNatClampNeg)] σ) := q_iald t206_19 rfl (by decide +kernel) rfl
theorem t206_20 : decode (mb 206) 20 = .ok (.ifCond .ne 10, 3) := by decide +kernel
theorem s206_20 (d : Nat) (l0 : Value) (l1 : Value) (l2 : Value) (l3 : Value) (x : Int32) (σ : Hs) : ru d 206 20 [l0, l1, l2, l3] [.int x] σ = if x = 0 then ru d 206 23 [l0, l1, l2, l3] [] σ else ru d 206 30 [l0, l1, l2, l3] [] σ := q_if_ne t206_20 (by decide +kernel)
theorem t206_23 : decode (mb 206) 23 = .ok (.aload_n 0, 1) := by decide +kernel
theorem s206_23 (d : Nat) (a0 : Nat) (l1 : Value) (l2 : Value) (l3 : Value) (σ : Hs) : ru d 206 23 [.ref a0, l1, l2, l3] [] σ = ru d 206 24 [.ref a0, l1, l2, l3] [.ref a0] σ := q_aload_n t206_23 rfl
theorem t206_24 : decode (mb 206) 24 = .ok (.ldc 116, 2) := by decide +kernel
theorem s206_24 (d : Nat) (l0 : Value) (l1 : Value) (l2 : Value) (l3 : Value) (w0 : Value) (σ : Hs) : ru d 206 24 [l0, l1, l2, l3] [w0] σ = ru d 206 26 [l0, l1, l2, l3] [.int (-1000002), w0] σ := q_ldc t206_24 mo206 C8_116
theorem t206_26 : decode (mb 206) 26 = .ok (.invokevirtual 105, 3) := by decide +kernel
theorem s206_26_o87 (d : Nat) (l0 : Value) (l1 : Value) (l2 : Value) (l3 : Value) (v1 : Value) (σ : Hs) : ru d 206 26 [l0, l1, l2, l3] [v1, .ref 87] σ = kont (callD d 112 [.ref 87, v1] σ) d 206 29 [l0, l1, l2, l3] [] := q_invv t206_26 mo206 K8_105 mj112 rfl rfl rfl rfl (Nat.le_of_ble_eq_true rfl)
theorem t206_29 : decode (mb 206) 29 = .ok (.ireturn, 1) := by decide +kernel
theorem s206_29 (d : Nat) (l0 : Value) (l1 : Value) (l2 : Value) (l3 : Value) (x : Int32) (σ : Hs) : ru d 206 29 [l0, l1, l2, l3] [.int x] σ = some (some (.int x), σ) := q_ireti t206_29 mr206
theorem t206_30 : decode (mb 206) 30 = .ok (.iload_n 2, 1) := by decide +kernel
theorem s206_30 (d : Nat) (l0 : Value) (l1 : Value) (i2 : Int32) (l3 : Value) (σ : Hs) : ru d 206 30 [l0, l1, .int i2, l3] [] σ = ru d 206 31 [l0, l1, .int i2, l3] [.int i2] σ := q_iload_n t206_30 rfl
theorem t206_31 : decode (mb 206) 31 = .ok (.iconst 0, 1) := by decide +kernel
theorem s206_31 (d : Nat) (l0 : Value) (l1 : Value) (l2 : Value) (l3 : Value) (w0 : Value) (σ : Hs) : ru d 206 31 [l0, l1, l2, l3] [w0] σ = ru d 206 32 [l0, l1, l2, l3] [.int 0, w0] σ := q_iconst t206_31 (by decide +kernel)
theorem t206_32 : decode (mb 206) 32 = .ok (.aload_n 0, 1) := by decide +kernel
theorem s206_32 (d : Nat) (a0 : Nat) (l1 : Value) (l2 : Value) (l3 : Value) (w0 w1 : Value) (σ : Hs) : ru d 206 32 [.ref a0, l1, l2, l3] [w0, w1] σ = ru d 206 33 [.ref a0, l1, l2, l3] [.ref a0, w0, w1] σ := q_aload_n t206_32 rfl
theorem t206_33 : decode (mb 206) 33 = .ok (.getfield 58, 3) := by decide +kernel
theorem s206_33_o87 (d : Nat) (l0 : Value) (l1 : Value) (l2 : Value) (l3 : Value) (w0 w1 : Value) (σ : Hs) : ru d 206 33 [l0, l1, l2, l3] [.ref 87, w0, w1] σ = ru d 206 36 [l0, l1, l2, l3] [.ref 101, w0, w1] σ := q_getf t206_33 mo206 F8_58 rfl rfl
theorem t206_36 : decode (mb 206) 36 = .ok (.iload_n 1, 1) := by decide +kernel
theorem s206_36 (d : Nat) (l0 : Value) (i1 : Int32) (l2 : Value) (l3 : Value) (w0 w1 w2 : Value) (σ : Hs) : ru d 206 36 [l0, .int i1, l2, l3] [w0, w1, w2] σ = ru d 206 37 [l0, .int i1, l2, l3] [.int i1, w0, w1, w2] σ := q_iload_n t206_36 rfl
theorem t206_37 : decode (mb 206) 37 = .ok (.iaload, 1) := by decide +kernel
theorem s206_37_o101 (d : Nat) (l0 : Value) (l1 : Value) (l2 : Value) (l3 : Value) (i : Int32) (w0 w1 : Value) (σ : Hs) : ru d 206 37 [l0, l1, l2, l3] [.int i, .ref 101, w0, w1] σ = gd (vp_in i 4) (ru d 206 38 [l0, l1, l2, l3] [.int (σ 101 i.toNatClampNeg), w0, w1] σ) := q_iald t206_37 rfl (by decide +kernel) rfl
theorem t206_38 : decode (mb 206) 38 = .ok (.iconst 1, 1) := by decide +kernel
theorem s206_38 (d : Nat) (l0 : Value) (l1 : Value) (l2 : Value) (l3 : Value) (w0 w1 w2 : Value) (σ : Hs) : ru d 206 38 [l0, l1, l2, l3] [w0, w1, w2] σ = ru d 206 39 [l0, l1, l2, l3] [.int 1, w0, w1, w2] σ := q_iconst t206_38 (by decide +kernel)
theorem t206_39 : decode (mb 206) 39 = .ok (.isub, 1) := by decide +kernel
theorem s206_39 (d : Nat) (l0 : Value) (l1 : Value) (l2 : Value) (l3 : Value) (x y : Int32) (w0 w1 : Value) (σ : Hs) : ru d 206 39 [l0, l1, l2, l3] [.int y, .int x, w0, w1] σ = ru d 206 40 [l0, l1, l2, l3] [.int (x - y), w0, w1] σ := q_isub t206_39
theorem t206_40 : decode (mb 206) 40 = .ok (.invokestatic 81, 3) := by decide +kernel
theorem s206_40 (d : Nat) (l0 : Value) (l1 : Value) (l2 : Value) (l3 : Value) (v0 v1 v2 : Value) (σ : Hs) : ru d 206 40 [l0, l1, l2, l3] [v2, v1, v0] σ = kont (callD d 113 [v0, v1, v2] σ) d 206 43 [l0, l1, l2, l3] [] := q_invs t206_40 mo206 (by decide +kernel) K8_81 mj113 (Nat.le_of_ble_eq_true rfl) rfl rfl (Nat.le_of_ble_eq_true rfl)
theorem t206_43 : decode (mb 206) 43 = .ok (.ifCond .ne 10, 3) := by decide +kernel
theorem s206_43 (d : Nat) (l0 : Value) (l1 : Value) (l2 : Value) (l3 : Value) (x : Int32) (σ : Hs) : ru d 206 43 [l0, l1, l2, l3] [.int x] σ = if x = 0 then ru d 206 46 [l0, l1, l2, l3] [] σ else ru d 206 53 [l0, l1, l2, l3] [] σ := q_if_ne t206_43 (by decide +kernel)
theorem t206_46 : decode (mb 206) 46 = .ok (.aload_n 0, 1) := by decide +kernel
theorem s206_46 (d : Nat) (a0 : Nat) (l1 : Value) (l2 : Value) (l3 : Value) (σ : Hs) : ru d 206 46 [.ref a0, l1, l2, l3] [] σ = ru d 206 47 [.ref a0, l1, l2, l3] [.ref a0] σ := q_aload_n t206_46 rfl
theorem t206_47 : decode (mb 206) 47 = .ok (.ldc 104, 2) := by decide +kernel
theorem s206_47 (d : Nat) (l0 : Value) (l1 : Value) (l2 : Value) (l3 : Value) (w0 : Value) (σ : Hs) : ru d 206 47 [l0, l1, l2, l3] [w0] σ = ru d 206 49 [l0, l1, l2, l3] [.int (-1000001), w0] σ := q_ldc t206_47 mo206 C8_104
theorem t206_49 : decode (mb 206) 49 = .ok (.invokevirtual 105, 3) := by decide +kernel
theorem s206_49_o87 (d : Nat) (l0 : Value) (l1 : Value) (l2 : Value) (l3 : Value) (v1 : Value) (σ : Hs) : ru d 206 49 [l0, l1, l2, l3] [v1, .ref 87] σ = kont (callD d 112 [.ref 87, v1] σ) d 206 52 [l0, l1, l2, l3] [] := q_invv t206_49 mo206 K8_105 mj112 rfl rfl rfl rfl (Nat.le_of_ble_eq_true rfl)
theorem t206_52 : decode (mb 206) 52 = .ok (.ireturn, 1) := by decide +kernel
theorem s206_52 (d : Nat) (l0 : Value) (l1 : Value) (l2 : Value) (l3 : Value) (x : Int32) (σ : Hs) : ru d 206 52 [l0, l1, l2, l3] [.int x] σ = some (some (.int x), σ) := q_ireti t206_52 mr206
theorem t206_53 : decode (mb 206) 53 = .ok (.aload_n 0, 1) := by decide +kernel
theorem s206_53 (d : Nat) (a0 : Nat) (l1 : Value) (l2 : Value) (l3 : Value) (σ : Hs) : ru d 206 53 [.ref a0, l1, l2, l3] [] σ = ru d 206 54 [.ref a0, l1, l2, l3] [.ref a0] σ := q_aload_n t206_53 rfl
theorem t206_54 : decode (mb 206) 54 = .ok (.getfield 61, 3) := by decide +kernel
theorem s206_54_o87 (d : Nat) (l0 : Value) (l1 : Value) (l2 : Value) (l3 : Value) (σ : Hs) : ru d 206 54 [l0, l1, l2, l3] [.ref 87] σ = ru d 206 57 [l0, l1, l2, l3] [.ref 102] σ := q_getf t206_54 mo206 F8_61 rfl rfl
theorem t206_57 : decode (mb 206) 57 = .ok (.bipush 24, 2) := by decide +kernel
theorem s206_57 (d : Nat) (l0 : Value) (l1 : Value) (l2 : Value) (l3 : Value) (w0 : Value) (σ : Hs) : ru d 206 57 [l0, l1, l2, l3] [w0] σ = ru d 206 59 [l0, l1, l2, l3] [.int 24, w0] σ := q_bipush t206_57 (by decide +kernel)
theorem t206_59 : decode (mb 206) 59 = .ok (.iload_n 1, 1) := by decide +kernel
theorem s206_59 (d : Nat) (l0 : Value) (i1 : Int32) (l2 : Value) (l3 : Value) (w0 w1 : Value) (σ : Hs) : ru d 206 59 [l0, .int i1, l2, l3] [w0, w1] σ = ru d 206 60 [l0, .int i1, l2, l3] [.int i1, w0, w1] σ := q_iload_n t206_59 rfl
theorem t206_60 : decode (mb 206) 60 = .ok (.imul, 1) := by decide +kernel
theorem s206_60 (d : Nat) (l0 : Value) (l1 : Value) (l2 : Value) (l3 : Value) (x y : Int32) (w0 : Value) (σ : Hs) : ru d 206 60 [l0, l1, l2, l3] [.int y, .int x, w0] σ = ru d 206 61 [l0, l1, l2, l3] [.int (x * y), w0] σ := q_imul t206_60
theorem t206_61 : decode (mb 206) 61 = .ok (.iload_n 2, 1) := by decide +kernel
theorem s206_61 (d : Nat) (l0 : Value) (l1 : Value) (i2 : Int32) (l3 : Value) (w0 w1 : Value) (σ : Hs) : ru d 206 61 [l0, l1, .int i2, l3] [w0, w1] σ = ru d 206 62 [l0, l1, .int i2, l3] [.int i2, w0, w1] σ := q_iload_n t206_61 rfl
theorem t206_62 : decode (mb 206) 62 = .ok (.iadd, 1) := by decide +kernel
theorem s206_62 (d : Nat) (l0 : Value) (l1 : Value) (l2 : Value) (l3 : Value) (x y : Int32) (w0 : Value) (σ : Hs) : ru d 206 62 [l0, l1, l2, l3] [.int y, .int x, w0] σ = ru d 206 63 [l0, l1, l2, l3] [.int (x + y), w0] σ := q_iadd t206_62
theorem t206_63 : decode (mb 206) 63 = .ok (.aload_n 0, 1) := by decide +kernel
theorem s206_63 (d : Nat) (a0 : Nat) (l1 : Value) (l2 : Value) (l3 : Value) (w0 w1 : Value) (σ : Hs) : ru d 206 63 [.ref a0, l1, l2, l3] [w0, w1] σ = ru d 206 64 [.ref a0, l1, l2, l3] [.ref a0, w0, w1] σ := q_aload_n t206_63 rfl
theorem t206_64 : decode (mb 206) 64 = .ok (.getfield 55, 3) := by decide +kernel
theorem s206_64_o87 (d : Nat) (l0 : Value) (l1 : Value) (l2 : Value) (l3 : Value) (w0 w1 : Value) (σ : Hs) : ru d 206 64 [l0, l1, l2, l3] [.ref 87, w0, w1] σ = ru d 206 67 [l0, l1, l2, l3] [.ref 100, w0, w1] σ := q_getf t206_64 mo206 F8_55 rfl rfl
theorem t206_67 : decode (mb 206) 67 = .ok (.iload_n 1, 1) := by decide +kernel
theorem s206_67 (d : Nat) (l0 : Value) (i1 : Int32) (l2 : Value) (l3 : Value) (w0 w1 w2 : Value) (σ : Hs) : ru d 206 67 [l0, .int i1, l2, l3] [w0, w1, w2] σ = ru d 206 68 [l0, .int i1, l2, l3] [.int i1, w0, w1, w2] σ := q_iload_n t206_67 rfl
theorem t206_68 : decode (mb 206) 68 = .ok (.iaload, 1) := by decide +kernel
theorem s206_68_o100 (d : Nat) (l0 : Value) (l1 : Value) (l2 : Value) (l3 : Value) (i : Int32) (w0 w1 : Value) (σ : Hs) : ru d 206 68 [l0, l1, l2, l3] [.int i, .ref 100, w0, w1] σ = gd (vp_in i 4) (ru d 206 69 [l0, l1, l2, l3] [.int (σ 100 i.toNatClampNeg), w0, w1] σ) := q_iald t206_68 rfl (by decide +kernel) rfl
theorem t206_69 : decode (mb 206) 69 = .ok (.bipush 8, 2) := by decide +kernel
theorem s206_69 (d : Nat) (l0 : Value) (l1 : Value) (l2 : Value) (l3 : Value) (w0 w1 w2 : Value) (σ : Hs) : ru d 206 69 [l0, l1, l2, l3] [w0, w1, w2] σ = ru d 206 71 [l0, l1, l2, l3] [.int 8, w0, w1, w2] σ := q_bipush t206_69 (by decide +kernel)
theorem t206_71 : decode (mb 206) 71 = .ok (.if_icmp .ne 8, 3) := by decide +kernel
theorem s206_71 (d : Nat) (l0 : Value) (l1 : Value) (l2 : Value) (l3 : Value) (x y : Int32) (w0 w1 : Value) (σ : Hs) : ru d 206 71 [l0, l1, l2, l3] [.int y, .int x, w0, w1] σ = if x = y then ru d 206 74 [l0, l1, l2, l3] [w0, w1] σ else ru d 206 79 [l0, l1, l2, l3] [w0, w1] σ := q_ic_ne t206_71 (by decide +kernel)
theorem t206_74 : decode (mb 206) 74 = .ok (.iload_n 3, 1) := by decide +kernel
theorem s206_74 (d : Nat) (l0 : Value) (l1 : Value) (l2 : Value) (i3 : Int32) (w0 w1 : Value) (σ : Hs) : ru d 206 74 [l0, l1, l2, .int i3] [w0, w1] σ = ru d 206 75 [l0, l1, l2, .int i3] [.int i3, w0, w1] σ := q_iload_n t206_74 rfl
theorem t206_75 : decode (mb 206) 75 = .ok (.i2b, 1) := by decide +kernel
theorem s206_75 (d : Nat) (l0 : Value) (l1 : Value) (l2 : Value) (l3 : Value) (x : Int32) (w0 w1 : Value) (σ : Hs) : ru d 206 75 [l0, l1, l2, l3] [.int x, w0, w1] σ = ru d 206 76 [l0, l1, l2, l3] [.int x.toInt8.toInt32, w0, w1] σ := q_i2b t206_75
theorem t206_76 : decode (mb 206) 76 = .ok (.goto 20, 3) := by decide +kernel
theorem s206_76 (d : Nat) (l0 : Value) (l1 : Value) (l2 : Value) (l3 : Value) (w0 w1 w2 : Value) (σ : Hs) : ru d 206 76 [l0, l1, l2, l3] [w0, w1, w2] σ = ru d 206 96 [l0, l1, l2, l3] [w0, w1, w2] σ := q_goto t206_76 (by decide +kernel)
theorem t206_79 : decode (mb 206) 79 = .ok (.aload_n 0, 1) := by decide +kernel
theorem s206_79 (d : Nat) (a0 : Nat) (l1 : Value) (l2 : Value) (l3 : Value) (w0 w1 : Value) (σ : Hs) : ru d 206 79 [.ref a0, l1, l2, l3] [w0, w1] σ = ru d 206 80 [.ref a0, l1, l2, l3] [.ref a0, w0, w1] σ := q_aload_n t206_79 rfl
theorem t206_80 : decode (mb 206) 80 = .ok (.getfield 55, 3) := by decide +kernel
theorem s206_80_o87 (d : Nat) (l0 : Value) (l1 : Value) (l2 : Value) (l3 : Value) (w0 w1 : Value) (σ : Hs) : ru d 206 80 [l0, l1, l2, l3] [.ref 87, w0, w1] σ = ru d 206 83 [l0, l1, l2, l3] [.ref 100, w0, w1] σ := q_getf t206_80 mo206 F8_55 rfl rfl
theorem t206_83 : decode (mb 206) 83 = .ok (.iload_n 1, 1) := by decide +kernel
theorem s206_83 (d : Nat) (l0 : Value) (i1 : Int32) (l2 : Value) (l3 : Value) (w0 w1 w2 : Value) (σ : Hs) : ru d 206 83 [l0, .int i1, l2, l3] [w0, w1, w2] σ = ru d 206 84 [l0, .int i1, l2, l3] [.int i1, w0, w1, w2] σ := q_iload_n t206_83 rfl
theorem t206_84 : decode (mb 206) 84 = .ok (.iaload, 1) := by decide +kernel
theorem s206_84_o100 (d : Nat) (l0 : Value) (l1 : Value) (l2 : Value) (l3 : Value) (i : Int32) (w0 w1 : Value) (σ : Hs) : ru d 206 84 [l0, l1, l2, l3] [.int i, .ref 100, w0, w1] σ = gd (vp_in i 4) (ru d 206 85 [l0, l1, l2, l3] [.int (σ 100 i.toNatClampNeg), w0, w1] σ) := q_iald t206_84 rfl (by decide +kernel) rfl
theorem t206_85 : decode (mb 206) 85 = .ok (.bipush 16, 2) := by decide +kernel
theorem s206_85 (d : Nat) (l0 : Value) (l1 : Value) (l2 : Value) (l3 : Value) (w0 w1 w2 : Value) (σ : Hs) : ru d 206 85 [l0, l1, l2, l3] [w0, w1, w2] σ = ru d 206 87 [l0, l1, l2, l3] [.int 16, w0, w1, w2] σ := q_bipush t206_85 (by decide +kernel)
theorem t206_87 : decode (mb 206) 87 = .ok (.if_icmp .ne 8, 3) := by decide +kernel
theorem s206_87 (d : Nat) (l0 : Value) (l1 : Value) (l2 : Value) (l3 : Value) (x y : Int32) (w0 w1 : Value) (σ : Hs) : ru d 206 87 [l0, l1, l2, l3] [.int y, .int x, w0, w1] σ = if x = y then ru d 206 90 [l0, l1, l2, l3] [w0, w1] σ else ru d 206 95 [l0, l1, l2, l3] [w0, w1] σ := q_ic_ne t206_87 (by decide +kernel)
theorem t206_90 : decode (mb 206) 90 = .ok (.iload_n 3, 1) := by decide +kernel
theorem s206_90 (d : Nat) (l0 : Value) (l1 : Value) (l2 : Value) (i3 : Int32) (w0 w1 : Value) (σ : Hs) : ru d 206 90 [l0, l1, l2, .int i3] [w0, w1] σ = ru d 206 91 [l0, l1, l2, .int i3] [.int i3, w0, w1] σ := q_iload_n t206_90 rfl
theorem t206_91 : decode (mb 206) 91 = .ok (.i2s, 1) := by decide +kernel
theorem s206_91 (d : Nat) (l0 : Value) (l1 : Value) (l2 : Value) (l3 : Value) (x : Int32) (w0 w1 : Value) (σ : Hs) : ru d 206 91 [l0, l1, l2, l3] [.int x, w0, w1] σ = ru d 206 92 [l0, l1, l2, l3] [.int x.toInt16.toInt32, w0, w1] σ := q_i2s t206_91
theorem t206_92 : decode (mb 206) 92 = .ok (.goto 4, 3) := by decide +kernel
theorem s206_92 (d : Nat) (l0 : Value) (l1 : Value) (l2 : Value) (l3 : Value) (w0 w1 w2 : Value) (σ : Hs) : ru d 206 92 [l0, l1, l2, l3] [w0, w1, w2] σ = ru d 206 96 [l0, l1, l2, l3] [w0, w1, w2] σ := q_goto t206_92 (by decide +kernel)
theorem t206_95 : decode (mb 206) 95 = .ok (.iload_n 3, 1) := by decide +kernel
theorem s206_95 (d : Nat) (l0 : Value) (l1 : Value) (l2 : Value) (i3 : Int32) (w0 w1 : Value) (σ : Hs) : ru d 206 95 [l0, l1, l2, .int i3] [w0, w1] σ = ru d 206 96 [l0, l1, l2, .int i3] [.int i3, w0, w1] σ := q_iload_n t206_95 rfl
theorem t206_96 : decode (mb 206) 96 = .ok (.iastore, 1) := by decide +kernel
theorem s206_96_o102 (d : Nat) (l0 : Value) (l1 : Value) (l2 : Value) (l3 : Value) (i x : Int32) (σ : Hs) : ru d 206 96 [l0, l1, l2, l3] [.int x, .int i, .ref 102] σ = gd (vp_in i 96) (ru d 206 97 [l0, l1, l2, l3] [] (up2 σ 102 i.toNatClampNeg x)) := q_iast t206_96 (by decide +kernel) rfl rfl
theorem t206_97 : decode (mb 206) 97 = .ok (.iconst 1, 1) := by decide +kernel
theorem s206_97 (d : Nat) (l0 : Value) (l1 : Value) (l2 : Value) (l3 : Value) (σ : Hs) : ru d 206 97 [l0, l1, l2, l3] [] σ = ru d 206 98 [l0, l1, l2, l3] [.int 1] σ := q_iconst t206_97 (by decide +kernel)
theorem t206_98 : decode (mb 206) 98 = .ok (.ireturn, 1) := by decide +kernel
theorem s206_98 (d : Nat) (l0 : Value) (l1 : Value) (l2 : Value) (l3 : Value) (x : Int32) (σ : Hs) : ru d 206 98 [l0, l1, l2, l3] [.int x] σ = some (some (.int x), σ) := q_ireti t206_98 mr206
theorem c206 (d : Nat) (x0 : Nat) (x1 : Int32) (x2 : Int32) (x3 : Int32) (σ : Hs) : callD (d + 1) 206 [.ref x0, .int x1, .int x2, .int x3] σ = ru d 206 0 [.ref x0, .int x1, .int x2, .int x3] [] σ := callD_ru ml206 rfl rfl (Nat.le_of_ble_eq_true rfl)
-- 207: Model.move(IIIII)I
theorem t207_0 : decode (mb 207) 0 = .ok (.iload_n 1, 1) := by decide +kernel
theorem s207_0 (d : Nat) (l0 : Value) (i1 : Int32) (l2 : Value) (l3 : Value) (l4 : Value) (l5 : Value) (l6 : Value) (σ : Hs) : ru d 207 0 [l0, .int i1, l2, l3, l4, l5, l6] [] σ = ru d 207 1 [l0, .int i1, l2, l3, l4, l5, l6] [.int i1] σ := q_iload_n t207_0 rfl
theorem t207_1 : decode (mb 207) 1 = .ok (.invokestatic 328, 3) := by decide +kernel
theorem s207_1 (d : Nat) (l0 : Value) (l1 : Value) (l2 : Value) (l3 : Value) (l4 : Value) (l5 : Value) (l6 : Value) (v0 : Value) (σ : Hs) : ru d 207 1 [l0, l1, l2, l3, l4, l5, l6] [v0] σ = kont (callD d 204 [v0] σ) d 207 4 [l0, l1, l2, l3, l4, l5, l6] [] := q_invs t207_1 mo207 (by decide +kernel) K8_328 mj204 (Nat.le_of_ble_eq_true rfl) rfl rfl (Nat.le_of_ble_eq_true rfl)
theorem t207_4 : decode (mb 207) 4 = .ok (.ifCond .eq 10, 3) := by decide +kernel
theorem s207_4 (d : Nat) (l0 : Value) (l1 : Value) (l2 : Value) (l3 : Value) (l4 : Value) (l5 : Value) (l6 : Value) (x : Int32) (σ : Hs) : ru d 207 4 [l0, l1, l2, l3, l4, l5, l6] [.int x] σ = if x = 0 then ru d 207 14 [l0, l1, l2, l3, l4, l5, l6] [] σ else ru d 207 7 [l0, l1, l2, l3, l4, l5, l6] [] σ := q_if_eq t207_4 (by decide +kernel)
theorem t207_7 : decode (mb 207) 7 = .ok (.iload_n 3, 1) := by decide +kernel
theorem s207_7 (d : Nat) (l0 : Value) (l1 : Value) (l2 : Value) (i3 : Int32) (l4 : Value) (l5 : Value) (l6 : Value) (σ : Hs) : ru d 207 7 [l0, l1, l2, .int i3, l4, l5, l6] [] σ = ru d 207 8 [l0, l1, l2, .int i3, l4, l5, l6] [.int i3] σ := q_iload_n t207_7 rfl
theorem t207_8 : decode (mb 207) 8 = .ok (.invokestatic 328, 3) := by decide +kernel
theorem s207_8 (d : Nat) (l0 : Value) (l1 : Value) (l2 : Value) (l3 : Value) (l4 : Value) (l5 : Value) (l6 : Value) (v0 : Value) (σ : Hs) : ru d 207 8 [l0, l1, l2, l3, l4, l5, l6] [v0] σ = kont (callD d 204 [v0] σ) d 207 11 [l0, l1, l2, l3, l4, l5, l6] [] := q_invs t207_8 mo207 (by decide +kernel) K8_328 mj204 (Nat.le_of_ble_eq_true rfl) rfl rfl (Nat.le_of_ble_eq_true rfl)
theorem t207_11 : decode (mb 207) 11 = .ok (.ifCond .ne 10, 3) := by decide +kernel
theorem s207_11 (d : Nat) (l0 : Value) (l1 : Value) (l2 : Value) (l3 : Value) (l4 : Value) (l5 : Value) (l6 : Value) (x : Int32) (σ : Hs) : ru d 207 11 [l0, l1, l2, l3, l4, l5, l6] [.int x] σ = if x = 0 then ru d 207 14 [l0, l1, l2, l3, l4, l5, l6] [] σ else ru d 207 21 [l0, l1, l2, l3, l4, l5, l6] [] σ := q_if_ne t207_11 (by decide +kernel)
theorem t207_14 : decode (mb 207) 14 = .ok (.aload_n 0, 1) := by decide +kernel
theorem s207_14 (d : Nat) (a0 : Nat) (l1 : Value) (l2 : Value) (l3 : Value) (l4 : Value) (l5 : Value) (l6 : Value) (σ : Hs) : ru d 207 14 [.ref a0, l1, l2, l3, l4, l5, l6] [] σ = ru d 207 15 [.ref a0, l1, l2, l3, l4, l5, l6] [.ref a0] σ := q_aload_n t207_14 rfl
theorem t207_15 : decode (mb 207) 15 = .ok (.ldc 104, 2) := by decide +kernel
theorem s207_15 (d : Nat) (l0 : Value) (l1 : Value) (l2 : Value) (l3 : Value) (l4 : Value) (l5 : Value) (l6 : Value) (w0 : Value) (σ : Hs) : ru d 207 15 [l0, l1, l2, l3, l4, l5, l6] [w0] σ = ru d 207 17 [l0, l1, l2, l3, l4, l5, l6] [.int (-1000001), w0] σ := q_ldc t207_15 mo207 C8_104
theorem t207_17 : decode (mb 207) 17 = .ok (.invokevirtual 105, 3) := by decide +kernel
theorem s207_17_o87 (d : Nat) (l0 : Value) (l1 : Value) (l2 : Value) (l3 : Value) (l4 : Value) (l5 : Value) (l6 : Value) (v1 : Value) (σ : Hs) : ru d 207 17 [l0, l1, l2, l3, l4, l5, l6] [v1, .ref 87] σ = kont (callD d 112 [.ref 87, v1] σ) d 207 20 [l0, l1, l2, l3, l4, l5, l6] [] := q_invv t207_17 mo207 K8_105 mj112 rfl rfl rfl rfl (Nat.le_of_ble_eq_true rfl)
theorem t207_20 : decode (mb 207) 20 = .ok (.ireturn, 1) := by decide +kernel
theorem s207_20 (d : Nat) (l0 : Value) (l1 : Value) (l2 : Value) (l3 : Value) (l4 : Value) (l5 : Value) (l6 : Value) (x : Int32) (σ : Hs) : ru d 207 20 [l0, l1, l2, l3, l4, l5, l6] [.int x] σ = some (some (.int x), σ) := q_ireti t207_20 mr207
theorem t207_21 : decode (mb 207) 21 = .ok (.aload_n 0, 1) := by decide +kernel
theorem s207_21 (d : Nat) (a0 : Nat) (l1 : Value) (l2 : Value) (l3 : Value) (l4 : Value) (l5 : Value) (l6 : Value) (σ : Hs) : ru d 207 21 [.ref a0, l1, l2, l3, l4, l5, l6] [] σ = ru d 207 22 [.ref a0, l1, l2, l3, l4, l5, l6] [.ref a0] σ := q_aload_n t207_21 rfl
theorem t207_22 : decode (mb 207) 22 = .ok (.getfield 55, 3) := by decide +kernel
theorem s207_22_o87 (d : Nat) (l0 : Value) (l1 : Value) (l2 : Value) (l3 : Value) (l4 : Value) (l5 : Value) (l6 : Value) (σ : Hs) : ru d 207 22 [l0, l1, l2, l3, l4, l5, l6] [.ref 87] σ = ru d 207 25 [l0, l1, l2, l3, l4, l5, l6] [.ref 100] σ := q_getf t207_22 mo207 F8_55 rfl rfl
theorem t207_25 : decode (mb 207) 25 = .ok (.iload_n 1, 1) := by decide +kernel
theorem s207_25 (d : Nat) (l0 : Value) (i1 : Int32) (l2 : Value) (l3 : Value) (l4 : Value) (l5 : Value) (l6 : Value) (w0 : Value) (σ : Hs) : ru d 207 25 [l0, .int i1, l2, l3, l4, l5, l6] [w0] σ = ru d 207 26 [l0, .int i1, l2, l3, l4, l5, l6] [.int i1, w0] σ := q_iload_n t207_25 rfl
theorem t207_26 : decode (mb 207) 26 = .ok (.iaload, 1) := by decide +kernel
theorem s207_26_o100 (d : Nat) (l0 : Value) (l1 : Value) (l2 : Value) (l3 : Value) (l4 : Value) (l5 : Value) (l6 : Value) (i : Int32) (σ : Hs) : ru d 207 26 [l0, l1, l2, l3, l4, l5, l6] [.int i, .ref 100] σ = gd (vp_in i 4) (ru d 207 27 [l0, l1, l2, l3, l4, l5, l6] [.int (σ 100 i.toNatClampNeg)] σ) := q_iald t207_26 rfl (by decide +kernel) rfl
theorem t207_27 : decode (mb 207) 27 = .ok (.ifCond .eq 12, 3) := by decide +kernel
theorem s207_27 (d : Nat) (l0 : Value) (l1 : Value) (l2 : Value) (l3 : Value) (l4 : Value) (l5 : Value) (l6 : Value) (x : Int32) (σ : Hs) : ru d 207 27 [l0, l1, l2, l3, l4, l5, l6] [.int x] σ = if x = 0 then ru d 207 39 [l0, l1, l2, l3, l4, l5, l6] [] σ else ru d 207 30 [l0, l1, l2, l3, l4, l5, l6] [] σ := q_if_eq t207_27 (by decide +kernel)
theorem t207_30 : decode (mb 207) 30 = .ok (.aload_n 0, 1) := by decide +kernel
theorem s207_30 (d : Nat) (a0 : Nat) (l1 : Value) (l2 : Value) (l3 : Value) (l4 : Value) (l5 : Value) (l6 : Value) (σ : Hs) : ru d 207 30 [.ref a0, l1, l2, l3, l4, l5, l6] [] σ = ru d 207 31 [.ref a0, l1, l2, l3, l4, l5, l6] [.ref a0] σ := q_aload_n t207_30 rfl
theorem t207_31 : decode (mb 207) 31 = .ok (.getfield 55, 3) := by decide +kernel
theorem s207_31_o87 (d : Nat) (l0 : Value) (l1 : Value) (l2 : Value) (l3 : Value) (l4 : Value) (l5 : Value) (l6 : Value) (σ : Hs) : ru d 207 31 [l0, l1, l2, l3, l4, l5, l6] [.ref 87] σ = ru d 207 34 [l0, l1, l2, l3, l4, l5, l6] [.ref 100] σ := q_getf t207_31 mo207 F8_55 rfl rfl
theorem t207_34 : decode (mb 207) 34 = .ok (.iload_n 3, 1) := by decide +kernel
theorem s207_34 (d : Nat) (l0 : Value) (l1 : Value) (l2 : Value) (i3 : Int32) (l4 : Value) (l5 : Value) (l6 : Value) (w0 : Value) (σ : Hs) : ru d 207 34 [l0, l1, l2, .int i3, l4, l5, l6] [w0] σ = ru d 207 35 [l0, l1, l2, .int i3, l4, l5, l6] [.int i3, w0] σ := q_iload_n t207_34 rfl
theorem t207_35 : decode (mb 207) 35 = .ok (.iaload, 1) := by decide +kernel
theorem s207_35_o100 (d : Nat) (l0 : Value) (l1 : Value) (l2 : Value) (l3 : Value) (l4 : Value) (l5 : Value) (l6 : Value) (i : Int32) (σ : Hs) : ru d 207 35 [l0, l1, l2, l3, l4, l5, l6] [.int i, .ref 100] σ = gd (vp_in i 4) (ru d 207 36 [l0, l1, l2, l3, l4, l5, l6] [.int (σ 100 i.toNatClampNeg)] σ) := q_iald t207_35 rfl (by decide +kernel) rfl
theorem t207_36 : decode (mb 207) 36 = .ok (.ifCond .ne 10, 3) := by decide +kernel
theorem s207_36 (d : Nat) (l0 : Value) (l1 : Value) (l2 : Value) (l3 : Value) (l4 : Value) (l5 : Value) (l6 : Value) (x : Int32) (σ : Hs) : ru d 207 36 [l0, l1, l2, l3, l4, l5, l6] [.int x] σ = if x = 0 then ru d 207 39 [l0, l1, l2, l3, l4, l5, l6] [] σ else ru d 207 46 [l0, l1, l2, l3, l4, l5, l6] [] σ := q_if_ne t207_36 (by decide +kernel)
theorem t207_39 : decode (mb 207) 39 = .ok (.aload_n 0, 1) := by decide +kernel
theorem s207_39 (d : Nat) (a0 : Nat) (l1 : Value) (l2 : Value) (l3 : Value) (l4 : Value) (l5 : Value) (l6 : Value) (σ : Hs) : ru d 207 39 [.ref a0, l1, l2, l3, l4, l5, l6] [] σ = ru d 207 40 [.ref a0, l1, l2, l3, l4, l5, l6] [.ref a0] σ := q_aload_n t207_39 rfl
theorem t207_40 : decode (mb 207) 40 = .ok (.ldc 116, 2) := by decide +kernel
theorem s207_40 (d : Nat) (l0 : Value) (l1 : Value) (l2 : Value) (l3 : Value) (l4 : Value) (l5 : Value) (l6 : Value) (w0 : Value) (σ : Hs) : ru d 207 40 [l0, l1, l2, l3, l4, l5, l6] [w0] σ = ru d 207 42 [l0, l1, l2, l3, l4, l5, l6] [.int (-1000002), w0] σ := q_ldc t207_40 mo207 C8_116
theorem t207_42 : decode (mb 207) 42 = .ok (.invokevirtual 105, 3) := by decide +kernel
theorem s207_42_o87 (d : Nat) (l0 : Value) (l1 : Value) (l2 : Value) (l3 : Value) (l4 : Value) (l5 : Value) (l6 : Value) (v1 : Value) (σ : Hs) : ru d 207 42 [l0, l1, l2, l3, l4, l5, l6] [v1, .ref 87] σ = kont (callD d 112 [.ref 87, v1] σ) d 207 45 [l0, l1, l2, l3, l4, l5, l6] [] := q_invv t207_42 mo207 K8_105 mj112 rfl rfl rfl rfl (Nat.le_of_ble_eq_true rfl)
theorem t207_45 : decode (mb 207) 45 = .ok (.ireturn, 1) := by decide +kernel
theorem s207_45 (d : Nat) (l0 : Value) (l1 : Value) (l2 : Value) (l3 : Value) (l4 : Value) (l5 : Value) (l6 : Value) (x : Int32) (σ : Hs) : ru d 207 45 [l0, l1, l2, l3, l4, l5, l6] [.int x] σ = some (some (.int x), σ) := q_ireti t207_45 mr207
theorem t207_46 : decode (mb 207) 46 = .ok (.aload_n 0, 1) := by decide +kernel
theorem s207_46 (d : Nat) (a0 : Nat) (l1 : Value) (l2 : Value) (l3 : Value) (l4 : Value) (l5 : Value) (l6 : Value) (σ : Hs) : ru d 207 46 [.ref a0, l1, l2, l3, l4, l5, l6] [] σ = ru d 207 47 [.ref a0, l1, l2, l3, l4, l5, l6] [.ref a0] σ := q_aload_n t207_46 rfl
theorem t207_47 : decode (mb 207) 47 = .ok (.getfield 55, 3) := by decide +kernel
theorem s207_47_o87 (d : Nat) (l0 : Value) (l1 : Value) (l2 : Value) (l3 : Value) (l4 : Value) (l5 : Value) (l6 : Value) (σ : Hs) : ru d 207 47 [l0, l1, l2, l3, l4, l5, l6] [.ref 87] σ = ru d 207 50 [l0, l1, l2, l3, l4, l5, l6] [.ref 100] σ := q_getf t207_47 mo207 F8_55 rfl rfl
theorem t207_50 : decode (mb 207) 50 = .ok (.iload_n 1, 1) := by decide +kernel
theorem s207_50 (d : Nat) (l0 : Value) (i1 : Int32) (l2 : Value) (l3 : Value) (l4 : Value) (l5 : Value) (l6 : Value) (w0 : Value) (σ : Hs) : ru d 207 50 [l0, .int i1, l2, l3, l4, l5, l6] [w0] σ = ru d 207 51 [l0, .int i1, l2, l3, l4, l5, l6] [.int i1, w0] σ := q_iload_n t207_50 rfl
theorem t207_51 : decode (mb 207) 51 = .ok (.iaload, 1) := by decide +kernel
theorem s207_51_o100 (d : Nat) (l0 : Value) (l1 : Value) (l2 : Value) (l3 : Value) (l4 : Value) (l5 : Value) (l6 : Value) (i : Int32) (σ : Hs) : ru d 207 51 [l0, l1, l2, l3, l4, l5, l6] [.int i, .ref 100] σ = gd (vp_in i 4) (ru d 207 52 [l0, l1, l2, l3, l4, l5, l6] [.int (σ 100 i.toNatClampNeg)] σ) := q_iald t207_51 rfl (by decide +kernel) rfl
theorem t207_52 : decode (mb 207) 52 = .ok (.aload_n 0, 1) := by decide +kernel
theorem s207_52 (d : Nat) (a0 : Nat) (l1 : Value) (l2 : Value) (l3 : Value) (l4 : Value) (l5 : Value) (l6 : Value) (w0 : Value) (σ : Hs) : ru d 207 52 [.ref a0, l1, l2, l3, l4, l5, l6] [w0] σ = ru d 207 53 [.ref a0, l1, l2, l3, l4, l5, l6] [.ref a0, w0] σ := q_aload_n t207_52 rfl
theorem t207_53 : decode (mb 207) 53 = .ok (.getfield 55, 3) := by decide +kernel
theorem s207_53_o87 (d : Nat) (l0 : Value) (l1 : Value) (l2 : Value) (l3 : Value) (l4 : Value) (l5 : Value) (l6 : Value) (w0 : Value) (σ : Hs) : ru d 207 53 [l0, l1, l2, l3, l4, l5, l6] [.ref 87, w0] σ = ru d 207 56 [l0, l1, l2, l3, l4, l5, l6] [.ref 100, w0] σ := q_getf t207_53 mo207 F8_55 rfl rfl
theorem t207_56 : decode (mb 207) 56 = .ok (.iload_n 3, 1) := by decide +kernel
theorem s207_56 (d : Nat) (l0 : Value) (l1 : Value) (l2 : Value) (i3 : Int32) (l4 : Value) (l5 : Value) (l6 : Value) (w0 w1 : Value) (σ : Hs) : ru d 207 56 [l0, l1, l2, .int i3, l4, l5, l6] [w0, w1] σ = ru d 207 57 [l0, l1, l2, .int i3, l4, l5, l6] [.int i3, w0, w1] σ := q_iload_n t207_56 rfl
theorem t207_57 : decode (mb 207) 57 = .ok (.iaload, 1) := by decide +kernel
theorem s207_57_o100 (d : Nat) (l0 : Value) (l1 : Value) (l2 : Value) (l3 : Value) (l4 : Value) (l5 : Value) (l6 : Value) (i : Int32) (w0 : Value) (σ : Hs) : ru d 207 57 [l0, l1, l2, l3, l4, l5, l6] [.int i, .ref 100, w0] σ = gd (vp_in i 4) (ru d 207 58 [l0, l1, l2, l3, l4, l5, l6] [.int (σ 100 i.toNatClampNeg), w0] σ) := q_iald t207_57 rfl (by decide +kernel) rfl
theorem t207_58 : decode (mb 207) 58 = .ok (.if_icmp .eq 10, 3) := by decide +kernel
theorem s207_58 (d : Nat) (l0 : Value) (l1 : Value) (l2 : Value) (l3 : Value) (l4 : Value) (l5 : Value) (l6 : Value) (x y : Int32) (σ : Hs) : ru d 207 58 [l0, l1, l2, l3, l4, l5, l6] [.int y, .int x] σ = if x = y then ru d 207 68 [l0, l1, l2, l3, l4, l5, l6] [] σ else ru d 207 61 [l0, l1, l2, l3, l4, l5, l6] [] σ := q_ic_eq t207_58 (by decide +kernel)
theorem t207_61 : decode (mb 207) 61 = .ok (.aload_n 0, 1) := by decide +kernel
theorem s207_61 (d : Nat) (a0 : Nat) (l1 : Value) (l2 : Value) (l3 : Value) (l4 : Value) (l5 : Value) (l6 : Value) (σ : Hs) : ru d 207 61 [.ref a0, l1, l2, l3, l4, l5, l6] [] σ = ru d 207 62 [.ref a0, l1, l2, l3, l4, l5, l6] [.ref a0] σ := q_aload_n t207_61 rfl
theorem t207_62 : decode (mb 207) 62 = .ok (.ldc 134, 2) := by decide +kernel
theorem s207_62 (d : Nat) (l0 : Value) (l1 : Value) (l2 : Value) (l3 : Value) (l4 : Value) (l5 : Value) (l6 : Value) (w0 : Value) (σ : Hs) : ru d 207 62 [l0, l1, l2, l3, l4, l5, l6] [w0] σ = ru d 207 64 [l0, l1, l2, l3, l4, l5, l6] [.int (-1000005), w0] σ := q_ldc t207_62 mo207 C8_134
theorem t207_64 : decode (mb 207) 64 = .ok (.invokevirtual 105, 3) := by decide +kernel
theorem s207_64_o87 (d : Nat) (l0 : Value) (l1 : Value) (l2 : Value) (l3 : Value) (l4 : Value) (l5 : Value) (l6 : Value) (v1 : Value) (σ : Hs) : ru d 207 64 [l0, l1, l2, l3, l4, l5, l6] [v1, .ref 87] σ = kont (callD d 112 [.ref 87, v1] σ) d 207 67 [l0, l1, l2, l3, l4, l5, l6] [] := q_invv t207_64 mo207 K8_105 mj112 rfl rfl rfl rfl (Nat.le_of_ble_eq_true rfl)
theorem t207_67 : decode (mb 207) 67 = .ok (.ireturn, 1) := by decide +kernel
theorem s207_67 (d : Nat) (l0 : Value) (l1 : Value) (l2 : Value) (l3 : Value) (l4 : Value) (l5 : Value) (l6 : Value) (x : Int32) (σ : Hs) : ru d 207 67 [l0, l1, l2, l3, l4, l5, l6] [.int x] σ = some (some (.int x), σ) := q_ireti t207_67 mr207
theorem t207_68 : decode (mb 207) 68 = .ok (.iload 5, 2) := by decide +kernel
theorem s207_68 (d : Nat) (l0 : Value) (l1 : Value) (l2 : Value) (l3 : Value) (l4 : Value) (i5 : Int32) (l6 : Value) (σ : Hs) : ru d 207 68 [l0, l1, l2, l3, l4, .int i5, l6] [] σ = ru d 207 70 [l0, l1, l2, l3, l4, .int i5, l6] [.int i5] σ := q_iload t207_68 rfl
theorem t207_70 : decode (mb 207) 70 = .ok (.ifCond .lt 47, 3) := by decide +kernel
theorem s207_70 (d : Nat) (l0 : Value) (l1 : Value) (l2 : Value) (l3 : Value) (l4 : Value) (l5 : Value) (l6 : Value) (x : Int32) (σ : Hs) : ru d 207 70 [l0, l1, l2, l3, l4, l5, l6] [.int x] σ = if x < 0 then ru d 207 117 [l0, l1, l2, l3, l4, l5, l6] [] σ else ru d 207 73 [l0, l1, l2, l3, l4, l5, l6] [] σ := q_if_lt t207_70 (by decide +kernel)
theorem t207_73 : decode (mb 207) 73 = .ok (.iload_n 2, 1) := by decide +kernel
theorem s207_73 (d : Nat) (l0 : Value) (l1 : Value) (i2 : Int32) (l3 : Value) (l4 : Value) (l5 : Value) (l6 : Value) (σ : Hs) : ru d 207 73 [l0, l1, .int i2, l3, l4, l5, l6] [] σ = ru d 207 74 [l0, l1, .int i2, l3, l4, l5, l6] [.int i2] σ := q_iload_n t207_73 rfl
theorem t207_74 : decode (mb 207) 74 = .ok (.ifCond .lt 43, 3) := by decide +kernel
theorem s207_74 (d : Nat) (l0 : Value) (l1 : Value) (l2 : Value) (l3 : Value) (l4 : Value) (l5 : Value) (l6 : Value) (x : Int32) (σ : Hs) : ru d 207 74 [l0, l1, l2, l3, l4, l5, l6] [.int x] σ = if x < 0 then ru d 207 117 [l0, l1, l2, l3, l4, l5, l6] [] σ else ru d 207 77 [l0, l1, l2, l3, l4, l5, l6] [] σ := q_if_lt t207_74 (by decide +kernel)
theorem t207_77 : decode (mb 207) 77 = .ok (.iload 4, 2) := by decide +kernel
theorem s207_77 (d : Nat) (l0 : Value) (l1 : Value) (l2 : Value) (l3 : Value) (i4 : Int32) (l5 : Value) (l6 : Value) (σ : Hs) : ru d 207 77 [l0, l1, l2, l3, .int i4, l5, l6] [] σ = ru d 207 79 [l0, l1, l2, l3, .int i4, l5, l6] [.int i4] σ := q_iload t207_77 rfl
theorem t207_79 : decode (mb 207) 79 = .ok (.ifCond .lt 38, 3) := by decide +kernel
theorem s207_79 (d : Nat) (l0 : Value) (l1 : Value) (l2 : Value) (l3 : Value) (l4 : Value) (l5 : Value) (l6 : Value) (x : Int32) (σ : Hs) : ru d 207 79 [l0, l1, l2, l3, l4, l5, l6] [.int x] σ = if x < 0 then ru d 207 117 [l0, l1, l2, l3, l4, l5, l6] [] σ else ru d 207 82 [l0, l1, l2, l3, l4, l5, l6] [] σ := q_if_lt t207_79 (by decide +kernel)
theorem t207_82 : decode (mb 207) 82 = .ok (.iload_n 2, 1) := by decide +kernel
theorem s207_82 (d : Nat) (l0 : Value) (l1 : Value) (i2 : Int32) (l3 : Value) (l4 : Value) (l5 : Value) (l6 : Value) (σ : Hs) : ru d 207 82 [l0, l1, .int i2, l3, l4, l5, l6] [] σ = ru d 207 83 [l0, l1, .int i2, l3, l4, l5, l6] [.int i2] σ := q_iload_n t207_82 rfl
theorem t207_83 : decode (mb 207) 83 = .ok (.i2l, 1) := by decide +kernel
theorem s207_83 (d : Nat) (l0 : Value) (l1 : Value) (l2 : Value) (l3 : Value) (l4 : Value) (l5 : Value) (l6 : Value) (x : Int32) (σ : Hs) : ru d 207 83 [l0, l1, l2, l3, l4, l5, l6] [.int x] σ = ru d 207 84 [l0, l1, l2, l3, l4, l5, l6] [.long x.toInt64] σ := q_i2l t207_83
theorem t207_84 : decode (mb 207) 84 = .ok (.iload 5, 2) := by decide +kernel
theorem s207_84 (d : Nat) (l0 : Value) (l1 : Value) (l2 : Value) (l3 : Value) (l4 : Value) (i5 : Int32) (l6 : Value) (w0 : Value) (σ : Hs) : ru d 207 84 [l0, l1, l2, l3, l4, .int i5, l6] [w0] σ = ru d 207 86 [l0, l1, l2, l3, l4, .int i5, l6] [.int i5, w0] σ := q_iload t207_84 rfl
theorem t207_86 : decode (mb 207) 86 = .ok (.i2l, 1) := by decide +kernel
theorem s207_86 (d : Nat) (l0 : Value) (l1 : Value) (l2 : Value) (l3 : Value) (l4 : Value) (l5 : Value) (l6 : Value) (x : Int32) (w0 : Value) (σ : Hs) : ru d 207 86 [l0, l1, l2, l3, l4, l5, l6] [.int x, w0] σ = ru d 207 87 [l0, l1, l2, l3, l4, l5, l6] [.long x.toInt64, w0] σ := q_i2l t207_86
theorem t207_87 : decode (mb 207) 87 = .ok (.ladd, 1) := by decide +kernel
theorem s207_87 (d : Nat) (l0 : Value) (l1 : Value) (l2 : Value) (l3 : Value) (l4 : Value) (l5 : Value) (l6 : Value) (x y : Int64) (σ : Hs) : ru d 207 87 [l0, l1, l2, l3, l4, l5, l6] [.long y, .long x] σ = ru d 207 88 [l0, l1, l2, l3, l4, l5, l6] [.long (x + y)] σ := q_ladd t207_87
theorem t207_88 : decode (mb 207) 88 = .ok (.aload_n 0, 1) := by decide +kernel
theorem s207_88 (d : Nat) (a0 : Nat) (l1 : Value) (l2 : Value) (l3 : Value) (l4 : Value) (l5 : Value) (l6 : Value) (w0 : Value) (σ : Hs) : ru d 207 88 [.ref a0, l1, l2, l3, l4, l5, l6] [w0] σ = ru d 207 89 [.ref a0, l1, l2, l3, l4, l5, l6] [.ref a0, w0] σ := q_aload_n t207_88 rfl
theorem t207_89 : decode (mb 207) 89 = .ok (.getfield 58, 3) := by decide +kernel
theorem s207_89_o87 (d : Nat) (l0 : Value) (l1 : Value) (l2 : Value) (l3 : Value) (l4 : Value) (l5 : Value) (l6 : Value) (w0 : Value) (σ : Hs) : ru d 207 89 [l0, l1, l2, l3, l4, l5, l6] [.ref 87, w0] σ = ru d 207 92 [l0, l1, l2, l3, l4, l5, l6] [.ref 101, w0] σ := q_getf t207_89 mo207 F8_58 rfl rfl
theorem t207_92 : decode (mb 207) 92 = .ok (.iload_n 1, 1) := by decide +kernel
theorem s207_92 (d : Nat) (l0 : Value) (i1 : Int32) (l2 : Value) (l3 : Value) (l4 : Value) (l5 : Value) (l6 : Value) (w0 w1 : Value) (σ : Hs) : ru d 207 92 [l0, .int i1, l2, l3, l4, l5, l6] [w0, w1] σ = ru d 207 93 [l0, .int i1, l2, l3, l4, l5, l6] [.int i1, w0, w1] σ := q_iload_n t207_92 rfl
theorem t207_93 : decode (mb 207) 93 = .ok (.iaload, 1) := by decide +kernel
theorem s207_93_o101 (d : Nat) (l0 : Value) (l1 : Value) (l2 : Value) (l3 : Value) (l4 : Value) (l5 : Value) (l6 : Value) (i : Int32) (w0 : Value) (σ : Hs) : ru d 207 93 [l0, l1, l2, l3, l4, l5, l6] [.int i, .ref 101, w0] σ = gd (vp_in i 4) (ru d 207 94 [l0, l1, l2, l3, l4, l5, l6] [.int (σ 101 i.toNatClampNeg), w0] σ) := q_iald t207_93 rfl (by decide +kernel) rfl
theorem t207_94 : decode (mb 207) 94 = .ok (.i2l, 1) := by decide +kernel
theorem s207_94 (d : Nat) (l0 : Value) (l1 : Value) (l2 : Value) (l3 : Value) (l4 : Value) (l5 : Value) (l6 : Value) (x : Int32) (w0 : Value) (σ : Hs) : ru d 207 94 [l0, l1, l2, l3, l4, l5, l6] [.int x, w0] σ = ru d 207 95 [l0, l1, l2, l3, l4, l5, l6] [.long x.toInt64, w0] σ := q_i2l t207_94
theorem t207_95 : decode (mb 207) 95 = .ok (.lcmp, 1) := by decide +kernel
theorem s207_95 (d : Nat) (l0 : Value) (l1 : Value) (l2 : Value) (l3 : Value) (l4 : Value) (l5 : Value) (l6 : Value) (x y : Int64) (σ : Hs) : ru d 207 95 [l0, l1, l2, l3, l4, l5, l6] [.long y, .long x] σ = ru d 207 96 [l0, l1, l2, l3, l4, l5, l6] [.int (lg_cmp x y)] σ := q_lcmp t207_95
theorem t207_96 : decode (mb 207) 96 = .ok (.ifCond .gt 21, 3) := by decide +kernel
theorem s207_96 (d : Nat) (l0 : Value) (l1 : Value) (l2 : Value) (l3 : Value) (l4 : Value) (l5 : Value) (l6 : Value) (x : Int32) (σ : Hs) : ru d 207 96 [l0, l1, l2, l3, l4, l5, l6] [.int x] σ = if 0 < x then ru d 207 117 [l0, l1, l2, l3, l4, l5, l6] [] σ else ru d 207 99 [l0, l1, l2, l3, l4, l5, l6] [] σ := q_if_gt t207_96 (by decide +kernel)
theorem t207_99 : decode (mb 207) 99 = .ok (.iload 4, 2) := by decide +kernel
theorem s207_99 (d : Nat) (l0 : Value) (l1 : Value) (l2 : Value) (l3 : Value) (i4 : Int32) (l5 : Value) (l6 : Value) (σ : Hs) : ru d 207 99 [l0, l1, l2, l3, .int i4, l5, l6] [] σ = ru d 207 101 [l0, l1, l2, l3, .int i4, l5, l6] [.int i4] σ := q_iload t207_99 rfl
theorem t207_101 : decode (mb 207) 101 = .ok (.i2l, 1) := by decide +kernel
theorem s207_101 (d : Nat) (l0 : Value) (l1 : Value) (l2 : Value) (l3 : Value) (l4 : Value) (l5 : Value) (l6 : Value) (x : Int32) (σ : Hs) : ru d 207 101 [l0, l1, l2, l3, l4, l5, l6] [.int x] σ = ru d 207 102 [l0, l1, l2, l3, l4, l5, l6] [.long x.toInt64] σ := q_i2l t207_101
theorem t207_102 : decode (mb 207) 102 = .ok (.iload 5, 2) := by decide +kernel
theorem s207_102 (d : Nat) (l0 : Value) (l1 : Value) (l2 : Value) (l3 : Value) (l4 : Value) (i5 : Int32) (l6 : Value) (w0 : Value) (σ : Hs) : ru d 207 102 [l0, l1, l2, l3, l4, .int i5, l6] [w0] σ = ru d 207 104 [l0, l1, l2, l3, l4, .int i5, l6] [.int i5, w0] σ := q_iload t207_102 rfl
theorem t207_104 : decode (mb 207) 104 = .ok (.i2l, 1) := by decide +kernel
theorem s207_104 (d : Nat) (l0 : Value) (l1 : Value) (l2 : Value) (l3 : Value) (l4 : Value) (l5 : Value) (l6 : Value) (x : Int32) (w0 : Value) (σ : Hs) : ru d 207 104 [l0, l1, l2, l3, l4, l5, l6] [.int x, w0] σ = ru d 207 105 [l0, l1, l2, l3, l4, l5, l6] [.long x.toInt64, w0] σ := q_i2l t207_104
theorem t207_105 : decode (mb 207) 105 = .ok (.ladd, 1) := by decide +kernel
theorem s207_105 (d : Nat) (l0 : Value) (l1 : Value) (l2 : Value) (l3 : Value) (l4 : Value) (l5 : Value) (l6 : Value) (x y : Int64) (σ : Hs) : ru d 207 105 [l0, l1, l2, l3, l4, l5, l6] [.long y, .long x] σ = ru d 207 106 [l0, l1, l2, l3, l4, l5, l6] [.long (x + y)] σ := q_ladd t207_105
theorem t207_106 : decode (mb 207) 106 = .ok (.aload_n 0, 1) := by decide +kernel
theorem s207_106 (d : Nat) (a0 : Nat) (l1 : Value) (l2 : Value) (l3 : Value) (l4 : Value) (l5 : Value) (l6 : Value) (w0 : Value) (σ : Hs) : ru d 207 106 [.ref a0, l1, l2, l3, l4, l5, l6] [w0] σ = ru d 207 107 [.ref a0, l1, l2, l3, l4, l5, l6] [.ref a0, w0] σ := q_aload_n t207_106 rfl
theorem t207_107 : decode (mb 207) 107 = .ok (.getfield 58, 3) := by decide +kernel
theorem s207_107_o87 (d : Nat) (l0 : Value) (l1 : Value) (l2 : Value) (l3 : Value) (l4 : Value) (l5 : Value) (l6 : Value) (w0 : Value) (σ : Hs) : ru d 207 107 [l0, l1, l2, l3, l4, l5, l6] [.ref 87, w0] σ = ru d 207 110 [l0, l1, l2, l3, l4, l5, l6] [.ref 101, w0] σ := q_getf t207_107 mo207 F8_58 rfl rfl
theorem t207_110 : decode (mb 207) 110 = .ok (.iload_n 3, 1) := by decide +kernel
theorem s207_110 (d : Nat) (l0 : Value) (l1 : Value) (l2 : Value) (i3 : Int32) (l4 : Value) (l5 : Value) (l6 : Value) (w0 w1 : Value) (σ : Hs) : ru d 207 110 [l0, l1, l2, .int i3, l4, l5, l6] [w0, w1] σ = ru d 207 111 [l0, l1, l2, .int i3, l4, l5, l6] [.int i3, w0, w1] σ := q_iload_n t207_110 rfl
theorem t207_111 : decode (mb 207) 111 = .ok (.iaload, 1) := by decide +kernel
theorem s207_111_o101 (d : Nat) (l0 : Value) (l1 : Value) (l2 : Value) (l3 : Value) (l4 : Value) (l5 : Value) (l6 : Value) (i : Int32) (w0 : Value) (σ : Hs) : ru d 207 111 [l0, l1, l2, l3, l4, l5, l6] [.int i, .ref 101, w0] σ = gd (vp_in i 4) (ru d 207 112 [l0, l1, l2, l3, l4, l5, l6] [.int (σ 101 i.toNatClampNeg), w0] σ) := q_iald t207_111 rfl (by decide +kernel) rfl
theorem t207_112 : decode (mb 207) 112 = .ok (.i2l, 1) := by decide +kernel
theorem s207_112 (d : Nat) (l0 : Value) (l1 : Value) (l2 : Value) (l3 : Value) (l4 : Value) (l5 : Value) (l6 : Value) (x : Int32) (w0 : Value) (σ : Hs) : ru d 207 112 [l0, l1, l2, l3, l4, l5, l6] [.int x, w0] σ = ru d 207 113 [l0, l1, l2, l3, l4, l5, l6] [.long x.toInt64, w0] σ := q_i2l t207_112
theorem t207_113 : decode (mb 207) 113 = .ok (.lcmp, 1) := by decide +kernel
theorem s207_113 (d : Nat) (l0 : Value) (l1 : Value) (l2 : Value) (l3 : Value) (l4 : Value) (l5 : Value) (l6 : Value) (x y : Int64) (σ : Hs) : ru d 207 113 [l0, l1, l2, l3, l4, l5, l6] [.long y, .long x] σ = ru d 207 114 [l0, l1, l2, l3, l4, l5, l6] [.int (lg_cmp x y)] σ := q_lcmp t207_113
theorem t207_114 : decode (mb 207) 114 = .ok (.ifCond .le 10, 3) := by decide +kernel
theorem s207_114 (d : Nat) (l0 : Value) (l1 : Value) (l2 : Value) (l3 : Value) (l4 : Value) (l5 : Value) (l6 : Value) (x : Int32) (σ : Hs) : ru d 207 114 [l0, l1, l2, l3, l4, l5, l6] [.int x] σ = if x ≤ 0 then ru d 207 124 [l0, l1, l2, l3, l4, l5, l6] [] σ else ru d 207 117 [l0, l1, l2, l3, l4, l5, l6] [] σ := q_if_le t207_114 (by decide +kernel)
theorem t207_117 : decode (mb 207) 117 = .ok (.aload_n 0, 1) := by decide +kernel
theorem s207_117 (d : Nat) (a0 : Nat) (l1 : Value) (l2 : Value) (l3 : Value) (l4 : Value) (l5 : Value) (l6 : Value) (σ : Hs) : ru d 207 117 [.ref a0, l1, l2, l3, l4, l5, l6] [] σ = ru d 207 118 [.ref a0, l1, l2, l3, l4, l5, l6] [.ref a0] σ := q_aload_n t207_117 rfl
theorem t207_118 : decode (mb 207) 118 = .ok (.ldc 104, 2) := by decide +kernel
theorem s207_118 (d : Nat) (l0 : Value) (l1 : Value) (l2 : Value) (l3 : Value) (l4 : Value) (l5 : Value) (l6 : Value) (w0 : Value) (σ : Hs) : ru d 207 118 [l0, l1, l2, l3, l4, l5, l6] [w0] σ = ru d 207 120 [l0, l1, l2, l3, l4, l5, l6] [.int (-1000001), w0] σ := q_ldc t207_118 mo207 C8_104
theorem t207_120 : decode (mb 207) 120 = .ok (.invokevirtual 105, 3) := by decide +kernel
theorem s207_120_o87 (d : Nat) (l0 : Value) (l1 : Value) (l2 : Value) (l3 : Value) (l4 : Value) (l5 : Value) (l6 : Value) (v1 : Value) (σ : Hs) : ru d 207 120 [l0, l1, l2, l3, l4, l5, l6] [v1, .ref 87] σ = kont (callD d 112 [.ref 87, v1] σ) d 207 123 [l0, l1, l2, l3, l4, l5, l6] [] := q_invv t207_120 mo207 K8_105 mj112 rfl rfl rfl rfl (Nat.le_of_ble_eq_true rfl)
theorem t207_123 : decode (mb 207) 123 = .ok (.ireturn, 1) := by decide +kernel
theorem s207_123 (d : Nat) (l0 : Value) (l1 : Value) (l2 : Value) (l3 : Value) (l4 : Value) (l5 : Value) (l6 : Value) (x : Int32) (σ : Hs) : ru d 207 123 [l0, l1, l2, l3, l4, l5, l6] [.int x] σ = some (some (.int x), σ) := q_ireti t207_123 mr207
theorem t207_124 : decode (mb 207) 124 = .ok (.iconst 0, 1) := by decide +kernel
theorem s207_124 (d : Nat) (l0 : Value) (l1 : Value) (l2 : Value) (l3 : Value) (l4 : Value) (l5 : Value) (l6 : Value) (σ : Hs) : ru d 207 124 [l0, l1, l2, l3, l4, l5, l6] [] σ = ru d 207 125 [l0, l1, l2, l3, l4, l5, l6] [.int 0] σ := q_iconst t207_124 (by decide +kernel)
theorem t207_125 : decode (mb 207) 125 = .ok (.istore 6, 2) := by decide +kernel
theorem s207_125 (d : Nat) (l0 : Value) (l1 : Value) (l2 : Value) (l3 : Value) (l4 : Value) (i5 : Int32) (l6 : Value) (x : Int32) (σ : Hs) : ru d 207 125 [l0, l1, l2, l3, l4, .int i5, l6] [.int x] σ = ru d 207 127 [l0, l1, l2, l3, l4, .int i5, .int x] [] σ := q_istore t207_125 ⟨Nat.le_of_ble_eq_true rfl, rfl⟩ rfl
theorem t207_127 : decode (mb 207) 127 = .ok (.iload 6, 2) := by decide +kernel
theorem s207_127 (d : Nat) (l0 : Value) (l1 : Value) (l2 : Value) (l3 : Value) (l4 : Value) (l5 : Value) (i6 : Int32) (σ : Hs) : ru d 207 127 [l0, l1, l2, l3, l4, l5, .int i6] [] σ = ru d 207 129 [l0, l1, l2, l3, l4, l5, .int i6] [.int i6] σ := q_iload t207_127 rfl
theorem t207_129 : decode (mb 207) 129 = .ok (.iload 5, 2) := by decide +kernel
theorem s207_129 (d : Nat) (l0 : Value) (l1 : Value) (l2 : Value) (l3 : Value) (l4 : Value) (i5 : Int32) (l6 : Value) (w0 : Value) (σ : Hs) : ru d 207 129 [l0, l1, l2, l3, l4, .int i5, l6] [w0] σ = ru d 207 131 [l0, l1, l2, l3, l4, .int i5, l6] [.int i5, w0] σ := q_iload t207_129 rfl
theorem t207_131 : decode (mb 207) 131 = .ok (.if_icmp .ge 30, 3) := by decide +kernel
theorem s207_131 (d : Nat) (l0 : Value) (l1 : Value) (l2 : Value) (l3 : Value) (l4 : Value) (l5 : Value) (l6 : Value) (x y : Int32) (σ : Hs) : ru d 207 131 [l0, l1, l2, l3, l4, l5, l6] [.int y, .int x] σ = if y ≤ x then ru d 207 161 [l0, l1, l2, l3, l4, l5, l6] [] σ else ru d 207 134 [l0, l1, l2, l3, l4, l5, l6] [] σ := q_ic_ge t207_131 (by decide +kernel)
theorem t207_134 : decode (mb 207) 134 = .ok (.aload_n 0, 1) := by decide +kernel
theorem s207_134 (d : Nat) (a0 : Nat) (l1 : Value) (l2 : Value) (l3 : Value) (l4 : Value) (l5 : Value) (l6 : Value) (σ : Hs) : ru d 207 134 [.ref a0, l1, l2, l3, l4, l5, l6] [] σ = ru d 207 135 [.ref a0, l1, l2, l3, l4, l5, l6] [.ref a0] σ := q_aload_n t207_134 rfl
theorem t207_135 : decode (mb 207) 135 = .ok (.getfield 64, 3) := by decide +kernel
theorem s207_135_o87 (d : Nat) (l0 : Value) (l1 : Value) (l2 : Value) (l3 : Value) (l4 : Value) (l5 : Value) (l6 : Value) (σ : Hs) : ru d 207 135 [l0, l1, l2, l3, l4, l5, l6] [.ref 87] σ = ru d 207 138 [l0, l1, l2, l3, l4, l5, l6] [.ref 103] σ := q_getf t207_135 mo207 F8_64 rfl rfl
theorem t207_138 : decode (mb 207) 138 = .ok (.iload 6, 2) := by decide +kernel
theorem s207_138 (d : Nat) (l0 : Value) (l1 : Value) (l2 : Value) (l3 : Value) (l4 : Value) (l5 : Value) (i6 : Int32) (w0 : Value) (σ : Hs) : ru d 207 138 [l0, l1, l2, l3, l4, l5, .int i6] [w0] σ = ru d 207 140 [l0, l1, l2, l3, l4, l5, .int i6] [.int i6, w0] σ := q_iload t207_138 rfl
theorem t207_140 : decode (mb 207) 140 = .ok (.aload_n 0, 1) := by decide +kernel
theorem s207_140 (d : Nat) (a0 : Nat) (l1 : Value) (l2 : Value) (l3 : Value) (l4 : Value) (l5 : Value) (l6 : Value) (w0 w1 : Value) (σ : Hs) : ru d 207 140 [.ref a0, l1, l2, l3, l4, l5, l6] [w0, w1] σ = ru d 207 141 [.ref a0, l1, l2, l3, l4, l5, l6] [.ref a0, w0, w1] σ := q_aload_n t207_140 rfl
theorem t207_141 : decode (mb 207) 141 = .ok (.getfield 61, 3) := by decide +kernel
theorem s207_141_o87 (d : Nat) (l0 : Value) (l1 : Value) (l2 : Value) (l3 : Value) (l4 : Value) (l5 : Value) (l6 : Value) (w0 w1 : Value) (σ : Hs) : ru d 207 141 [l0, l1, l2, l3, l4, l5, l6] [.ref 87, w0, w1] σ = ru d 207 144 [l0, l1, l2, l3, l4, l5, l6] [.ref 102, w0, w1] σ := q_getf t207_141 mo207 F8_61 rfl rfl
theorem t207_144 : decode (mb 207) 144 = .ok (.bipush 24, 2) := by decide +kernel
theorem s207_144 (d : Nat) (l0 : Value) (l1 : Value) (l2 : Value) (l3 : Value) (l4 : Value) (l5 : Value) (l6 : Value) (w0 w1 w2 : Value) (σ : Hs) : ru d 207 144 [l0, l1, l2, l3, l4, l5, l6] [w0, w1, w2] σ = ru d 207 146 [l0, l1, l2, l3, l4, l5, l6] [.int 24, w0, w1, w2] σ := q_bipush t207_144 (by decide +kernel)
theorem t207_146 : decode (mb 207) 146 = .ok (.iload_n 1, 1) := by decide +kernel
theorem s207_146 (d : Nat) (l0 : Value) (i1 : Int32) (l2 : Value) (l3 : Value) (l4 : Value) (l5 : Value) (l6 : Value) (w0 w1 w2 w3 : Value) (σ : Hs) : ru d 207 146 [l0, .int i1, l2, l3, l4, l5, l6] [w0, w1, w2, w3] σ = ru d 207 147 [l0, .int i1, l2, l3, l4, l5, l6] [.int i1, w0, w1, w2, w3] σ := q_iload_n t207_146 rfl
theorem t207_147 : decode (mb 207) 147 = .ok (.imul, 1) := by decide +kernel
theorem s207_147 (d : Nat) (l0 : Value) (l1 : Value) (l2 : Value) (l3 : Value) (l4 : Value) (l5 : Value) (l6 : Value) (x y : Int32) (w0 w1 w2 : Value) (σ : Hs) : ru d 207 147 [l0, l1, l2, l3, l4, l5, l6] [.int y, .int x, w0, w1, w2] σ = ru d 207 148 [l0, l1, l2, l3, l4, l5, l6] [.int (x * y), w0, w1, w2] σ := q_imul t207_147
theorem t207_148 : decode (mb 207) 148 = .ok (.iload_n 2, 1) := by decide +kernel
theorem s207_148 (d : Nat) (l0 : Value) (l1 : Value) (i2 : Int32) (l3 : Value) (l4 : Value) (l5 : Value) (l6 : Value) (w0 w1 w2 w3 : Value) (σ : Hs) : ru d 207 148 [l0, l1, .int i2, l3, l4, l5, l6] [w0, w1, w2, w3] σ = ru d 207 149 [l0, l1, .int i2, l3, l4, l5, l6] [.int i2, w0, w1, w2, w3] σ := q_iload_n t207_148 rfl
theorem t207_149 : decode (mb 207) 149 = .ok (.iadd, 1) := by decide +kernel
theorem s207_149 (d : Nat) (l0 : Value) (l1 : Value) (l2 : Value) (l3 : Value) (l4 : Value) (l5 : Value) (l6 : Value) (x y : Int32) (w0 w1 w2 : Value) (σ : Hs) : ru d 207 149 [l0, l1, l2, l3, l4, l5, l6] [.int y, .int x, w0, w1, w2] σ = ru d 207 150 [l0, l1, l2, l3, l4, l5, l6] [.int (x + y), w0, w1, w2] σ := q_iadd t207_149
theorem t207_150 : decode (mb 207) 150 = .ok (.iload 6, 2) := by decide +kernel
theorem s207_150 (d : Nat) (l0 : Value) (l1 : Value) (l2 : Value) (l3 : Value) (l4 : Value) (l5 : Value) (i6 : Int32) (w0 w1 w2 w3 : Value) (σ : Hs) : ru d 207 150 [l0, l1, l2, l3, l4, l5, .int i6] [w0, w1, w2, w3] σ = ru d 207 152 [l0, l1, l2, l3, l4, l5, .int i6] [.int i6, w0, w1, w2, w3] σ := q_iload t207_150 rfl
theorem t207_152 : decode (mb 207) 152 = .ok (.iadd, 1) := by decide +kernel
theorem s207_152 (d : Nat) (l0 : Value) (l1 : Value) (l2 : Value) (l3 : Value) (l4 : Value) (l5 : Value) (l6 : Value) (x y : Int32) (w0 w1 w2 : Value) (σ : Hs) : ru d 207 152 [l0, l1, l2, l3, l4, l5, l6] [.int y, .int x, w0, w1, w2] σ = ru d 207 153 [l0, l1, l2, l3, l4, l5, l6] [.int (x + y), w0, w1, w2] σ := q_iadd t207_152
theorem t207_153 : decode (mb 207) 153 = .ok (.iaload, 1) := by decide +kernel
theorem s207_153_o102 (d : Nat) (l0 : Value) (l1 : Value) (l2 : Value) (l3 : Value) (l4 : Value) (l5 : Value) (l6 : Value) (i : Int32) (w0 w1 : Value) (σ : Hs) : ru d 207 153 [l0, l1, l2, l3, l4, l5, l6] [.int i, .ref 102, w0, w1] σ = gd (vp_in i 96) (ru d 207 154 [l0, l1, l2, l3, l4, l5, l6] [.int (σ 102 i.toNatClampNeg), w0, w1] σ) := q_iald t207_153 rfl (by decide +kernel) rfl
theorem t207_154 : decode (mb 207) 154 = .ok (.iastore, 1) := by decide +kernel
theorem s207_154_o103 (d : Nat) (l0 : Value) (l1 : Value) (l2 : Value) (l3 : Value) (l4 : Value) (l5 : Value) (l6 : Value) (i x : Int32) (σ : Hs) : ru d 207 154 [l0, l1, l2, l3, l4, l5, l6] [.int x, .int i, .ref 103] σ = gd (vp_in i 24) (ru d 207 155 [l0, l1, l2, l3, l4, l5, l6] [] (up2 σ 103 i.toNatClampNeg x)) := q_iast t207_154 (by decide +kernel) rfl rfl
theorem t207_155 : decode (mb 207) 155 = .ok (.iinc 6 1, 3) := by decide +kernel
theorem s207_155 (d : Nat) (l0 : Value) (l1 : Value) (l2 : Value) (l3 : Value) (l4 : Value) (i5 : Int32) (i6 : Int32) (σ : Hs) : ru d 207 155 [l0, l1, l2, l3, l4, .int i5, .int i6] [] σ = ru d 207 158 [l0, l1, l2, l3, l4, .int i5, .int (i6 + 1)] [] σ := q_iinc t207_155 ⟨Nat.le_of_ble_eq_true rfl, rfl⟩ rfl (by decide +kernel) rfl
theorem t207_158 : decode (mb 207) 158 = .ok (.goto (-31), 3) := by decide +kernel
theorem s207_158 (d : Nat) (l0 : Value) (l1 : Value) (l2 : Value) (l3 : Value) (l4 : Value) (l5 : Value) (l6 : Value) (σ : Hs) : ru d 207 158 [l0, l1, l2, l3, l4, l5, l6] [] σ = ru d 207 127 [l0, l1, l2, l3, l4, l5, l6] [] σ := q_goto t207_158 (by decide +kernel)
theorem t207_161 : decode (mb 207) 161 = .ok (.iconst 0, 1) := by decide +kernel
theorem s207_161 (d : Nat) (l0 : Value) (l1 : Value) (l2 : Value) (l3 : Value) (l4 : Value) (l5 : Value) (l6 : Value) (σ : Hs) : ru d 207 161 [l0, l1, l2, l3, l4, l5, l6] [] σ = ru d 207 162 [l0, l1, l2, l3, l4, l5, l6] [.int 0] σ := q_iconst t207_161 (by decide +kernel)
theorem t207_162 : decode (mb 207) 162 = .ok (.istore 6, 2) := by decide +kernel
theorem s207_162 (d : Nat) (l0 : Value) (l1 : Value) (l2 : Value) (l3 : Value) (l4 : Value) (i5 : Int32) (l6 : Value) (x : Int32) (σ : Hs) : ru d 207 162 [l0, l1, l2, l3, l4, .int i5, l6] [.int x] σ = ru d 207 164 [l0, l1, l2, l3, l4, .int i5, .int x] [] σ := q_istore t207_162 ⟨Nat.le_of_ble_eq_true rfl, rfl⟩ rfl
theorem t207_164 : decode (mb 207) 164 = .ok (.iload 6, 2) := by decide +kernel
theorem s207_164 (d : Nat) (l0 : Value) (l1 : Value) (l2 : Value) (l3 : Value) (l4 : Value) (l5 : Value) (i6 : Int32) (σ : Hs) : ru d 207 164 [l0, l1, l2, l3, l4, l5, .int i6] [] σ = ru d 207 166 [l0, l1, l2, l3, l4, l5, .int i6] [.int i6] σ := q_iload t207_164 rfl
theorem t207_166 : decode (mb 207) 166 = .ok (.iload 5, 2) := by decide +kernel
theorem s207_166 (d : Nat) (l0 : Value) (l1 : Value) (l2 : Value) (l3 : Value) (l4 : Value) (i5 : Int32) (l6 : Value) (w0 : Value) (σ : Hs) : ru d 207 166 [l0, l1, l2, l3, l4, .int i5, l6] [w0] σ = ru d 207 168 [l0, l1, l2, l3, l4, .int i5, l6] [.int i5, w0] σ := q_iload t207_166 rfl
theorem t207_168 : decode (mb 207) 168 = .ok (.if_icmp .ge 31, 3) := by decide +kernel
theorem s207_168 (d : Nat) (l0 : Value) (l1 : Value) (l2 : Value) (l3 : Value) (l4 : Value) (l5 : Value) (l6 : Value) (x y : Int32) (σ : Hs) : ru d 207 168 [l0, l1, l2, l3, l4, l5, l6] [.int y, .int x] σ = if y ≤ x then ru d 207 199 [l0, l1, l2, l3, l4, l5, l6] [] σ else ru d 207 171 [l0, l1, l2, l3, l4, l5, l6] [] σ := q_ic_ge t207_168 (by decide +kernel)
theorem t207_171 : decode (mb 207) 171 = .ok (.aload_n 0, 1) := by decide +kernel
theorem s207_171 (d : Nat) (a0 : Nat) (l1 : Value) (l2 : Value) (l3 : Value) (l4 : Value) (l5 : Value) (l6 : Value) (σ : Hs) : ru d 207 171 [.ref a0, l1, l2, l3, l4, l5, l6] [] σ = ru d 207 172 [.ref a0, l1, l2, l3, l4, l5, l6] [.ref a0] σ := q_aload_n t207_171 rfl
theorem t207_172 : decode (mb 207) 172 = .ok (.getfield 61, 3) := by decide +kernel
theorem s207_172_o87 (d : Nat) (l0 : Value) (l1 : Value) (l2 : Value) (l3 : Value) (l4 : Value) (l5 : Value) (l6 : Value) (σ : Hs) : ru d 207 172 [l0, l1, l2, l3, l4, l5, l6] [.ref 87] σ = ru d 207 175 [l0, l1, l2, l3, l4, l5, l6] [.ref 102] σ := q_getf t207_172 mo207 F8_61 rfl rfl
theorem t207_175 : decode (mb 207) 175 = .ok (.bipush 24, 2) := by decide +kernel
theorem s207_175 (d : Nat) (l0 : Value) (l1 : Value) (l2 : Value) (l3 : Value) (l4 : Value) (l5 : Value) (l6 : Value) (w0 : Value) (σ : Hs) : ru d 207 175 [l0, l1, l2, l3, l4, l5, l6] [w0] σ = ru d 207 177 [l0, l1, l2, l3, l4, l5, l6] [.int 24, w0] σ := q_bipush t207_175 (by decide +kernel)
theorem t207_177 : decode (mb 207) 177 = .ok (.iload_n 3, 1) := by decide +kernel
theorem s207_177 (d : Nat) (l0 : Value) (l1 : Value) (l2 : Value) (i3 : Int32) (l4 : Value) (l5 : Value) (l6 : Value) (w0 w1 : Value) (σ : Hs) : ru d 207 177 [l0, l1, l2, .int i3, l4, l5, l6] [w0, w1] σ = ru d 207 178 [l0, l1, l2, .int i3, l4, l5, l6] [.int i3, w0, w1] σ := q_iload_n t207_177 rfl
theorem t207_178 : decode (mb 207) 178 = .ok (.imul, 1) := by decide +kernel
theorem s207_178 (d : Nat) (l0 : Value) (l1 : Value) (l2 : Value) (l3 : Value) (l4 : Value) (l5 : Value) (l6 : Value) (x y : Int32) (w0 : Value) (σ : Hs) : ru d 207 178 [l0, l1, l2, l3, l4, l5, l6] [.int y, .int x, w0] σ = ru d 207 179 [l0, l1, l2, l3, l4, l5, l6] [.int (x * y), w0] σ := q_imul t207_178
theorem t207_179 : decode (mb 207) 179 = .ok (.iload 4, 2) := by decide +kernel
theorem s207_179 (d : Nat) (l0 : Value) (l1 : Value) (l2 : Value) (l3 : Value) (i4 : Int32) (l5 : Value) (l6 : Value) (w0 w1 : Value) (σ : Hs) : ru d 207 179 [l0, l1, l2, l3, .int i4, l5, l6] [w0, w1] σ = ru d 207 181 [l0, l1, l2, l3, .int i4, l5, l6] [.int i4, w0, w1] σ := q_iload t207_179 rfl
theorem t207_181 : decode (mb 207) 181 = .ok (.iadd, 1) := by decide +kernel
theorem s207_181 (d : Nat) (l0 : Value) (l1 : Value) (l2 : Value) (l3 : Value) (l4 : Value) (l5 : Value) (l6 : Value) (x y : Int32) (w0 : Value) (σ : Hs) : ru d 207 181 [l0, l1, l2, l3, l4, l5, l6] [.int y, .int x, w0] σ = ru d 207 182 [l0, l1, l2, l3, l4, l5, l6] [.int (x + y), w0] σ := q_iadd t207_181
theorem t207_182 : decode (mb 207) 182 = .ok (.iload 6, 2) := by decide +kernel
theorem s207_182 (d : Nat) (l0 : Value) (l1 : Value) (l2 : Value) (l3 : Value) (l4 : Value) (l5 : Value) (i6 : Int32) (w0 w1 : Value) (σ : Hs) : ru d 207 182 [l0, l1, l2, l3, l4, l5, .int i6] [w0, w1] σ = ru d 207 184 [l0, l1, l2, l3, l4, l5, .int i6] [.int i6, w0, w1] σ := q_iload t207_182 rfl
theorem t207_184 : decode (mb 207) 184 = .ok (.iadd, 1) := by decide +kernel
theorem s207_184 (d : Nat) (l0 : Value) (l1 : Value) (l2 : Value) (l3 : Value) (l4 : Value) (l5 : Value) (l6 : Value) (x y : Int32) (w0 : Value) (σ : Hs) : ru d 207 184 [l0, l1, l2, l3, l4, l5, l6] [.int y, .int x, w0] σ = ru d 207 185 [l0, l1, l2, l3, l4, l5, l6] [.int (x + y), w0] σ := q_iadd t207_184
theorem t207_185 : decode (mb 207) 185 = .ok (.aload_n 0, 1) := by decide +kernel
theorem s207_185 (d : Nat) (a0 : Nat) (l1 : Value) (l2 : Value) (l3 : Value) (l4 : Value) (l5 : Value) (l6 : Value) (w0 w1 : Value) (σ : Hs) : ru d 207 185 [.ref a0, l1, l2, l3, l4, l5, l6] [w0, w1] σ = ru d 207 186 [.ref a0, l1, l2, l3, l4, l5, l6] [.ref a0, w0, w1] σ := q_aload_n t207_185 rfl
theorem t207_186 : decode (mb 207) 186 = .ok (.getfield 64, 3) := by decide +kernel
theorem s207_186_o87 (d : Nat) (l0 : Value) (l1 : Value) (l2 : Value) (l3 : Value) (l4 : Value) (l5 : Value) (l6 : Value) (w0 w1 : Value) (σ : Hs) : ru d 207 186 [l0, l1, l2, l3, l4, l5, l6] [.ref 87, w0, w1] σ = ru d 207 189 [l0, l1, l2, l3, l4, l5, l6] [.ref 103, w0, w1] σ := q_getf t207_186 mo207 F8_64 rfl rfl
theorem t207_189 : decode (mb 207) 189 = .ok (.iload 6, 2) := by decide +kernel
theorem s207_189 (d : Nat) (l0 : Value) (l1 : Value) (l2 : Value) (l3 : Value) (l4 : Value) (l5 : Value) (i6 : Int32) (w0 w1 w2 : Value) (σ : Hs) : ru d 207 189 [l0, l1, l2, l3, l4, l5, .int i6] [w0, w1, w2] σ = ru d 207 191 [l0, l1, l2, l3, l4, l5, .int i6] [.int i6, w0, w1, w2] σ := q_iload t207_189 rfl
theorem t207_191 : decode (mb 207) 191 = .ok (.iaload, 1) := by decide +kernel
theorem s207_191_o103 (d : Nat) (l0 : Value) (l1 : Value) (l2 : Value) (l3 : Value) (l4 : Value) (l5 : Value) (l6 : Value) (i : Int32) (w0 w1 : Value) (σ : Hs) : ru d 207 191 [l0, l1, l2, l3, l4, l5, l6] [.int i, .ref 103, w0, w1] σ = gd (vp_in i 24) (ru d 207 192 [l0, l1, l2, l3, l4, l5, l6] [.int (σ 103 i.toNatClampNeg), w0, w1] σ) := q_iald t207_191 rfl (by decide +kernel) rfl
theorem t207_192 : decode (mb 207) 192 = .ok (.iastore, 1) := by decide +kernel
theorem s207_192_o102 (d : Nat) (l0 : Value) (l1 : Value) (l2 : Value) (l3 : Value) (l4 : Value) (l5 : Value) (l6 : Value) (i x : Int32) (σ : Hs) : ru d 207 192 [l0, l1, l2, l3, l4, l5, l6] [.int x, .int i, .ref 102] σ = gd (vp_in i 96) (ru d 207 193 [l0, l1, l2, l3, l4, l5, l6] [] (up2 σ 102 i.toNatClampNeg x)) := q_iast t207_192 (by decide +kernel) rfl rfl
theorem t207_193 : decode (mb 207) 193 = .ok (.iinc 6 1, 3) := by decide +kernel
theorem s207_193 (d : Nat) (l0 : Value) (l1 : Value) (l2 : Value) (l3 : Value) (l4 : Value) (i5 : Int32) (i6 : Int32) (σ : Hs) : ru d 207 193 [l0, l1, l2, l3, l4, .int i5, .int i6] [] σ = ru d 207 196 [l0, l1, l2, l3, l4, .int i5, .int (i6 + 1)] [] σ := q_iinc t207_193 ⟨Nat.le_of_ble_eq_true rfl, rfl⟩ rfl (by decide +kernel) rfl
theorem t207_196 : decode (mb 207) 196 = .ok (.goto (-32), 3) := by decide +kernel
theorem s207_196 (d : Nat) (l0 : Value) (l1 : Value) (l2 : Value) (l3 : Value) (l4 : Value) (l5 : Value) (l6 : Value) (σ : Hs) : ru d 207 196 [l0, l1, l2, l3, l4, l5, l6] [] σ = ru d 207 164 [l0, l1, l2, l3, l4, l5, l6] [] σ := q_goto t207_196 (by decide +kernel)
theorem t207_199 : decode (mb 207) 199 = .ok (.iload 5, 2) := by decide +kernel
theorem s207_199 (d : Nat) (l0 : Value) (l1 : Value) (l2 : Value) (l3 : Value) (l4 : Value) (i5 : Int32) (l6 : Value) (σ : Hs) : ru d 207 199 [l0, l1, l2, l3, l4, .int i5, l6] [] σ = ru d 207 201 [l0, l1, l2, l3, l4, .int i5, l6] [.int i5] σ := q_iload t207_199 rfl
theorem t207_201 : decode (mb 207) 201 = .ok (.ireturn, 1) := by decide +kernel
theorem s207_201 (d : Nat) (l0 : Value) (l1 : Value) (l2 : Value) (l3 : Value) (l4 : Value) (l5 : Value) (l6 : Value) (x : Int32) (σ : Hs) : ru d 207 201 [l0, l1, l2, l3, l4, l5, l6] [.int x] σ = some (some (.int x), σ) := q_ireti t207_201 mr207
theorem c207 (d : Nat) (x0 : Nat) (x1 : Int32) (x2 : Int32) (x3 : Int32) (x4 : Int32) (x5 : Int32) (σ : Hs) : callD (d + 1) 207 [.ref x0, .int x1, .int x2, .int x3, .int x4, .int x5] σ = ru d 207 0 [.ref x0, .int x1, .int x2, .int x3, .int x4, .int x5, uu] [] σ := callD_ru ml207 rfl rfl (Nat.le_of_ble_eq_true rfl)
-- 208: Model.armfuls(I)I
theorem t208_0 : decode (mb 208) 0 = .ok (.iload_n 1, 1) := by decide +kernel
theorem s208_0 (d : Nat) (l0 : Value) (i1 : Int32) (l2 : Value) (l3 : Value) (l4 : Value) (σ : Hs) : ru d 208 0 [l0, .int i1, l2, l3, l4] [] σ = ru d 208 1 [l0, .int i1, l2, l3, l4] [.int i1] σ := q_iload_n t208_0 rfl
theorem t208_1 : decode (mb 208) 1 = .ok (.invokestatic 328, 3) := by decide +kernel
theorem s208_1 (d : Nat) (l0 : Value) (l1 : Value) (l2 : Value) (l3 : Value) (l4 : Value) (v0 : Value) (σ : Hs) : ru d 208 1 [l0, l1, l2, l3, l4] [v0] σ = kont (callD d 204 [v0] σ) d 208 4 [l0, l1, l2, l3, l4] [] := q_invs t208_1 mo208 (by decide +kernel) K8_328 mj204 (Nat.le_of_ble_eq_true rfl) rfl rfl (Nat.le_of_ble_eq_true rfl)
theorem t208_4 : decode (mb 208) 4 = .ok (.ifCond .ne 10, 3) := by decide +kernel
theorem s208_4 (d : Nat) (l0 : Value) (l1 : Value) (l2 : Value) (l3 : Value) (l4 : Value) (x : Int32) (σ : Hs) : ru d 208 4 [l0, l1, l2, l3, l4] [.int x] σ = if x = 0 then ru d 208 7 [l0, l1, l2, l3, l4] [] σ else ru d 208 14 [l0, l1, l2, l3, l4] [] σ := q_if_ne t208_4 (by decide +kernel)
theorem t208_7 : decode (mb 208) 7 = .ok (.aload_n 0, 1) := by decide +kernel
theorem s208_7 (d : Nat) (a0 : Nat) (l1 : Value) (l2 : Value) (l3 : Value) (l4 : Value) (σ : Hs) : ru d 208 7 [.ref a0, l1, l2, l3, l4] [] σ = ru d 208 8 [.ref a0, l1, l2, l3, l4] [.ref a0] σ := q_aload_n t208_7 rfl
theorem t208_8 : decode (mb 208) 8 = .ok (.ldc 104, 2) := by decide +kernel
theorem s208_8 (d : Nat) (l0 : Value) (l1 : Value) (l2 : Value) (l3 : Value) (l4 : Value) (w0 : Value) (σ : Hs) : ru d 208 8 [l0, l1, l2, l3, l4] [w0] σ = ru d 208 10 [l0, l1, l2, l3, l4] [.int (-1000001), w0] σ := q_ldc t208_8 mo208 C8_104
theorem t208_10 : decode (mb 208) 10 = .ok (.invokevirtual 105, 3) := by decide +kernel
theorem s208_10_o87 (d : Nat) (l0 : Value) (l1 : Value) (l2 : Value) (l3 : Value) (l4 : Value) (v1 : Value) (σ : Hs) : ru d 208 10 [l0, l1, l2, l3, l4] [v1, .ref 87] σ = kont (callD d 112 [.ref 87, v1] σ) d 208 13 [l0, l1, l2, l3, l4] [] := q_invv t208_10 mo208 K8_105 mj112 rfl rfl rfl rfl (Nat.le_of_ble_eq_true rfl)
theorem t208_13 : decode (mb 208) 13 = .ok (.ireturn, 1) := by decide +kernel
theorem s208_13 (d : Nat) (l0 : Value) (l1 : Value) (l2 : Value) (l3 : Value) (l4 : Value) (x : Int32) (σ : Hs) : ru d 208 13 [l0, l1, l2, l3, l4] [.int x] σ = some (some (.int x), σ) := q_ireti t208_13 mr208
theorem t208_14 : decode (mb 208) 14 = .ok (.aload_n 0, 1) := by decide +kernel
theorem s208_14 (d : Nat) (a0 : Nat) (l1 : Value) (l2 : Value) (l3 : Value) (l4 : Value) (σ : Hs) : ru d 208 14 [.ref a0, l1, l2, l3, l4] [] σ = ru d 208 15 [.ref a0, l1, l2, l3, l4] [.ref a0] σ := q_aload_n t208_14 rfl
theorem t208_15 : decode (mb 208) 15 = .ok (.getfield 55, 3) := by decide +kernel
theorem s208_15_o87 (d : Nat) (l0 : Value) (l1 : Value) (l2 : Value) (l3 : Value) (l4 : Value) (σ : Hs) : ru d 208 15 [l0, l1, l2, l3, l4] [.ref 87] σ = ru d 208 18 [l0, l1, l2, l3, l4] [.ref 100] σ := q_getf t208_15 mo208 F8_55 rfl rfl
theorem t208_18 : decode (mb 208) 18 = .ok (.iload_n 1, 1) := by decide +kernel
theorem s208_18 (d : Nat) (l0 : Value) (i1 : Int32) (l2 : Value) (l3 : Value) (l4 : Value) (w0 : Value) (σ : Hs) : ru d 208 18 [l0, .int i1, l2, l3, l4] [w0] σ = ru d 208 19 [l0, .int i1, l2, l3, l4] [.int i1, w0] σ := q_iload_n t208_18 rfl
theorem t208_19 : decode (mb 208) 19 = .ok (.iaload, 1) := by decide +kernel
theorem s208_19_o100 (d : Nat) (l0 : Value) (l1 : Value) (l2 : Value) (l3 : Value) (l4 : Value) (i : Int32) (σ : Hs) : ru d 208 19 [l0, l1, l2, l3, l4] [.int i, .ref 100] σ = gd (vp_in i 4) (ru d 208 20 [l0, l1, l2, l3, l4] [.int (σ 100 i.toNatClampNeg)] σ) := q_iald t208_19 rfl (by decide +kernel) rfl
theorem t208_20 : decode (mb 208) 20 = .ok (.ifCond .ne 10, 3) := by decide +kernel
theorem s208_20 (d : Nat) (l0 : Value) (l1 : Value) (l2 : Value) (l3 : Value) (l4 : Value) (x : Int32) (σ : Hs) : ru d 208 20 [l0, l1, l2, l3, l4] [.int x] σ = if x = 0 then ru d 208 23 [l0, l1, l2, l3, l4] [] σ else ru d 208 30 [l0, l1, l2, l3, l4] [] σ := q_if_ne t208_20 (by decide +kernel)
theorem t208_23 : decode (mb 208) 23 = .ok (.aload_n 0, 1) := by decide +kernel
theorem s208_23 (d : Nat) (a0 : Nat) (l1 : Value) (l2 : Value) (l3 : Value) (l4 : Value) (σ : Hs) : ru d 208 23 [.ref a0, l1, l2, l3, l4] [] σ = ru d 208 24 [.ref a0, l1, l2, l3, l4] [.ref a0] σ := q_aload_n t208_23 rfl
theorem t208_24 : decode (mb 208) 24 = .ok (.ldc 116, 2) := by decide +kernel
theorem s208_24 (d : Nat) (l0 : Value) (l1 : Value) (l2 : Value) (l3 : Value) (l4 : Value) (w0 : Value) (σ : Hs) : ru d 208 24 [l0, l1, l2, l3, l4] [w0] σ = ru d 208 26 [l0, l1, l2, l3, l4] [.int (-1000002), w0] σ := q_ldc t208_24 mo208 C8_116
theorem t208_26 : decode (mb 208) 26 = .ok (.invokevirtual 105, 3) := by decide +kernel
theorem s208_26_o87 (d : Nat) (l0 : Value) (l1 : Value) (l2 : Value) (l3 : Value) (l4 : Value) (v1 : Value) (σ : Hs) : ru d 208 26 [l0, l1, l2, l3, l4] [v1, .ref 87] σ = kont (callD d 112 [.ref 87, v1] σ) d 208 29 [l0, l1, l2, l3, l4] [] := q_invv t208_26 mo208 K8_105 mj112 rfl rfl rfl rfl (Nat.le_of_ble_eq_true rfl)
theorem t208_29 : decode (mb 208) 29 = .ok (.ireturn, 1) := by decide +kernel
theorem s208_29 (d : Nat) (l0 : Value) (l1 : Value) (l2 : Value) (l3 : Value) (l4 : Value) (x : Int32) (σ : Hs) : ru d 208 29 [l0, l1, l2, l3, l4] [.int x] σ = some (some (.int x), σ) := q_ireti t208_29 mr208
theorem t208_30 : decode (mb 208) 30 = .ok (.iconst 0, 1) := by decide +kernel
theorem s208_30 (d : Nat) (l0 : Value) (l1 : Value) (l2 : Value) (l3 : Value) (l4 : Value) (σ : Hs) : ru d 208 30 [l0, l1, l2, l3, l4] [] σ = ru d 208 31 [l0, l1, l2, l3, l4] [.int 0] σ := q_iconst t208_30 (by decide +kernel)
theorem t208_31 : decode (mb 208) 31 = .ok (.istore_n 2, 1) := by decide +kernel
theorem s208_31 (d : Nat) (l0 : Value) (i1 : Int32) (l2 : Value) (l3 : Value) (l4 : Value) (x : Int32) (σ : Hs) : ru d 208 31 [l0, .int i1, l2, l3, l4] [.int x] σ = ru d 208 32 [l0, .int i1, .int x, l3, l4] [] σ := q_istore_n t208_31 ⟨Nat.le_of_ble_eq_true rfl, rfl⟩ rfl
theorem t208_32 : decode (mb 208) 32 = .ok (.bipush 24, 2) := by decide +kernel
theorem s208_32 (d : Nat) (l0 : Value) (l1 : Value) (l2 : Value) (l3 : Value) (l4 : Value) (σ : Hs) : ru d 208 32 [l0, l1, l2, l3, l4] [] σ = ru d 208 34 [l0, l1, l2, l3, l4] [.int 24] σ := q_bipush t208_32 (by decide +kernel)
theorem t208_34 : decode (mb 208) 34 = .ok (.iload_n 1, 1) := by decide +kernel
theorem s208_34 (d : Nat) (l0 : Value) (i1 : Int32) (l2 : Value) (l3 : Value) (l4 : Value) (w0 : Value) (σ : Hs) : ru d 208 34 [l0, .int i1, l2, l3, l4] [w0] σ = ru d 208 35 [l0, .int i1, l2, l3, l4] [.int i1, w0] σ := q_iload_n t208_34 rfl
theorem t208_35 : decode (mb 208) 35 = .ok (.imul, 1) := by decide +kernel
theorem s208_35 (d : Nat) (l0 : Value) (l1 : Value) (l2 : Value) (l3 : Value) (l4 : Value) (x y : Int32) (σ : Hs) : ru d 208 35 [l0, l1, l2, l3, l4] [.int y, .int x] σ = ru d 208 36 [l0, l1, l2, l3, l4] [.int (x * y)] σ := q_imul t208_35
theorem t208_36 : decode (mb 208) 36 = .ok (.istore_n 3, 1) := by decide +kernel
theorem s208_36 (d : Nat) (l0 : Value) (l1 : Value) (i2 : Int32) (l3 : Value) (l4 : Value) (x : Int32) (σ : Hs) : ru d 208 36 [l0, l1, .int i2, l3, l4] [.int x] σ = ru d 208 37 [l0, l1, .int i2, .int x, l4] [] σ := q_istore_n t208_36 ⟨Nat.le_of_ble_eq_true rfl, rfl⟩ rfl
theorem t208_37 : decode (mb 208) 37 = .ok (.iconst 4, 1) := by decide +kernel
theorem s208_37 (d : Nat) (l0 : Value) (l1 : Value) (l2 : Value) (l3 : Value) (l4 : Value) (σ : Hs) : ru d 208 37 [l0, l1, l2, l3, l4] [] σ = ru d 208 38 [l0, l1, l2, l3, l4] [.int 4] σ := q_iconst t208_37 (by decide +kernel)
theorem t208_38 : decode (mb 208) 38 = .ok (.iload_n 2, 1) := by decide +kernel
theorem s208_38 (d : Nat) (l0 : Value) (l1 : Value) (i2 : Int32) (l3 : Value) (l4 : Value) (w0 : Value) (σ : Hs) : ru d 208 38 [l0, l1, .int i2, l3, l4] [w0] σ = ru d 208 39 [l0, l1, .int i2, l3, l4] [.int i2, w0] σ := q_iload_n t208_38 rfl
theorem t208_39 : decode (mb 208) 39 = .ok (.imul, 1) := by decide +kernel
theorem s208_39 (d : Nat) (l0 : Value) (l1 : Value) (l2 : Value) (l3 : Value) (l4 : Value) (x y : Int32) (σ : Hs) : ru d 208 39 [l0, l1, l2, l3, l4] [.int y, .int x] σ = ru d 208 40 [l0, l1, l2, l3, l4] [.int (x * y)] σ := q_imul t208_39
theorem t208_40 : decode (mb 208) 40 = .ok (.iconst 4, 1) := by decide +kernel
theorem s208_40 (d : Nat) (l0 : Value) (l1 : Value) (l2 : Value) (l3 : Value) (l4 : Value) (w0 : Value) (σ : Hs) : ru d 208 40 [l0, l1, l2, l3, l4] [w0] σ = ru d 208 41 [l0, l1, l2, l3, l4] [.int 4, w0] σ := q_iconst t208_40 (by decide +kernel)
theorem t208_41 : decode (mb 208) 41 = .ok (.iadd, 1) := by decide +kernel
theorem s208_41 (d : Nat) (l0 : Value) (l1 : Value) (l2 : Value) (l3 : Value) (l4 : Value) (x y : Int32) (σ : Hs) : ru d 208 41 [l0, l1, l2, l3, l4] [.int y, .int x] σ = ru d 208 42 [l0, l1, l2, l3, l4] [.int (x + y)] σ := q_iadd t208_41
theorem t208_42 : decode (mb 208) 42 = .ok (.aload_n 0, 1) := by decide +kernel
theorem s208_42 (d : Nat) (a0 : Nat) (l1 : Value) (l2 : Value) (l3 : Value) (l4 : Value) (w0 : Value) (σ : Hs) : ru d 208 42 [.ref a0, l1, l2, l3, l4] [w0] σ = ru d 208 43 [.ref a0, l1, l2, l3, l4] [.ref a0, w0] σ := q_aload_n t208_42 rfl
theorem t208_43 : decode (mb 208) 43 = .ok (.getfield 58, 3) := by decide +kernel
theorem s208_43_o87 (d : Nat) (l0 : Value) (l1 : Value) (l2 : Value) (l3 : Value) (l4 : Value) (w0 : Value) (σ : Hs) : ru d 208 43 [l0, l1, l2, l3, l4] [.ref 87, w0] σ = ru d 208 46 [l0, l1, l2, l3, l4] [.ref 101, w0] σ := q_getf t208_43 mo208 F8_58 rfl rfl
theorem t208_46 : decode (mb 208) 46 = .ok (.iload_n 1, 1) := by decide +kernel
theorem s208_46 (d : Nat) (l0 : Value) (i1 : Int32) (l2 : Value) (l3 : Value) (l4 : Value) (w0 w1 : Value) (σ : Hs) : ru d 208 46 [l0, .int i1, l2, l3, l4] [w0, w1] σ = ru d 208 47 [l0, .int i1, l2, l3, l4] [.int i1, w0, w1] σ := q_iload_n t208_46 rfl
theorem t208_47 : decode (mb 208) 47 = .ok (.iaload, 1) := by decide +kernel
theorem s208_47_o101 (d : Nat) (l0 : Value) (l1 : Value) (l2 : Value) (l3 : Value) (l4 : Value) (i : Int32) (w0 : Value) (σ : Hs) : ru d 208 47 [l0, l1, l2, l3, l4] [.int i, .ref 101, w0] σ = gd (vp_in i 4) (ru d 208 48 [l0, l1, l2, l3, l4] [.int (σ 101 i.toNatClampNeg), w0] σ) := q_iald t208_47 rfl (by decide +kernel) rfl
theorem t208_48 : decode (mb 208) 48 = .ok (.if_icmp .gt 103, 3) := by decide +kernel
theorem s208_48 (d : Nat) (l0 : Value) (l1 : Value) (l2 : Value) (l3 : Value) (l4 : Value) (x y : Int32) (σ : Hs) : ru d 208 48 [l0, l1, l2, l3, l4] [.int y, .int x] σ = if y < x then ru d 208 151 [l0, l1, l2, l3, l4] [] σ else ru d 208 51 [l0, l1, l2, l3, l4] [] σ := q_ic_gt t208_48 (by decide +kernel)
theorem t208_51 : decode (mb 208) 51 = .ok (.aload_n 0, 1) := by decide +kernel
theorem s208_51 (d : Nat) (a0 : Nat) (l1 : Value) (l2 : Value) (l3 : Value) (l4 : Value) (σ : Hs) : ru d 208 51 [.ref a0, l1, l2, l3, l4] [] σ = ru d 208 52 [.ref a0, l1, l2, l3, l4] [.ref a0] σ := q_aload_n t208_51 rfl
theorem t208_52 : decode (mb 208) 52 = .ok (.aload_n 0, 1) := by decide +kernel
theorem s208_52 (d : Nat) (a0 : Nat) (l1 : Value) (l2 : Value) (l3 : Value) (l4 : Value) (w0 : Value) (σ : Hs) : ru d 208 52 [.ref a0, l1, l2, l3, l4] [w0] σ = ru d 208 53 [.ref a0, l1, l2, l3, l4] [.ref a0, w0] σ := q_aload_n t208_52 rfl
theorem t208_53 : decode (mb 208) 53 = .ok (.getfield 61, 3) := by decide +kernel
theorem s208_53_o87 (d : Nat) (l0 : Value) (l1 : Value) (l2 : Value) (l3 : Value) (l4 : Value) (w0 : Value) (σ : Hs) : ru d 208 53 [l0, l1, l2, l3, l4] [.ref 87, w0] σ = ru d 208 56 [l0, l1, l2, l3, l4] [.ref 102, w0] σ := q_getf t208_53 mo208 F8_61 rfl rfl
theorem t208_56 : decode (mb 208) 56 = .ok (.iload_n 3, 1) := by decide +kernel
theorem s208_56 (d : Nat) (l0 : Value) (l1 : Value) (l2 : Value) (i3 : Int32) (l4 : Value) (w0 w1 : Value) (σ : Hs) : ru d 208 56 [l0, l1, l2, .int i3, l4] [w0, w1] σ = ru d 208 57 [l0, l1, l2, .int i3, l4] [.int i3, w0, w1] σ := q_iload_n t208_56 rfl
theorem t208_57 : decode (mb 208) 57 = .ok (.iaload, 1) := by decide +kernel
theorem s208_57_o102 (d : Nat) (l0 : Value) (l1 : Value) (l2 : Value) (l3 : Value) (l4 : Value) (i : Int32) (w0 : Value) (σ : Hs) : ru d 208 57 [l0, l1, l2, l3, l4] [.int i, .ref 102, w0] σ = gd (vp_in i 96) (ru d 208 58 [l0, l1, l2, l3, l4] [.int (σ 102 i.toNatClampNeg), w0] σ) := q_iald t208_57 rfl (by decide +kernel) rfl
theorem t208_58 : decode (mb 208) 58 = .ok (.aload_n 0, 1) := by decide +kernel
theorem s208_58 (d : Nat) (a0 : Nat) (l1 : Value) (l2 : Value) (l3 : Value) (l4 : Value) (w0 w1 : Value) (σ : Hs) : ru d 208 58 [.ref a0, l1, l2, l3, l4] [w0, w1] σ = ru d 208 59 [.ref a0, l1, l2, l3, l4] [.ref a0, w0, w1] σ := q_aload_n t208_58 rfl
theorem t208_59 : decode (mb 208) 59 = .ok (.getfield 61, 3) := by decide +kernel
theorem s208_59_o87 (d : Nat) (l0 : Value) (l1 : Value) (l2 : Value) (l3 : Value) (l4 : Value) (w0 w1 : Value) (σ : Hs) : ru d 208 59 [l0, l1, l2, l3, l4] [.ref 87, w0, w1] σ = ru d 208 62 [l0, l1, l2, l3, l4] [.ref 102, w0, w1] σ := q_getf t208_59 mo208 F8_61 rfl rfl
theorem t208_62 : decode (mb 208) 62 = .ok (.iload_n 3, 1) := by decide +kernel
theorem s208_62 (d : Nat) (l0 : Value) (l1 : Value) (l2 : Value) (i3 : Int32) (l4 : Value) (w0 w1 w2 : Value) (σ : Hs) : ru d 208 62 [l0, l1, l2, .int i3, l4] [w0, w1, w2] σ = ru d 208 63 [l0, l1, l2, .int i3, l4] [.int i3, w0, w1, w2] σ := q_iload_n t208_62 rfl
theorem t208_63 : decode (mb 208) 63 = .ok (.iconst 1, 1) := by decide +kernel
theorem s208_63 (d : Nat) (l0 : Value) (l1 : Value) (l2 : Value) (l3 : Value) (l4 : Value) (w0 w1 w2 w3 : Value) (σ : Hs) : ru d 208 63 [l0, l1, l2, l3, l4] [w0, w1, w2, w3] σ = ru d 208 64 [l0, l1, l2, l3, l4] [.int 1, w0, w1, w2, w3] σ := q_iconst t208_63 (by decide +kernel)
theorem t208_64 : decode (mb 208) 64 = .ok (.iadd, 1) := by decide +kernel
theorem s208_64 (d : Nat) (l0 : Value) (l1 : Value) (l2 : Value) (l3 : Value) (l4 : Value) (x y : Int32) (w0 w1 w2 : Value) (σ : Hs) : ru d 208 64 [l0, l1, l2, l3, l4] [.int y, .int x, w0, w1, w2] σ = ru d 208 65 [l0, l1, l2, l3, l4] [.int (x + y), w0, w1, w2] σ := q_iadd t208_64
theorem t208_65 : decode (mb 208) 65 = .ok (.iaload, 1) := by decide +kernel
theorem s208_65_o102 (d : Nat) (l0 : Value) (l1 : Value) (l2 : Value) (l3 : Value) (l4 : Value) (i : Int32) (w0 w1 : Value) (σ : Hs) : ru d 208 65 [l0, l1, l2, l3, l4] [.int i, .ref 102, w0, w1] σ = gd (vp_in i 96) (ru d 208 66 [l0, l1, l2, l3, l4] [.int (σ 102 i.toNatClampNeg), w0, w1] σ) := q_iald t208_65 rfl (by decide +kernel) rfl
theorem t208_66 : decode (mb 208) 66 = .ok (.aload_n 0, 1) := by decide +kernel
theorem s208_66 (d : Nat) (a0 : Nat) (l1 : Value) (l2 : Value) (l3 : Value) (l4 : Value) (w0 w1 w2 : Value) (σ : Hs) : ru d 208 66 [.ref a0, l1, l2, l3, l4] [w0, w1, w2] σ = ru d 208 67 [.ref a0, l1, l2, l3, l4] [.ref a0, w0, w1, w2] σ := q_aload_n t208_66 rfl
theorem t208_67 : decode (mb 208) 67 = .ok (.getfield 61, 3) := by decide +kernel
theorem s208_67_o87 (d : Nat) (l0 : Value) (l1 : Value) (l2 : Value) (l3 : Value) (l4 : Value) (w0 w1 w2 : Value) (σ : Hs) : ru d 208 67 [l0, l1, l2, l3, l4] [.ref 87, w0, w1, w2] σ = ru d 208 70 [l0, l1, l2, l3, l4] [.ref 102, w0, w1, w2] σ := q_getf t208_67 mo208 F8_61 rfl rfl
theorem t208_70 : decode (mb 208) 70 = .ok (.iload_n 3, 1) := by decide +kernel
theorem s208_70 (d : Nat) (l0 : Value) (l1 : Value) (l2 : Value) (i3 : Int32) (l4 : Value) (w0 w1 w2 w3 : Value) (σ : Hs) : ru d 208 70 [l0, l1, l2, .int i3, l4] [w0, w1, w2, w3] σ = ru d 208 71 [l0, l1, l2, .int i3, l4] [.int i3, w0, w1, w2, w3] σ := q_iload_n t208_70 rfl
theorem t208_71 : decode (mb 208) 71 = .ok (.iconst 2, 1) := by decide +kernel
theorem s208_71 (d : Nat) (l0 : Value) (l1 : Value) (l2 : Value) (l3 : Value) (l4 : Value) (w0 w1 w2 w3 w4 : Value) (σ : Hs) : ru d 208 71 [l0, l1, l2, l3, l4] [w0, w1, w2, w3, w4] σ = ru d 208 72 [l0, l1, l2, l3, l4] [.int 2, w0, w1, w2, w3, w4] σ := q_iconst t208_71 (by decide +kernel)
theorem t208_72 : decode (mb 208) 72 = .ok (.iadd, 1) := by decide +kernel
theorem s208_72 (d : Nat) (l0 : Value) (l1 : Value) (l2 : Value) (l3 : Value) (l4 : Value) (x y : Int32) (w0 w1 w2 w3 : Value) (σ : Hs) : ru d 208 72 [l0, l1, l2, l3, l4] [.int y, .int x, w0, w1, w2, w3] σ = ru d 208 73 [l0, l1, l2, l3, l4] [.int (x + y), w0, w1, w2, w3] σ := q_iadd t208_72
theorem t208_73 : decode (mb 208) 73 = .ok (.iaload, 1) := by decide +kernel
theorem s208_73_o102 (d : Nat) (l0 : Value) (l1 : Value) (l2 : Value) (l3 : Value) (l4 : Value) (i : Int32) (w0 w1 w2 : Value) (σ : Hs) : ru d 208 73 [l0, l1, l2, l3, l4] [.int i, .ref 102, w0, w1, w2] σ = gd (vp_in i 96) (ru d 208 74 [l0, l1, l2, l3, l4] [.int (σ 102 i.toNatClampNeg), w0, w1, w2] σ) := q_iald t208_73 rfl (by decide +kernel) rfl
theorem t208_74 : decode (mb 208) 74 = .ok (.aload_n 0, 1) := by decide +kernel
theorem s208_74 (d : Nat) (a0 : Nat) (l1 : Value) (l2 : Value) (l3 : Value) (l4 : Value) (w0 w1 w2 w3 : Value) (σ : Hs) : ru d 208 74 [.ref a0, l1, l2, l3, l4] [w0, w1, w2, w3] σ = ru d 208 75 [.ref a0, l1, l2, l3, l4] [.ref a0, w0, w1, w2, w3] σ := q_aload_n t208_74 rfl
theorem t208_75 : decode (mb 208) 75 = .ok (.getfield 61, 3) := by decide +kernel
theorem s208_75_o87 (d : Nat) (l0 : Value) (l1 : Value) (l2 : Value) (l3 : Value) (l4 : Value) (w0 w1 w2 w3 : Value) (σ : Hs) : ru d 208 75 [l0, l1, l2, l3, l4] [.ref 87, w0, w1, w2, w3] σ = ru d 208 78 [l0, l1, l2, l3, l4] [.ref 102, w0, w1, w2, w3] σ := q_getf t208_75 mo208 F8_61 rfl rfl
theorem t208_78 : decode (mb 208) 78 = .ok (.iload_n 3, 1) := by decide +kernel
theorem s208_78 (d : Nat) (l0 : Value) (l1 : Value) (l2 : Value) (i3 : Int32) (l4 : Value) (w0 w1 w2 w3 w4 : Value) (σ : Hs) : ru d 208 78 [l0, l1, l2, .int i3, l4] [w0, w1, w2, w3, w4] σ = ru d 208 79 [l0, l1, l2, .int i3, l4] [.int i3, w0, w1, w2, w3, w4] σ := q_iload_n t208_78 rfl
theorem t208_79 : decode (mb 208) 79 = .ok (.iconst 3, 1) := by decide +kernel
theorem s208_79 (d : Nat) (l0 : Value) (l1 : Value) (l2 : Value) (l3 : Value) (l4 : Value) (w0 w1 w2 w3 w4 w5 : Value) (σ : Hs) : ru d 208 79 [l0, l1, l2, l3, l4] [w0, w1, w2, w3, w4, w5] σ = ru d 208 80 [l0, l1, l2, l3, l4] [.int 3, w0, w1, w2, w3, w4, w5] σ := q_iconst t208_79 (by decide +kernel)
theorem t208_80 : decode (mb 208) 80 = .ok (.iadd, 1) := by decide +kernel
theorem s208_80 (d : Nat) (l0 : Value) (l1 : Value) (l2 : Value) (l3 : Value) (l4 : Value) (x y : Int32) (w0 w1 w2 w3 w4 : Value) (σ : Hs) : ru d 208 80 [l0, l1, l2, l3, l4] [.int y, .int x, w0, w1, w2, w3, w4] σ = ru d 208 81 [l0, l1, l2, l3, l4] [.int (x + y), w0, w1, w2, w3, w4] σ := q_iadd t208_80
theorem t208_81 : decode (mb 208) 81 = .ok (.iaload, 1) := by decide +kernel
theorem s208_81_o102 (d : Nat) (l0 : Value) (l1 : Value) (l2 : Value) (l3 : Value) (l4 : Value) (i : Int32) (w0 w1 w2 w3 : Value) (σ : Hs) : ru d 208 81 [l0, l1, l2, l3, l4] [.int i, .ref 102, w0, w1, w2, w3] σ = gd (vp_in i 96) (ru d 208 82 [l0, l1, l2, l3, l4] [.int (σ 102 i.toNatClampNeg), w0, w1, w2, w3] σ) := q_iald t208_81 rfl (by decide +kernel) rfl
theorem t208_82 : decode (mb 208) 82 = .ok (.invokevirtual 100, 3) := by decide +kernel
theorem s208_82_o87 (d : Nat) (l0 : Value) (l1 : Value) (l2 : Value) (l3 : Value) (l4 : Value) (v1 v2 v3 v4 : Value) (σ : Hs) : ru d 208 82 [l0, l1, l2, l3, l4] [v4, v3, v2, v1, .ref 87] σ = kont (callD d 125 [.ref 87, v1, v2, v3, v4] σ) d 208 85 [l0, l1, l2, l3, l4] [] := q_invv t208_82 mo208 K8_100 mj125 rfl rfl rfl rfl (Nat.le_of_ble_eq_true rfl)
theorem t208_85 : decode (mb 208) 85 = .ok (.ifCond .eq 19, 3) := by decide +kernel
theorem s208_85 (d : Nat) (l0 : Value) (l1 : Value) (l2 : Value) (l3 : Value) (l4 : Value) (x : Int32) (σ : Hs) : ru d 208 85 [l0, l1, l2, l3, l4] [.int x] σ = if x = 0 then ru d 208 104 [l0, l1, l2, l3, l4] [] σ else ru d 208 88 [l0, l1, l2, l3, l4] [] σ := q_if_eq t208_85 (by decide +kernel)
theorem t208_88 : decode (mb 208) 88 = .ok (.aload_n 0, 1) := by decide +kernel
theorem s208_88 (d : Nat) (a0 : Nat) (l1 : Value) (l2 : Value) (l3 : Value) (l4 : Value) (σ : Hs) : ru d 208 88 [.ref a0, l1, l2, l3, l4] [] σ = ru d 208 89 [.ref a0, l1, l2, l3, l4] [.ref a0] σ := q_aload_n t208_88 rfl
theorem t208_89 : decode (mb 208) 89 = .ok (.aload_n 0, 1) := by decide +kernel
theorem s208_89 (d : Nat) (a0 : Nat) (l1 : Value) (l2 : Value) (l3 : Value) (l4 : Value) (w0 : Value) (σ : Hs) : ru d 208 89 [.ref a0, l1, l2, l3, l4] [w0] σ = ru d 208 90 [.ref a0, l1, l2, l3, l4] [.ref a0, w0] σ := q_aload_n t208_89 rfl
theorem t208_90 : decode (mb 208) 90 = .ok (.getfield 61, 3) := by decide +kernel
theorem s208_90_o87 (d : Nat) (l0 : Value) (l1 : Value) (l2 : Value) (l3 : Value) (l4 : Value) (w0 : Value) (σ : Hs) : ru d 208 90 [l0, l1, l2, l3, l4] [.ref 87, w0] σ = ru d 208 93 [l0, l1, l2, l3, l4] [.ref 102, w0] σ := q_getf t208_90 mo208 F8_61 rfl rfl
theorem t208_93 : decode (mb 208) 93 = .ok (.iload_n 3, 1) := by decide +kernel
theorem s208_93 (d : Nat) (l0 : Value) (l1 : Value) (l2 : Value) (i3 : Int32) (l4 : Value) (w0 w1 : Value) (σ : Hs) : ru d 208 93 [l0, l1, l2, .int i3, l4] [w0, w1] σ = ru d 208 94 [l0, l1, l2, .int i3, l4] [.int i3, w0, w1] σ := q_iload_n t208_93 rfl
theorem t208_94 : decode (mb 208) 94 = .ok (.iconst 1, 1) := by decide +kernel
theorem s208_94 (d : Nat) (l0 : Value) (l1 : Value) (l2 : Value) (l3 : Value) (l4 : Value) (w0 w1 w2 : Value) (σ : Hs) : ru d 208 94 [l0, l1, l2, l3, l4] [w0, w1, w2] σ = ru d 208 95 [l0, l1, l2, l3, l4] [.int 1, w0, w1, w2] σ := q_iconst t208_94 (by decide +kernel)
theorem t208_95 : decode (mb 208) 95 = .ok (.iadd, 1) := by decide +kernel
theorem s208_95 (d : Nat) (l0 : Value) (l1 : Value) (l2 : Value) (l3 : Value) (l4 : Value) (x y : Int32) (w0 w1 : Value) (σ : Hs) : ru d 208 95 [l0, l1, l2, l3, l4] [.int y, .int x, w0, w1] σ = ru d 208 96 [l0, l1, l2, l3, l4] [.int (x + y), w0, w1] σ := q_iadd t208_95
theorem t208_96 : decode (mb 208) 96 = .ok (.iaload, 1) := by decide +kernel
theorem s208_96_o102 (d : Nat) (l0 : Value) (l1 : Value) (l2 : Value) (l3 : Value) (l4 : Value) (i : Int32) (w0 : Value) (σ : Hs) : ru d 208 96 [l0, l1, l2, l3, l4] [.int i, .ref 102, w0] σ = gd (vp_in i 96) (ru d 208 97 [l0, l1, l2, l3, l4] [.int (σ 102 i.toNatClampNeg), w0] σ) := q_iald t208_96 rfl (by decide +kernel) rfl
theorem t208_97 : decode (mb 208) 97 = .ok (.invokevirtual 92, 3) := by decide +kernel
theorem s208_97_o87 (d : Nat) (l0 : Value) (l1 : Value) (l2 : Value) (l3 : Value) (l4 : Value) (v1 : Value) (σ : Hs) : ru d 208 97 [l0, l1, l2, l3, l4] [v1, .ref 87] σ = kont (callD d 124 [.ref 87, v1] σ) d 208 100 [l0, l1, l2, l3, l4] [] := q_invv t208_97 mo208 K8_92 mj124 rfl rfl rfl rfl (Nat.le_of_ble_eq_true rfl)
theorem t208_100 : decode (mb 208) 100 = .ok (.iconst 5, 1) := by decide +kernel
theorem s208_100 (d : Nat) (l0 : Value) (l1 : Value) (l2 : Value) (l3 : Value) (l4 : Value) (w0 : Value) (σ : Hs) : ru d 208 100 [l0, l1, l2, l3, l4] [w0] σ = ru d 208 101 [l0, l1, l2, l3, l4] [.int 5, w0] σ := q_iconst t208_100 (by decide +kernel)
theorem t208_101 : decode (mb 208) 101 = .ok (.if_icmp .ne 5, 3) := by decide +kernel
theorem s208_101 (d : Nat) (l0 : Value) (l1 : Value) (l2 : Value) (l3 : Value) (l4 : Value) (x y : Int32) (σ : Hs) : ru d 208 101 [l0, l1, l2, l3, l4] [.int y, .int x] σ = if x = y then ru d 208 104 [l0, l1, l2, l3, l4] [] σ else ru d 208 106 [l0, l1, l2, l3, l4] [] σ := q_ic_ne t208_101 (by decide +kernel)
theorem t208_104 : decode (mb 208) 104 = .ok (.iload_n 2, 1) := by decide +kernel
theorem s208_104 (d : Nat) (l0 : Value) (l1 : Value) (i2 : Int32) (l3 : Value) (l4 : Value) (σ : Hs) : ru d 208 104 [l0, l1, .int i2, l3, l4] [] σ = ru d 208 105 [l0, l1, .int i2, l3, l4] [.int i2] σ := q_iload_n t208_104 rfl
theorem t208_105 : decode (mb 208) 105 = .ok (.ireturn, 1) := by decide +kernel
theorem s208_105 (d : Nat) (l0 : Value) (l1 : Value) (l2 : Value) (l3 : Value) (l4 : Value) (x : Int32) (σ : Hs) : ru d 208 105 [l0, l1, l2, l3, l4] [.int x] σ = some (some (.int x), σ) := q_ireti t208_105 mr208
theorem t208_106 : decode (mb 208) 106 = .ok (.aload_n 0, 1) := by decide +kernel
theorem s208_106 (d : Nat) (a0 : Nat) (l1 : Value) (l2 : Value) (l3 : Value) (l4 : Value) (σ : Hs) : ru d 208 106 [.ref a0, l1, l2, l3, l4] [] σ = ru d 208 107 [.ref a0, l1, l2, l3, l4] [.ref a0] σ := q_aload_n t208_106 rfl
theorem t208_107 : decode (mb 208) 107 = .ok (.aload_n 0, 1) := by decide +kernel
theorem s208_107 (d : Nat) (a0 : Nat) (l1 : Value) (l2 : Value) (l3 : Value) (l4 : Value) (w0 : Value) (σ : Hs) : ru d 208 107 [.ref a0, l1, l2, l3, l4] [w0] σ = ru d 208 108 [.ref a0, l1, l2, l3, l4] [.ref a0, w0] σ := q_aload_n t208_107 rfl
theorem t208_108 : decode (mb 208) 108 = .ok (.getfield 61, 3) := by decide +kernel
theorem s208_108_o87 (d : Nat) (l0 : Value) (l1 : Value) (l2 : Value) (l3 : Value) (l4 : Value) (w0 : Value) (σ : Hs) : ru d 208 108 [l0, l1, l2, l3, l4] [.ref 87, w0] σ = ru d 208 111 [l0, l1, l2, l3, l4] [.ref 102, w0] σ := q_getf t208_108 mo208 F8_61 rfl rfl
theorem t208_111 : decode (mb 208) 111 = .ok (.iload_n 3, 1) := by decide +kernel
theorem s208_111 (d : Nat) (l0 : Value) (l1 : Value) (l2 : Value) (i3 : Int32) (l4 : Value) (w0 w1 : Value) (σ : Hs) : ru d 208 111 [l0, l1, l2, .int i3, l4] [w0, w1] σ = ru d 208 112 [l0, l1, l2, .int i3, l4] [.int i3, w0, w1] σ := q_iload_n t208_111 rfl
theorem t208_112 : decode (mb 208) 112 = .ok (.iaload, 1) := by decide +kernel
theorem s208_112_o102 (d : Nat) (l0 : Value) (l1 : Value) (l2 : Value) (l3 : Value) (l4 : Value) (i : Int32) (w0 : Value) (σ : Hs) : ru d 208 112 [l0, l1, l2, l3, l4] [.int i, .ref 102, w0] σ = gd (vp_in i 96) (ru d 208 113 [l0, l1, l2, l3, l4] [.int (σ 102 i.toNatClampNeg), w0] σ) := q_iald t208_112 rfl (by decide +kernel) rfl
theorem t208_113 : decode (mb 208) 113 = .ok (.aload_n 0, 1) := by decide +kernel
theorem s208_113 (d : Nat) (a0 : Nat) (l1 : Value) (l2 : Value) (l3 : Value) (l4 : Value) (w0 w1 : Value) (σ : Hs) : ru d 208 113 [.ref a0, l1, l2, l3, l4] [w0, w1] σ = ru d 208 114 [.ref a0, l1, l2, l3, l4] [.ref a0, w0, w1] σ := q_aload_n t208_113 rfl
theorem t208_114 : decode (mb 208) 114 = .ok (.getfield 61, 3) := by decide +kernel
theorem s208_114_o87 (d : Nat) (l0 : Value) (l1 : Value) (l2 : Value) (l3 : Value) (l4 : Value) (w0 w1 : Value) (σ : Hs) : ru d 208 114 [l0, l1, l2, l3, l4] [.ref 87, w0, w1] σ = ru d 208 117 [l0, l1, l2, l3, l4] [.ref 102, w0, w1] σ := q_getf t208_114 mo208 F8_61 rfl rfl
theorem t208_117 : decode (mb 208) 117 = .ok (.iload_n 3, 1) := by decide +kernel
theorem s208_117 (d : Nat) (l0 : Value) (l1 : Value) (l2 : Value) (i3 : Int32) (l4 : Value) (w0 w1 w2 : Value) (σ : Hs) : ru d 208 117 [l0, l1, l2, .int i3, l4] [w0, w1, w2] σ = ru d 208 118 [l0, l1, l2, .int i3, l4] [.int i3, w0, w1, w2] σ := q_iload_n t208_117 rfl
theorem t208_118 : decode (mb 208) 118 = .ok (.iconst 1, 1) := by decide +kernel
theorem s208_118 (d : Nat) (l0 : Value) (l1 : Value) (l2 : Value) (l3 : Value) (l4 : Value) (w0 w1 w2 w3 : Value) (σ : Hs) : ru d 208 118 [l0, l1, l2, l3, l4] [w0, w1, w2, w3] σ = ru d 208 119 [l0, l1, l2, l3, l4] [.int 1, w0, w1, w2, w3] σ := q_iconst t208_118 (by decide +kernel)
theorem t208_119 : decode (mb 208) 119 = .ok (.iadd, 1) := by decide +kernel
theorem s208_119 (d : Nat) (l0 : Value) (l1 : Value) (l2 : Value) (l3 : Value) (l4 : Value) (x y : Int32) (w0 w1 w2 : Value) (σ : Hs) : ru d 208 119 [l0, l1, l2, l3, l4] [.int y, .int x, w0, w1, w2] σ = ru d 208 120 [l0, l1, l2, l3, l4] [.int (x + y), w0, w1, w2] σ := q_iadd t208_119
theorem t208_120 : decode (mb 208) 120 = .ok (.iaload, 1) := by decide +kernel
theorem s208_120_o102 (d : Nat) (l0 : Value) (l1 : Value) (l2 : Value) (l3 : Value) (l4 : Value) (i : Int32) (w0 w1 : Value) (σ : Hs) : ru d 208 120 [l0, l1, l2, l3, l4] [.int i, .ref 102, w0, w1] σ = gd (vp_in i 96) (ru d 208 121 [l0, l1, l2, l3, l4] [.int (σ 102 i.toNatClampNeg), w0, w1] σ) := q_iald t208_120 rfl (by decide +kernel) rfl
theorem t208_121 : decode (mb 208) 121 = .ok (.aload_n 0, 1) := by decide +kernel
theorem s208_121 (d : Nat) (a0 : Nat) (l1 : Value) (l2 : Value) (l3 : Value) (l4 : Value) (w0 w1 w2 : Value) (σ : Hs) : ru d 208 121 [.ref a0, l1, l2, l3, l4] [w0, w1, w2] σ = ru d 208 122 [.ref a0, l1, l2, l3, l4] [.ref a0, w0, w1, w2] σ := q_aload_n t208_121 rfl
theorem t208_122 : decode (mb 208) 122 = .ok (.getfield 61, 3) := by decide +kernel
theorem s208_122_o87 (d : Nat) (l0 : Value) (l1 : Value) (l2 : Value) (l3 : Value) (l4 : Value) (w0 w1 w2 : Value) (σ : Hs) : ru d 208 122 [l0, l1, l2, l3, l4] [.ref 87, w0, w1, w2] σ = ru d 208 125 [l0, l1, l2, l3, l4] [.ref 102, w0, w1, w2] σ := q_getf t208_122 mo208 F8_61 rfl rfl
theorem t208_125 : decode (mb 208) 125 = .ok (.iload_n 3, 1) := by decide +kernel
theorem s208_125 (d : Nat) (l0 : Value) (l1 : Value) (l2 : Value) (i3 : Int32) (l4 : Value) (w0 w1 w2 w3 : Value) (σ : Hs) : ru d 208 125 [l0, l1, l2, .int i3, l4] [w0, w1, w2, w3] σ = ru d 208 126 [l0, l1, l2, .int i3, l4] [.int i3, w0, w1, w2, w3] σ := q_iload_n t208_125 rfl
theorem t208_126 : decode (mb 208) 126 = .ok (.iconst 2, 1) := by decide +kernel
theorem s208_126 (d : Nat) (l0 : Value) (l1 : Value) (l2 : Value) (l3 : Value) (l4 : Value) (w0 w1 w2 w3 w4 : Value) (σ : Hs) : ru d 208 126 [l0, l1, l2, l3, l4] [w0, w1, w2, w3, w4] σ = ru d 208 127 [l0, l1, l2, l3, l4] [.int 2, w0, w1, w2, w3, w4] σ := q_iconst t208_126 (by decide +kernel)
theorem t208_127 : decode (mb 208) 127 = .ok (.iadd, 1) := by decide +kernel
theorem s208_127 (d : Nat) (l0 : Value) (l1 : Value) (l2 : Value) (l3 : Value) (l4 : Value) (x y : Int32) (w0 w1 w2 w3 : Value) (σ : Hs) : ru d 208 127 [l0, l1, l2, l3, l4] [.int y, .int x, w0, w1, w2, w3] σ = ru d 208 128 [l0, l1, l2, l3, l4] [.int (x + y), w0, w1, w2, w3] σ := q_iadd t208_127
theorem t208_128 : decode (mb 208) 128 = .ok (.iaload, 1) := by decide +kernel
theorem s208_128_o102 (d : Nat) (l0 : Value) (l1 : Value) (l2 : Value) (l3 : Value) (l4 : Value) (i : Int32) (w0 w1 w2 : Value) (σ : Hs) : ru d 208 128 [l0, l1, l2, l3, l4] [.int i, .ref 102, w0, w1, w2] σ = gd (vp_in i 96) (ru d 208 129 [l0, l1, l2, l3, l4] [.int (σ 102 i.toNatClampNeg), w0, w1, w2] σ) := q_iald t208_128 rfl (by decide +kernel) rfl
theorem t208_129 : decode (mb 208) 129 = .ok (.aload_n 0, 1) := by decide +kernel
theorem s208_129 (d : Nat) (a0 : Nat) (l1 : Value) (l2 : Value) (l3 : Value) (l4 : Value) (w0 w1 w2 w3 : Value) (σ : Hs) : ru d 208 129 [.ref a0, l1, l2, l3, l4] [w0, w1, w2, w3] σ = ru d 208 130 [.ref a0, l1, l2, l3, l4] [.ref a0, w0, w1, w2, w3] σ := q_aload_n t208_129 rfl
theorem t208_130 : decode (mb 208) 130 = .ok (.getfield 61, 3) := by decide +kernel
theorem s208_130_o87 (d : Nat) (l0 : Value) (l1 : Value) (l2 : Value) (l3 : Value) (l4 : Value) (w0 w1 w2 w3 : Value) (σ : Hs) : ru d 208 130 [l0, l1, l2, l3, l4] [.ref 87, w0, w1, w2, w3] σ = ru d 208 133 [l0, l1, l2, l3, l4] [.ref 102, w0, w1, w2, w3] σ := q_getf t208_130 mo208 F8_61 rfl rfl
theorem t208_133 : decode (mb 208) 133 = .ok (.iload_n 3, 1) := by decide +kernel
theorem s208_133 (d : Nat) (l0 : Value) (l1 : Value) (l2 : Value) (i3 : Int32) (l4 : Value) (w0 w1 w2 w3 w4 : Value) (σ : Hs) : ru d 208 133 [l0, l1, l2, .int i3, l4] [w0, w1, w2, w3, w4] σ = ru d 208 134 [l0, l1, l2, .int i3, l4] [.int i3, w0, w1, w2, w3, w4] σ := q_iload_n t208_133 rfl
theorem t208_134 : decode (mb 208) 134 = .ok (.iconst 3, 1) := by decide +kernel
theorem s208_134 (d : Nat) (l0 : Value) (l1 : Value) (l2 : Value) (l3 : Value) (l4 : Value) (w0 w1 w2 w3 w4 w5 : Value) (σ : Hs) : ru d 208 134 [l0, l1, l2, l3, l4] [w0, w1, w2, w3, w4, w5] σ = ru d 208 135 [l0, l1, l2, l3, l4] [.int 3, w0, w1, w2, w3, w4, w5] σ := q_iconst t208_134 (by decide +kernel)
theorem t208_135 : decode (mb 208) 135 = .ok (.iadd, 1) := by decide +kernel
theorem s208_135 (d : Nat) (l0 : Value) (l1 : Value) (l2 : Value) (l3 : Value) (l4 : Value) (x y : Int32) (w0 w1 w2 w3 w4 : Value) (σ : Hs) : ru d 208 135 [l0, l1, l2, l3, l4] [.int y, .int x, w0, w1, w2, w3, w4] σ = ru d 208 136 [l0, l1, l2, l3, l4] [.int (x + y), w0, w1, w2, w3, w4] σ := q_iadd t208_135
theorem t208_136 : decode (mb 208) 136 = .ok (.iaload, 1) := by decide +kernel
theorem s208_136_o102 (d : Nat) (l0 : Value) (l1 : Value) (l2 : Value) (l3 : Value) (l4 : Value) (i : Int32) (w0 w1 w2 w3 : Value) (σ : Hs) : ru d 208 136 [l0, l1, l2, l3, l4] [.int i, .ref 102, w0, w1, w2, w3] σ = gd (vp_in i 96) (ru d 208 137 [l0, l1, l2, l3, l4] [.int (σ 102 i.toNatClampNeg), w0, w1, w2, w3] σ) := q_iald t208_136 rfl (by decide +kernel) rfl
theorem t208_137 : decode (mb 208) 137 = .ok (.invokevirtual 109, 3) := by decide +kernel
theorem s208_137_o87 (d : Nat) (l0 : Value) (l1 : Value) (l2 : Value) (l3 : Value) (l4 : Value) (v1 v2 v3 v4 : Value) (σ : Hs) : ru d 208 137 [l0, l1, l2, l3, l4] [v4, v3, v2, v1, .ref 87] σ = kont (callD d 126 [.ref 87, v1, v2, v3, v4] σ) d 208 140 [l0, l1, l2, l3, l4] [] := q_invv t208_137 mo208 K8_109 mj126 rfl rfl rfl rfl (Nat.le_of_ble_eq_true rfl)
theorem t208_140 : decode (mb 208) 140 = .ok (.istore 4, 2) := by decide +kernel
theorem s208_140 (d : Nat) (l0 : Value) (l1 : Value) (l2 : Value) (i3 : Int32) (l4 : Value) (x : Int32) (σ : Hs) : ru d 208 140 [l0, l1, l2, .int i3, l4] [.int x] σ = ru d 208 142 [l0, l1, l2, .int i3, .int x] [] σ := q_istore t208_140 ⟨Nat.le_of_ble_eq_true rfl, rfl⟩ rfl
theorem t208_142 : decode (mb 208) 142 = .ok (.iinc 2 1, 3) := by decide +kernel
theorem s208_142 (d : Nat) (l0 : Value) (i1 : Int32) (i2 : Int32) (l3 : Value) (l4 : Value) (σ : Hs) : ru d 208 142 [l0, .int i1, .int i2, l3, l4] [] σ = ru d 208 145 [l0, .int i1, .int (i2 + 1), l3, l4] [] σ := q_iinc t208_142 ⟨Nat.le_of_ble_eq_true rfl, rfl⟩ rfl (by decide +kernel) rfl
theorem t208_145 : decode (mb 208) 145 = .ok (.iinc 3 4, 3) := by decide +kernel
theorem s208_145 (d : Nat) (l0 : Value) (l1 : Value) (i2 : Int32) (i3 : Int32) (l4 : Value) (σ : Hs) : ru d 208 145 [l0, l1, .int i2, .int i3, l4] [] σ = ru d 208 148 [l0, l1, .int i2, .int (i3 + 4), l4] [] σ := q_iinc t208_145 ⟨Nat.le_of_ble_eq_true rfl, rfl⟩ rfl (by decide +kernel) rfl
theorem t208_148 : decode (mb 208) 148 = .ok (.goto (-111), 3) := by decide +kernel
theorem s208_148 (d : Nat) (l0 : Value) (l1 : Value) (l2 : Value) (l3 : Value) (l4 : Value) (σ : Hs) : ru d 208 148 [l0, l1, l2, l3, l4] [] σ = ru d 208 37 [l0, l1, l2, l3, l4] [] σ := q_goto t208_148 (by decide +kernel)
theorem t208_151 : decode (mb 208) 151 = .ok (.iload_n 2, 1) := by decide +kernel
theorem s208_151 (d : Nat) (l0 : Value) (l1 : Value) (i2 : Int32) (l3 : Value) (l4 : Value) (σ : Hs) : ru d 208 151 [l0, l1, .int i2, l3, l4] [] σ = ru d 208 152 [l0, l1, .int i2, l3, l4] [.int i2] σ := q_iload_n t208_151 rfl
theorem t208_152 : decode (mb 208) 152 = .ok (.ireturn, 1) := by decide +kernel
theorem s208_152 (d : Nat) (l0 : Value) (l1 : Value) (l2 : Value) (l3 : Value) (l4 : Value) (x : Int32) (σ : Hs) : ru d 208 152 [l0, l1, l2, l3, l4] [.int x] σ = some (some (.int x), σ) := q_ireti t208_152 mr208
theorem c208 (d : Nat) (x0 : Nat) (x1 : Int32) (σ : Hs) : callD (d + 1) 208 [.ref x0, .int x1] σ = ru d 208 0 [.ref x0, .int x1, uu, uu, uu] [] σ := callD_ru ml208 rfl rfl (Nat.le_of_ble_eq_true rfl)
-- 209: Model.image()I
theorem t209_0 : decode (mb 209) 0 = .ok (.aload_n 0, 1) := by decide +kernel
theorem s209_0 (d : Nat) (a0 : Nat) (σ : Hs) : ru d 209 0 [.ref a0] [] σ = ru d 209 1 [.ref a0] [.ref a0] σ := q_aload_n t209_0 rfl
theorem t209_1 : decode (mb 209) 1 = .ok (.getfield 9, 3) := by decide +kernel
theorem s209_1_o87 (d : Nat) (l0 : Value) (σ : Hs) : ru d 209 1 [l0] [.ref 87] σ = ru d 209 4 [l0] [.ref 88] σ := q_getf t209_1 mo209 F8_9 rfl rfl
theorem t209_4 : decode (mb 209) 4 = .ok (.aload_n 0, 1) := by decide +kernel
theorem s209_4 (d : Nat) (a0 : Nat) (w0 : Value) (σ : Hs) : ru d 209 4 [.ref a0] [w0] σ = ru d 209 5 [.ref a0] [.ref a0, w0] σ := q_aload_n t209_4 rfl
theorem t209_5 : decode (mb 209) 5 = .ok (.getfield 13, 3) := by decide +kernel
theorem s209_5_o87 (d : Nat) (l0 : Value) (w0 : Value) (σ : Hs) : ru d 209 5 [l0] [.ref 87, w0] σ = ru d 209 8 [l0] [.ref 89, w0] σ := q_getf t209_5 mo209 F8_13 rfl rfl
theorem t209_8 : decode (mb 209) 8 = .ok (.invokestatic 77, 3) := by decide +kernel
theorem s209_8 (d : Nat) (l0 : Value) (v0 v1 : Value) (σ : Hs) : ru d 209 8 [l0] [v1, v0] σ = kont (callD d 116 [v0, v1] σ) d 209 11 [l0] [] := q_invs t209_8 mo209 (by decide +kernel) K8_77 mj116 (Nat.le_of_ble_eq_true rfl) rfl rfl (Nat.le_of_ble_eq_true rfl)
theorem t209_11 : decode (mb 209) 11 = .ok (.aload_n 0, 1) := by decide +kernel
theorem s209_11 (d : Nat) (a0 : Nat) (σ : Hs) : ru d 209 11 [.ref a0] [] σ = ru d 209 12 [.ref a0] [.ref a0] σ := q_aload_n t209_11 rfl
theorem t209_12 : decode (mb 209) 12 = .ok (.dup, 1) := by decide +kernel
theorem s209_12 (d : Nat) (l0 : Value) (x : Nat) (σ : Hs) : ru d 209 12 [l0] [.ref x] σ = ru d 209 13 [l0] [.ref x, .ref x] σ := q_dup t209_12 rfl
theorem t209_13 : decode (mb 209) 13 = .ok (.getfield 331, 3) := by decide +kernel
theorem s209_13_o87 (d : Nat) (l0 : Value) (w0 : Value) (σ : Hs) : ru d 209 13 [l0] [.ref 87, w0] σ = ru d 209 16 [l0] [.int (σ 87 3), w0] σ := q_getf t209_13 mo209 F8_331 rfl rfl
theorem t209_16 : decode (mb 209) 16 = .ok (.iconst 1, 1) := by decide +kernel
theorem s209_16 (d : Nat) (l0 : Value) (w0 w1 : Value) (σ : Hs) : ru d 209 16 [l0] [w0, w1] σ = ru d 209 17 [l0] [.int 1, w0, w1] σ := q_iconst t209_16 (by decide +kernel)
theorem t209_17 : decode (mb 209) 17 = .ok (.iadd, 1) := by decide +kernel
theorem s209_17 (d : Nat) (l0 : Value) (x y : Int32) (w0 : Value) (σ : Hs) : ru d 209 17 [l0] [.int y, .int x, w0] σ = ru d 209 18 [l0] [.int (x + y), w0] σ := q_iadd t209_17
theorem t209_18 : decode (mb 209) 18 = .ok (.putfield 331, 3) := by decide +kernel
theorem s209_18_o87 (d : Nat) (l0 : Value) (x : Int32) (σ : Hs) : ru d 209 18 [l0] [.int x, .ref 87] σ = ru d 209 21 [l0] [] (up2 σ 87 3 x) := q_puti t209_18 mo209 F8_331 (by decide +kernel) rfl rfl
theorem t209_21 : decode (mb 209) 21 = .ok (.aload_n 0, 1) := by decide +kernel
theorem s209_21 (d : Nat) (a0 : Nat) (σ : Hs) : ru d 209 21 [.ref a0] [] σ = ru d 209 22 [.ref a0] [.ref a0] σ := q_aload_n t209_21 rfl
theorem t209_22 : decode (mb 209) 22 = .ok (.getfield 331, 3) := by decide +kernel
theorem s209_22_o87 (d : Nat) (l0 : Value) (σ : Hs) : ru d 209 22 [l0] [.ref 87] σ = ru d 209 25 [l0] [.int (σ 87 3)] σ := q_getf t209_22 mo209 F8_331 rfl rfl
theorem t209_25 : decode (mb 209) 25 = .ok (.ireturn, 1) := by decide +kernel
theorem s209_25 (d : Nat) (l0 : Value) (x : Int32) (σ : Hs) : ru d 209 25 [l0] [.int x] σ = some (some (.int x), σ) := q_ireti t209_25 mr209
theorem c209 (d : Nat) (x0 : Nat) (σ : Hs) : callD (d + 1) 209 [.ref x0] σ = ru d 209 0 [.ref x0] [] σ := callD_ru ml209 rfl rfl (Nat.le_of_ble_eq_true rfl)
-- 210: Model.restore()I
theorem t210_0 : decode (mb 210) 0 = .ok (.aload_n 0, 1) := by decide +kernel
theorem s210_0 (d : Nat) (a0 : Nat) (σ : Hs) : ru d 210 0 [.ref a0] [] σ = ru d 210 1 [.ref a0] [.ref a0] σ := q_aload_n t210_0 rfl
theorem t210_1 : decode (mb 210) 1 = .ok (.getfield 331, 3) := by decide +kernel
theorem s210_1_o87 (d : Nat) (l0 : Value) (σ : Hs) : ru d 210 1 [l0] [.ref 87] σ = ru d 210 4 [l0] [.int (σ 87 3)] σ := q_getf t210_1 mo210 F8_331 rfl rfl
theorem t210_4 : decode (mb 210) 4 = .ok (.ifCond .ne 10, 3) := by decide +kernel
theorem s210_4 (d : Nat) (l0 : Value) (x : Int32) (σ : Hs) : ru d 210 4 [l0] [.int x] σ = if x = 0 then ru d 210 7 [l0] [] σ else ru d 210 14 [l0] [] σ := q_if_ne t210_4 (by decide +kernel)
theorem t210_7 : decode (mb 210) 7 = .ok (.aload_n 0, 1) := by decide +kernel
theorem s210_7 (d : Nat) (a0 : Nat) (σ : Hs) : ru d 210 7 [.ref a0] [] σ = ru d 210 8 [.ref a0] [.ref a0] σ := q_aload_n t210_7 rfl
theorem t210_8 : decode (mb 210) 8 = .ok (.ldc 116, 2) := by decide +kernel
theorem s210_8 (d : Nat) (l0 : Value) (w0 : Value) (σ : Hs) : ru d 210 8 [l0] [w0] σ = ru d 210 10 [l0] [.int (-1000002), w0] σ := q_ldc t210_8 mo210 C8_116
theorem t210_10 : decode (mb 210) 10 = .ok (.invokevirtual 105, 3) := by decide +kernel
theorem s210_10_o87 (d : Nat) (l0 : Value) (v1 : Value) (σ : Hs) : ru d 210 10 [l0] [v1, .ref 87] σ = kont (callD d 112 [.ref 87, v1] σ) d 210 13 [l0] [] := q_invv t210_10 mo210 K8_105 mj112 rfl rfl rfl rfl (Nat.le_of_ble_eq_true rfl)
theorem t210_13 : decode (mb 210) 13 = .ok (.ireturn, 1) := by decide +kernel
theorem s210_13 (d : Nat) (l0 : Value) (x : Int32) (σ : Hs) : ru d 210 13 [l0] [.int x] σ = some (some (.int x), σ) := q_ireti t210_13 mr210
theorem t210_14 : decode (mb 210) 14 = .ok (.aload_n 0, 1) := by decide +kernel
theorem s210_14 (d : Nat) (a0 : Nat) (σ : Hs) : ru d 210 14 [.ref a0] [] σ = ru d 210 15 [.ref a0] [.ref a0] σ := q_aload_n t210_14 rfl
theorem t210_15 : decode (mb 210) 15 = .ok (.getfield 13, 3) := by decide +kernel
theorem s210_15_o87 (d : Nat) (l0 : Value) (σ : Hs) : ru d 210 15 [l0] [.ref 87] σ = ru d 210 18 [l0] [.ref 89] σ := q_getf t210_15 mo210 F8_13 rfl rfl
theorem t210_18 : decode (mb 210) 18 = .ok (.aload_n 0, 1) := by decide +kernel
theorem s210_18 (d : Nat) (a0 : Nat) (w0 : Value) (σ : Hs) : ru d 210 18 [.ref a0] [w0] σ = ru d 210 19 [.ref a0] [.ref a0, w0] σ := q_aload_n t210_18 rfl
theorem t210_19 : decode (mb 210) 19 = .ok (.getfield 9, 3) := by decide +kernel
theorem s210_19_o87 (d : Nat) (l0 : Value) (w0 : Value) (σ : Hs) : ru d 210 19 [l0] [.ref 87, w0] σ = ru d 210 22 [l0] [.ref 88, w0] σ := q_getf t210_19 mo210 F8_9 rfl rfl
theorem t210_22 : decode (mb 210) 22 = .ok (.invokestatic 77, 3) := by decide +kernel
theorem s210_22 (d : Nat) (l0 : Value) (v0 v1 : Value) (σ : Hs) : ru d 210 22 [l0] [v1, v0] σ = kont (callD d 116 [v0, v1] σ) d 210 25 [l0] [] := q_invs t210_22 mo210 (by decide +kernel) K8_77 mj116 (Nat.le_of_ble_eq_true rfl) rfl rfl (Nat.le_of_ble_eq_true rfl)
theorem t210_25 : decode (mb 210) 25 = .ok (.aload_n 0, 1) := by decide +kernel
theorem s210_25 (d : Nat) (a0 : Nat) (σ : Hs) : ru d 210 25 [.ref a0] [] σ = ru d 210 26 [.ref a0] [.ref a0] σ := q_aload_n t210_25 rfl
theorem t210_26 : decode (mb 210) 26 = .ok (.getfield 9, 3) := by decide +kernel
theorem s210_26_o87 (d : Nat) (l0 : Value) (σ : Hs) : ru d 210 26 [l0] [.ref 87] σ = ru d 210 29 [l0] [.ref 88] σ := q_getf t210_26 mo210 F8_9 rfl rfl
theorem t210_29 : decode (mb 210) 29 = .ok (.iconst 0, 1) := by decide +kernel
theorem s210_29 (d : Nat) (l0 : Value) (w0 : Value) (σ : Hs) : ru d 210 29 [l0] [w0] σ = ru d 210 30 [l0] [.int 0, w0] σ := q_iconst t210_29 (by decide +kernel)
theorem t210_30 : decode (mb 210) 30 = .ok (.iaload, 1) := by decide +kernel
theorem s210_30_o88 (d : Nat) (l0 : Value) (i : Int32) (σ : Hs) : ru d 210 30 [l0] [.int i, .ref 88] σ = gd (vp_in i 545) (ru d 210 31 [l0] [.int (σ 88 i.toNatClampNeg)] σ) := q_iald t210_30 rfl (by decide +kernel) rfl
theorem t210_31 : decode (mb 210) 31 = .ok (.ireturn, 1) := by decide +kernel
theorem s210_31 (d : Nat) (l0 : Value) (x : Int32) (σ : Hs) : ru d 210 31 [l0] [.int x] σ = some (some (.int x), σ) := q_ireti t210_31 mr210
theorem c210 (d : Nat) (x0 : Nat) (σ : Hs) : callD (d + 1) 210 [.ref x0] σ = ru d 210 0 [.ref x0] [] σ := callD_ru ml210 rfl rfl (Nat.le_of_ble_eq_true rfl)
-- 211: Model.tell(I)I
theorem t211_0 : decode (mb 211) 0 = .ok (.aload_n 0, 1) := by decide +kernel
theorem s211_0 (d : Nat) (a0 : Nat) (l1 : Value) (σ : Hs) : ru d 211 0 [.ref a0, l1] [] σ = ru d 211 1 [.ref a0, l1] [.ref a0] σ := q_aload_n t211_0 rfl
theorem t211_1 : decode (mb 211) 1 = .ok (.getfield 9, 3) := by decide +kernel
theorem s211_1_o87 (d : Nat) (l0 : Value) (l1 : Value) (σ : Hs) : ru d 211 1 [l0, l1] [.ref 87] σ = ru d 211 4 [l0, l1] [.ref 88] σ := q_getf t211_1 mo211 F8_9 rfl rfl
theorem t211_4 : decode (mb 211) 4 = .ok (.iconst 2, 1) := by decide +kernel
theorem s211_4 (d : Nat) (l0 : Value) (l1 : Value) (w0 : Value) (σ : Hs) : ru d 211 4 [l0, l1] [w0] σ = ru d 211 5 [l0, l1] [.int 2, w0] σ := q_iconst t211_4 (by decide +kernel)
theorem t211_5 : decode (mb 211) 5 = .ok (.iaload, 1) := by decide +kernel
theorem s211_5_o88 (d : Nat) (l0 : Value) (l1 : Value) (i : Int32) (σ : Hs) : ru d 211 5 [l0, l1] [.int i, .ref 88] σ = gd (vp_in i 545) (ru d 211 6 [l0, l1] [.int (σ 88 i.toNatClampNeg)] σ) := q_iald t211_5 rfl (by decide +kernel) rfl
theorem t211_6 : decode (mb 211) 6 = .ok (.bipush 24, 2) := by decide +kernel
theorem s211_6 (d : Nat) (l0 : Value) (l1 : Value) (w0 : Value) (σ : Hs) : ru d 211 6 [l0, l1] [w0] σ = ru d 211 8 [l0, l1] [.int 24, w0] σ := q_bipush t211_6 (by decide +kernel)
theorem t211_8 : decode (mb 211) 8 = .ok (.if_icmp .ne 10, 3) := by decide +kernel
theorem s211_8 (d : Nat) (l0 : Value) (l1 : Value) (x y : Int32) (σ : Hs) : ru d 211 8 [l0, l1] [.int y, .int x] σ = if x = y then ru d 211 11 [l0, l1] [] σ else ru d 211 18 [l0, l1] [] σ := q_ic_ne t211_8 (by decide +kernel)
theorem t211_11 : decode (mb 211) 11 = .ok (.aload_n 0, 1) := by decide +kernel
theorem s211_11 (d : Nat) (a0 : Nat) (l1 : Value) (σ : Hs) : ru d 211 11 [.ref a0, l1] [] σ = ru d 211 12 [.ref a0, l1] [.ref a0] σ := q_aload_n t211_11 rfl
theorem t211_12 : decode (mb 211) 12 = .ok (.ldc 108, 2) := by decide +kernel
theorem s211_12 (d : Nat) (l0 : Value) (l1 : Value) (w0 : Value) (σ : Hs) : ru d 211 12 [l0, l1] [w0] σ = ru d 211 14 [l0, l1] [.int (-1000004), w0] σ := q_ldc t211_12 mo211 C8_108
theorem t211_14 : decode (mb 211) 14 = .ok (.invokevirtual 105, 3) := by decide +kernel
theorem s211_14_o87 (d : Nat) (l0 : Value) (l1 : Value) (v1 : Value) (σ : Hs) : ru d 211 14 [l0, l1] [v1, .ref 87] σ = kont (callD d 112 [.ref 87, v1] σ) d 211 17 [l0, l1] [] := q_invv t211_14 mo211 K8_105 mj112 rfl rfl rfl rfl (Nat.le_of_ble_eq_true rfl)
theorem t211_17 : decode (mb 211) 17 = .ok (.ireturn, 1) := by decide +kernel
theorem s211_17 (d : Nat) (l0 : Value) (l1 : Value) (x : Int32) (σ : Hs) : ru d 211 17 [l0, l1] [.int x] σ = some (some (.int x), σ) := q_ireti t211_17 mr211
theorem t211_18 : decode (mb 211) 18 = .ok (.aload_n 0, 1) := by decide +kernel
theorem s211_18 (d : Nat) (a0 : Nat) (l1 : Value) (σ : Hs) : ru d 211 18 [.ref a0, l1] [] σ = ru d 211 19 [.ref a0, l1] [.ref a0] σ := q_aload_n t211_18 rfl
theorem t211_19 : decode (mb 211) 19 = .ok (.getfield 9, 3) := by decide +kernel
theorem s211_19_o87 (d : Nat) (l0 : Value) (l1 : Value) (σ : Hs) : ru d 211 19 [l0, l1] [.ref 87] σ = ru d 211 22 [l0, l1] [.ref 88] σ := q_getf t211_19 mo211 F8_9 rfl rfl
theorem t211_22 : decode (mb 211) 22 = .ok (.sipush 335, 3) := by decide +kernel
theorem s211_22 (d : Nat) (l0 : Value) (l1 : Value) (w0 : Value) (σ : Hs) : ru d 211 22 [l0, l1] [w0] σ = ru d 211 25 [l0, l1] [.int 335, w0] σ := q_sipush t211_22 (by decide +kernel)
theorem t211_25 : decode (mb 211) 25 = .ok (.aload_n 0, 1) := by decide +kernel
theorem s211_25 (d : Nat) (a0 : Nat) (l1 : Value) (w0 w1 : Value) (σ : Hs) : ru d 211 25 [.ref a0, l1] [w0, w1] σ = ru d 211 26 [.ref a0, l1] [.ref a0, w0, w1] σ := q_aload_n t211_25 rfl
theorem t211_26 : decode (mb 211) 26 = .ok (.getfield 9, 3) := by decide +kernel
theorem s211_26_o87 (d : Nat) (l0 : Value) (l1 : Value) (w0 w1 : Value) (σ : Hs) : ru d 211 26 [l0, l1] [.ref 87, w0, w1] σ = ru d 211 29 [l0, l1] [.ref 88, w0, w1] σ := q_getf t211_26 mo211 F8_9 rfl rfl
theorem t211_29 : decode (mb 211) 29 = .ok (.iconst 2, 1) := by decide +kernel
theorem s211_29 (d : Nat) (l0 : Value) (l1 : Value) (w0 w1 w2 : Value) (σ : Hs) : ru d 211 29 [l0, l1] [w0, w1, w2] σ = ru d 211 30 [l0, l1] [.int 2, w0, w1, w2] σ := q_iconst t211_29 (by decide +kernel)
theorem t211_30 : decode (mb 211) 30 = .ok (.iaload, 1) := by decide +kernel
theorem s211_30_o88 (d : Nat) (l0 : Value) (l1 : Value) (i : Int32) (w0 w1 : Value) (σ : Hs) : ru d 211 30 [l0, l1] [.int i, .ref 88, w0, w1] σ = gd (vp_in i 545) (ru d 211 31 [l0, l1] [.int (σ 88 i.toNatClampNeg), w0, w1] σ) := q_iald t211_30 rfl (by decide +kernel) rfl
theorem t211_31 : decode (mb 211) 31 = .ok (.iadd, 1) := by decide +kernel
theorem s211_31 (d : Nat) (l0 : Value) (l1 : Value) (x y : Int32) (w0 : Value) (σ : Hs) : ru d 211 31 [l0, l1] [.int y, .int x, w0] σ = ru d 211 32 [l0, l1] [.int (x + y), w0] σ := q_iadd t211_31
theorem t211_32 : decode (mb 211) 32 = .ok (.iload_n 1, 1) := by decide +kernel
theorem s211_32 (d : Nat) (l0 : Value) (i1 : Int32) (w0 w1 : Value) (σ : Hs) : ru d 211 32 [l0, .int i1] [w0, w1] σ = ru d 211 33 [l0, .int i1] [.int i1, w0, w1] σ := q_iload_n t211_32 rfl
theorem t211_33 : decode (mb 211) 33 = .ok (.iastore, 1) := by decide +kernel
theorem s211_33_o88 (d : Nat) (l0 : Value) (l1 : Value) (i x : Int32) (σ : Hs) : ru d 211 33 [l0, l1] [.int x, .int i, .ref 88] σ = gd (vp_in i 545) (ru d 211 34 [l0, l1] [] (up2 σ 88 i.toNatClampNeg x)) := q_iast t211_33 (by decide +kernel) rfl rfl
theorem t211_34 : decode (mb 211) 34 = .ok (.aload_n 0, 1) := by decide +kernel
theorem s211_34 (d : Nat) (a0 : Nat) (l1 : Value) (σ : Hs) : ru d 211 34 [.ref a0, l1] [] σ = ru d 211 35 [.ref a0, l1] [.ref a0] σ := q_aload_n t211_34 rfl
theorem t211_35 : decode (mb 211) 35 = .ok (.getfield 9, 3) := by decide +kernel
theorem s211_35_o87 (d : Nat) (l0 : Value) (l1 : Value) (σ : Hs) : ru d 211 35 [l0, l1] [.ref 87] σ = ru d 211 38 [l0, l1] [.ref 88] σ := q_getf t211_35 mo211 F8_9 rfl rfl
theorem t211_38 : decode (mb 211) 38 = .ok (.iconst 2, 1) := by decide +kernel
theorem s211_38 (d : Nat) (l0 : Value) (l1 : Value) (w0 : Value) (σ : Hs) : ru d 211 38 [l0, l1] [w0] σ = ru d 211 39 [l0, l1] [.int 2, w0] σ := q_iconst t211_38 (by decide +kernel)
theorem t211_39 : decode (mb 211) 39 = .ok (.dup2, 1) := by decide +kernel
theorem s211_39 (d : Nat) (l0 : Value) (l1 : Value) (x0 : Int32) (x1 : Nat) (σ : Hs) : ru d 211 39 [l0, l1] [.int x0, .ref x1] σ = ru d 211 40 [l0, l1] [.int x0, .ref x1, .int x0, .ref x1] σ := q_dup2 t211_39 rfl rfl
theorem t211_40 : decode (mb 211) 40 = .ok (.iaload, 1) := by decide +kernel
theorem s211_40_o88 (d : Nat) (l0 : Value) (l1 : Value) (i : Int32) (w0 w1 : Value) (σ : Hs) : ru d 211 40 [l0, l1] [.int i, .ref 88, w0, w1] σ = gd (vp_in i 545) (ru d 211 41 [l0, l1] [.int (σ 88 i.toNatClampNeg), w0, w1] σ) := q_iald t211_40 rfl (by decide +kernel) rfl
theorem t211_41 : decode (mb 211) 41 = .ok (.iconst 1, 1) := by decide +kernel
theorem s211_41 (d : Nat) (l0 : Value) (l1 : Value) (w0 w1 w2 : Value) (σ : Hs) : ru d 211 41 [l0, l1] [w0, w1, w2] σ = ru d 211 42 [l0, l1] [.int 1, w0, w1, w2] σ := q_iconst t211_41 (by decide +kernel)
theorem t211_42 : decode (mb 211) 42 = .ok (.iadd, 1) := by decide +kernel
theorem s211_42 (d : Nat) (l0 : Value) (l1 : Value) (x y : Int32) (w0 w1 : Value) (σ : Hs) : ru d 211 42 [l0, l1] [.int y, .int x, w0, w1] σ = ru d 211 43 [l0, l1] [.int (x + y), w0, w1] σ := q_iadd t211_42
theorem t211_43 : decode (mb 211) 43 = .ok (.iastore, 1) := by decide +kernel
theorem s211_43_o88 (d : Nat) (l0 : Value) (l1 : Value) (i x : Int32) (σ : Hs) : ru d 211 43 [l0, l1] [.int x, .int i, .ref 88] σ = gd (vp_in i 545) (ru d 211 44 [l0, l1] [] (up2 σ 88 i.toNatClampNeg x)) := q_iast t211_43 (by decide +kernel) rfl rfl
theorem t211_44 : decode (mb 211) 44 = .ok (.aload_n 0, 1) := by decide +kernel
theorem s211_44 (d : Nat) (a0 : Nat) (l1 : Value) (σ : Hs) : ru d 211 44 [.ref a0, l1] [] σ = ru d 211 45 [.ref a0, l1] [.ref a0] σ := q_aload_n t211_44 rfl
theorem t211_45 : decode (mb 211) 45 = .ok (.getfield 9, 3) := by decide +kernel
theorem s211_45_o87 (d : Nat) (l0 : Value) (l1 : Value) (σ : Hs) : ru d 211 45 [l0, l1] [.ref 87] σ = ru d 211 48 [l0, l1] [.ref 88] σ := q_getf t211_45 mo211 F8_9 rfl rfl
theorem t211_48 : decode (mb 211) 48 = .ok (.iconst 2, 1) := by decide +kernel
theorem s211_48 (d : Nat) (l0 : Value) (l1 : Value) (w0 : Value) (σ : Hs) : ru d 211 48 [l0, l1] [w0] σ = ru d 211 49 [l0, l1] [.int 2, w0] σ := q_iconst t211_48 (by decide +kernel)
theorem t211_49 : decode (mb 211) 49 = .ok (.iaload, 1) := by decide +kernel
theorem s211_49_o88 (d : Nat) (l0 : Value) (l1 : Value) (i : Int32) (σ : Hs) : ru d 211 49 [l0, l1] [.int i, .ref 88] σ = gd (vp_in i 545) (ru d 211 50 [l0, l1] [.int (σ 88 i.toNatClampNeg)] σ) := q_iald t211_49 rfl (by decide +kernel) rfl
theorem t211_50 : decode (mb 211) 50 = .ok (.ireturn, 1) := by decide +kernel
theorem s211_50 (d : Nat) (l0 : Value) (l1 : Value) (x : Int32) (σ : Hs) : ru d 211 50 [l0, l1] [.int x] σ = some (some (.int x), σ) := q_ireti t211_50 mr211
theorem c211 (d : Nat) (x0 : Nat) (x1 : Int32) (σ : Hs) : callD (d + 1) 211 [.ref x0, .int x1] σ = ru d 211 0 [.ref x0, .int x1] [] σ := callD_ru ml211 rfl rfl (Nat.le_of_ble_eq_true rfl)
-- 212: Model.check(I)I
theorem t212_0 : decode (mb 212) 0 = .ok (.aload_n 0, 1) := by decide +kernel
theorem s212_0 (d : Nat) (a0 : Nat) (l1 : Value) (l2 : Value) (l3 : Value) (l4 : Value) (σ : Hs) : ru d 212 0 [.ref a0, l1, l2, l3, l4] [] σ = ru d 212 1 [.ref a0, l1, l2, l3, l4] [.ref a0] σ := q_aload_n t212_0 rfl
theorem t212_1 : decode (mb 212) 1 = .ok (.getfield 9, 3) := by decide +kernel
theorem s212_1_o87 (d : Nat) (l0 : Value) (l1 : Value) (l2 : Value) (l3 : Value) (l4 : Value) (σ : Hs) : ru d 212 1 [l0, l1, l2, l3, l4] [.ref 87] σ = ru d 212 4 [l0, l1, l2, l3, l4] [.ref 88] σ := q_getf t212_1 mo212 F8_9 rfl rfl
theorem t212_4 : decode (mb 212) 4 = .ok (.iconst 2, 1) := by decide +kernel
theorem s212_4 (d : Nat) (l0 : Value) (l1 : Value) (l2 : Value) (l3 : Value) (l4 : Value) (w0 : Value) (σ : Hs) : ru d 212 4 [l0, l1, l2, l3, l4] [w0] σ = ru d 212 5 [l0, l1, l2, l3, l4] [.int 2, w0] σ := q_iconst t212_4 (by decide +kernel)
theorem t212_5 : decode (mb 212) 5 = .ok (.iaload, 1) := by decide +kernel
theorem s212_5_o88 (d : Nat) (l0 : Value) (l1 : Value) (l2 : Value) (l3 : Value) (l4 : Value) (i : Int32) (σ : Hs) : ru d 212 5 [l0, l1, l2, l3, l4] [.int i, .ref 88] σ = gd (vp_in i 545) (ru d 212 6 [l0, l1, l2, l3, l4] [.int (σ 88 i.toNatClampNeg)] σ) := q_iald t212_5 rfl (by decide +kernel) rfl
theorem t212_6 : decode (mb 212) 6 = .ok (.istore_n 2, 1) := by decide +kernel
theorem s212_6 (d : Nat) (l0 : Value) (i1 : Int32) (l2 : Value) (l3 : Value) (l4 : Value) (x : Int32) (σ : Hs) : ru d 212 6 [l0, .int i1, l2, l3, l4] [.int x] σ = ru d 212 7 [l0, .int i1, .int x, l3, l4] [] σ := q_istore_n t212_6 ⟨Nat.le_of_ble_eq_true rfl, rfl⟩ rfl
theorem t212_7 : decode (mb 212) 7 = .ok (.aload_n 0, 1) := by decide +kernel
theorem s212_7 (d : Nat) (a0 : Nat) (l1 : Value) (l2 : Value) (l3 : Value) (l4 : Value) (σ : Hs) : ru d 212 7 [.ref a0, l1, l2, l3, l4] [] σ = ru d 212 8 [.ref a0, l1, l2, l3, l4] [.ref a0] σ := q_aload_n t212_7 rfl
theorem t212_8 : decode (mb 212) 8 = .ok (.getfield 9, 3) := by decide +kernel
theorem s212_8_o87 (d : Nat) (l0 : Value) (l1 : Value) (l2 : Value) (l3 : Value) (l4 : Value) (σ : Hs) : ru d 212 8 [l0, l1, l2, l3, l4] [.ref 87] σ = ru d 212 11 [l0, l1, l2, l3, l4] [.ref 88] σ := q_getf t212_8 mo212 F8_9 rfl rfl
theorem t212_11 : decode (mb 212) 11 = .ok (.iconst 2, 1) := by decide +kernel
theorem s212_11 (d : Nat) (l0 : Value) (l1 : Value) (l2 : Value) (l3 : Value) (l4 : Value) (w0 : Value) (σ : Hs) : ru d 212 11 [l0, l1, l2, l3, l4] [w0] σ = ru d 212 12 [l0, l1, l2, l3, l4] [.int 2, w0] σ := q_iconst t212_11 (by decide +kernel)
theorem t212_12 : decode (mb 212) 12 = .ok (.iconst 0, 1) := by decide +kernel
theorem s212_12 (d : Nat) (l0 : Value) (l1 : Value) (l2 : Value) (l3 : Value) (l4 : Value) (w0 w1 : Value) (σ : Hs) : ru d 212 12 [l0, l1, l2, l3, l4] [w0, w1] σ = ru d 212 13 [l0, l1, l2, l3, l4] [.int 0, w0, w1] σ := q_iconst t212_12 (by decide +kernel)
theorem t212_13 : decode (mb 212) 13 = .ok (.iastore, 1) := by decide +kernel
theorem s212_13_o88 (d : Nat) (l0 : Value) (l1 : Value) (l2 : Value) (l3 : Value) (l4 : Value) (i x : Int32) (σ : Hs) : ru d 212 13 [l0, l1, l2, l3, l4] [.int x, .int i, .ref 88] σ = gd (vp_in i 545) (ru d 212 14 [l0, l1, l2, l3, l4] [] (up2 σ 88 i.toNatClampNeg x)) := q_iast t212_13 (by decide +kernel) rfl rfl
theorem t212_14 : decode (mb 212) 14 = .ok (.iload_n 1, 1) := by decide +kernel
theorem s212_14 (d : Nat) (l0 : Value) (i1 : Int32) (l2 : Value) (l3 : Value) (l4 : Value) (σ : Hs) : ru d 212 14 [l0, .int i1, l2, l3, l4] [] σ = ru d 212 15 [l0, .int i1, l2, l3, l4] [.int i1] σ := q_iload_n t212_14 rfl
theorem t212_15 : decode (mb 212) 15 = .ok (.iconst 0, 1) := by decide +kernel
theorem s212_15 (d : Nat) (l0 : Value) (l1 : Value) (l2 : Value) (l3 : Value) (l4 : Value) (w0 : Value) (σ : Hs) : ru d 212 15 [l0, l1, l2, l3, l4] [w0] σ = ru d 212 16 [l0, l1, l2, l3, l4] [.int 0, w0] σ := q_iconst t212_15 (by decide +kernel)
theorem t212_16 : decode (mb 212) 16 = .ok (.iconst 5, 1) := by decide +kernel
theorem s212_16 (d : Nat) (l0 : Value) (l1 : Value) (l2 : Value) (l3 : Value) (l4 : Value) (w0 w1 : Value) (σ : Hs) : ru d 212 16 [l0, l1, l2, l3, l4] [w0, w1] σ = ru d 212 17 [l0, l1, l2, l3, l4] [.int 5, w0, w1] σ := q_iconst t212_16 (by decide +kernel)
theorem t212_17 : decode (mb 212) 17 = .ok (.invokestatic 81, 3) := by decide +kernel
theorem s212_17 (d : Nat) (l0 : Value) (l1 : Value) (l2 : Value) (l3 : Value) (l4 : Value) (v0 v1 v2 : Value) (σ : Hs) : ru d 212 17 [l0, l1, l2, l3, l4] [v2, v1, v0] σ = kont (callD d 113 [v0, v1, v2] σ) d 212 20 [l0, l1, l2, l3, l4] [] := q_invs t212_17 mo212 (by decide +kernel) K8_81 mj113 (Nat.le_of_ble_eq_true rfl) rfl rfl (Nat.le_of_ble_eq_true rfl)
theorem t212_20 : decode (mb 212) 20 = .ok (.ifCond .ne 10, 3) := by decide +kernel
theorem s212_20 (d : Nat) (l0 : Value) (l1 : Value) (l2 : Value) (l3 : Value) (l4 : Value) (x : Int32) (σ : Hs) : ru d 212 20 [l0, l1, l2, l3, l4] [.int x] σ = if x = 0 then ru d 212 23 [l0, l1, l2, l3, l4] [] σ else ru d 212 30 [l0, l1, l2, l3, l4] [] σ := q_if_ne t212_20 (by decide +kernel)
theorem t212_23 : decode (mb 212) 23 = .ok (.aload_n 0, 1) := by decide +kernel
theorem s212_23 (d : Nat) (a0 : Nat) (l1 : Value) (l2 : Value) (l3 : Value) (l4 : Value) (σ : Hs) : ru d 212 23 [.ref a0, l1, l2, l3, l4] [] σ = ru d 212 24 [.ref a0, l1, l2, l3, l4] [.ref a0] σ := q_aload_n t212_23 rfl
theorem t212_24 : decode (mb 212) 24 = .ok (.ldc 104, 2) := by decide +kernel
theorem s212_24 (d : Nat) (l0 : Value) (l1 : Value) (l2 : Value) (l3 : Value) (l4 : Value) (w0 : Value) (σ : Hs) : ru d 212 24 [l0, l1, l2, l3, l4] [w0] σ = ru d 212 26 [l0, l1, l2, l3, l4] [.int (-1000001), w0] σ := q_ldc t212_24 mo212 C8_104
theorem t212_26 : decode (mb 212) 26 = .ok (.invokevirtual 105, 3) := by decide +kernel
theorem s212_26_o87 (d : Nat) (l0 : Value) (l1 : Value) (l2 : Value) (l3 : Value) (l4 : Value) (v1 : Value) (σ : Hs) : ru d 212 26 [l0, l1, l2, l3, l4] [v1, .ref 87] σ = kont (callD d 112 [.ref 87, v1] σ) d 212 29 [l0, l1, l2, l3, l4] [] := q_invv t212_26 mo212 K8_105 mj112 rfl rfl rfl rfl (Nat.le_of_ble_eq_true rfl)
theorem t212_29 : decode (mb 212) 29 = .ok (.ireturn, 1) := by decide +kernel
theorem s212_29 (d : Nat) (l0 : Value) (l1 : Value) (l2 : Value) (l3 : Value) (l4 : Value) (x : Int32) (σ : Hs) : ru d 212 29 [l0, l1, l2, l3, l4] [.int x] σ = some (some (.int x), σ) := q_ireti t212_29 mr212
theorem t212_30 : decode (mb 212) 30 = .ok (.aload_n 0, 1) := by decide +kernel
theorem s212_30 (d : Nat) (a0 : Nat) (l1 : Value) (l2 : Value) (l3 : Value) (l4 : Value) (σ : Hs) : ru d 212 30 [.ref a0, l1, l2, l3, l4] [] σ = ru d 212 31 [.ref a0, l1, l2, l3, l4] [.ref a0] σ := q_aload_n t212_30 rfl
theorem t212_31 : decode (mb 212) 31 = .ok (.iload_n 1, 1) := by decide +kernel
theorem s212_31 (d : Nat) (l0 : Value) (i1 : Int32) (l2 : Value) (l3 : Value) (l4 : Value) (w0 : Value) (σ : Hs) : ru d 212 31 [l0, .int i1, l2, l3, l4] [w0] σ = ru d 212 32 [l0, .int i1, l2, l3, l4] [.int i1, w0] σ := q_iload_n t212_31 rfl
theorem t212_32 : decode (mb 212) 32 = .ok (.invokevirtual 92, 3) := by decide +kernel
theorem s212_32_o87 (d : Nat) (l0 : Value) (l1 : Value) (l2 : Value) (l3 : Value) (l4 : Value) (v1 : Value) (σ : Hs) : ru d 212 32 [l0, l1, l2, l3, l4] [v1, .ref 87] σ = kont (callD d 124 [.ref 87, v1] σ) d 212 35 [l0, l1, l2, l3, l4] [] := q_invv t212_32 mo212 K8_92 mj124 rfl rfl rfl rfl (Nat.le_of_ble_eq_true rfl)
theorem t212_35 : decode (mb 212) 35 = .ok (.istore_n 3, 1) := by decide +kernel
theorem s212_35 (d : Nat) (l0 : Value) (l1 : Value) (i2 : Int32) (l3 : Value) (l4 : Value) (x : Int32) (σ : Hs) : ru d 212 35 [l0, l1, .int i2, l3, l4] [.int x] σ = ru d 212 36 [l0, l1, .int i2, .int x, l4] [] σ := q_istore_n t212_35 ⟨Nat.le_of_ble_eq_true rfl, rfl⟩ rfl
theorem t212_36 : decode (mb 212) 36 = .ok (.iconst 0, 1) := by decide +kernel
theorem s212_36 (d : Nat) (l0 : Value) (l1 : Value) (l2 : Value) (l3 : Value) (l4 : Value) (σ : Hs) : ru d 212 36 [l0, l1, l2, l3, l4] [] σ = ru d 212 37 [l0, l1, l2, l3, l4] [.int 0] σ := q_iconst t212_36 (by decide +kernel)
theorem t212_37 : decode (mb 212) 37 = .ok (.istore 4, 2) := by decide +kernel
theorem s212_37 (d : Nat) (l0 : Value) (l1 : Value) (l2 : Value) (i3 : Int32) (l4 : Value) (x : Int32) (σ : Hs) : ru d 212 37 [l0, l1, l2, .int i3, l4] [.int x] σ = ru d 212 39 [l0, l1, l2, .int i3, .int x] [] σ := q_istore t212_37 ⟨Nat.le_of_ble_eq_true rfl, rfl⟩ rfl
theorem t212_39 : decode (mb 212) 39 = .ok (.iload 4, 2) := by decide +kernel
theorem s212_39 (d : Nat) (l0 : Value) (l1 : Value) (l2 : Value) (l3 : Value) (i4 : Int32) (σ : Hs) : ru d 212 39 [l0, l1, l2, l3, .int i4] [] σ = ru d 212 41 [l0, l1, l2, l3, .int i4] [.int i4] σ := q_iload t212_39 rfl
theorem t212_41 : decode (mb 212) 41 = .ok (.iload_n 2, 1) := by decide +kernel
theorem s212_41 (d : Nat) (l0 : Value) (l1 : Value) (i2 : Int32) (l3 : Value) (l4 : Value) (w0 : Value) (σ : Hs) : ru d 212 41 [l0, l1, .int i2, l3, l4] [w0] σ = ru d 212 42 [l0, l1, .int i2, l3, l4] [.int i2, w0] σ := q_iload_n t212_41 rfl
theorem t212_42 : decode (mb 212) 42 = .ok (.if_icmp .ge 41, 3) := by decide +kernel
theorem s212_42 (d : Nat) (l0 : Value) (l1 : Value) (l2 : Value) (l3 : Value) (l4 : Value) (x y : Int32) (σ : Hs) : ru d 212 42 [l0, l1, l2, l3, l4] [.int y, .int x] σ = if y ≤ x then ru d 212 83 [l0, l1, l2, l3, l4] [] σ else ru d 212 45 [l0, l1, l2, l3, l4] [] σ := q_ic_ge t212_42 (by decide +kernel)
theorem t212_45 : decode (mb 212) 45 = .ok (.iload 4, 2) := by decide +kernel
theorem s212_45 (d : Nat) (l0 : Value) (l1 : Value) (l2 : Value) (l3 : Value) (i4 : Int32) (σ : Hs) : ru d 212 45 [l0, l1, l2, l3, .int i4] [] σ = ru d 212 47 [l0, l1, l2, l3, .int i4] [.int i4] σ := q_iload t212_45 rfl
theorem t212_47 : decode (mb 212) 47 = .ok (.iload_n 3, 1) := by decide +kernel
theorem s212_47 (d : Nat) (l0 : Value) (l1 : Value) (l2 : Value) (i3 : Int32) (l4 : Value) (w0 : Value) (σ : Hs) : ru d 212 47 [l0, l1, l2, .int i3, l4] [w0] σ = ru d 212 48 [l0, l1, l2, .int i3, l4] [.int i3, w0] σ := q_iload_n t212_47 rfl
theorem t212_48 : decode (mb 212) 48 = .ok (.if_icmp .ge 35, 3) := by decide +kernel
theorem s212_48 (d : Nat) (l0 : Value) (l1 : Value) (l2 : Value) (l3 : Value) (l4 : Value) (x y : Int32) (σ : Hs) : ru d 212 48 [l0, l1, l2, l3, l4] [.int y, .int x] σ = if y ≤ x then ru d 212 83 [l0, l1, l2, l3, l4] [] σ else ru d 212 51 [l0, l1, l2, l3, l4] [] σ := q_ic_ge t212_48 (by decide +kernel)
theorem t212_51 : decode (mb 212) 51 = .ok (.aload_n 0, 1) := by decide +kernel
theorem s212_51 (d : Nat) (a0 : Nat) (l1 : Value) (l2 : Value) (l3 : Value) (l4 : Value) (σ : Hs) : ru d 212 51 [.ref a0, l1, l2, l3, l4] [] σ = ru d 212 52 [.ref a0, l1, l2, l3, l4] [.ref a0] σ := q_aload_n t212_51 rfl
theorem t212_52 : decode (mb 212) 52 = .ok (.getfield 9, 3) := by decide +kernel
theorem s212_52_o87 (d : Nat) (l0 : Value) (l1 : Value) (l2 : Value) (l3 : Value) (l4 : Value) (σ : Hs) : ru d 212 52 [l0, l1, l2, l3, l4] [.ref 87] σ = ru d 212 55 [l0, l1, l2, l3, l4] [.ref 88] σ := q_getf t212_52 mo212 F8_9 rfl rfl
theorem t212_55 : decode (mb 212) 55 = .ok (.sipush 335, 3) := by decide +kernel
theorem s212_55 (d : Nat) (l0 : Value) (l1 : Value) (l2 : Value) (l3 : Value) (l4 : Value) (w0 : Value) (σ : Hs) : ru d 212 55 [l0, l1, l2, l3, l4] [w0] σ = ru d 212 58 [l0, l1, l2, l3, l4] [.int 335, w0] σ := q_sipush t212_55 (by decide +kernel)
theorem t212_58 : decode (mb 212) 58 = .ok (.iload 4, 2) := by decide +kernel
theorem s212_58 (d : Nat) (l0 : Value) (l1 : Value) (l2 : Value) (l3 : Value) (i4 : Int32) (w0 w1 : Value) (σ : Hs) : ru d 212 58 [l0, l1, l2, l3, .int i4] [w0, w1] σ = ru d 212 60 [l0, l1, l2, l3, .int i4] [.int i4, w0, w1] σ := q_iload t212_58 rfl
theorem t212_60 : decode (mb 212) 60 = .ok (.iadd, 1) := by decide +kernel
theorem s212_60 (d : Nat) (l0 : Value) (l1 : Value) (l2 : Value) (l3 : Value) (l4 : Value) (x y : Int32) (w0 : Value) (σ : Hs) : ru d 212 60 [l0, l1, l2, l3, l4] [.int y, .int x, w0] σ = ru d 212 61 [l0, l1, l2, l3, l4] [.int (x + y), w0] σ := q_iadd t212_60
theorem t212_61 : decode (mb 212) 61 = .ok (.iaload, 1) := by decide +kernel
theorem s212_61_o88 (d : Nat) (l0 : Value) (l1 : Value) (l2 : Value) (l3 : Value) (l4 : Value) (i : Int32) (σ : Hs) : ru d 212 61 [l0, l1, l2, l3, l4] [.int i, .ref 88] σ = gd (vp_in i 545) (ru d 212 62 [l0, l1, l2, l3, l4] [.int (σ 88 i.toNatClampNeg)] σ) := q_iald t212_61 rfl (by decide +kernel) rfl
theorem t212_62 : decode (mb 212) 62 = .ok (.aload_n 0, 1) := by decide +kernel
theorem s212_62 (d : Nat) (a0 : Nat) (l1 : Value) (l2 : Value) (l3 : Value) (l4 : Value) (w0 : Value) (σ : Hs) : ru d 212 62 [.ref a0, l1, l2, l3, l4] [w0] σ = ru d 212 63 [.ref a0, l1, l2, l3, l4] [.ref a0, w0] σ := q_aload_n t212_62 rfl
theorem t212_63 : decode (mb 212) 63 = .ok (.bipush 6, 2) := by decide +kernel
theorem s212_63 (d : Nat) (l0 : Value) (l1 : Value) (l2 : Value) (l3 : Value) (l4 : Value) (w0 w1 : Value) (σ : Hs) : ru d 212 63 [l0, l1, l2, l3, l4] [w0, w1] σ = ru d 212 65 [l0, l1, l2, l3, l4] [.int 6, w0, w1] σ := q_bipush t212_63 (by decide +kernel)
theorem t212_65 : decode (mb 212) 65 = .ok (.iload 4, 2) := by decide +kernel
theorem s212_65 (d : Nat) (l0 : Value) (l1 : Value) (l2 : Value) (l3 : Value) (i4 : Int32) (w0 w1 w2 : Value) (σ : Hs) : ru d 212 65 [l0, l1, l2, l3, .int i4] [w0, w1, w2] σ = ru d 212 67 [l0, l1, l2, l3, .int i4] [.int i4, w0, w1, w2] σ := q_iload t212_65 rfl
theorem t212_67 : decode (mb 212) 67 = .ok (.imul, 1) := by decide +kernel
theorem s212_67 (d : Nat) (l0 : Value) (l1 : Value) (l2 : Value) (l3 : Value) (l4 : Value) (x y : Int32) (w0 w1 : Value) (σ : Hs) : ru d 212 67 [l0, l1, l2, l3, l4] [.int y, .int x, w0, w1] σ = ru d 212 68 [l0, l1, l2, l3, l4] [.int (x * y), w0, w1] σ := q_imul t212_67
theorem t212_68 : decode (mb 212) 68 = .ok (.iload_n 1, 1) := by decide +kernel
theorem s212_68 (d : Nat) (l0 : Value) (i1 : Int32) (l2 : Value) (l3 : Value) (l4 : Value) (w0 w1 w2 : Value) (σ : Hs) : ru d 212 68 [l0, .int i1, l2, l3, l4] [w0, w1, w2] σ = ru d 212 69 [l0, .int i1, l2, l3, l4] [.int i1, w0, w1, w2] σ := q_iload_n t212_68 rfl
theorem t212_69 : decode (mb 212) 69 = .ok (.iadd, 1) := by decide +kernel
theorem s212_69 (d : Nat) (l0 : Value) (l1 : Value) (l2 : Value) (l3 : Value) (l4 : Value) (x y : Int32) (w0 w1 : Value) (σ : Hs) : ru d 212 69 [l0, l1, l2, l3, l4] [.int y, .int x, w0, w1] σ = ru d 212 70 [l0, l1, l2, l3, l4] [.int (x + y), w0, w1] σ := q_iadd t212_69
theorem t212_70 : decode (mb 212) 70 = .ok (.iconst 1, 1) := by decide +kernel
theorem s212_70 (d : Nat) (l0 : Value) (l1 : Value) (l2 : Value) (l3 : Value) (l4 : Value) (w0 w1 w2 : Value) (σ : Hs) : ru d 212 70 [l0, l1, l2, l3, l4] [w0, w1, w2] σ = ru d 212 71 [l0, l1, l2, l3, l4] [.int 1, w0, w1, w2] σ := q_iconst t212_70 (by decide +kernel)
theorem t212_71 : decode (mb 212) 71 = .ok (.invokevirtual 85, 3) := by decide +kernel
theorem s212_71_o87 (d : Nat) (l0 : Value) (l1 : Value) (l2 : Value) (l3 : Value) (l4 : Value) (v1 v2 : Value) (w0 : Int32) (σ : Hs) : ru d 212 71 [l0, l1, l2, l3, l4] [v2, v1, .ref 87, .int w0] σ = kont (callD d 119 [.ref 87, v1, v2] σ) d 212 74 [l0, l1, l2, l3, l4] [.int w0] := q_invv t212_71 mo212 K8_85 mj119 rfl rfl rfl rfl (Nat.le_of_ble_eq_true rfl)
theorem t212_74 : decode (mb 212) 74 = .ok (.if_icmp .ne 9, 3) := by decide +kernel
theorem s212_74 (d : Nat) (l0 : Value) (l1 : Value) (l2 : Value) (l3 : Value) (l4 : Value) (x y : Int32) (σ : Hs) : ru d 212 74 [l0, l1, l2, l3, l4] [.int y, .int x] σ = if x = y then ru d 212 77 [l0, l1, l2, l3, l4] [] σ else ru d 212 83 [l0, l1, l2, l3, l4] [] σ := q_ic_ne t212_74 (by decide +kernel)
theorem t212_77 : decode (mb 212) 77 = .ok (.iinc 4 1, 3) := by decide +kernel
theorem s212_77 (d : Nat) (l0 : Value) (l1 : Value) (l2 : Value) (i3 : Int32) (i4 : Int32) (σ : Hs) : ru d 212 77 [l0, l1, l2, .int i3, .int i4] [] σ = ru d 212 80 [l0, l1, l2, .int i3, .int (i4 + 1)] [] σ := q_iinc t212_77 ⟨Nat.le_of_ble_eq_true rfl, rfl⟩ rfl (by decide +kernel) rfl
theorem t212_80 : decode (mb 212) 80 = .ok (.goto (-41), 3) := by decide +kernel
theorem s212_80 (d : Nat) (l0 : Value) (l1 : Value) (l2 : Value) (l3 : Value) (l4 : Value) (σ : Hs) : ru d 212 80 [l0, l1, l2, l3, l4] [] σ = ru d 212 39 [l0, l1, l2, l3, l4] [] σ := q_goto t212_80 (by decide +kernel)
theorem t212_83 : decode (mb 212) 83 = .ok (.iload 4, 2) := by decide +kernel
theorem s212_83 (d : Nat) (l0 : Value) (l1 : Value) (l2 : Value) (l3 : Value) (i4 : Int32) (σ : Hs) : ru d 212 83 [l0, l1, l2, l3, .int i4] [] σ = ru d 212 85 [l0, l1, l2, l3, .int i4] [.int i4] σ := q_iload t212_83 rfl
theorem t212_85 : decode (mb 212) 85 = .ok (.iload_n 2, 1) := by decide +kernel
theorem s212_85 (d : Nat) (l0 : Value) (l1 : Value) (i2 : Int32) (l3 : Value) (l4 : Value) (w0 : Value) (σ : Hs) : ru d 212 85 [l0, l1, .int i2, l3, l4] [w0] σ = ru d 212 86 [l0, l1, .int i2, l3, l4] [.int i2, w0] σ := q_iload_n t212_85 rfl
theorem t212_86 : decode (mb 212) 86 = .ok (.if_icmp .ne 13, 3) := by decide +kernel
theorem s212_86 (d : Nat) (l0 : Value) (l1 : Value) (l2 : Value) (l3 : Value) (l4 : Value) (x y : Int32) (σ : Hs) : ru d 212 86 [l0, l1, l2, l3, l4] [.int y, .int x] σ = if x = y then ru d 212 89 [l0, l1, l2, l3, l4] [] σ else ru d 212 99 [l0, l1, l2, l3, l4] [] σ := q_ic_ne t212_86 (by decide +kernel)
theorem t212_89 : decode (mb 212) 89 = .ok (.iload 4, 2) := by decide +kernel
theorem s212_89 (d : Nat) (l0 : Value) (l1 : Value) (l2 : Value) (l3 : Value) (i4 : Int32) (σ : Hs) : ru d 212 89 [l0, l1, l2, l3, .int i4] [] σ = ru d 212 91 [l0, l1, l2, l3, .int i4] [.int i4] σ := q_iload t212_89 rfl
theorem t212_91 : decode (mb 212) 91 = .ok (.iload_n 3, 1) := by decide +kernel
theorem s212_91 (d : Nat) (l0 : Value) (l1 : Value) (l2 : Value) (i3 : Int32) (l4 : Value) (w0 : Value) (σ : Hs) : ru d 212 91 [l0, l1, l2, .int i3, l4] [w0] σ = ru d 212 92 [l0, l1, l2, .int i3, l4] [.int i3, w0] σ := q_iload_n t212_91 rfl
theorem t212_92 : decode (mb 212) 92 = .ok (.if_icmp .ne 7, 3) := by decide +kernel
theorem s212_92 (d : Nat) (l0 : Value) (l1 : Value) (l2 : Value) (l3 : Value) (l4 : Value) (x y : Int32) (σ : Hs) : ru d 212 92 [l0, l1, l2, l3, l4] [.int y, .int x] σ = if x = y then ru d 212 95 [l0, l1, l2, l3, l4] [] σ else ru d 212 99 [l0, l1, l2, l3, l4] [] σ := q_ic_ne t212_92 (by decide +kernel)
theorem t212_95 : decode (mb 212) 95 = .ok (.iconst 0, 1) := by decide +kernel
theorem s212_95 (d : Nat) (l0 : Value) (l1 : Value) (l2 : Value) (l3 : Value) (l4 : Value) (σ : Hs) : ru d 212 95 [l0, l1, l2, l3, l4] [] σ = ru d 212 96 [l0, l1, l2, l3, l4] [.int 0] σ := q_iconst t212_95 (by decide +kernel)
theorem t212_96 : decode (mb 212) 96 = .ok (.goto 7, 3) := by decide +kernel
theorem s212_96 (d : Nat) (l0 : Value) (l1 : Value) (l2 : Value) (l3 : Value) (l4 : Value) (w0 : Value) (σ : Hs) : ru d 212 96 [l0, l1, l2, l3, l4] [w0] σ = ru d 212 103 [l0, l1, l2, l3, l4] [w0] σ := q_goto t212_96 (by decide +kernel)
theorem t212_99 : decode (mb 212) 99 = .ok (.iconst 1, 1) := by decide +kernel
theorem s212_99 (d : Nat) (l0 : Value) (l1 : Value) (l2 : Value) (l3 : Value) (l4 : Value) (σ : Hs) : ru d 212 99 [l0, l1, l2, l3, l4] [] σ = ru d 212 100 [l0, l1, l2, l3, l4] [.int 1] σ := q_iconst t212_99 (by decide +kernel)
theorem t212_100 : decode (mb 212) 100 = .ok (.iload 4, 2) := by decide +kernel
theorem s212_100 (d : Nat) (l0 : Value) (l1 : Value) (l2 : Value) (l3 : Value) (i4 : Int32) (w0 : Value) (σ : Hs) : ru d 212 100 [l0, l1, l2, l3, .int i4] [w0] σ = ru d 212 102 [l0, l1, l2, l3, .int i4] [.int i4, w0] σ := q_iload t212_100 rfl
theorem t212_102 : decode (mb 212) 102 = .ok (.iadd, 1) := by decide +kernel
theorem s212_102 (d : Nat) (l0 : Value) (l1 : Value) (l2 : Value) (l3 : Value) (l4 : Value) (x y : Int32) (σ : Hs) : ru d 212 102 [l0, l1, l2, l3, l4] [.int y, .int x] σ = ru d 212 103 [l0, l1, l2, l3, l4] [.int (x + y)] σ := q_iadd t212_102
theorem t212_103 : decode (mb 212) 103 = .ok (.ireturn, 1) := by decide +kernel
theorem s212_103 (d : Nat) (l0 : Value) (l1 : Value) (l2 : Value) (l3 : Value) (l4 : Value) (x : Int32) (σ : Hs) : ru d 212 103 [l0, l1, l2, l3, l4] [.int x] σ = some (some (.int x), σ) := q_ireti t212_103 mr212
theorem c212 (d : Nat) (x0 : Nat) (x1 : Int32) (σ : Hs) : callD (d + 1) 212 [.ref x0, .int x1] σ = ru d 212 0 [.ref x0, .int x1, uu, uu, uu] [] σ := callD_ru ml212 rfl rfl (Nat.le_of_ble_eq_true rfl)
