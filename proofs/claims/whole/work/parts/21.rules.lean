-- 212: Model.count(I)I
theorem t212_0 : decode (mb 212) 0 = .ok (.iload_n 1, 1) := by decide +kernel
theorem s212_0 (d : Nat) (l0 : Value) (i1 : Int32) (σ : Hs) : ru d 212 0 [l0, .int i1] [] σ = ru d 212 1 [l0, .int i1] [.int i1] σ := q_iload_n t212_0 rfl
theorem t212_1 : decode (mb 212) 1 = .ok (.tableswitch 101 0 7 #[47, 53, 60, 68, 75, 82, 89, 94], 47) := by decide +kernel
theorem f212_1 (x : Int32) : (tsw 0 7 #[47, 53, 60, 68, 75, 82, 89, 94] 101 x.toInt).bind (tgt 1) = some (if x = 0 then 48 else (if x = 1 then 54 else (if x = 2 then 61 else (if x = 3 then 69 else (if x = 4 then 76 else (if x = 5 then 83 else (if x = 6 then 90 else (if x = 7 then 95 else 102)))))))) := by
  by_cases h0 : x = 0
  · subst h0; decide +kernel
  by_cases h1 : x = 1
  · subst h1; decide +kernel
  by_cases h2 : x = 2
  · subst h2; decide +kernel
  by_cases h3 : x = 3
  · subst h3; decide +kernel
  by_cases h4 : x = 4
  · subst h4; decide +kernel
  by_cases h5 : x = 5
  · subst h5; decide +kernel
  by_cases h6 : x = 6
  · subst h6; decide +kernel
  by_cases h7 : x = 7
  · subst h7; decide +kernel
  have e0 : ¬ x.toInt = 0 := fun h => h0 (Int32.toInt_inj.mp (h.trans (by decide +kernel)))
  have e1 : ¬ x.toInt = 1 := fun h => h1 (Int32.toInt_inj.mp (h.trans (by decide +kernel)))
  have e2 : ¬ x.toInt = 2 := fun h => h2 (Int32.toInt_inj.mp (h.trans (by decide +kernel)))
  have e3 : ¬ x.toInt = 3 := fun h => h3 (Int32.toInt_inj.mp (h.trans (by decide +kernel)))
  have e4 : ¬ x.toInt = 4 := fun h => h4 (Int32.toInt_inj.mp (h.trans (by decide +kernel)))
  have e5 : ¬ x.toInt = 5 := fun h => h5 (Int32.toInt_inj.mp (h.trans (by decide +kernel)))
  have e6 : ¬ x.toInt = 6 := fun h => h6 (Int32.toInt_inj.mp (h.trans (by decide +kernel)))
  have e7 : ¬ x.toInt = 7 := fun h => h7 (Int32.toInt_inj.mp (h.trans (by decide +kernel)))
  have e : x.toInt < 0 ∨ 7 < x.toInt := by omega
  unfold tsw
  rw [if_pos e, if_neg h0, if_neg h1, if_neg h2, if_neg h3, if_neg h4, if_neg h5, if_neg h6, if_neg h7]
  decide +kernel
theorem s212_1 (d : Nat) (l0 : Value) (l1 : Value) (x : Int32) (σ : Hs) : ru d 212 1 [l0, l1] [.int x] σ = if x = 0 then ru d 212 48 [l0, l1] [] σ else if x = 1 then ru d 212 54 [l0, l1] [] σ else if x = 2 then ru d 212 61 [l0, l1] [] σ else if x = 3 then ru d 212 69 [l0, l1] [] σ else if x = 4 then ru d 212 76 [l0, l1] [] σ else if x = 5 then ru d 212 83 [l0, l1] [] σ else if x = 6 then ru d 212 90 [l0, l1] [] σ else if x = 7 then ru d 212 95 [l0, l1] [] σ else ru d 212 102 [l0, l1] [] σ := by
  refine (q_tsw t212_1 (fun x => (if x = 0 then 48 else (if x = 1 then 54 else (if x = 2 then 61 else (if x = 3 then 69 else (if x = 4 then 76 else (if x = 5 then 83 else (if x = 6 then 90 else (if x = 7 then 95 else 102))))))))) (f212_1 x)).trans ?_
  by_cases h0 : x = 0
  · rw [if_pos h0, if_pos h0]
  rw [if_neg h0, if_neg h0]
  by_cases h1 : x = 1
  · rw [if_pos h1, if_pos h1]
  rw [if_neg h1, if_neg h1]
  by_cases h2 : x = 2
  · rw [if_pos h2, if_pos h2]
  rw [if_neg h2, if_neg h2]
  by_cases h3 : x = 3
  · rw [if_pos h3, if_pos h3]
  rw [if_neg h3, if_neg h3]
  by_cases h4 : x = 4
  · rw [if_pos h4, if_pos h4]
  rw [if_neg h4, if_neg h4]
  by_cases h5 : x = 5
  · rw [if_pos h5, if_pos h5]
  rw [if_neg h5, if_neg h5]
  by_cases h6 : x = 6
  · rw [if_pos h6, if_pos h6]
  rw [if_neg h6, if_neg h6]
  by_cases h7 : x = 7
  · rw [if_pos h7, if_pos h7]
  rw [if_neg h7, if_neg h7]
theorem t212_48 : decode (mb 212) 48 = .ok (.aload_n 0, 1) := by decide +kernel
theorem s212_48 (d : Nat) (a0 : Nat) (l1 : Value) (σ : Hs) : ru d 212 48 [.ref a0, l1] [] σ = ru d 212 49 [.ref a0, l1] [.ref a0] σ := q_aload_n t212_48 rfl
theorem t212_49 : decode (mb 212) 49 = .ok (.iconst 0, 1) := by decide +kernel
theorem s212_49 (d : Nat) (l0 : Value) (l1 : Value) (w0 : Value) (σ : Hs) : ru d 212 49 [l0, l1] [w0] σ = ru d 212 50 [l0, l1] [.int 0, w0] σ := q_iconst t212_49 (by decide +kernel)
theorem t212_50 : decode (mb 212) 50 = .ok (.invokevirtual 221, 3) := by decide +kernel
theorem s212_50_o87 (d : Nat) (l0 : Value) (l1 : Value) (v1 : Value) (σ : Hs) : ru d 212 50 [l0, l1] [v1, .ref 87] σ = kont (callD d 159 [.ref 87, v1] σ) d 212 53 [l0, l1] [] := q_invv t212_50 mo212 K8_221 mj159 rfl rfl rfl rfl (Nat.le_of_ble_eq_true rfl)
theorem t212_53 : decode (mb 212) 53 = .ok (.ireturn, 1) := by decide +kernel
theorem s212_53 (d : Nat) (l0 : Value) (l1 : Value) (x : Int32) (σ : Hs) : ru d 212 53 [l0, l1] [.int x] σ = some (some (.int x), σ) := q_ireti t212_53 mr212
theorem t212_54 : decode (mb 212) 54 = .ok (.aload_n 0, 1) := by decide +kernel
theorem s212_54 (d : Nat) (a0 : Nat) (l1 : Value) (σ : Hs) : ru d 212 54 [.ref a0, l1] [] σ = ru d 212 55 [.ref a0, l1] [.ref a0] σ := q_aload_n t212_54 rfl
theorem t212_55 : decode (mb 212) 55 = .ok (.getfield 9, 3) := by decide +kernel
theorem s212_55_o87 (d : Nat) (l0 : Value) (l1 : Value) (σ : Hs) : ru d 212 55 [l0, l1] [.ref 87] σ = ru d 212 58 [l0, l1] [.ref 88] σ := q_getf t212_55 mo212 F8_9 rfl rfl
theorem t212_58 : decode (mb 212) 58 = .ok (.iconst 0, 1) := by decide +kernel
theorem s212_58 (d : Nat) (l0 : Value) (l1 : Value) (w0 : Value) (σ : Hs) : ru d 212 58 [l0, l1] [w0] σ = ru d 212 59 [l0, l1] [.int 0, w0] σ := q_iconst t212_58 (by decide +kernel)
theorem t212_59 : decode (mb 212) 59 = .ok (.iaload, 1) := by decide +kernel
theorem s212_59_o88 (d : Nat) (l0 : Value) (l1 : Value) (i : Int32) (σ : Hs) : ru d 212 59 [l0, l1] [.int i, .ref 88] σ = gd (vp_in i 545) (ru d 212 60 [l0, l1] [.int (σ 88 i.toNatClampNeg)] σ) := q_iald t212_59 rfl (by decide +kernel) rfl
theorem t212_60 : decode (mb 212) 60 = .ok (.ireturn, 1) := by decide +kernel
theorem s212_60 (d : Nat) (l0 : Value) (l1 : Value) (x : Int32) (σ : Hs) : ru d 212 60 [l0, l1] [.int x] σ = some (some (.int x), σ) := q_ireti t212_60 mr212
theorem t212_61 : decode (mb 212) 61 = .ok (.aload_n 0, 1) := by decide +kernel
theorem s212_61 (d : Nat) (a0 : Nat) (l1 : Value) (σ : Hs) : ru d 212 61 [.ref a0, l1] [] σ = ru d 212 62 [.ref a0, l1] [.ref a0] σ := q_aload_n t212_61 rfl
theorem t212_62 : decode (mb 212) 62 = .ok (.getfield 9, 3) := by decide +kernel
theorem s212_62_o87 (d : Nat) (l0 : Value) (l1 : Value) (σ : Hs) : ru d 212 62 [l0, l1] [.ref 87] σ = ru d 212 65 [l0, l1] [.ref 88] σ := q_getf t212_62 mo212 F8_9 rfl rfl
theorem t212_65 : decode (mb 212) 65 = .ok (.bipush 13, 2) := by decide +kernel
theorem s212_65 (d : Nat) (l0 : Value) (l1 : Value) (w0 : Value) (σ : Hs) : ru d 212 65 [l0, l1] [w0] σ = ru d 212 67 [l0, l1] [.int 13, w0] σ := q_bipush t212_65 (by decide +kernel)
theorem t212_67 : decode (mb 212) 67 = .ok (.iaload, 1) := by decide +kernel
theorem s212_67_o88 (d : Nat) (l0 : Value) (l1 : Value) (i : Int32) (σ : Hs) : ru d 212 67 [l0, l1] [.int i, .ref 88] σ = gd (vp_in i 545) (ru d 212 68 [l0, l1] [.int (σ 88 i.toNatClampNeg)] σ) := q_iald t212_67 rfl (by decide +kernel) rfl
theorem t212_68 : decode (mb 212) 68 = .ok (.ireturn, 1) := by decide +kernel
theorem s212_68 (d : Nat) (l0 : Value) (l1 : Value) (x : Int32) (σ : Hs) : ru d 212 68 [l0, l1] [.int x] σ = some (some (.int x), σ) := q_ireti t212_68 mr212
theorem t212_69 : decode (mb 212) 69 = .ok (.aload_n 0, 1) := by decide +kernel
theorem s212_69 (d : Nat) (a0 : Nat) (l1 : Value) (σ : Hs) : ru d 212 69 [.ref a0, l1] [] σ = ru d 212 70 [.ref a0, l1] [.ref a0] σ := q_aload_n t212_69 rfl
theorem t212_70 : decode (mb 212) 70 = .ok (.getfield 9, 3) := by decide +kernel
theorem s212_70_o87 (d : Nat) (l0 : Value) (l1 : Value) (σ : Hs) : ru d 212 70 [l0, l1] [.ref 87] σ = ru d 212 73 [l0, l1] [.ref 88] σ := q_getf t212_70 mo212 F8_9 rfl rfl
theorem t212_73 : decode (mb 212) 73 = .ok (.iconst 4, 1) := by decide +kernel
theorem s212_73 (d : Nat) (l0 : Value) (l1 : Value) (w0 : Value) (σ : Hs) : ru d 212 73 [l0, l1] [w0] σ = ru d 212 74 [l0, l1] [.int 4, w0] σ := q_iconst t212_73 (by decide +kernel)
theorem t212_74 : decode (mb 212) 74 = .ok (.iaload, 1) := by decide +kernel
theorem s212_74_o88 (d : Nat) (l0 : Value) (l1 : Value) (i : Int32) (σ : Hs) : ru d 212 74 [l0, l1] [.int i, .ref 88] σ = gd (vp_in i 545) (ru d 212 75 [l0, l1] [.int (σ 88 i.toNatClampNeg)] σ) := q_iald t212_74 rfl (by decide +kernel) rfl
theorem t212_75 : decode (mb 212) 75 = .ok (.ireturn, 1) := by decide +kernel
theorem s212_75 (d : Nat) (l0 : Value) (l1 : Value) (x : Int32) (σ : Hs) : ru d 212 75 [l0, l1] [.int x] σ = some (some (.int x), σ) := q_ireti t212_75 mr212
theorem t212_76 : decode (mb 212) 76 = .ok (.aload_n 0, 1) := by decide +kernel
theorem s212_76 (d : Nat) (a0 : Nat) (l1 : Value) (σ : Hs) : ru d 212 76 [.ref a0, l1] [] σ = ru d 212 77 [.ref a0, l1] [.ref a0] σ := q_aload_n t212_76 rfl
theorem t212_77 : decode (mb 212) 77 = .ok (.getfield 9, 3) := by decide +kernel
theorem s212_77_o87 (d : Nat) (l0 : Value) (l1 : Value) (σ : Hs) : ru d 212 77 [l0, l1] [.ref 87] σ = ru d 212 80 [l0, l1] [.ref 88] σ := q_getf t212_77 mo212 F8_9 rfl rfl
theorem t212_80 : decode (mb 212) 80 = .ok (.iconst 1, 1) := by decide +kernel
theorem s212_80 (d : Nat) (l0 : Value) (l1 : Value) (w0 : Value) (σ : Hs) : ru d 212 80 [l0, l1] [w0] σ = ru d 212 81 [l0, l1] [.int 1, w0] σ := q_iconst t212_80 (by decide +kernel)
theorem t212_81 : decode (mb 212) 81 = .ok (.iaload, 1) := by decide +kernel
theorem s212_81_o88 (d : Nat) (l0 : Value) (l1 : Value) (i : Int32) (σ : Hs) : ru d 212 81 [l0, l1] [.int i, .ref 88] σ = gd (vp_in i 545) (ru d 212 82 [l0, l1] [.int (σ 88 i.toNatClampNeg)] σ) := q_iald t212_81 rfl (by decide +kernel) rfl
theorem t212_82 : decode (mb 212) 82 = .ok (.ireturn, 1) := by decide +kernel
theorem s212_82 (d : Nat) (l0 : Value) (l1 : Value) (x : Int32) (σ : Hs) : ru d 212 82 [l0, l1] [.int x] σ = some (some (.int x), σ) := q_ireti t212_82 mr212
theorem t212_83 : decode (mb 212) 83 = .ok (.aload_n 0, 1) := by decide +kernel
theorem s212_83 (d : Nat) (a0 : Nat) (l1 : Value) (σ : Hs) : ru d 212 83 [.ref a0, l1] [] σ = ru d 212 84 [.ref a0, l1] [.ref a0] σ := q_aload_n t212_83 rfl
theorem t212_84 : decode (mb 212) 84 = .ok (.getfield 9, 3) := by decide +kernel
theorem s212_84_o87 (d : Nat) (l0 : Value) (l1 : Value) (σ : Hs) : ru d 212 84 [l0, l1] [.ref 87] σ = ru d 212 87 [l0, l1] [.ref 88] σ := q_getf t212_84 mo212 F8_9 rfl rfl
theorem t212_87 : decode (mb 212) 87 = .ok (.iconst 2, 1) := by decide +kernel
theorem s212_87 (d : Nat) (l0 : Value) (l1 : Value) (w0 : Value) (σ : Hs) : ru d 212 87 [l0, l1] [w0] σ = ru d 212 88 [l0, l1] [.int 2, w0] σ := q_iconst t212_87 (by decide +kernel)
theorem t212_88 : decode (mb 212) 88 = .ok (.iaload, 1) := by decide +kernel
theorem s212_88_o88 (d : Nat) (l0 : Value) (l1 : Value) (i : Int32) (σ : Hs) : ru d 212 88 [l0, l1] [.int i, .ref 88] σ = gd (vp_in i 545) (ru d 212 89 [l0, l1] [.int (σ 88 i.toNatClampNeg)] σ) := q_iald t212_88 rfl (by decide +kernel) rfl
theorem t212_89 : decode (mb 212) 89 = .ok (.ireturn, 1) := by decide +kernel
theorem s212_89 (d : Nat) (l0 : Value) (l1 : Value) (x : Int32) (σ : Hs) : ru d 212 89 [l0, l1] [.int x] σ = some (some (.int x), σ) := q_ireti t212_89 mr212
theorem t212_90 : decode (mb 212) 90 = .ok (.aload_n 0, 1) := by decide +kernel
theorem s212_90 (d : Nat) (a0 : Nat) (l1 : Value) (σ : Hs) : ru d 212 90 [.ref a0, l1] [] σ = ru d 212 91 [.ref a0, l1] [.ref a0] σ := q_aload_n t212_90 rfl
theorem t212_91 : decode (mb 212) 91 = .ok (.getfield 303, 3) := by decide +kernel
theorem s212_91_o87 (d : Nat) (l0 : Value) (l1 : Value) (σ : Hs) : ru d 212 91 [l0, l1] [.ref 87] σ = ru d 212 94 [l0, l1] [.int (σ 87 19)] σ := q_getf t212_91 mo212 F8_303 rfl rfl
theorem t212_94 : decode (mb 212) 94 = .ok (.ireturn, 1) := by decide +kernel
theorem s212_94 (d : Nat) (l0 : Value) (l1 : Value) (x : Int32) (σ : Hs) : ru d 212 94 [l0, l1] [.int x] σ = some (some (.int x), σ) := q_ireti t212_94 mr212
theorem t212_95 : decode (mb 212) 95 = .ok (.aload_n 0, 1) := by decide +kernel
theorem s212_95 (d : Nat) (a0 : Nat) (l1 : Value) (σ : Hs) : ru d 212 95 [.ref a0, l1] [] σ = ru d 212 96 [.ref a0, l1] [.ref a0] σ := q_aload_n t212_95 rfl
theorem t212_96 : decode (mb 212) 96 = .ok (.getfield 9, 3) := by decide +kernel
theorem s212_96_o87 (d : Nat) (l0 : Value) (l1 : Value) (σ : Hs) : ru d 212 96 [l0, l1] [.ref 87] σ = ru d 212 99 [l0, l1] [.ref 88] σ := q_getf t212_96 mo212 F8_9 rfl rfl
theorem t212_99 : decode (mb 212) 99 = .ok (.iconst 3, 1) := by decide +kernel
theorem s212_99 (d : Nat) (l0 : Value) (l1 : Value) (w0 : Value) (σ : Hs) : ru d 212 99 [l0, l1] [w0] σ = ru d 212 100 [l0, l1] [.int 3, w0] σ := q_iconst t212_99 (by decide +kernel)
theorem t212_100 : decode (mb 212) 100 = .ok (.iaload, 1) := by decide +kernel
theorem s212_100_o88 (d : Nat) (l0 : Value) (l1 : Value) (i : Int32) (σ : Hs) : ru d 212 100 [l0, l1] [.int i, .ref 88] σ = gd (vp_in i 545) (ru d 212 101 [l0, l1] [.int (σ 88 i.toNatClampNeg)] σ) := q_iald t212_100 rfl (by decide +kernel) rfl
theorem t212_101 : decode (mb 212) 101 = .ok (.ireturn, 1) := by decide +kernel
theorem s212_101 (d : Nat) (l0 : Value) (l1 : Value) (x : Int32) (σ : Hs) : ru d 212 101 [l0, l1] [.int x] σ = some (some (.int x), σ) := q_ireti t212_101 mr212
theorem t212_102 : decode (mb 212) 102 = .ok (.aload_n 0, 1) := by decide +kernel
theorem s212_102 (d : Nat) (a0 : Nat) (l1 : Value) (σ : Hs) : ru d 212 102 [.ref a0, l1] [] σ = ru d 212 103 [.ref a0, l1] [.ref a0] σ := q_aload_n t212_102 rfl
theorem t212_103 : decode (mb 212) 103 = .ok (.ldc 104, 2) := by decide +kernel
theorem s212_103 (d : Nat) (l0 : Value) (l1 : Value) (w0 : Value) (σ : Hs) : ru d 212 103 [l0, l1] [w0] σ = ru d 212 105 [l0, l1] [.int (-1000001), w0] σ := q_ldc t212_103 mo212 C8_104
theorem t212_105 : decode (mb 212) 105 = .ok (.invokevirtual 105, 3) := by decide +kernel
theorem s212_105_o87 (d : Nat) (l0 : Value) (l1 : Value) (v1 : Value) (σ : Hs) : ru d 212 105 [l0, l1] [v1, .ref 87] σ = kont (callD d 111 [.ref 87, v1] σ) d 212 108 [l0, l1] [] := q_invv t212_105 mo212 K8_105 mj111 rfl rfl rfl rfl (Nat.le_of_ble_eq_true rfl)
theorem t212_108 : decode (mb 212) 108 = .ok (.ireturn, 1) := by decide +kernel
theorem s212_108 (d : Nat) (l0 : Value) (l1 : Value) (x : Int32) (σ : Hs) : ru d 212 108 [l0, l1] [.int x] σ = some (some (.int x), σ) := q_ireti t212_108 mr212
theorem c212 (d : Nat) (x0 : Nat) (x1 : Int32) (σ : Hs) : callD (d + 1) 212 [.ref x0, .int x1] σ = ru d 212 0 [.ref x0, .int x1] [] σ := callD_ru ml212 rfl rfl (Nat.le_of_ble_eq_true rfl)
-- 213: Model.told(I)I
theorem t213_0 : decode (mb 213) 0 = .ok (.iload_n 1, 1) := by decide +kernel
theorem s213_0 (d : Nat) (l0 : Value) (i1 : Int32) (σ : Hs) : ru d 213 0 [l0, .int i1] [] σ = ru d 213 1 [l0, .int i1] [.int i1] σ := q_iload_n t213_0 rfl
theorem t213_1 : decode (mb 213) 1 = .ok (.iconst 1, 1) := by decide +kernel
theorem s213_1 (d : Nat) (l0 : Value) (l1 : Value) (w0 : Value) (σ : Hs) : ru d 213 1 [l0, l1] [w0] σ = ru d 213 2 [l0, l1] [.int 1, w0] σ := q_iconst t213_1 (by decide +kernel)
theorem t213_2 : decode (mb 213) 2 = .ok (.bipush 6, 2) := by decide +kernel
theorem s213_2 (d : Nat) (l0 : Value) (l1 : Value) (w0 w1 : Value) (σ : Hs) : ru d 213 2 [l0, l1] [w0, w1] σ = ru d 213 4 [l0, l1] [.int 6, w0, w1] σ := q_bipush t213_2 (by decide +kernel)
theorem t213_4 : decode (mb 213) 4 = .ok (.invokestatic 81, 3) := by decide +kernel
theorem s213_4 (d : Nat) (l0 : Value) (l1 : Value) (v0 v1 v2 : Value) (σ : Hs) : ru d 213 4 [l0, l1] [v2, v1, v0] σ = kont (callD d 112 [v0, v1, v2] σ) d 213 7 [l0, l1] [] := q_invs t213_4 mo213 (by decide +kernel) K8_81 mj112 (Nat.le_of_ble_eq_true rfl) rfl rfl (Nat.le_of_ble_eq_true rfl)
theorem t213_7 : decode (mb 213) 7 = .ok (.ifCond .eq 12, 3) := by decide +kernel
theorem s213_7 (d : Nat) (l0 : Value) (l1 : Value) (x : Int32) (σ : Hs) : ru d 213 7 [l0, l1] [.int x] σ = if x = 0 then ru d 213 19 [l0, l1] [] σ else ru d 213 10 [l0, l1] [] σ := q_if_eq t213_7 (by decide +kernel)
theorem t213_10 : decode (mb 213) 10 = .ok (.aload_n 0, 1) := by decide +kernel
theorem s213_10 (d : Nat) (a0 : Nat) (l1 : Value) (σ : Hs) : ru d 213 10 [.ref a0, l1] [] σ = ru d 213 11 [.ref a0, l1] [.ref a0] σ := q_aload_n t213_10 rfl
theorem t213_11 : decode (mb 213) 11 = .ok (.getfield 19, 3) := by decide +kernel
theorem s213_11_o87 (d : Nat) (l0 : Value) (l1 : Value) (σ : Hs) : ru d 213 11 [l0, l1] [.ref 87] σ = ru d 213 14 [l0, l1] [.ref 91] σ := q_getf t213_11 mo213 F8_19 rfl rfl
theorem t213_14 : decode (mb 213) 14 = .ok (.iload_n 1, 1) := by decide +kernel
theorem s213_14 (d : Nat) (l0 : Value) (i1 : Int32) (w0 : Value) (σ : Hs) : ru d 213 14 [l0, .int i1] [w0] σ = ru d 213 15 [l0, .int i1] [.int i1, w0] σ := q_iload_n t213_14 rfl
theorem t213_15 : decode (mb 213) 15 = .ok (.iaload, 1) := by decide +kernel
theorem s213_15_o91 (d : Nat) (l0 : Value) (l1 : Value) (i : Int32) (σ : Hs) : ru d 213 15 [l0, l1] [.int i, .ref 91] σ = gd (vp_in i 7) (ru d 213 16 [l0, l1] [.int (σ 91 i.toNatClampNeg)] σ) := q_iald t213_15 rfl (by decide +kernel) rfl
theorem t213_16 : decode (mb 213) 16 = .ok (.goto 9, 3) := by decide +kernel
theorem s213_16 (d : Nat) (l0 : Value) (l1 : Value) (w0 : Value) (σ : Hs) : ru d 213 16 [l0, l1] [w0] σ = ru d 213 25 [l0, l1] [w0] σ := q_goto t213_16 (by decide +kernel)
theorem t213_19 : decode (mb 213) 19 = .ok (.aload_n 0, 1) := by decide +kernel
theorem s213_19 (d : Nat) (a0 : Nat) (l1 : Value) (σ : Hs) : ru d 213 19 [.ref a0, l1] [] σ = ru d 213 20 [.ref a0, l1] [.ref a0] σ := q_aload_n t213_19 rfl
theorem t213_20 : decode (mb 213) 20 = .ok (.ldc 104, 2) := by decide +kernel
theorem s213_20 (d : Nat) (l0 : Value) (l1 : Value) (w0 : Value) (σ : Hs) : ru d 213 20 [l0, l1] [w0] σ = ru d 213 22 [l0, l1] [.int (-1000001), w0] σ := q_ldc t213_20 mo213 C8_104
theorem t213_22 : decode (mb 213) 22 = .ok (.invokevirtual 105, 3) := by decide +kernel
theorem s213_22_o87 (d : Nat) (l0 : Value) (l1 : Value) (v1 : Value) (σ : Hs) : ru d 213 22 [l0, l1] [v1, .ref 87] σ = kont (callD d 111 [.ref 87, v1] σ) d 213 25 [l0, l1] [] := q_invv t213_22 mo213 K8_105 mj111 rfl rfl rfl rfl (Nat.le_of_ble_eq_true rfl)
theorem t213_25 : decode (mb 213) 25 = .ok (.ireturn, 1) := by decide +kernel
theorem s213_25 (d : Nat) (l0 : Value) (l1 : Value) (x : Int32) (σ : Hs) : ru d 213 25 [l0, l1] [.int x] σ = some (some (.int x), σ) := q_ireti t213_25 mr213
theorem c213 (d : Nat) (x0 : Nat) (x1 : Int32) (σ : Hs) : callD (d + 1) 213 [.ref x0, .int x1] σ = ru d 213 0 [.ref x0, .int x1] [] σ := callD_ru ml213 rfl rfl (Nat.le_of_ble_eq_true rfl)
-- 214: String.isLatin1()Z
theorem t214_0 : decode (mb 214) 0 = .ok (.getstatic 38, 3) := by decide +kernel
theorem s214_0 (d : Nat) (l0 : Value) (σ : Hs) : ru d 214 0 [l0] [] σ = ru d 214 3 [l0] [.int 1] σ := q_gets t214_0 mo214 S9_38 rfl
theorem t214_3 : decode (mb 214) 3 = .ok (.ifCond .eq 14, 3) := by decide +kernel
theorem s214_3 (d : Nat) (l0 : Value) (x : Int32) (σ : Hs) : ru d 214 3 [l0] [.int x] σ = if x = 0 then ru d 214 17 [l0] [] σ else ru d 214 6 [l0] [] σ := q_if_eq t214_3 (by decide +kernel)
theorem t214_6 : decode (mb 214) 6 = .ok (.aload_n 0, 1) := by decide +kernel
theorem s214_6 (d : Nat) (a0 : Nat) (σ : Hs) : ru d 214 6 [.ref a0] [] σ = ru d 214 7 [.ref a0] [.ref a0] σ := q_aload_n t214_6 rfl
theorem t214_7 : decode (mb 214) 7 = .ok (.getfield 15, 3) := by decide +kernel
theorem s214_7_o111 (d : Nat) (l0 : Value) (σ : Hs) : ru d 214 7 [l0] [.ref 111] σ = ru d 214 10 [l0] [.int 0] σ := q_getf t214_7 mo214 F9_15 rfl rfl
theorem s214_7_o112 (d : Nat) (l0 : Value) (σ : Hs) : ru d 214 7 [l0] [.ref 112] σ = ru d 214 10 [l0] [.int 0] σ := q_getf t214_7 mo214 F9_15 rfl rfl
theorem s214_7_o113 (d : Nat) (l0 : Value) (σ : Hs) : ru d 214 7 [l0] [.ref 113] σ = ru d 214 10 [l0] [.int 0] σ := q_getf t214_7 mo214 F9_15 rfl rfl
theorem s214_7_o114 (d : Nat) (l0 : Value) (σ : Hs) : ru d 214 7 [l0] [.ref 114] σ = ru d 214 10 [l0] [.int 0] σ := q_getf t214_7 mo214 F9_15 rfl rfl
theorem s214_7_o115 (d : Nat) (l0 : Value) (σ : Hs) : ru d 214 7 [l0] [.ref 115] σ = ru d 214 10 [l0] [.int 0] σ := q_getf t214_7 mo214 F9_15 rfl rfl
theorem s214_7_o116 (d : Nat) (l0 : Value) (σ : Hs) : ru d 214 7 [l0] [.ref 116] σ = ru d 214 10 [l0] [.int 0] σ := q_getf t214_7 mo214 F9_15 rfl rfl
theorem s214_7_o117 (d : Nat) (l0 : Value) (σ : Hs) : ru d 214 7 [l0] [.ref 117] σ = ru d 214 10 [l0] [.int 0] σ := q_getf t214_7 mo214 F9_15 rfl rfl
theorem s214_7_o118 (d : Nat) (l0 : Value) (σ : Hs) : ru d 214 7 [l0] [.ref 118] σ = ru d 214 10 [l0] [.int 0] σ := q_getf t214_7 mo214 F9_15 rfl rfl
theorem s214_7_o119 (d : Nat) (l0 : Value) (σ : Hs) : ru d 214 7 [l0] [.ref 119] σ = ru d 214 10 [l0] [.int 0] σ := q_getf t214_7 mo214 F9_15 rfl rfl
theorem s214_7_o120 (d : Nat) (l0 : Value) (σ : Hs) : ru d 214 7 [l0] [.ref 120] σ = ru d 214 10 [l0] [.int 0] σ := q_getf t214_7 mo214 F9_15 rfl rfl
theorem s214_7_o121 (d : Nat) (l0 : Value) (σ : Hs) : ru d 214 7 [l0] [.ref 121] σ = ru d 214 10 [l0] [.int 0] σ := q_getf t214_7 mo214 F9_15 rfl rfl
theorem t214_10 : decode (mb 214) 10 = .ok (.ifCond .ne 7, 3) := by decide +kernel
theorem s214_10 (d : Nat) (l0 : Value) (x : Int32) (σ : Hs) : ru d 214 10 [l0] [.int x] σ = if x = 0 then ru d 214 13 [l0] [] σ else ru d 214 17 [l0] [] σ := q_if_ne t214_10 (by decide +kernel)
theorem t214_13 : decode (mb 214) 13 = .ok (.iconst 1, 1) := by decide +kernel
theorem s214_13 (d : Nat) (l0 : Value) (σ : Hs) : ru d 214 13 [l0] [] σ = ru d 214 14 [l0] [.int 1] σ := q_iconst t214_13 (by decide +kernel)
theorem t214_14 : decode (mb 214) 14 = .ok (.goto 4, 3) := by decide +kernel
theorem s214_14 (d : Nat) (l0 : Value) (w0 : Value) (σ : Hs) : ru d 214 14 [l0] [w0] σ = ru d 214 18 [l0] [w0] σ := q_goto t214_14 (by decide +kernel)
theorem t214_17 : decode (mb 214) 17 = .ok (.iconst 0, 1) := by decide +kernel
theorem s214_17 (d : Nat) (l0 : Value) (σ : Hs) : ru d 214 17 [l0] [] σ = ru d 214 18 [l0] [.int 0] σ := q_iconst t214_17 (by decide +kernel)
theorem t214_18 : decode (mb 214) 18 = .ok (.ireturn, 1) := by decide +kernel
theorem s214_18 (d : Nat) (l0 : Value) (x : Int32) (hx : isB x) (σ : Hs) : ru d 214 18 [l0] [.int x] σ = some (some (.int x), σ) := q_iretz t214_18 mr214 hx
theorem c214 (d : Nat) (x0 : Nat) (σ : Hs) : callD (d + 1) 214 [.ref x0] σ = ru d 214 0 [.ref x0] [] σ := callD_ru ml214 rfl rfl (Nat.le_of_ble_eq_true rfl)
-- 215: String.coder()B
theorem t215_0 : decode (mb 215) 0 = .ok (.getstatic 38, 3) := by decide +kernel
theorem s215_0 (d : Nat) (l0 : Value) (σ : Hs) : ru d 215 0 [l0] [] σ = ru d 215 3 [l0] [.int 1] σ := q_gets t215_0 mo215 S9_38 rfl
theorem t215_3 : decode (mb 215) 3 = .ok (.ifCond .eq 10, 3) := by decide +kernel
theorem s215_3 (d : Nat) (l0 : Value) (x : Int32) (σ : Hs) : ru d 215 3 [l0] [.int x] σ = if x = 0 then ru d 215 13 [l0] [] σ else ru d 215 6 [l0] [] σ := q_if_eq t215_3 (by decide +kernel)
theorem t215_6 : decode (mb 215) 6 = .ok (.aload_n 0, 1) := by decide +kernel
theorem s215_6 (d : Nat) (a0 : Nat) (σ : Hs) : ru d 215 6 [.ref a0] [] σ = ru d 215 7 [.ref a0] [.ref a0] σ := q_aload_n t215_6 rfl
theorem t215_7 : decode (mb 215) 7 = .ok (.getfield 15, 3) := by decide +kernel
theorem s215_7_o111 (d : Nat) (l0 : Value) (σ : Hs) : ru d 215 7 [l0] [.ref 111] σ = ru d 215 10 [l0] [.int 0] σ := q_getf t215_7 mo215 F9_15 rfl rfl
theorem s215_7_o112 (d : Nat) (l0 : Value) (σ : Hs) : ru d 215 7 [l0] [.ref 112] σ = ru d 215 10 [l0] [.int 0] σ := q_getf t215_7 mo215 F9_15 rfl rfl
theorem s215_7_o113 (d : Nat) (l0 : Value) (σ : Hs) : ru d 215 7 [l0] [.ref 113] σ = ru d 215 10 [l0] [.int 0] σ := q_getf t215_7 mo215 F9_15 rfl rfl
theorem s215_7_o114 (d : Nat) (l0 : Value) (σ : Hs) : ru d 215 7 [l0] [.ref 114] σ = ru d 215 10 [l0] [.int 0] σ := q_getf t215_7 mo215 F9_15 rfl rfl
theorem s215_7_o115 (d : Nat) (l0 : Value) (σ : Hs) : ru d 215 7 [l0] [.ref 115] σ = ru d 215 10 [l0] [.int 0] σ := q_getf t215_7 mo215 F9_15 rfl rfl
theorem s215_7_o116 (d : Nat) (l0 : Value) (σ : Hs) : ru d 215 7 [l0] [.ref 116] σ = ru d 215 10 [l0] [.int 0] σ := q_getf t215_7 mo215 F9_15 rfl rfl
theorem s215_7_o117 (d : Nat) (l0 : Value) (σ : Hs) : ru d 215 7 [l0] [.ref 117] σ = ru d 215 10 [l0] [.int 0] σ := q_getf t215_7 mo215 F9_15 rfl rfl
theorem s215_7_o118 (d : Nat) (l0 : Value) (σ : Hs) : ru d 215 7 [l0] [.ref 118] σ = ru d 215 10 [l0] [.int 0] σ := q_getf t215_7 mo215 F9_15 rfl rfl
theorem s215_7_o119 (d : Nat) (l0 : Value) (σ : Hs) : ru d 215 7 [l0] [.ref 119] σ = ru d 215 10 [l0] [.int 0] σ := q_getf t215_7 mo215 F9_15 rfl rfl
theorem s215_7_o120 (d : Nat) (l0 : Value) (σ : Hs) : ru d 215 7 [l0] [.ref 120] σ = ru d 215 10 [l0] [.int 0] σ := q_getf t215_7 mo215 F9_15 rfl rfl
theorem s215_7_o121 (d : Nat) (l0 : Value) (σ : Hs) : ru d 215 7 [l0] [.ref 121] σ = ru d 215 10 [l0] [.int 0] σ := q_getf t215_7 mo215 F9_15 rfl rfl
theorem t215_10 : decode (mb 215) 10 = .ok (.goto 4, 3) := by decide +kernel
theorem s215_10 (d : Nat) (l0 : Value) (w0 : Value) (σ : Hs) : ru d 215 10 [l0] [w0] σ = ru d 215 14 [l0] [w0] σ := q_goto t215_10 (by decide +kernel)
theorem t215_13 : decode (mb 215) 13 = .ok (.iconst 1, 1) := by decide +kernel
theorem s215_13 (d : Nat) (l0 : Value) (σ : Hs) : ru d 215 13 [l0] [] σ = ru d 215 14 [l0] [.int 1] σ := q_iconst t215_13 (by decide +kernel)
theorem t215_14 : decode (mb 215) 14 = .ok (.ireturn, 1) := by decide +kernel
theorem s215_14 (d : Nat) (l0 : Value) (x : Int32) (hx : narrow .byte (.int x) = .int x) (σ : Hs) : ru d 215 14 [l0] [.int x] σ = some (some (.int x), σ) := q_iretn t215_14 mr215 hx
theorem c215 (d : Nat) (x0 : Nat) (σ : Hs) : callD (d + 1) 215 [.ref x0] σ = ru d 215 0 [.ref x0] [] σ := callD_ru ml215 rfl rfl (Nat.le_of_ble_eq_true rfl)
-- 216: String.length()I
theorem t216_0 : decode (mb 216) 0 = .ok (.aload_n 0, 1) := by decide +kernel
theorem s216_0 (d : Nat) (a0 : Nat) (σ : Hs) : ru d 216 0 [.ref a0] [] σ = ru d 216 1 [.ref a0] [.ref a0] σ := q_aload_n t216_0 rfl
theorem t216_1 : decode (mb 216) 1 = .ok (.getfield 9, 3) := by decide +kernel
theorem s216_1_o111 (d : Nat) (l0 : Value) (σ : Hs) : ru d 216 1 [l0] [.ref 111] σ = ru d 216 4 [l0] [.ref 123] σ := q_getf t216_1 mo216 F9_9 rfl rfl
theorem s216_1_o112 (d : Nat) (l0 : Value) (σ : Hs) : ru d 216 1 [l0] [.ref 112] σ = ru d 216 4 [l0] [.ref 124] σ := q_getf t216_1 mo216 F9_9 rfl rfl
theorem s216_1_o113 (d : Nat) (l0 : Value) (σ : Hs) : ru d 216 1 [l0] [.ref 113] σ = ru d 216 4 [l0] [.ref 125] σ := q_getf t216_1 mo216 F9_9 rfl rfl
theorem s216_1_o114 (d : Nat) (l0 : Value) (σ : Hs) : ru d 216 1 [l0] [.ref 114] σ = ru d 216 4 [l0] [.ref 126] σ := q_getf t216_1 mo216 F9_9 rfl rfl
theorem s216_1_o115 (d : Nat) (l0 : Value) (σ : Hs) : ru d 216 1 [l0] [.ref 115] σ = ru d 216 4 [l0] [.ref 127] σ := q_getf t216_1 mo216 F9_9 rfl rfl
theorem s216_1_o116 (d : Nat) (l0 : Value) (σ : Hs) : ru d 216 1 [l0] [.ref 116] σ = ru d 216 4 [l0] [.ref 128] σ := q_getf t216_1 mo216 F9_9 rfl rfl
theorem s216_1_o117 (d : Nat) (l0 : Value) (σ : Hs) : ru d 216 1 [l0] [.ref 117] σ = ru d 216 4 [l0] [.ref 129] σ := q_getf t216_1 mo216 F9_9 rfl rfl
theorem s216_1_o118 (d : Nat) (l0 : Value) (σ : Hs) : ru d 216 1 [l0] [.ref 118] σ = ru d 216 4 [l0] [.ref 130] σ := q_getf t216_1 mo216 F9_9 rfl rfl
theorem s216_1_o119 (d : Nat) (l0 : Value) (σ : Hs) : ru d 216 1 [l0] [.ref 119] σ = ru d 216 4 [l0] [.ref 131] σ := q_getf t216_1 mo216 F9_9 rfl rfl
theorem s216_1_o120 (d : Nat) (l0 : Value) (σ : Hs) : ru d 216 1 [l0] [.ref 120] σ = ru d 216 4 [l0] [.ref 132] σ := q_getf t216_1 mo216 F9_9 rfl rfl
theorem s216_1_o121 (d : Nat) (l0 : Value) (σ : Hs) : ru d 216 1 [l0] [.ref 121] σ = ru d 216 4 [l0] [.ref 133] σ := q_getf t216_1 mo216 F9_9 rfl rfl
theorem t216_4 : decode (mb 216) 4 = .ok (.arraylength, 1) := by decide +kernel
theorem s216_4_o123 (d : Nat) (l0 : Value) (σ : Hs) : ru d 216 4 [l0] [.ref 123] σ = ru d 216 5 [l0] [.int 4] σ := q_alen t216_4 (by decide +kernel) (by decide +kernel) (by decide +kernel)
theorem s216_4_o124 (d : Nat) (l0 : Value) (σ : Hs) : ru d 216 4 [l0] [.ref 124] σ = ru d 216 5 [l0] [.int 4] σ := q_alen t216_4 (by decide +kernel) (by decide +kernel) (by decide +kernel)
theorem s216_4_o125 (d : Nat) (l0 : Value) (σ : Hs) : ru d 216 4 [l0] [.ref 125] σ = ru d 216 5 [l0] [.int 3] σ := q_alen t216_4 (by decide +kernel) (by decide +kernel) (by decide +kernel)
theorem s216_4_o126 (d : Nat) (l0 : Value) (σ : Hs) : ru d 216 4 [l0] [.ref 126] σ = ru d 216 5 [l0] [.int 1] σ := q_alen t216_4 (by decide +kernel) (by decide +kernel) (by decide +kernel)
theorem s216_4_o127 (d : Nat) (l0 : Value) (σ : Hs) : ru d 216 4 [l0] [.ref 127] σ = ru d 216 5 [l0] [.int 1] σ := q_alen t216_4 (by decide +kernel) (by decide +kernel) (by decide +kernel)
theorem s216_4_o128 (d : Nat) (l0 : Value) (σ : Hs) : ru d 216 4 [l0] [.ref 128] σ = ru d 216 5 [l0] [.int 3] σ := q_alen t216_4 (by decide +kernel) (by decide +kernel) (by decide +kernel)
theorem s216_4_o129 (d : Nat) (l0 : Value) (σ : Hs) : ru d 216 4 [l0] [.ref 129] σ = ru d 216 5 [l0] [.int 2] σ := q_alen t216_4 (by decide +kernel) (by decide +kernel) (by decide +kernel)
theorem s216_4_o130 (d : Nat) (l0 : Value) (σ : Hs) : ru d 216 4 [l0] [.ref 130] σ = ru d 216 5 [l0] [.int 3] σ := q_alen t216_4 (by decide +kernel) (by decide +kernel) (by decide +kernel)
theorem s216_4_o131 (d : Nat) (l0 : Value) (σ : Hs) : ru d 216 4 [l0] [.ref 131] σ = ru d 216 5 [l0] [.int 4] σ := q_alen t216_4 (by decide +kernel) (by decide +kernel) (by decide +kernel)
theorem s216_4_o132 (d : Nat) (l0 : Value) (σ : Hs) : ru d 216 4 [l0] [.ref 132] σ = ru d 216 5 [l0] [.int 4] σ := q_alen t216_4 (by decide +kernel) (by decide +kernel) (by decide +kernel)
theorem s216_4_o133 (d : Nat) (l0 : Value) (σ : Hs) : ru d 216 4 [l0] [.ref 133] σ = ru d 216 5 [l0] [.int 3] σ := q_alen t216_4 (by decide +kernel) (by decide +kernel) (by decide +kernel)
theorem t216_5 : decode (mb 216) 5 = .ok (.aload_n 0, 1) := by decide +kernel
theorem s216_5 (d : Nat) (a0 : Nat) (w0 : Value) (σ : Hs) : ru d 216 5 [.ref a0] [w0] σ = ru d 216 6 [.ref a0] [.ref a0, w0] σ := q_aload_n t216_5 rfl
theorem t216_6 : decode (mb 216) 6 = .ok (.invokevirtual 335, 3) := by decide +kernel
theorem s216_6_o111 (d : Nat) (l0 : Value) (w0 : Int32) (σ : Hs) : ru d 216 6 [l0] [.ref 111, .int w0] σ = kont (callD d 215 [.ref 111] σ) d 216 9 [l0] [.int w0] := q_invv t216_6 mo216 K9_335 mj215 rfl rfl rfl rfl (Nat.le_of_ble_eq_true rfl)
theorem s216_6_o112 (d : Nat) (l0 : Value) (w0 : Int32) (σ : Hs) : ru d 216 6 [l0] [.ref 112, .int w0] σ = kont (callD d 215 [.ref 112] σ) d 216 9 [l0] [.int w0] := q_invv t216_6 mo216 K9_335 mj215 rfl rfl rfl rfl (Nat.le_of_ble_eq_true rfl)
theorem s216_6_o113 (d : Nat) (l0 : Value) (w0 : Int32) (σ : Hs) : ru d 216 6 [l0] [.ref 113, .int w0] σ = kont (callD d 215 [.ref 113] σ) d 216 9 [l0] [.int w0] := q_invv t216_6 mo216 K9_335 mj215 rfl rfl rfl rfl (Nat.le_of_ble_eq_true rfl)
theorem s216_6_o114 (d : Nat) (l0 : Value) (w0 : Int32) (σ : Hs) : ru d 216 6 [l0] [.ref 114, .int w0] σ = kont (callD d 215 [.ref 114] σ) d 216 9 [l0] [.int w0] := q_invv t216_6 mo216 K9_335 mj215 rfl rfl rfl rfl (Nat.le_of_ble_eq_true rfl)
theorem s216_6_o115 (d : Nat) (l0 : Value) (w0 : Int32) (σ : Hs) : ru d 216 6 [l0] [.ref 115, .int w0] σ = kont (callD d 215 [.ref 115] σ) d 216 9 [l0] [.int w0] := q_invv t216_6 mo216 K9_335 mj215 rfl rfl rfl rfl (Nat.le_of_ble_eq_true rfl)
theorem s216_6_o116 (d : Nat) (l0 : Value) (w0 : Int32) (σ : Hs) : ru d 216 6 [l0] [.ref 116, .int w0] σ = kont (callD d 215 [.ref 116] σ) d 216 9 [l0] [.int w0] := q_invv t216_6 mo216 K9_335 mj215 rfl rfl rfl rfl (Nat.le_of_ble_eq_true rfl)
theorem s216_6_o117 (d : Nat) (l0 : Value) (w0 : Int32) (σ : Hs) : ru d 216 6 [l0] [.ref 117, .int w0] σ = kont (callD d 215 [.ref 117] σ) d 216 9 [l0] [.int w0] := q_invv t216_6 mo216 K9_335 mj215 rfl rfl rfl rfl (Nat.le_of_ble_eq_true rfl)
theorem s216_6_o118 (d : Nat) (l0 : Value) (w0 : Int32) (σ : Hs) : ru d 216 6 [l0] [.ref 118, .int w0] σ = kont (callD d 215 [.ref 118] σ) d 216 9 [l0] [.int w0] := q_invv t216_6 mo216 K9_335 mj215 rfl rfl rfl rfl (Nat.le_of_ble_eq_true rfl)
theorem s216_6_o119 (d : Nat) (l0 : Value) (w0 : Int32) (σ : Hs) : ru d 216 6 [l0] [.ref 119, .int w0] σ = kont (callD d 215 [.ref 119] σ) d 216 9 [l0] [.int w0] := q_invv t216_6 mo216 K9_335 mj215 rfl rfl rfl rfl (Nat.le_of_ble_eq_true rfl)
theorem s216_6_o120 (d : Nat) (l0 : Value) (w0 : Int32) (σ : Hs) : ru d 216 6 [l0] [.ref 120, .int w0] σ = kont (callD d 215 [.ref 120] σ) d 216 9 [l0] [.int w0] := q_invv t216_6 mo216 K9_335 mj215 rfl rfl rfl rfl (Nat.le_of_ble_eq_true rfl)
theorem s216_6_o121 (d : Nat) (l0 : Value) (w0 : Int32) (σ : Hs) : ru d 216 6 [l0] [.ref 121, .int w0] σ = kont (callD d 215 [.ref 121] σ) d 216 9 [l0] [.int w0] := q_invv t216_6 mo216 K9_335 mj215 rfl rfl rfl rfl (Nat.le_of_ble_eq_true rfl)
theorem t216_9 : decode (mb 216) 9 = .ok (.ishr, 1) := by decide +kernel
theorem s216_9 (d : Nat) (l0 : Value) (x y : Int32) (σ : Hs) : ru d 216 9 [l0] [.int y, .int x] σ = ru d 216 10 [l0] [.int (x >>> (y &&& 31))] σ := q_ishr t216_9
theorem t216_10 : decode (mb 216) 10 = .ok (.ireturn, 1) := by decide +kernel
theorem s216_10 (d : Nat) (l0 : Value) (x : Int32) (σ : Hs) : ru d 216 10 [l0] [.int x] σ = some (some (.int x), σ) := q_ireti t216_10 mr216
theorem c216 (d : Nat) (x0 : Nat) (σ : Hs) : callD (d + 1) 216 [.ref x0] σ = ru d 216 0 [.ref x0] [] σ := callD_ru ml216 rfl rfl (Nat.le_of_ble_eq_true rfl)
-- 217: StringLatin1.canEncode(I)Z
theorem t217_0 : decode (mb 217) 0 = .ok (.iload_n 0, 1) := by decide +kernel
theorem s217_0 (d : Nat) (i0 : Int32) (σ : Hs) : ru d 217 0 [.int i0] [] σ = ru d 217 1 [.int i0] [.int i0] σ := q_iload_n t217_0 rfl
theorem t217_1 : decode (mb 217) 1 = .ok (.ifCond .lt 14, 3) := by decide +kernel
theorem s217_1 (d : Nat) (l0 : Value) (x : Int32) (σ : Hs) : ru d 217 1 [l0] [.int x] σ = if x < 0 then ru d 217 15 [l0] [] σ else ru d 217 4 [l0] [] σ := q_if_lt t217_1 (by decide +kernel)
theorem t217_4 : decode (mb 217) 4 = .ok (.iload_n 0, 1) := by decide +kernel
theorem s217_4 (d : Nat) (i0 : Int32) (σ : Hs) : ru d 217 4 [.int i0] [] σ = ru d 217 5 [.int i0] [.int i0] σ := q_iload_n t217_4 rfl
theorem t217_5 : decode (mb 217) 5 = .ok (.sipush 255, 3) := by decide +kernel
theorem s217_5 (d : Nat) (l0 : Value) (w0 : Value) (σ : Hs) : ru d 217 5 [l0] [w0] σ = ru d 217 8 [l0] [.int 255, w0] σ := q_sipush t217_5 (by decide +kernel)
theorem t217_8 : decode (mb 217) 8 = .ok (.if_icmp .gt 7, 3) := by decide +kernel
theorem s217_8 (d : Nat) (l0 : Value) (x y : Int32) (σ : Hs) : ru d 217 8 [l0] [.int y, .int x] σ = if y < x then ru d 217 15 [l0] [] σ else ru d 217 11 [l0] [] σ := q_ic_gt t217_8 (by decide +kernel)
theorem t217_11 : decode (mb 217) 11 = .ok (.iconst 1, 1) := by decide +kernel
theorem s217_11 (d : Nat) (l0 : Value) (σ : Hs) : ru d 217 11 [l0] [] σ = ru d 217 12 [l0] [.int 1] σ := q_iconst t217_11 (by decide +kernel)
theorem t217_12 : decode (mb 217) 12 = .ok (.goto 4, 3) := by decide +kernel
theorem s217_12 (d : Nat) (l0 : Value) (w0 : Value) (σ : Hs) : ru d 217 12 [l0] [w0] σ = ru d 217 16 [l0] [w0] σ := q_goto t217_12 (by decide +kernel)
theorem t217_15 : decode (mb 217) 15 = .ok (.iconst 0, 1) := by decide +kernel
theorem s217_15 (d : Nat) (l0 : Value) (σ : Hs) : ru d 217 15 [l0] [] σ = ru d 217 16 [l0] [.int 0] σ := q_iconst t217_15 (by decide +kernel)
theorem t217_16 : decode (mb 217) 16 = .ok (.ireturn, 1) := by decide +kernel
theorem s217_16 (d : Nat) (l0 : Value) (x : Int32) (hx : isB x) (σ : Hs) : ru d 217 16 [l0] [.int x] σ = some (some (.int x), σ) := q_iretz t217_16 mr217 hx
theorem c217 (d : Nat) (x0 : Int32) (σ : Hs) : callD (d + 1) 217 [.int x0] σ = ru d 217 0 [.int x0] [] σ := callD_ru ml217 rfl rfl (Nat.le_of_ble_eq_true rfl)
-- 218: StringLatin1.indexOfChar([BIII)I
theorem t218_0 : decode (mb 218) 0 = .ok (.iload_n 1, 1) := by decide +kernel
theorem s218_0 (d : Nat) (l0 : Value) (i1 : Int32) (l2 : Value) (l3 : Value) (l4 : Value) (l5 : Value) (σ : Hs) : ru d 218 0 [l0, .int i1, l2, l3, l4, l5] [] σ = ru d 218 1 [l0, .int i1, l2, l3, l4, l5] [.int i1] σ := q_iload_n t218_0 rfl
theorem t218_1 : decode (mb 218) 1 = .ok (.i2b, 1) := by decide +kernel
theorem s218_1 (d : Nat) (l0 : Value) (l1 : Value) (l2 : Value) (l3 : Value) (l4 : Value) (l5 : Value) (x : Int32) (σ : Hs) : ru d 218 1 [l0, l1, l2, l3, l4, l5] [.int x] σ = ru d 218 2 [l0, l1, l2, l3, l4, l5] [.int x.toInt8.toInt32] σ := q_i2b t218_1
theorem t218_2 : decode (mb 218) 2 = .ok (.istore 4, 2) := by decide +kernel
theorem s218_2 (d : Nat) (l0 : Value) (l1 : Value) (l2 : Value) (i3 : Int32) (l4 : Value) (l5 : Value) (x : Int32) (σ : Hs) : ru d 218 2 [l0, l1, l2, .int i3, l4, l5] [.int x] σ = ru d 218 4 [l0, l1, l2, .int i3, .int x, l5] [] σ := q_istore t218_2 ⟨Nat.le_of_ble_eq_true rfl, rfl⟩ rfl
theorem t218_4 : decode (mb 218) 4 = .ok (.iload_n 2, 1) := by decide +kernel
theorem s218_4 (d : Nat) (l0 : Value) (l1 : Value) (i2 : Int32) (l3 : Value) (l4 : Value) (l5 : Value) (σ : Hs) : ru d 218 4 [l0, l1, .int i2, l3, l4, l5] [] σ = ru d 218 5 [l0, l1, .int i2, l3, l4, l5] [.int i2] σ := q_iload_n t218_4 rfl
theorem t218_5 : decode (mb 218) 5 = .ok (.istore 5, 2) := by decide +kernel
theorem s218_5 (d : Nat) (l0 : Value) (l1 : Value) (l2 : Value) (l3 : Value) (i4 : Int32) (l5 : Value) (x : Int32) (σ : Hs) : ru d 218 5 [l0, l1, l2, l3, .int i4, l5] [.int x] σ = ru d 218 7 [l0, l1, l2, l3, .int i4, .int x] [] σ := q_istore t218_5 ⟨Nat.le_of_ble_eq_true rfl, rfl⟩ rfl
theorem t218_7 : decode (mb 218) 7 = .ok (.iload 5, 2) := by decide +kernel
theorem s218_7 (d : Nat) (l0 : Value) (l1 : Value) (l2 : Value) (l3 : Value) (l4 : Value) (i5 : Int32) (σ : Hs) : ru d 218 7 [l0, l1, l2, l3, l4, .int i5] [] σ = ru d 218 9 [l0, l1, l2, l3, l4, .int i5] [.int i5] σ := q_iload t218_7 rfl
theorem t218_9 : decode (mb 218) 9 = .ok (.iload_n 3, 1) := by decide +kernel
theorem s218_9 (d : Nat) (l0 : Value) (l1 : Value) (l2 : Value) (i3 : Int32) (l4 : Value) (l5 : Value) (w0 : Value) (σ : Hs) : ru d 218 9 [l0, l1, l2, .int i3, l4, l5] [w0] σ = ru d 218 10 [l0, l1, l2, .int i3, l4, l5] [.int i3, w0] σ := q_iload_n t218_9 rfl
theorem t218_10 : decode (mb 218) 10 = .ok (.if_icmp .ge 21, 3) := by decide +kernel
theorem s218_10 (d : Nat) (l0 : Value) (l1 : Value) (l2 : Value) (l3 : Value) (l4 : Value) (l5 : Value) (x y : Int32) (σ : Hs) : ru d 218 10 [l0, l1, l2, l3, l4, l5] [.int y, .int x] σ = if y ≤ x then ru d 218 31 [l0, l1, l2, l3, l4, l5] [] σ else ru d 218 13 [l0, l1, l2, l3, l4, l5] [] σ := q_ic_ge t218_10 (by decide +kernel)
theorem t218_13 : decode (mb 218) 13 = .ok (.aload_n 0, 1) := by decide +kernel
theorem s218_13 (d : Nat) (a0 : Nat) (l1 : Value) (l2 : Value) (l3 : Value) (l4 : Value) (l5 : Value) (σ : Hs) : ru d 218 13 [.ref a0, l1, l2, l3, l4, l5] [] σ = ru d 218 14 [.ref a0, l1, l2, l3, l4, l5] [.ref a0] σ := q_aload_n t218_13 rfl
theorem t218_14 : decode (mb 218) 14 = .ok (.iload 5, 2) := by decide +kernel
theorem s218_14 (d : Nat) (l0 : Value) (l1 : Value) (l2 : Value) (l3 : Value) (l4 : Value) (i5 : Int32) (w0 : Value) (σ : Hs) : ru d 218 14 [l0, l1, l2, l3, l4, .int i5] [w0] σ = ru d 218 16 [l0, l1, l2, l3, l4, .int i5] [.int i5, w0] σ := q_iload t218_14 rfl
theorem t218_16 : decode (mb 218) 16 = .ok (.baload, 1) := by decide +kernel
theorem s218_16_o123 (d : Nat) (l0 : Value) (l1 : Value) (l2 : Value) (l3 : Value) (l4 : Value) (l5 : Value) (i : Int32) (σ : Hs) : ru d 218 16 [l0, l1, l2, l3, l4, l5] [.int i, .ref 123] σ = gd (vp_in i 4) (ru d 218 17 [l0, l1, l2, l3, l4, l5] [.int (([100, 115, 119, 114] : List Int32).getD i.toNatClampNeg 0)] σ) := q_bals t218_16 (by decide +kernel) (by decide +kernel) rfl rfl
theorem s218_16_o124 (d : Nat) (l0 : Value) (l1 : Value) (l2 : Value) (l3 : Value) (l4 : Value) (l5 : Value) (i : Int32) (σ : Hs) : ru d 218 16 [l0, l1, l2, l3, l4, l5] [.int i, .ref 124] σ = gd (vp_in i 4) (ru d 218 17 [l0, l1, l2, l3, l4, l5] [.int (([104, 119, 108, 110] : List Int32).getD i.toNatClampNeg 0)] σ) := q_bals t218_16 (by decide +kernel) (by decide +kernel) rfl rfl
theorem s218_16_o125 (d : Nat) (l0 : Value) (l1 : Value) (l2 : Value) (l3 : Value) (l4 : Value) (l5 : Value) (i : Int32) (σ : Hs) : ru d 218 16 [l0, l1, l2, l3, l4, l5] [.int i, .ref 125] σ = gd (vp_in i 3) (ru d 218 17 [l0, l1, l2, l3, l4, l5] [.int (([104, 119, 115] : List Int32).getD i.toNatClampNeg 0)] σ) := q_bals t218_16 (by decide +kernel) (by decide +kernel) rfl rfl
theorem s218_16_o126 (d : Nat) (l0 : Value) (l1 : Value) (l2 : Value) (l3 : Value) (l4 : Value) (l5 : Value) (i : Int32) (σ : Hs) : ru d 218 16 [l0, l1, l2, l3, l4, l5] [.int i, .ref 126] σ = gd (vp_in i 1) (ru d 218 17 [l0, l1, l2, l3, l4, l5] [.int (([124] : List Int32).getD i.toNatClampNeg 0)] σ) := q_bals t218_16 (by decide +kernel) (by decide +kernel) rfl rfl
theorem s218_16_o127 (d : Nat) (l0 : Value) (l1 : Value) (l2 : Value) (l3 : Value) (l4 : Value) (l5 : Value) (i : Int32) (σ : Hs) : ru d 218 16 [l0, l1, l2, l3, l4, l5] [.int i, .ref 127] σ = gd (vp_in i 1) (ru d 218 17 [l0, l1, l2, l3, l4, l5] [.int (([38] : List Int32).getD i.toNatClampNeg 0)] σ) := q_bals t218_16 (by decide +kernel) (by decide +kernel) rfl rfl
theorem s218_16_o128 (d : Nat) (l0 : Value) (l1 : Value) (l2 : Value) (l3 : Value) (l4 : Value) (l5 : Value) (i : Int32) (σ : Hs) : ru d 218 16 [l0, l1, l2, l3, l4, l5] [.int i, .ref 128] σ = gd (vp_in i 3) (ru d 218 17 [l0, l1, l2, l3, l4, l5] [.int (([60, 61, 62] : List Int32).getD i.toNatClampNeg 0)] σ) := q_bals t218_16 (by decide +kernel) (by decide +kernel) rfl rfl
theorem s218_16_o129 (d : Nat) (l0 : Value) (l1 : Value) (l2 : Value) (l3 : Value) (l4 : Value) (l5 : Value) (i : Int32) (σ : Hs) : ru d 218 16 [l0, l1, l2, l3, l4, l5] [.int i, .ref 129] σ = gd (vp_in i 2) (ru d 218 17 [l0, l1, l2, l3, l4, l5] [.int (([43, 45] : List Int32).getD i.toNatClampNeg 0)] σ) := q_bals t218_16 (by decide +kernel) (by decide +kernel) rfl rfl
theorem s218_16_o130 (d : Nat) (l0 : Value) (l1 : Value) (l2 : Value) (l3 : Value) (l4 : Value) (l5 : Value) (i : Int32) (σ : Hs) : ru d 218 16 [l0, l1, l2, l3, l4, l5] [.int i, .ref 130] σ = gd (vp_in i 3) (ru d 218 17 [l0, l1, l2, l3, l4, l5] [.int (([42, 47, 37] : List Int32).getD i.toNatClampNeg 0)] σ) := q_bals t218_16 (by decide +kernel) (by decide +kernel) rfl rfl
theorem t218_17 : decode (mb 218) 17 = .ok (.iload 4, 2) := by decide +kernel
theorem s218_17 (d : Nat) (l0 : Value) (l1 : Value) (l2 : Value) (l3 : Value) (i4 : Int32) (l5 : Value) (w0 : Value) (σ : Hs) : ru d 218 17 [l0, l1, l2, l3, .int i4, l5] [w0] σ = ru d 218 19 [l0, l1, l2, l3, .int i4, l5] [.int i4, w0] σ := q_iload t218_17 rfl
theorem t218_19 : decode (mb 218) 19 = .ok (.if_icmp .ne 6, 3) := by decide +kernel
theorem s218_19 (d : Nat) (l0 : Value) (l1 : Value) (l2 : Value) (l3 : Value) (l4 : Value) (l5 : Value) (x y : Int32) (σ : Hs) : ru d 218 19 [l0, l1, l2, l3, l4, l5] [.int y, .int x] σ = if x = y then ru d 218 22 [l0, l1, l2, l3, l4, l5] [] σ else ru d 218 25 [l0, l1, l2, l3, l4, l5] [] σ := q_ic_ne t218_19 (by decide +kernel)
theorem t218_22 : decode (mb 218) 22 = .ok (.iload 5, 2) := by decide +kernel
theorem s218_22 (d : Nat) (l0 : Value) (l1 : Value) (l2 : Value) (l3 : Value) (l4 : Value) (i5 : Int32) (σ : Hs) : ru d 218 22 [l0, l1, l2, l3, l4, .int i5] [] σ = ru d 218 24 [l0, l1, l2, l3, l4, .int i5] [.int i5] σ := q_iload t218_22 rfl
theorem t218_24 : decode (mb 218) 24 = .ok (.ireturn, 1) := by decide +kernel
theorem s218_24 (d : Nat) (l0 : Value) (l1 : Value) (l2 : Value) (l3 : Value) (l4 : Value) (l5 : Value) (x : Int32) (σ : Hs) : ru d 218 24 [l0, l1, l2, l3, l4, l5] [.int x] σ = some (some (.int x), σ) := q_ireti t218_24 mr218
theorem t218_25 : decode (mb 218) 25 = .ok (.iinc 5 1, 3) := by decide +kernel
theorem s218_25 (d : Nat) (l0 : Value) (l1 : Value) (l2 : Value) (l3 : Value) (i4 : Int32) (i5 : Int32) (σ : Hs) : ru d 218 25 [l0, l1, l2, l3, .int i4, .int i5] [] σ = ru d 218 28 [l0, l1, l2, l3, .int i4, .int (i5 + 1)] [] σ := q_iinc t218_25 ⟨Nat.le_of_ble_eq_true rfl, rfl⟩ rfl (by decide +kernel) rfl
theorem t218_28 : decode (mb 218) 28 = .ok (.goto (-21), 3) := by decide +kernel
theorem s218_28 (d : Nat) (l0 : Value) (l1 : Value) (l2 : Value) (l3 : Value) (l4 : Value) (l5 : Value) (σ : Hs) : ru d 218 28 [l0, l1, l2, l3, l4, l5] [] σ = ru d 218 7 [l0, l1, l2, l3, l4, l5] [] σ := q_goto t218_28 (by decide +kernel)
theorem t218_31 : decode (mb 218) 31 = .ok (.iconst (-1), 1) := by decide +kernel
theorem s218_31 (d : Nat) (l0 : Value) (l1 : Value) (l2 : Value) (l3 : Value) (l4 : Value) (l5 : Value) (σ : Hs) : ru d 218 31 [l0, l1, l2, l3, l4, l5] [] σ = ru d 218 32 [l0, l1, l2, l3, l4, l5] [.int (-1)] σ := q_iconst t218_31 (by decide +kernel)
theorem t218_32 : decode (mb 218) 32 = .ok (.ireturn, 1) := by decide +kernel
theorem s218_32 (d : Nat) (l0 : Value) (l1 : Value) (l2 : Value) (l3 : Value) (l4 : Value) (l5 : Value) (x : Int32) (σ : Hs) : ru d 218 32 [l0, l1, l2, l3, l4, l5] [.int x] σ = some (some (.int x), σ) := q_ireti t218_32 mr218
theorem c218 (d : Nat) (x0 : Nat) (x1 : Int32) (x2 : Int32) (x3 : Int32) (σ : Hs) : callD (d + 1) 218 [.ref x0, .int x1, .int x2, .int x3] σ = ru d 218 0 [.ref x0, .int x1, .int x2, .int x3, uu, uu] [] σ := callD_ru ml218 rfl rfl (Nat.le_of_ble_eq_true rfl)
-- 219: StringLatin1.indexOf([BIII)I
theorem t219_0 : decode (mb 219) 0 = .ok (.iload_n 1, 1) := by decide +kernel
theorem s219_0 (d : Nat) (l0 : Value) (i1 : Int32) (l2 : Value) (l3 : Value) (σ : Hs) : ru d 219 0 [l0, .int i1, l2, l3] [] σ = ru d 219 1 [l0, .int i1, l2, l3] [.int i1] σ := q_iload_n t219_0 rfl
theorem t219_1 : decode (mb 219) 1 = .ok (.invokestatic 88, 3) := by decide +kernel
theorem s219_1 (d : Nat) (l0 : Value) (l1 : Value) (l2 : Value) (l3 : Value) (v0 : Value) (σ : Hs) : ru d 219 1 [l0, l1, l2, l3] [v0] σ = kont (callD d 217 [v0] σ) d 219 4 [l0, l1, l2, l3] [] := q_invs t219_1 mo219 (by decide +kernel) K10_88 mj217 (Nat.le_of_ble_eq_true rfl) rfl rfl (Nat.le_of_ble_eq_true rfl)
theorem t219_4 : decode (mb 219) 4 = .ok (.ifCond .ne 5, 3) := by decide +kernel
theorem s219_4 (d : Nat) (l0 : Value) (l1 : Value) (l2 : Value) (l3 : Value) (x : Int32) (σ : Hs) : ru d 219 4 [l0, l1, l2, l3] [.int x] σ = if x = 0 then ru d 219 7 [l0, l1, l2, l3] [] σ else ru d 219 9 [l0, l1, l2, l3] [] σ := q_if_ne t219_4 (by decide +kernel)
theorem t219_7 : decode (mb 219) 7 = .ok (.iconst (-1), 1) := by decide +kernel
theorem s219_7 (d : Nat) (l0 : Value) (l1 : Value) (l2 : Value) (l3 : Value) (σ : Hs) : ru d 219 7 [l0, l1, l2, l3] [] σ = ru d 219 8 [l0, l1, l2, l3] [.int (-1)] σ := q_iconst t219_7 (by decide +kernel)
theorem t219_8 : decode (mb 219) 8 = .ok (.ireturn, 1) := by decide +kernel
theorem s219_8 (d : Nat) (l0 : Value) (l1 : Value) (l2 : Value) (l3 : Value) (x : Int32) (σ : Hs) : ru d 219 8 [l0, l1, l2, l3] [.int x] σ = some (some (.int x), σ) := q_ireti t219_8 mr219
theorem t219_9 : decode (mb 219) 9 = .ok (.iload_n 2, 1) := by decide +kernel
theorem s219_9 (d : Nat) (l0 : Value) (l1 : Value) (i2 : Int32) (l3 : Value) (σ : Hs) : ru d 219 9 [l0, l1, .int i2, l3] [] σ = ru d 219 10 [l0, l1, .int i2, l3] [.int i2] σ := q_iload_n t219_9 rfl
theorem t219_10 : decode (mb 219) 10 = .ok (.iconst 0, 1) := by decide +kernel
theorem s219_10 (d : Nat) (l0 : Value) (l1 : Value) (l2 : Value) (l3 : Value) (w0 : Value) (σ : Hs) : ru d 219 10 [l0, l1, l2, l3] [w0] σ = ru d 219 11 [l0, l1, l2, l3] [.int 0, w0] σ := q_iconst t219_10 (by decide +kernel)
theorem t219_11 : decode (mb 219) 11 = .ok (.invokestatic 92, 3) := by decide +kernel
theorem s219_11 (d : Nat) (l0 : Value) (l1 : Value) (l2 : Value) (l3 : Value) (x y : Int32) (σ : Hs) : ru d 219 11 [l0, l1, l2, l3] [.int y, .int x] σ = ru d 219 14 [l0, l1, l2, l3] [.int (jmax x y)] σ := q_mx t219_11 mo219 (by decide +kernel) (by decide +kernel) (Nat.le_of_ble_eq_true rfl)
theorem t219_14 : decode (mb 219) 14 = .ok (.istore_n 2, 1) := by decide +kernel
theorem s219_14 (d : Nat) (l0 : Value) (i1 : Int32) (l2 : Value) (l3 : Value) (x : Int32) (σ : Hs) : ru d 219 14 [l0, .int i1, l2, l3] [.int x] σ = ru d 219 15 [l0, .int i1, .int x, l3] [] σ := q_istore_n t219_14 ⟨Nat.le_of_ble_eq_true rfl, rfl⟩ rfl
theorem t219_15 : decode (mb 219) 15 = .ok (.iload_n 3, 1) := by decide +kernel
theorem s219_15 (d : Nat) (l0 : Value) (l1 : Value) (l2 : Value) (i3 : Int32) (σ : Hs) : ru d 219 15 [l0, l1, l2, .int i3] [] σ = ru d 219 16 [l0, l1, l2, .int i3] [.int i3] σ := q_iload_n t219_15 rfl
theorem t219_16 : decode (mb 219) 16 = .ok (.aload_n 0, 1) := by decide +kernel
theorem s219_16 (d : Nat) (a0 : Nat) (l1 : Value) (l2 : Value) (l3 : Value) (w0 : Value) (σ : Hs) : ru d 219 16 [.ref a0, l1, l2, l3] [w0] σ = ru d 219 17 [.ref a0, l1, l2, l3] [.ref a0, w0] σ := q_aload_n t219_16 rfl
theorem t219_17 : decode (mb 219) 17 = .ok (.arraylength, 1) := by decide +kernel
theorem s219_17_o123 (d : Nat) (l0 : Value) (l1 : Value) (l2 : Value) (l3 : Value) (w0 : Value) (σ : Hs) : ru d 219 17 [l0, l1, l2, l3] [.ref 123, w0] σ = ru d 219 18 [l0, l1, l2, l3] [.int 4, w0] σ := q_alen t219_17 (by decide +kernel) (by decide +kernel) (by decide +kernel)
theorem s219_17_o124 (d : Nat) (l0 : Value) (l1 : Value) (l2 : Value) (l3 : Value) (w0 : Value) (σ : Hs) : ru d 219 17 [l0, l1, l2, l3] [.ref 124, w0] σ = ru d 219 18 [l0, l1, l2, l3] [.int 4, w0] σ := q_alen t219_17 (by decide +kernel) (by decide +kernel) (by decide +kernel)
theorem s219_17_o125 (d : Nat) (l0 : Value) (l1 : Value) (l2 : Value) (l3 : Value) (w0 : Value) (σ : Hs) : ru d 219 17 [l0, l1, l2, l3] [.ref 125, w0] σ = ru d 219 18 [l0, l1, l2, l3] [.int 3, w0] σ := q_alen t219_17 (by decide +kernel) (by decide +kernel) (by decide +kernel)
theorem s219_17_o126 (d : Nat) (l0 : Value) (l1 : Value) (l2 : Value) (l3 : Value) (w0 : Value) (σ : Hs) : ru d 219 17 [l0, l1, l2, l3] [.ref 126, w0] σ = ru d 219 18 [l0, l1, l2, l3] [.int 1, w0] σ := q_alen t219_17 (by decide +kernel) (by decide +kernel) (by decide +kernel)
theorem s219_17_o127 (d : Nat) (l0 : Value) (l1 : Value) (l2 : Value) (l3 : Value) (w0 : Value) (σ : Hs) : ru d 219 17 [l0, l1, l2, l3] [.ref 127, w0] σ = ru d 219 18 [l0, l1, l2, l3] [.int 1, w0] σ := q_alen t219_17 (by decide +kernel) (by decide +kernel) (by decide +kernel)
theorem s219_17_o128 (d : Nat) (l0 : Value) (l1 : Value) (l2 : Value) (l3 : Value) (w0 : Value) (σ : Hs) : ru d 219 17 [l0, l1, l2, l3] [.ref 128, w0] σ = ru d 219 18 [l0, l1, l2, l3] [.int 3, w0] σ := q_alen t219_17 (by decide +kernel) (by decide +kernel) (by decide +kernel)
theorem s219_17_o129 (d : Nat) (l0 : Value) (l1 : Value) (l2 : Value) (l3 : Value) (w0 : Value) (σ : Hs) : ru d 219 17 [l0, l1, l2, l3] [.ref 129, w0] σ = ru d 219 18 [l0, l1, l2, l3] [.int 2, w0] σ := q_alen t219_17 (by decide +kernel) (by decide +kernel) (by decide +kernel)
theorem s219_17_o130 (d : Nat) (l0 : Value) (l1 : Value) (l2 : Value) (l3 : Value) (w0 : Value) (σ : Hs) : ru d 219 17 [l0, l1, l2, l3] [.ref 130, w0] σ = ru d 219 18 [l0, l1, l2, l3] [.int 3, w0] σ := q_alen t219_17 (by decide +kernel) (by decide +kernel) (by decide +kernel)
theorem t219_18 : decode (mb 219) 18 = .ok (.invokestatic 38, 3) := by decide +kernel
theorem s219_18 (d : Nat) (l0 : Value) (l1 : Value) (l2 : Value) (l3 : Value) (x y : Int32) (σ : Hs) : ru d 219 18 [l0, l1, l2, l3] [.int y, .int x] σ = ru d 219 21 [l0, l1, l2, l3] [.int (jmin x y)] σ := q_mi t219_18 mo219 (by decide +kernel) (by decide +kernel) (by decide +kernel) (Nat.le_of_ble_eq_true rfl)
theorem t219_21 : decode (mb 219) 21 = .ok (.istore_n 3, 1) := by decide +kernel
theorem s219_21 (d : Nat) (l0 : Value) (l1 : Value) (i2 : Int32) (l3 : Value) (x : Int32) (σ : Hs) : ru d 219 21 [l0, l1, .int i2, l3] [.int x] σ = ru d 219 22 [l0, l1, .int i2, .int x] [] σ := q_istore_n t219_21 ⟨Nat.le_of_ble_eq_true rfl, rfl⟩ rfl
theorem t219_22 : decode (mb 219) 22 = .ok (.iload_n 2, 1) := by decide +kernel
theorem s219_22 (d : Nat) (l0 : Value) (l1 : Value) (i2 : Int32) (l3 : Value) (σ : Hs) : ru d 219 22 [l0, l1, .int i2, l3] [] σ = ru d 219 23 [l0, l1, .int i2, l3] [.int i2] σ := q_iload_n t219_22 rfl
theorem t219_23 : decode (mb 219) 23 = .ok (.iload_n 3, 1) := by decide +kernel
theorem s219_23 (d : Nat) (l0 : Value) (l1 : Value) (l2 : Value) (i3 : Int32) (w0 : Value) (σ : Hs) : ru d 219 23 [l0, l1, l2, .int i3] [w0] σ = ru d 219 24 [l0, l1, l2, .int i3] [.int i3, w0] σ := q_iload_n t219_23 rfl
theorem t219_24 : decode (mb 219) 24 = .ok (.if_icmp .lt 5, 3) := by decide +kernel
theorem s219_24 (d : Nat) (l0 : Value) (l1 : Value) (l2 : Value) (l3 : Value) (x y : Int32) (σ : Hs) : ru d 219 24 [l0, l1, l2, l3] [.int y, .int x] σ = if x < y then ru d 219 29 [l0, l1, l2, l3] [] σ else ru d 219 27 [l0, l1, l2, l3] [] σ := q_ic_lt t219_24 (by decide +kernel)
theorem t219_27 : decode (mb 219) 27 = .ok (.iconst (-1), 1) := by decide +kernel
theorem s219_27 (d : Nat) (l0 : Value) (l1 : Value) (l2 : Value) (l3 : Value) (σ : Hs) : ru d 219 27 [l0, l1, l2, l3] [] σ = ru d 219 28 [l0, l1, l2, l3] [.int (-1)] σ := q_iconst t219_27 (by decide +kernel)
theorem t219_28 : decode (mb 219) 28 = .ok (.ireturn, 1) := by decide +kernel
theorem s219_28 (d : Nat) (l0 : Value) (l1 : Value) (l2 : Value) (l3 : Value) (x : Int32) (σ : Hs) : ru d 219 28 [l0, l1, l2, l3] [.int x] σ = some (some (.int x), σ) := q_ireti t219_28 mr219
theorem t219_29 : decode (mb 219) 29 = .ok (.aload_n 0, 1) := by decide +kernel
theorem s219_29 (d : Nat) (a0 : Nat) (l1 : Value) (l2 : Value) (l3 : Value) (σ : Hs) : ru d 219 29 [.ref a0, l1, l2, l3] [] σ = ru d 219 30 [.ref a0, l1, l2, l3] [.ref a0] σ := q_aload_n t219_29 rfl
theorem t219_30 : decode (mb 219) 30 = .ok (.iload_n 1, 1) := by decide +kernel
theorem s219_30 (d : Nat) (l0 : Value) (i1 : Int32) (l2 : Value) (l3 : Value) (w0 : Value) (σ : Hs) : ru d 219 30 [l0, .int i1, l2, l3] [w0] σ = ru d 219 31 [l0, .int i1, l2, l3] [.int i1, w0] σ := q_iload_n t219_30 rfl
theorem t219_31 : decode (mb 219) 31 = .ok (.iload_n 2, 1) := by decide +kernel
theorem s219_31 (d : Nat) (l0 : Value) (l1 : Value) (i2 : Int32) (l3 : Value) (w0 w1 : Value) (σ : Hs) : ru d 219 31 [l0, l1, .int i2, l3] [w0, w1] σ = ru d 219 32 [l0, l1, .int i2, l3] [.int i2, w0, w1] σ := q_iload_n t219_31 rfl
theorem t219_32 : decode (mb 219) 32 = .ok (.iload_n 3, 1) := by decide +kernel
theorem s219_32 (d : Nat) (l0 : Value) (l1 : Value) (l2 : Value) (i3 : Int32) (w0 w1 w2 : Value) (σ : Hs) : ru d 219 32 [l0, l1, l2, .int i3] [w0, w1, w2] σ = ru d 219 33 [l0, l1, l2, .int i3] [.int i3, w0, w1, w2] σ := q_iload_n t219_32 rfl
theorem t219_33 : decode (mb 219) 33 = .ok (.invokestatic 95, 3) := by decide +kernel
theorem s219_33 (d : Nat) (l0 : Value) (l1 : Value) (l2 : Value) (l3 : Value) (v0 v1 v2 v3 : Value) (σ : Hs) : ru d 219 33 [l0, l1, l2, l3] [v3, v2, v1, v0] σ = kont (callD d 218 [v0, v1, v2, v3] σ) d 219 36 [l0, l1, l2, l3] [] := q_invs t219_33 mo219 (by decide +kernel) K10_95 mj218 (Nat.le_of_ble_eq_true rfl) rfl rfl (Nat.le_of_ble_eq_true rfl)
theorem t219_36 : decode (mb 219) 36 = .ok (.ireturn, 1) := by decide +kernel
theorem s219_36 (d : Nat) (l0 : Value) (l1 : Value) (l2 : Value) (l3 : Value) (x : Int32) (σ : Hs) : ru d 219 36 [l0, l1, l2, l3] [.int x] σ = some (some (.int x), σ) := q_ireti t219_36 mr219
theorem c219 (d : Nat) (x0 : Nat) (x1 : Int32) (x2 : Int32) (x3 : Int32) (σ : Hs) : callD (d + 1) 219 [.ref x0, .int x1, .int x2, .int x3] σ = ru d 219 0 [.ref x0, .int x1, .int x2, .int x3] [] σ := callD_ru ml219 rfl rfl (Nat.le_of_ble_eq_true rfl)
-- 220: String.indexOf_II(II)I
theorem t220_0 : decode (mb 220) 0 = .ok (.aload_n 0, 1) := by decide +kernel
theorem s220_0 (d : Nat) (a0 : Nat) (l1 : Value) (l2 : Value) (σ : Hs) : ru d 220 0 [.ref a0, l1, l2] [] σ = ru d 220 1 [.ref a0, l1, l2] [.ref a0] σ := q_aload_n t220_0 rfl
theorem t220_1 : decode (mb 220) 1 = .ok (.invokevirtual 492, 3) := by decide +kernel
theorem s220_1_o111 (d : Nat) (l0 : Value) (l1 : Value) (l2 : Value) (σ : Hs) : ru d 220 1 [l0, l1, l2] [.ref 111] σ = kont (callD d 214 [.ref 111] σ) d 220 4 [l0, l1, l2] [] := q_invv t220_1 mo220 K9_492 mj214 rfl rfl rfl rfl (Nat.le_of_ble_eq_true rfl)
theorem s220_1_o112 (d : Nat) (l0 : Value) (l1 : Value) (l2 : Value) (σ : Hs) : ru d 220 1 [l0, l1, l2] [.ref 112] σ = kont (callD d 214 [.ref 112] σ) d 220 4 [l0, l1, l2] [] := q_invv t220_1 mo220 K9_492 mj214 rfl rfl rfl rfl (Nat.le_of_ble_eq_true rfl)
theorem s220_1_o113 (d : Nat) (l0 : Value) (l1 : Value) (l2 : Value) (σ : Hs) : ru d 220 1 [l0, l1, l2] [.ref 113] σ = kont (callD d 214 [.ref 113] σ) d 220 4 [l0, l1, l2] [] := q_invv t220_1 mo220 K9_492 mj214 rfl rfl rfl rfl (Nat.le_of_ble_eq_true rfl)
theorem s220_1_o114 (d : Nat) (l0 : Value) (l1 : Value) (l2 : Value) (σ : Hs) : ru d 220 1 [l0, l1, l2] [.ref 114] σ = kont (callD d 214 [.ref 114] σ) d 220 4 [l0, l1, l2] [] := q_invv t220_1 mo220 K9_492 mj214 rfl rfl rfl rfl (Nat.le_of_ble_eq_true rfl)
theorem s220_1_o115 (d : Nat) (l0 : Value) (l1 : Value) (l2 : Value) (σ : Hs) : ru d 220 1 [l0, l1, l2] [.ref 115] σ = kont (callD d 214 [.ref 115] σ) d 220 4 [l0, l1, l2] [] := q_invv t220_1 mo220 K9_492 mj214 rfl rfl rfl rfl (Nat.le_of_ble_eq_true rfl)
theorem s220_1_o116 (d : Nat) (l0 : Value) (l1 : Value) (l2 : Value) (σ : Hs) : ru d 220 1 [l0, l1, l2] [.ref 116] σ = kont (callD d 214 [.ref 116] σ) d 220 4 [l0, l1, l2] [] := q_invv t220_1 mo220 K9_492 mj214 rfl rfl rfl rfl (Nat.le_of_ble_eq_true rfl)
theorem s220_1_o117 (d : Nat) (l0 : Value) (l1 : Value) (l2 : Value) (σ : Hs) : ru d 220 1 [l0, l1, l2] [.ref 117] σ = kont (callD d 214 [.ref 117] σ) d 220 4 [l0, l1, l2] [] := q_invv t220_1 mo220 K9_492 mj214 rfl rfl rfl rfl (Nat.le_of_ble_eq_true rfl)
theorem s220_1_o118 (d : Nat) (l0 : Value) (l1 : Value) (l2 : Value) (σ : Hs) : ru d 220 1 [l0, l1, l2] [.ref 118] σ = kont (callD d 214 [.ref 118] σ) d 220 4 [l0, l1, l2] [] := q_invv t220_1 mo220 K9_492 mj214 rfl rfl rfl rfl (Nat.le_of_ble_eq_true rfl)
theorem t220_4 : decode (mb 220) 4 = .ok (.ifCond .eq 19, 3) := by decide +kernel
theorem s220_4 (d : Nat) (l0 : Value) (l1 : Value) (l2 : Value) (x : Int32) (σ : Hs) : ru d 220 4 [l0, l1, l2] [.int x] σ = if x = 0 then ru d 220 23 [l0, l1, l2] [] σ else ru d 220 7 [l0, l1, l2] [] σ := q_if_eq t220_4 (by decide +kernel)
theorem t220_7 : decode (mb 220) 7 = .ok (.aload_n 0, 1) := by decide +kernel
theorem s220_7 (d : Nat) (a0 : Nat) (l1 : Value) (l2 : Value) (σ : Hs) : ru d 220 7 [.ref a0, l1, l2] [] σ = ru d 220 8 [.ref a0, l1, l2] [.ref a0] σ := q_aload_n t220_7 rfl
theorem t220_8 : decode (mb 220) 8 = .ok (.getfield 9, 3) := by decide +kernel
theorem s220_8_o111 (d : Nat) (l0 : Value) (l1 : Value) (l2 : Value) (σ : Hs) : ru d 220 8 [l0, l1, l2] [.ref 111] σ = ru d 220 11 [l0, l1, l2] [.ref 123] σ := q_getf t220_8 mo220 F9_9 rfl rfl
theorem s220_8_o112 (d : Nat) (l0 : Value) (l1 : Value) (l2 : Value) (σ : Hs) : ru d 220 8 [l0, l1, l2] [.ref 112] σ = ru d 220 11 [l0, l1, l2] [.ref 124] σ := q_getf t220_8 mo220 F9_9 rfl rfl
theorem s220_8_o113 (d : Nat) (l0 : Value) (l1 : Value) (l2 : Value) (σ : Hs) : ru d 220 8 [l0, l1, l2] [.ref 113] σ = ru d 220 11 [l0, l1, l2] [.ref 125] σ := q_getf t220_8 mo220 F9_9 rfl rfl
theorem s220_8_o114 (d : Nat) (l0 : Value) (l1 : Value) (l2 : Value) (σ : Hs) : ru d 220 8 [l0, l1, l2] [.ref 114] σ = ru d 220 11 [l0, l1, l2] [.ref 126] σ := q_getf t220_8 mo220 F9_9 rfl rfl
theorem s220_8_o115 (d : Nat) (l0 : Value) (l1 : Value) (l2 : Value) (σ : Hs) : ru d 220 8 [l0, l1, l2] [.ref 115] σ = ru d 220 11 [l0, l1, l2] [.ref 127] σ := q_getf t220_8 mo220 F9_9 rfl rfl
theorem s220_8_o116 (d : Nat) (l0 : Value) (l1 : Value) (l2 : Value) (σ : Hs) : ru d 220 8 [l0, l1, l2] [.ref 116] σ = ru d 220 11 [l0, l1, l2] [.ref 128] σ := q_getf t220_8 mo220 F9_9 rfl rfl
theorem s220_8_o117 (d : Nat) (l0 : Value) (l1 : Value) (l2 : Value) (σ : Hs) : ru d 220 8 [l0, l1, l2] [.ref 117] σ = ru d 220 11 [l0, l1, l2] [.ref 129] σ := q_getf t220_8 mo220 F9_9 rfl rfl
theorem s220_8_o118 (d : Nat) (l0 : Value) (l1 : Value) (l2 : Value) (σ : Hs) : ru d 220 8 [l0, l1, l2] [.ref 118] σ = ru d 220 11 [l0, l1, l2] [.ref 130] σ := q_getf t220_8 mo220 F9_9 rfl rfl
theorem t220_11 : decode (mb 220) 11 = .ok (.iload_n 1, 1) := by decide +kernel
theorem s220_11 (d : Nat) (l0 : Value) (i1 : Int32) (l2 : Value) (w0 : Value) (σ : Hs) : ru d 220 11 [l0, .int i1, l2] [w0] σ = ru d 220 12 [l0, .int i1, l2] [.int i1, w0] σ := q_iload_n t220_11 rfl
theorem t220_12 : decode (mb 220) 12 = .ok (.iload_n 2, 1) := by decide +kernel
theorem s220_12 (d : Nat) (l0 : Value) (l1 : Value) (i2 : Int32) (w0 w1 : Value) (σ : Hs) : ru d 220 12 [l0, l1, .int i2] [w0, w1] σ = ru d 220 13 [l0, l1, .int i2] [.int i2, w0, w1] σ := q_iload_n t220_12 rfl
theorem t220_13 : decode (mb 220) 13 = .ok (.aload_n 0, 1) := by decide +kernel
theorem s220_13 (d : Nat) (a0 : Nat) (l1 : Value) (l2 : Value) (w0 w1 w2 : Value) (σ : Hs) : ru d 220 13 [.ref a0, l1, l2] [w0, w1, w2] σ = ru d 220 14 [.ref a0, l1, l2] [.ref a0, w0, w1, w2] σ := q_aload_n t220_13 rfl
theorem t220_14 : decode (mb 220) 14 = .ok (.invokevirtual 505, 3) := by decide +kernel
theorem s220_14_o111 (d : Nat) (l0 : Value) (l1 : Value) (l2 : Value) (w0 : Int32) (w1 : Int32) (w2 : Nat) (σ : Hs) : ru d 220 14 [l0, l1, l2] [.ref 111, .int w0, .int w1, .ref w2] σ = kont (callD d 216 [.ref 111] σ) d 220 17 [l0, l1, l2] [.int w0, .int w1, .ref w2] := q_invv t220_14 mo220 K9_505 mj216 rfl rfl rfl rfl (Nat.le_of_ble_eq_true rfl)
theorem s220_14_o112 (d : Nat) (l0 : Value) (l1 : Value) (l2 : Value) (w0 : Int32) (w1 : Int32) (w2 : Nat) (σ : Hs) : ru d 220 14 [l0, l1, l2] [.ref 112, .int w0, .int w1, .ref w2] σ = kont (callD d 216 [.ref 112] σ) d 220 17 [l0, l1, l2] [.int w0, .int w1, .ref w2] := q_invv t220_14 mo220 K9_505 mj216 rfl rfl rfl rfl (Nat.le_of_ble_eq_true rfl)
theorem s220_14_o113 (d : Nat) (l0 : Value) (l1 : Value) (l2 : Value) (w0 : Int32) (w1 : Int32) (w2 : Nat) (σ : Hs) : ru d 220 14 [l0, l1, l2] [.ref 113, .int w0, .int w1, .ref w2] σ = kont (callD d 216 [.ref 113] σ) d 220 17 [l0, l1, l2] [.int w0, .int w1, .ref w2] := q_invv t220_14 mo220 K9_505 mj216 rfl rfl rfl rfl (Nat.le_of_ble_eq_true rfl)
theorem s220_14_o114 (d : Nat) (l0 : Value) (l1 : Value) (l2 : Value) (w0 : Int32) (w1 : Int32) (w2 : Nat) (σ : Hs) : ru d 220 14 [l0, l1, l2] [.ref 114, .int w0, .int w1, .ref w2] σ = kont (callD d 216 [.ref 114] σ) d 220 17 [l0, l1, l2] [.int w0, .int w1, .ref w2] := q_invv t220_14 mo220 K9_505 mj216 rfl rfl rfl rfl (Nat.le_of_ble_eq_true rfl)
theorem s220_14_o115 (d : Nat) (l0 : Value) (l1 : Value) (l2 : Value) (w0 : Int32) (w1 : Int32) (w2 : Nat) (σ : Hs) : ru d 220 14 [l0, l1, l2] [.ref 115, .int w0, .int w1, .ref w2] σ = kont (callD d 216 [.ref 115] σ) d 220 17 [l0, l1, l2] [.int w0, .int w1, .ref w2] := q_invv t220_14 mo220 K9_505 mj216 rfl rfl rfl rfl (Nat.le_of_ble_eq_true rfl)
theorem s220_14_o116 (d : Nat) (l0 : Value) (l1 : Value) (l2 : Value) (w0 : Int32) (w1 : Int32) (w2 : Nat) (σ : Hs) : ru d 220 14 [l0, l1, l2] [.ref 116, .int w0, .int w1, .ref w2] σ = kont (callD d 216 [.ref 116] σ) d 220 17 [l0, l1, l2] [.int w0, .int w1, .ref w2] := q_invv t220_14 mo220 K9_505 mj216 rfl rfl rfl rfl (Nat.le_of_ble_eq_true rfl)
theorem s220_14_o117 (d : Nat) (l0 : Value) (l1 : Value) (l2 : Value) (w0 : Int32) (w1 : Int32) (w2 : Nat) (σ : Hs) : ru d 220 14 [l0, l1, l2] [.ref 117, .int w0, .int w1, .ref w2] σ = kont (callD d 216 [.ref 117] σ) d 220 17 [l0, l1, l2] [.int w0, .int w1, .ref w2] := q_invv t220_14 mo220 K9_505 mj216 rfl rfl rfl rfl (Nat.le_of_ble_eq_true rfl)
theorem s220_14_o118 (d : Nat) (l0 : Value) (l1 : Value) (l2 : Value) (w0 : Int32) (w1 : Int32) (w2 : Nat) (σ : Hs) : ru d 220 14 [l0, l1, l2] [.ref 118, .int w0, .int w1, .ref w2] σ = kont (callD d 216 [.ref 118] σ) d 220 17 [l0, l1, l2] [.int w0, .int w1, .ref w2] := q_invv t220_14 mo220 K9_505 mj216 rfl rfl rfl rfl (Nat.le_of_ble_eq_true rfl)
theorem t220_17 : decode (mb 220) 17 = .ok (.invokestatic 637, 3) := by decide +kernel
theorem s220_17 (d : Nat) (l0 : Value) (l1 : Value) (l2 : Value) (v0 v1 v2 v3 : Value) (σ : Hs) : ru d 220 17 [l0, l1, l2] [v3, v2, v1, v0] σ = kont (callD d 219 [v0, v1, v2, v3] σ) d 220 20 [l0, l1, l2] [] := q_invs t220_17 mo220 (by decide +kernel) K9_637 mj219 (Nat.le_of_ble_eq_true rfl) rfl rfl (Nat.le_of_ble_eq_true rfl)
theorem t220_20 : decode (mb 220) 20 = .ok (.goto 16, 3) := by decide +kernel
theorem s220_20 (d : Nat) (l0 : Value) (l1 : Value) (l2 : Value) (w0 : Value) (σ : Hs) : ru d 220 20 [l0, l1, l2] [w0] σ = ru d 220 36 [l0, l1, l2] [w0] σ := q_goto t220_20 (by decide +kernel)
theorem t220_23 : decode (mb 220) 23 = .ok (.aload_n 0, 1) := by decide +kernel
theorem s220_23 (d : Nat) (a0 : Nat) (l1 : Value) (l2 : Value) (σ : Hs) : ru d 220 23 [.ref a0, l1, l2] [] σ = ru d 220 24 [.ref a0, l1, l2] [.ref a0] σ := q_aload_n t220_23 rfl
theorem t220_24 : decode (mb 220) 24 = .ok (.getfield 9, 3) := by decide +kernel
theorem s220_24_o111 (d : Nat) (l0 : Value) (l1 : Value) (l2 : Value) (σ : Hs) : ru d 220 24 [l0, l1, l2] [.ref 111] σ = ru d 220 27 [l0, l1, l2] [.ref 123] σ := q_getf t220_24 mo220 F9_9 rfl rfl
theorem s220_24_o112 (d : Nat) (l0 : Value) (l1 : Value) (l2 : Value) (σ : Hs) : ru d 220 24 [l0, l1, l2] [.ref 112] σ = ru d 220 27 [l0, l1, l2] [.ref 124] σ := q_getf t220_24 mo220 F9_9 rfl rfl
theorem s220_24_o113 (d : Nat) (l0 : Value) (l1 : Value) (l2 : Value) (σ : Hs) : ru d 220 24 [l0, l1, l2] [.ref 113] σ = ru d 220 27 [l0, l1, l2] [.ref 125] σ := q_getf t220_24 mo220 F9_9 rfl rfl
theorem s220_24_o114 (d : Nat) (l0 : Value) (l1 : Value) (l2 : Value) (σ : Hs) : ru d 220 24 [l0, l1, l2] [.ref 114] σ = ru d 220 27 [l0, l1, l2] [.ref 126] σ := q_getf t220_24 mo220 F9_9 rfl rfl
theorem s220_24_o115 (d : Nat) (l0 : Value) (l1 : Value) (l2 : Value) (σ : Hs) : ru d 220 24 [l0, l1, l2] [.ref 115] σ = ru d 220 27 [l0, l1, l2] [.ref 127] σ := q_getf t220_24 mo220 F9_9 rfl rfl
theorem s220_24_o116 (d : Nat) (l0 : Value) (l1 : Value) (l2 : Value) (σ : Hs) : ru d 220 24 [l0, l1, l2] [.ref 116] σ = ru d 220 27 [l0, l1, l2] [.ref 128] σ := q_getf t220_24 mo220 F9_9 rfl rfl
theorem s220_24_o117 (d : Nat) (l0 : Value) (l1 : Value) (l2 : Value) (σ : Hs) : ru d 220 24 [l0, l1, l2] [.ref 117] σ = ru d 220 27 [l0, l1, l2] [.ref 129] σ := q_getf t220_24 mo220 F9_9 rfl rfl
theorem s220_24_o118 (d : Nat) (l0 : Value) (l1 : Value) (l2 : Value) (σ : Hs) : ru d 220 24 [l0, l1, l2] [.ref 118] σ = ru d 220 27 [l0, l1, l2] [.ref 130] σ := q_getf t220_24 mo220 F9_9 rfl rfl
theorem t220_27 : decode (mb 220) 27 = .ok (.iload_n 1, 1) := by decide +kernel
theorem s220_27 (d : Nat) (l0 : Value) (i1 : Int32) (l2 : Value) (w0 : Value) (σ : Hs) : ru d 220 27 [l0, .int i1, l2] [w0] σ = ru d 220 28 [l0, .int i1, l2] [.int i1, w0] σ := q_iload_n t220_27 rfl
theorem t220_28 : decode (mb 220) 28 = .ok (.iload_n 2, 1) := by decide +kernel
theorem s220_28 (d : Nat) (l0 : Value) (l1 : Value) (i2 : Int32) (w0 w1 : Value) (σ : Hs) : ru d 220 28 [l0, l1, .int i2] [w0, w1] σ = ru d 220 29 [l0, l1, .int i2] [.int i2, w0, w1] σ := q_iload_n t220_28 rfl
theorem t220_29 : decode (mb 220) 29 = .ok (.aload_n 0, 1) := by decide +kernel
theorem s220_29 (d : Nat) (a0 : Nat) (l1 : Value) (l2 : Value) (w0 w1 w2 : Value) (σ : Hs) : ru d 220 29 [.ref a0, l1, l2] [w0, w1, w2] σ = ru d 220 30 [.ref a0, l1, l2] [.ref a0, w0, w1, w2] σ := q_aload_n t220_29 rfl
theorem t220_30 : decode (mb 220) 30 = .ok (.invokevirtual 505, 3) := by decide +kernel
theorem s220_30_o111 (d : Nat) (l0 : Value) (l1 : Value) (l2 : Value) (w0 : Int32) (w1 : Int32) (w2 : Nat) (σ : Hs) : ru d 220 30 [l0, l1, l2] [.ref 111, .int w0, .int w1, .ref w2] σ = kont (callD d 216 [.ref 111] σ) d 220 33 [l0, l1, l2] [.int w0, .int w1, .ref w2] := q_invv t220_30 mo220 K9_505 mj216 rfl rfl rfl rfl (Nat.le_of_ble_eq_true rfl)
theorem s220_30_o112 (d : Nat) (l0 : Value) (l1 : Value) (l2 : Value) (w0 : Int32) (w1 : Int32) (w2 : Nat) (σ : Hs) : ru d 220 30 [l0, l1, l2] [.ref 112, .int w0, .int w1, .ref w2] σ = kont (callD d 216 [.ref 112] σ) d 220 33 [l0, l1, l2] [.int w0, .int w1, .ref w2] := q_invv t220_30 mo220 K9_505 mj216 rfl rfl rfl rfl (Nat.le_of_ble_eq_true rfl)
theorem s220_30_o113 (d : Nat) (l0 : Value) (l1 : Value) (l2 : Value) (w0 : Int32) (w1 : Int32) (w2 : Nat) (σ : Hs) : ru d 220 30 [l0, l1, l2] [.ref 113, .int w0, .int w1, .ref w2] σ = kont (callD d 216 [.ref 113] σ) d 220 33 [l0, l1, l2] [.int w0, .int w1, .ref w2] := q_invv t220_30 mo220 K9_505 mj216 rfl rfl rfl rfl (Nat.le_of_ble_eq_true rfl)
theorem s220_30_o114 (d : Nat) (l0 : Value) (l1 : Value) (l2 : Value) (w0 : Int32) (w1 : Int32) (w2 : Nat) (σ : Hs) : ru d 220 30 [l0, l1, l2] [.ref 114, .int w0, .int w1, .ref w2] σ = kont (callD d 216 [.ref 114] σ) d 220 33 [l0, l1, l2] [.int w0, .int w1, .ref w2] := q_invv t220_30 mo220 K9_505 mj216 rfl rfl rfl rfl (Nat.le_of_ble_eq_true rfl)
theorem s220_30_o115 (d : Nat) (l0 : Value) (l1 : Value) (l2 : Value) (w0 : Int32) (w1 : Int32) (w2 : Nat) (σ : Hs) : ru d 220 30 [l0, l1, l2] [.ref 115, .int w0, .int w1, .ref w2] σ = kont (callD d 216 [.ref 115] σ) d 220 33 [l0, l1, l2] [.int w0, .int w1, .ref w2] := q_invv t220_30 mo220 K9_505 mj216 rfl rfl rfl rfl (Nat.le_of_ble_eq_true rfl)
theorem s220_30_o116 (d : Nat) (l0 : Value) (l1 : Value) (l2 : Value) (w0 : Int32) (w1 : Int32) (w2 : Nat) (σ : Hs) : ru d 220 30 [l0, l1, l2] [.ref 116, .int w0, .int w1, .ref w2] σ = kont (callD d 216 [.ref 116] σ) d 220 33 [l0, l1, l2] [.int w0, .int w1, .ref w2] := q_invv t220_30 mo220 K9_505 mj216 rfl rfl rfl rfl (Nat.le_of_ble_eq_true rfl)
theorem s220_30_o117 (d : Nat) (l0 : Value) (l1 : Value) (l2 : Value) (w0 : Int32) (w1 : Int32) (w2 : Nat) (σ : Hs) : ru d 220 30 [l0, l1, l2] [.ref 117, .int w0, .int w1, .ref w2] σ = kont (callD d 216 [.ref 117] σ) d 220 33 [l0, l1, l2] [.int w0, .int w1, .ref w2] := q_invv t220_30 mo220 K9_505 mj216 rfl rfl rfl rfl (Nat.le_of_ble_eq_true rfl)
theorem s220_30_o118 (d : Nat) (l0 : Value) (l1 : Value) (l2 : Value) (w0 : Int32) (w1 : Int32) (w2 : Nat) (σ : Hs) : ru d 220 30 [l0, l1, l2] [.ref 118, .int w0, .int w1, .ref w2] σ = kont (callD d 216 [.ref 118] σ) d 220 33 [l0, l1, l2] [.int w0, .int w1, .ref w2] := q_invv t220_30 mo220 K9_505 mj216 rfl rfl rfl rfl (Nat.le_of_ble_eq_true rfl)
theorem t220_36 : decode (mb 220) 36 = .ok (.ireturn, 1) := by decide +kernel
theorem s220_36 (d : Nat) (l0 : Value) (l1 : Value) (l2 : Value) (x : Int32) (σ : Hs) : ru d 220 36 [l0, l1, l2] [.int x] σ = some (some (.int x), σ) := q_ireti t220_36 mr220
theorem c220 (d : Nat) (x0 : Nat) (x1 : Int32) (x2 : Int32) (σ : Hs) : callD (d + 1) 220 [.ref x0, .int x1, .int x2] σ = ru d 220 0 [.ref x0, .int x1, .int x2] [] σ := callD_ru ml220 rfl rfl (Nat.le_of_ble_eq_true rfl)
-- 221: String.indexOf_I(I)I
theorem t221_0 : decode (mb 221) 0 = .ok (.aload_n 0, 1) := by decide +kernel
theorem s221_0 (d : Nat) (a0 : Nat) (l1 : Value) (σ : Hs) : ru d 221 0 [.ref a0, l1] [] σ = ru d 221 1 [.ref a0, l1] [.ref a0] σ := q_aload_n t221_0 rfl
theorem t221_1 : decode (mb 221) 1 = .ok (.iload_n 1, 1) := by decide +kernel
theorem s221_1 (d : Nat) (l0 : Value) (i1 : Int32) (w0 : Value) (σ : Hs) : ru d 221 1 [l0, .int i1] [w0] σ = ru d 221 2 [l0, .int i1] [.int i1, w0] σ := q_iload_n t221_1 rfl
theorem t221_2 : decode (mb 221) 2 = .ok (.iconst 0, 1) := by decide +kernel
theorem s221_2 (d : Nat) (l0 : Value) (l1 : Value) (w0 w1 : Value) (σ : Hs) : ru d 221 2 [l0, l1] [w0, w1] σ = ru d 221 3 [l0, l1] [.int 0, w0, w1] σ := q_iconst t221_2 (by decide +kernel)
theorem t221_3 : decode (mb 221) 3 = .ok (.invokevirtual 633, 3) := by decide +kernel
theorem s221_3_o111 (d : Nat) (l0 : Value) (l1 : Value) (v1 v2 : Value) (σ : Hs) : ru d 221 3 [l0, l1] [v2, v1, .ref 111] σ = kont (callD d 220 [.ref 111, v1, v2] σ) d 221 6 [l0, l1] [] := q_invv t221_3 mo221 K9_633 mj220 rfl rfl rfl rfl (Nat.le_of_ble_eq_true rfl)
theorem s221_3_o112 (d : Nat) (l0 : Value) (l1 : Value) (v1 v2 : Value) (σ : Hs) : ru d 221 3 [l0, l1] [v2, v1, .ref 112] σ = kont (callD d 220 [.ref 112, v1, v2] σ) d 221 6 [l0, l1] [] := q_invv t221_3 mo221 K9_633 mj220 rfl rfl rfl rfl (Nat.le_of_ble_eq_true rfl)
theorem s221_3_o113 (d : Nat) (l0 : Value) (l1 : Value) (v1 v2 : Value) (σ : Hs) : ru d 221 3 [l0, l1] [v2, v1, .ref 113] σ = kont (callD d 220 [.ref 113, v1, v2] σ) d 221 6 [l0, l1] [] := q_invv t221_3 mo221 K9_633 mj220 rfl rfl rfl rfl (Nat.le_of_ble_eq_true rfl)
theorem s221_3_o114 (d : Nat) (l0 : Value) (l1 : Value) (v1 v2 : Value) (σ : Hs) : ru d 221 3 [l0, l1] [v2, v1, .ref 114] σ = kont (callD d 220 [.ref 114, v1, v2] σ) d 221 6 [l0, l1] [] := q_invv t221_3 mo221 K9_633 mj220 rfl rfl rfl rfl (Nat.le_of_ble_eq_true rfl)
theorem s221_3_o115 (d : Nat) (l0 : Value) (l1 : Value) (v1 v2 : Value) (σ : Hs) : ru d 221 3 [l0, l1] [v2, v1, .ref 115] σ = kont (callD d 220 [.ref 115, v1, v2] σ) d 221 6 [l0, l1] [] := q_invv t221_3 mo221 K9_633 mj220 rfl rfl rfl rfl (Nat.le_of_ble_eq_true rfl)
theorem s221_3_o116 (d : Nat) (l0 : Value) (l1 : Value) (v1 v2 : Value) (σ : Hs) : ru d 221 3 [l0, l1] [v2, v1, .ref 116] σ = kont (callD d 220 [.ref 116, v1, v2] σ) d 221 6 [l0, l1] [] := q_invv t221_3 mo221 K9_633 mj220 rfl rfl rfl rfl (Nat.le_of_ble_eq_true rfl)
theorem s221_3_o117 (d : Nat) (l0 : Value) (l1 : Value) (v1 v2 : Value) (σ : Hs) : ru d 221 3 [l0, l1] [v2, v1, .ref 117] σ = kont (callD d 220 [.ref 117, v1, v2] σ) d 221 6 [l0, l1] [] := q_invv t221_3 mo221 K9_633 mj220 rfl rfl rfl rfl (Nat.le_of_ble_eq_true rfl)
theorem s221_3_o118 (d : Nat) (l0 : Value) (l1 : Value) (v1 v2 : Value) (σ : Hs) : ru d 221 3 [l0, l1] [v2, v1, .ref 118] σ = kont (callD d 220 [.ref 118, v1, v2] σ) d 221 6 [l0, l1] [] := q_invv t221_3 mo221 K9_633 mj220 rfl rfl rfl rfl (Nat.le_of_ble_eq_true rfl)
theorem t221_6 : decode (mb 221) 6 = .ok (.ireturn, 1) := by decide +kernel
theorem s221_6 (d : Nat) (l0 : Value) (l1 : Value) (x : Int32) (σ : Hs) : ru d 221 6 [l0, l1] [.int x] σ = some (some (.int x), σ) := q_ireti t221_6 mr221
theorem c221 (d : Nat) (x0 : Nat) (x1 : Int32) (σ : Hs) : callD (d + 1) 221 [.ref x0, .int x1] σ = ru d 221 0 [.ref x0, .int x1] [] σ := callD_ru ml221 rfl rfl (Nat.le_of_ble_eq_true rfl)
-- 222: Integer.bitCount(I)I
theorem t222_0 : decode (mb 222) 0 = .ok (.iload_n 0, 1) := by decide +kernel
theorem s222_0 (d : Nat) (i0 : Int32) (σ : Hs) : ru d 222 0 [.int i0] [] σ = ru d 222 1 [.int i0] [.int i0] σ := q_iload_n t222_0 rfl
theorem t222_1 : decode (mb 222) 1 = .ok (.iload_n 0, 1) := by decide +kernel
theorem s222_1 (d : Nat) (i0 : Int32) (w0 : Value) (σ : Hs) : ru d 222 1 [.int i0] [w0] σ = ru d 222 2 [.int i0] [.int i0, w0] σ := q_iload_n t222_1 rfl
theorem t222_2 : decode (mb 222) 2 = .ok (.iconst 1, 1) := by decide +kernel
theorem s222_2 (d : Nat) (l0 : Value) (w0 w1 : Value) (σ : Hs) : ru d 222 2 [l0] [w0, w1] σ = ru d 222 3 [l0] [.int 1, w0, w1] σ := q_iconst t222_2 (by decide +kernel)
theorem t222_3 : decode (mb 222) 3 = .ok (.iushr, 1) := by decide +kernel
theorem s222_3 (d : Nat) (l0 : Value) (x y : Int32) (w0 : Value) (σ : Hs) : ru d 222 3 [l0] [.int y, .int x, w0] σ = ru d 222 4 [l0] [.int ((x.toUInt32 >>> (y.toUInt32 &&& Int32.toUInt32 31)).toInt32), w0] σ := q_iushr t222_3
theorem t222_4 : decode (mb 222) 4 = .ok (.ldc_w 265, 3) := by decide +kernel
theorem s222_4 (d : Nat) (l0 : Value) (w0 w1 : Value) (σ : Hs) : ru d 222 4 [l0] [w0, w1] σ = ru d 222 7 [l0] [.int 1431655765, w0, w1] σ := q_ldcw t222_4 mo222 C11_265
theorem t222_7 : decode (mb 222) 7 = .ok (.iand, 1) := by decide +kernel
theorem s222_7 (d : Nat) (l0 : Value) (x y : Int32) (w0 : Value) (σ : Hs) : ru d 222 7 [l0] [.int y, .int x, w0] σ = ru d 222 8 [l0] [.int (x &&& y), w0] σ := q_iand t222_7
theorem t222_8 : decode (mb 222) 8 = .ok (.isub, 1) := by decide +kernel
theorem s222_8 (d : Nat) (l0 : Value) (x y : Int32) (σ : Hs) : ru d 222 8 [l0] [.int y, .int x] σ = ru d 222 9 [l0] [.int (x - y)] σ := q_isub t222_8
theorem t222_9 : decode (mb 222) 9 = .ok (.istore_n 0, 1) := by decide +kernel
theorem s222_9 (d : Nat) (i0 : Int32) (x : Int32) (σ : Hs) : ru d 222 9 [.int i0] [.int x] σ = ru d 222 10 [.int x] [] σ := q_istore_n t222_9 ⟨Nat.le_of_ble_eq_true rfl, rfl⟩ rfl
theorem t222_10 : decode (mb 222) 10 = .ok (.iload_n 0, 1) := by decide +kernel
theorem s222_10 (d : Nat) (i0 : Int32) (σ : Hs) : ru d 222 10 [.int i0] [] σ = ru d 222 11 [.int i0] [.int i0] σ := q_iload_n t222_10 rfl
theorem t222_11 : decode (mb 222) 11 = .ok (.ldc_w 266, 3) := by decide +kernel
theorem s222_11 (d : Nat) (l0 : Value) (w0 : Value) (σ : Hs) : ru d 222 11 [l0] [w0] σ = ru d 222 14 [l0] [.int 858993459, w0] σ := q_ldcw t222_11 mo222 C11_266
theorem t222_14 : decode (mb 222) 14 = .ok (.iand, 1) := by decide +kernel
theorem s222_14 (d : Nat) (l0 : Value) (x y : Int32) (σ : Hs) : ru d 222 14 [l0] [.int y, .int x] σ = ru d 222 15 [l0] [.int (x &&& y)] σ := q_iand t222_14
theorem t222_15 : decode (mb 222) 15 = .ok (.iload_n 0, 1) := by decide +kernel
theorem s222_15 (d : Nat) (i0 : Int32) (w0 : Value) (σ : Hs) : ru d 222 15 [.int i0] [w0] σ = ru d 222 16 [.int i0] [.int i0, w0] σ := q_iload_n t222_15 rfl
theorem t222_16 : decode (mb 222) 16 = .ok (.iconst 2, 1) := by decide +kernel
theorem s222_16 (d : Nat) (l0 : Value) (w0 w1 : Value) (σ : Hs) : ru d 222 16 [l0] [w0, w1] σ = ru d 222 17 [l0] [.int 2, w0, w1] σ := q_iconst t222_16 (by decide +kernel)
theorem t222_17 : decode (mb 222) 17 = .ok (.iushr, 1) := by decide +kernel
theorem s222_17 (d : Nat) (l0 : Value) (x y : Int32) (w0 : Value) (σ : Hs) : ru d 222 17 [l0] [.int y, .int x, w0] σ = ru d 222 18 [l0] [.int ((x.toUInt32 >>> (y.toUInt32 &&& Int32.toUInt32 31)).toInt32), w0] σ := q_iushr t222_17
theorem t222_18 : decode (mb 222) 18 = .ok (.ldc_w 266, 3) := by decide +kernel
theorem s222_18 (d : Nat) (l0 : Value) (w0 w1 : Value) (σ : Hs) : ru d 222 18 [l0] [w0, w1] σ = ru d 222 21 [l0] [.int 858993459, w0, w1] σ := q_ldcw t222_18 mo222 C11_266
theorem t222_21 : decode (mb 222) 21 = .ok (.iand, 1) := by decide +kernel
theorem s222_21 (d : Nat) (l0 : Value) (x y : Int32) (w0 : Value) (σ : Hs) : ru d 222 21 [l0] [.int y, .int x, w0] σ = ru d 222 22 [l0] [.int (x &&& y), w0] σ := q_iand t222_21
theorem t222_22 : decode (mb 222) 22 = .ok (.iadd, 1) := by decide +kernel
theorem s222_22 (d : Nat) (l0 : Value) (x y : Int32) (σ : Hs) : ru d 222 22 [l0] [.int y, .int x] σ = ru d 222 23 [l0] [.int (x + y)] σ := q_iadd t222_22
theorem t222_23 : decode (mb 222) 23 = .ok (.istore_n 0, 1) := by decide +kernel
theorem s222_23 (d : Nat) (i0 : Int32) (x : Int32) (σ : Hs) : ru d 222 23 [.int i0] [.int x] σ = ru d 222 24 [.int x] [] σ := q_istore_n t222_23 ⟨Nat.le_of_ble_eq_true rfl, rfl⟩ rfl
theorem t222_24 : decode (mb 222) 24 = .ok (.iload_n 0, 1) := by decide +kernel
theorem s222_24 (d : Nat) (i0 : Int32) (σ : Hs) : ru d 222 24 [.int i0] [] σ = ru d 222 25 [.int i0] [.int i0] σ := q_iload_n t222_24 rfl
theorem t222_25 : decode (mb 222) 25 = .ok (.iload_n 0, 1) := by decide +kernel
theorem s222_25 (d : Nat) (i0 : Int32) (w0 : Value) (σ : Hs) : ru d 222 25 [.int i0] [w0] σ = ru d 222 26 [.int i0] [.int i0, w0] σ := q_iload_n t222_25 rfl
theorem t222_26 : decode (mb 222) 26 = .ok (.iconst 4, 1) := by decide +kernel
theorem s222_26 (d : Nat) (l0 : Value) (w0 w1 : Value) (σ : Hs) : ru d 222 26 [l0] [w0, w1] σ = ru d 222 27 [l0] [.int 4, w0, w1] σ := q_iconst t222_26 (by decide +kernel)
theorem t222_27 : decode (mb 222) 27 = .ok (.iushr, 1) := by decide +kernel
theorem s222_27 (d : Nat) (l0 : Value) (x y : Int32) (w0 : Value) (σ : Hs) : ru d 222 27 [l0] [.int y, .int x, w0] σ = ru d 222 28 [l0] [.int ((x.toUInt32 >>> (y.toUInt32 &&& Int32.toUInt32 31)).toInt32), w0] σ := q_iushr t222_27
theorem t222_28 : decode (mb 222) 28 = .ok (.iadd, 1) := by decide +kernel
theorem s222_28 (d : Nat) (l0 : Value) (x y : Int32) (σ : Hs) : ru d 222 28 [l0] [.int y, .int x] σ = ru d 222 29 [l0] [.int (x + y)] σ := q_iadd t222_28
theorem t222_29 : decode (mb 222) 29 = .ok (.ldc_w 267, 3) := by decide +kernel
theorem s222_29 (d : Nat) (l0 : Value) (w0 : Value) (σ : Hs) : ru d 222 29 [l0] [w0] σ = ru d 222 32 [l0] [.int 252645135, w0] σ := q_ldcw t222_29 mo222 C11_267
theorem t222_32 : decode (mb 222) 32 = .ok (.iand, 1) := by decide +kernel
theorem s222_32 (d : Nat) (l0 : Value) (x y : Int32) (σ : Hs) : ru d 222 32 [l0] [.int y, .int x] σ = ru d 222 33 [l0] [.int (x &&& y)] σ := q_iand t222_32
theorem t222_33 : decode (mb 222) 33 = .ok (.istore_n 0, 1) := by decide +kernel
theorem s222_33 (d : Nat) (i0 : Int32) (x : Int32) (σ : Hs) : ru d 222 33 [.int i0] [.int x] σ = ru d 222 34 [.int x] [] σ := q_istore_n t222_33 ⟨Nat.le_of_ble_eq_true rfl, rfl⟩ rfl
theorem t222_34 : decode (mb 222) 34 = .ok (.iload_n 0, 1) := by decide +kernel
theorem s222_34 (d : Nat) (i0 : Int32) (σ : Hs) : ru d 222 34 [.int i0] [] σ = ru d 222 35 [.int i0] [.int i0] σ := q_iload_n t222_34 rfl
theorem t222_35 : decode (mb 222) 35 = .ok (.iload_n 0, 1) := by decide +kernel
theorem s222_35 (d : Nat) (i0 : Int32) (w0 : Value) (σ : Hs) : ru d 222 35 [.int i0] [w0] σ = ru d 222 36 [.int i0] [.int i0, w0] σ := q_iload_n t222_35 rfl
theorem t222_36 : decode (mb 222) 36 = .ok (.bipush 8, 2) := by decide +kernel
theorem s222_36 (d : Nat) (l0 : Value) (w0 w1 : Value) (σ : Hs) : ru d 222 36 [l0] [w0, w1] σ = ru d 222 38 [l0] [.int 8, w0, w1] σ := q_bipush t222_36 (by decide +kernel)
theorem t222_38 : decode (mb 222) 38 = .ok (.iushr, 1) := by decide +kernel
theorem s222_38 (d : Nat) (l0 : Value) (x y : Int32) (w0 : Value) (σ : Hs) : ru d 222 38 [l0] [.int y, .int x, w0] σ = ru d 222 39 [l0] [.int ((x.toUInt32 >>> (y.toUInt32 &&& Int32.toUInt32 31)).toInt32), w0] σ := q_iushr t222_38
theorem t222_39 : decode (mb 222) 39 = .ok (.iadd, 1) := by decide +kernel
theorem s222_39 (d : Nat) (l0 : Value) (x y : Int32) (σ : Hs) : ru d 222 39 [l0] [.int y, .int x] σ = ru d 222 40 [l0] [.int (x + y)] σ := q_iadd t222_39
theorem t222_40 : decode (mb 222) 40 = .ok (.istore_n 0, 1) := by decide +kernel
theorem s222_40 (d : Nat) (i0 : Int32) (x : Int32) (σ : Hs) : ru d 222 40 [.int i0] [.int x] σ = ru d 222 41 [.int x] [] σ := q_istore_n t222_40 ⟨Nat.le_of_ble_eq_true rfl, rfl⟩ rfl
theorem t222_41 : decode (mb 222) 41 = .ok (.iload_n 0, 1) := by decide +kernel
theorem s222_41 (d : Nat) (i0 : Int32) (σ : Hs) : ru d 222 41 [.int i0] [] σ = ru d 222 42 [.int i0] [.int i0] σ := q_iload_n t222_41 rfl
theorem t222_42 : decode (mb 222) 42 = .ok (.iload_n 0, 1) := by decide +kernel
theorem s222_42 (d : Nat) (i0 : Int32) (w0 : Value) (σ : Hs) : ru d 222 42 [.int i0] [w0] σ = ru d 222 43 [.int i0] [.int i0, w0] σ := q_iload_n t222_42 rfl
theorem t222_43 : decode (mb 222) 43 = .ok (.bipush 16, 2) := by decide +kernel
theorem s222_43 (d : Nat) (l0 : Value) (w0 w1 : Value) (σ : Hs) : ru d 222 43 [l0] [w0, w1] σ = ru d 222 45 [l0] [.int 16, w0, w1] σ := q_bipush t222_43 (by decide +kernel)
theorem t222_45 : decode (mb 222) 45 = .ok (.iushr, 1) := by decide +kernel
theorem s222_45 (d : Nat) (l0 : Value) (x y : Int32) (w0 : Value) (σ : Hs) : ru d 222 45 [l0] [.int y, .int x, w0] σ = ru d 222 46 [l0] [.int ((x.toUInt32 >>> (y.toUInt32 &&& Int32.toUInt32 31)).toInt32), w0] σ := q_iushr t222_45
theorem t222_46 : decode (mb 222) 46 = .ok (.iadd, 1) := by decide +kernel
theorem s222_46 (d : Nat) (l0 : Value) (x y : Int32) (σ : Hs) : ru d 222 46 [l0] [.int y, .int x] σ = ru d 222 47 [l0] [.int (x + y)] σ := q_iadd t222_46
theorem t222_47 : decode (mb 222) 47 = .ok (.istore_n 0, 1) := by decide +kernel
theorem s222_47 (d : Nat) (i0 : Int32) (x : Int32) (σ : Hs) : ru d 222 47 [.int i0] [.int x] σ = ru d 222 48 [.int x] [] σ := q_istore_n t222_47 ⟨Nat.le_of_ble_eq_true rfl, rfl⟩ rfl
theorem t222_48 : decode (mb 222) 48 = .ok (.iload_n 0, 1) := by decide +kernel
theorem s222_48 (d : Nat) (i0 : Int32) (σ : Hs) : ru d 222 48 [.int i0] [] σ = ru d 222 49 [.int i0] [.int i0] σ := q_iload_n t222_48 rfl
theorem t222_49 : decode (mb 222) 49 = .ok (.bipush 63, 2) := by decide +kernel
theorem s222_49 (d : Nat) (l0 : Value) (w0 : Value) (σ : Hs) : ru d 222 49 [l0] [w0] σ = ru d 222 51 [l0] [.int 63, w0] σ := q_bipush t222_49 (by decide +kernel)
theorem t222_51 : decode (mb 222) 51 = .ok (.iand, 1) := by decide +kernel
theorem s222_51 (d : Nat) (l0 : Value) (x y : Int32) (σ : Hs) : ru d 222 51 [l0] [.int y, .int x] σ = ru d 222 52 [l0] [.int (x &&& y)] σ := q_iand t222_51
theorem t222_52 : decode (mb 222) 52 = .ok (.ireturn, 1) := by decide +kernel
theorem s222_52 (d : Nat) (l0 : Value) (x : Int32) (σ : Hs) : ru d 222 52 [l0] [.int x] σ = some (some (.int x), σ) := q_ireti t222_52 mr222
theorem c222 (d : Nat) (x0 : Int32) (σ : Hs) : callD (d + 1) 222 [.int x0] σ = ru d 222 0 [.int x0] [] σ := callD_ru ml222 rfl rfl (Nat.le_of_ble_eq_true rfl)
-- 223: Preconditions.checkIndex(IILjava/util/function/BiFunction;)I
theorem t223_0 : decode (mb 223) 0 = .ok (.iload_n 0, 1) := by decide +kernel
theorem s223_0 (d : Nat) (i0 : Int32) (l1 : Value) (l2 : Value) (σ : Hs) : ru d 223 0 [.int i0, l1, l2] [] σ = ru d 223 1 [.int i0, l1, l2] [.int i0] σ := q_iload_n t223_0 rfl
theorem t223_1 : decode (mb 223) 1 = .ok (.ifCond .lt 8, 3) := by decide +kernel
theorem s223_1 (d : Nat) (l0 : Value) (l1 : Value) (l2 : Value) (x : Int32) (σ : Hs) : ru d 223 1 [l0, l1, l2] [.int x] σ = if x < 0 then ru d 223 9 [l0, l1, l2] [] σ else ru d 223 4 [l0, l1, l2] [] σ := q_if_lt t223_1 (by decide +kernel)
theorem t223_4 : decode (mb 223) 4 = .ok (.iload_n 0, 1) := by decide +kernel
theorem s223_4 (d : Nat) (i0 : Int32) (l1 : Value) (l2 : Value) (σ : Hs) : ru d 223 4 [.int i0, l1, l2] [] σ = ru d 223 5 [.int i0, l1, l2] [.int i0] σ := q_iload_n t223_4 rfl
theorem t223_5 : decode (mb 223) 5 = .ok (.iload_n 1, 1) := by decide +kernel
theorem s223_5 (d : Nat) (l0 : Value) (i1 : Int32) (l2 : Value) (w0 : Value) (σ : Hs) : ru d 223 5 [l0, .int i1, l2] [w0] σ = ru d 223 6 [l0, .int i1, l2] [.int i1, w0] σ := q_iload_n t223_5 rfl
theorem t223_6 : decode (mb 223) 6 = .ok (.if_icmp .lt 10, 3) := by decide +kernel
theorem s223_6 (d : Nat) (l0 : Value) (l1 : Value) (l2 : Value) (x y : Int32) (σ : Hs) : ru d 223 6 [l0, l1, l2] [.int y, .int x] σ = if x < y then ru d 223 16 [l0, l1, l2] [] σ else ru d 223 9 [l0, l1, l2] [] σ := q_ic_lt t223_6 (by decide +kernel)
theorem t223_9 : decode (mb 223) 9 = .ok (.aload_n 2, 1) := by decide +kernel
theorem s223_9 (d : Nat) (l0 : Value) (l1 : Value) (a2 : Nat) (σ : Hs) : ru d 223 9 [l0, l1, .ref a2] [] σ = ru d 223 10 [l0, l1, .ref a2] [.ref a2] σ := q_aload_n t223_9 rfl
theorem t223_10 : decode (mb 223) 10 = .ok (.iload_n 0, 1) := by decide +kernel
theorem s223_10 (d : Nat) (i0 : Int32) (l1 : Value) (l2 : Value) (w0 : Value) (σ : Hs) : ru d 223 10 [.int i0, l1, l2] [w0] σ = ru d 223 11 [.int i0, l1, l2] [.int i0, w0] σ := q_iload_n t223_10 rfl
theorem t223_11 : decode (mb 223) 11 = .ok (.iload_n 1, 1) := by decide +kernel
theorem s223_11 (d : Nat) (l0 : Value) (i1 : Int32) (l2 : Value) (w0 w1 : Value) (σ : Hs) : ru d 223 11 [l0, .int i1, l2] [w0, w1] σ = ru d 223 12 [l0, .int i1, l2] [.int i1, w0, w1] σ := q_iload_n t223_11 rfl
theorem t223_16 : decode (mb 223) 16 = .ok (.iload_n 0, 1) := by decide +kernel
theorem s223_16 (d : Nat) (i0 : Int32) (l1 : Value) (l2 : Value) (σ : Hs) : ru d 223 16 [.int i0, l1, l2] [] σ = ru d 223 17 [.int i0, l1, l2] [.int i0] σ := q_iload_n t223_16 rfl
theorem t223_17 : decode (mb 223) 17 = .ok (.ireturn, 1) := by decide +kernel
theorem s223_17 (d : Nat) (l0 : Value) (l1 : Value) (l2 : Value) (x : Int32) (σ : Hs) : ru d 223 17 [l0, l1, l2] [.int x] σ = some (some (.int x), σ) := q_ireti t223_17 mr223
theorem c223 (d : Nat) (x0 : Int32) (x1 : Int32) (x2 : Nat) (σ : Hs) : callD (d + 1) 223 [.int x0, .int x1, .retAddr x2] σ = ru d 223 0 [.int x0, .int x1, .retAddr x2] [] σ := callD_ru ml223 rfl rfl (Nat.le_of_ble_eq_true rfl)
-- 224: String.checkIndex(II)V
theorem t224_0 : decode (mb 224) 0 = .ok (.iload_n 0, 1) := by decide +kernel
theorem s224_0 (d : Nat) (i0 : Int32) (l1 : Value) (σ : Hs) : ru d 224 0 [.int i0, l1] [] σ = ru d 224 1 [.int i0, l1] [.int i0] σ := q_iload_n t224_0 rfl
theorem t224_1 : decode (mb 224) 1 = .ok (.iload_n 1, 1) := by decide +kernel
theorem s224_1 (d : Nat) (l0 : Value) (i1 : Int32) (w0 : Value) (σ : Hs) : ru d 224 1 [l0, .int i1] [w0] σ = ru d 224 2 [l0, .int i1] [.int i1, w0] σ := q_iload_n t224_1 rfl
theorem t224_2 : decode (mb 224) 2 = .ok (.getstatic 1053, 3) := by decide +kernel
theorem s224_2 (d : Nat) (l0 : Value) (l1 : Value) (w0 w1 : Value) (σ : Hs) : ru d 224 2 [l0, l1] [w0, w1] σ = ru d 224 5 [l0, l1] [.retAddr 0, w0, w1] σ := q_gets t224_2 mo224 S9_1053 rfl
theorem t224_5 : decode (mb 224) 5 = .ok (.invokestatic 1059, 3) := by decide +kernel
theorem s224_5 (d : Nat) (l0 : Value) (l1 : Value) (v0 v1 v2 : Value) (σ : Hs) : ru d 224 5 [l0, l1] [v2, v1, v0] σ = kont (callD d 223 [v0, v1, v2] σ) d 224 8 [l0, l1] [] := q_invs t224_5 mo224 (by decide +kernel) K9_1059 mj223 (Nat.le_of_ble_eq_true rfl) rfl rfl (Nat.le_of_ble_eq_true rfl)
theorem t224_8 : decode (mb 224) 8 = .ok (.pop, 1) := by decide +kernel
theorem s224_8 (d : Nat) (l0 : Value) (l1 : Value) (x : Int32) (σ : Hs) : ru d 224 8 [l0, l1] [.int x] σ = ru d 224 9 [l0, l1] [] σ := q_pop t224_8 rfl
theorem t224_9 : decode (mb 224) 9 = .ok (.return_, 1) := by decide +kernel
theorem s224_9 (d : Nat) (l0 : Value) (l1 : Value) (σ : Hs) : ru d 224 9 [l0, l1] [] σ = some (none, σ) := q_vret t224_9 mr224
theorem c224 (d : Nat) (x0 : Int32) (x1 : Int32) (σ : Hs) : callD (d + 1) 224 [.int x0, .int x1] σ = ru d 224 0 [.int x0, .int x1] [] σ := callD_ru ml224 rfl rfl (Nat.le_of_ble_eq_true rfl)
-- 225: StringLatin1.charAt([BI)C
theorem t225_0 : decode (mb 225) 0 = .ok (.iload_n 1, 1) := by decide +kernel
theorem s225_0 (d : Nat) (l0 : Value) (i1 : Int32) (σ : Hs) : ru d 225 0 [l0, .int i1] [] σ = ru d 225 1 [l0, .int i1] [.int i1] σ := q_iload_n t225_0 rfl
theorem t225_1 : decode (mb 225) 1 = .ok (.aload_n 0, 1) := by decide +kernel
theorem s225_1 (d : Nat) (a0 : Nat) (l1 : Value) (w0 : Value) (σ : Hs) : ru d 225 1 [.ref a0, l1] [w0] σ = ru d 225 2 [.ref a0, l1] [.ref a0, w0] σ := q_aload_n t225_1 rfl
theorem t225_2 : decode (mb 225) 2 = .ok (.arraylength, 1) := by decide +kernel
theorem s225_2_o131 (d : Nat) (l0 : Value) (l1 : Value) (w0 : Value) (σ : Hs) : ru d 225 2 [l0, l1] [.ref 131, w0] σ = ru d 225 3 [l0, l1] [.int 4, w0] σ := q_alen t225_2 (by decide +kernel) (by decide +kernel) (by decide +kernel)
theorem s225_2_o132 (d : Nat) (l0 : Value) (l1 : Value) (w0 : Value) (σ : Hs) : ru d 225 2 [l0, l1] [.ref 132, w0] σ = ru d 225 3 [l0, l1] [.int 4, w0] σ := q_alen t225_2 (by decide +kernel) (by decide +kernel) (by decide +kernel)
theorem s225_2_o133 (d : Nat) (l0 : Value) (l1 : Value) (w0 : Value) (σ : Hs) : ru d 225 2 [l0, l1] [.ref 133, w0] σ = ru d 225 3 [l0, l1] [.int 3, w0] σ := q_alen t225_2 (by decide +kernel) (by decide +kernel) (by decide +kernel)
theorem t225_3 : decode (mb 225) 3 = .ok (.invokestatic 9, 3) := by decide +kernel
theorem s225_3 (d : Nat) (l0 : Value) (l1 : Value) (v0 v1 : Value) (σ : Hs) : ru d 225 3 [l0, l1] [v1, v0] σ = kont (callD d 224 [v0, v1] σ) d 225 6 [l0, l1] [] := q_invs t225_3 mo225 (by decide +kernel) K10_9 mj224 (Nat.le_of_ble_eq_true rfl) rfl rfl (Nat.le_of_ble_eq_true rfl)
theorem t225_6 : decode (mb 225) 6 = .ok (.aload_n 0, 1) := by decide +kernel
theorem s225_6 (d : Nat) (a0 : Nat) (l1 : Value) (σ : Hs) : ru d 225 6 [.ref a0, l1] [] σ = ru d 225 7 [.ref a0, l1] [.ref a0] σ := q_aload_n t225_6 rfl
theorem t225_7 : decode (mb 225) 7 = .ok (.iload_n 1, 1) := by decide +kernel
theorem s225_7 (d : Nat) (l0 : Value) (i1 : Int32) (w0 : Value) (σ : Hs) : ru d 225 7 [l0, .int i1] [w0] σ = ru d 225 8 [l0, .int i1] [.int i1, w0] σ := q_iload_n t225_7 rfl
theorem t225_8 : decode (mb 225) 8 = .ok (.baload, 1) := by decide +kernel
theorem s225_8_o131 (d : Nat) (l0 : Value) (l1 : Value) (i : Int32) (σ : Hs) : ru d 225 8 [l0, l1] [.int i, .ref 131] σ = gd (vp_in i 4) (ru d 225 9 [l0, l1] [.int (([100, 115, 119, 114] : List Int32).getD i.toNatClampNeg 0)] σ) := q_bals t225_8 (by decide +kernel) (by decide +kernel) rfl rfl
theorem s225_8_o132 (d : Nat) (l0 : Value) (l1 : Value) (i : Int32) (σ : Hs) : ru d 225 8 [l0, l1] [.int i, .ref 132] σ = gd (vp_in i 4) (ru d 225 9 [l0, l1] [.int (([104, 119, 108, 110] : List Int32).getD i.toNatClampNeg 0)] σ) := q_bals t225_8 (by decide +kernel) (by decide +kernel) rfl rfl
theorem s225_8_o133 (d : Nat) (l0 : Value) (l1 : Value) (i : Int32) (σ : Hs) : ru d 225 8 [l0, l1] [.int i, .ref 133] σ = gd (vp_in i 3) (ru d 225 9 [l0, l1] [.int (([104, 119, 115] : List Int32).getD i.toNatClampNeg 0)] σ) := q_bals t225_8 (by decide +kernel) (by decide +kernel) rfl rfl
theorem t225_9 : decode (mb 225) 9 = .ok (.sipush 255, 3) := by decide +kernel
theorem s225_9 (d : Nat) (l0 : Value) (l1 : Value) (w0 : Value) (σ : Hs) : ru d 225 9 [l0, l1] [w0] σ = ru d 225 12 [l0, l1] [.int 255, w0] σ := q_sipush t225_9 (by decide +kernel)
theorem t225_12 : decode (mb 225) 12 = .ok (.iand, 1) := by decide +kernel
theorem s225_12 (d : Nat) (l0 : Value) (l1 : Value) (x y : Int32) (σ : Hs) : ru d 225 12 [l0, l1] [.int y, .int x] σ = ru d 225 13 [l0, l1] [.int (x &&& y)] σ := q_iand t225_12
theorem t225_13 : decode (mb 225) 13 = .ok (.i2c, 1) := by decide +kernel
theorem s225_13 (d : Nat) (l0 : Value) (l1 : Value) (x : Int32) (σ : Hs) : ru d 225 13 [l0, l1] [.int x] σ = ru d 225 14 [l0, l1] [.int (x.toUInt32 % 65536).toInt32] σ := q_i2c t225_13
theorem t225_14 : decode (mb 225) 14 = .ok (.ireturn, 1) := by decide +kernel
theorem s225_14 (d : Nat) (l0 : Value) (l1 : Value) (x : Int32) (hx : narrow .char (.int x) = .int x) (σ : Hs) : ru d 225 14 [l0, l1] [.int x] σ = some (some (.int x), σ) := q_iretn t225_14 mr225 hx
theorem c225 (d : Nat) (x0 : Nat) (x1 : Int32) (σ : Hs) : callD (d + 1) 225 [.ref x0, .int x1] σ = ru d 225 0 [.ref x0, .int x1] [] σ := callD_ru ml225 rfl rfl (Nat.le_of_ble_eq_true rfl)
-- 226: String.charAt(I)C
theorem t226_0 : decode (mb 226) 0 = .ok (.aload_n 0, 1) := by decide +kernel
theorem s226_0 (d : Nat) (a0 : Nat) (l1 : Value) (σ : Hs) : ru d 226 0 [.ref a0, l1] [] σ = ru d 226 1 [.ref a0, l1] [.ref a0] σ := q_aload_n t226_0 rfl
theorem t226_1 : decode (mb 226) 1 = .ok (.invokevirtual 492, 3) := by decide +kernel
theorem s226_1_o119 (d : Nat) (l0 : Value) (l1 : Value) (σ : Hs) : ru d 226 1 [l0, l1] [.ref 119] σ = kont (callD d 214 [.ref 119] σ) d 226 4 [l0, l1] [] := q_invv t226_1 mo226 K9_492 mj214 rfl rfl rfl rfl (Nat.le_of_ble_eq_true rfl)
theorem s226_1_o120 (d : Nat) (l0 : Value) (l1 : Value) (σ : Hs) : ru d 226 1 [l0, l1] [.ref 120] σ = kont (callD d 214 [.ref 120] σ) d 226 4 [l0, l1] [] := q_invv t226_1 mo226 K9_492 mj214 rfl rfl rfl rfl (Nat.le_of_ble_eq_true rfl)
theorem s226_1_o121 (d : Nat) (l0 : Value) (l1 : Value) (σ : Hs) : ru d 226 1 [l0, l1] [.ref 121] σ = kont (callD d 214 [.ref 121] σ) d 226 4 [l0, l1] [] := q_invv t226_1 mo226 K9_492 mj214 rfl rfl rfl rfl (Nat.le_of_ble_eq_true rfl)
theorem t226_4 : decode (mb 226) 4 = .ok (.ifCond .eq 12, 3) := by decide +kernel
theorem s226_4 (d : Nat) (l0 : Value) (l1 : Value) (x : Int32) (σ : Hs) : ru d 226 4 [l0, l1] [.int x] σ = if x = 0 then ru d 226 16 [l0, l1] [] σ else ru d 226 7 [l0, l1] [] σ := q_if_eq t226_4 (by decide +kernel)
theorem t226_7 : decode (mb 226) 7 = .ok (.aload_n 0, 1) := by decide +kernel
theorem s226_7 (d : Nat) (a0 : Nat) (l1 : Value) (σ : Hs) : ru d 226 7 [.ref a0, l1] [] σ = ru d 226 8 [.ref a0, l1] [.ref a0] σ := q_aload_n t226_7 rfl
theorem t226_8 : decode (mb 226) 8 = .ok (.getfield 9, 3) := by decide +kernel
theorem s226_8_o119 (d : Nat) (l0 : Value) (l1 : Value) (σ : Hs) : ru d 226 8 [l0, l1] [.ref 119] σ = ru d 226 11 [l0, l1] [.ref 131] σ := q_getf t226_8 mo226 F9_9 rfl rfl
theorem s226_8_o120 (d : Nat) (l0 : Value) (l1 : Value) (σ : Hs) : ru d 226 8 [l0, l1] [.ref 120] σ = ru d 226 11 [l0, l1] [.ref 132] σ := q_getf t226_8 mo226 F9_9 rfl rfl
theorem s226_8_o121 (d : Nat) (l0 : Value) (l1 : Value) (σ : Hs) : ru d 226 8 [l0, l1] [.ref 121] σ = ru d 226 11 [l0, l1] [.ref 133] σ := q_getf t226_8 mo226 F9_9 rfl rfl
theorem t226_11 : decode (mb 226) 11 = .ok (.iload_n 1, 1) := by decide +kernel
theorem s226_11 (d : Nat) (l0 : Value) (i1 : Int32) (w0 : Value) (σ : Hs) : ru d 226 11 [l0, .int i1] [w0] σ = ru d 226 12 [l0, .int i1] [.int i1, w0] σ := q_iload_n t226_11 rfl
theorem t226_12 : decode (mb 226) 12 = .ok (.invokestatic 495, 3) := by decide +kernel
theorem s226_12 (d : Nat) (l0 : Value) (l1 : Value) (v0 v1 : Value) (σ : Hs) : ru d 226 12 [l0, l1] [v1, v0] σ = kont (callD d 225 [v0, v1] σ) d 226 15 [l0, l1] [] := q_invs t226_12 mo226 (by decide +kernel) K9_495 mj225 (Nat.le_of_ble_eq_true rfl) rfl rfl (Nat.le_of_ble_eq_true rfl)
theorem t226_15 : decode (mb 226) 15 = .ok (.ireturn, 1) := by decide +kernel
theorem s226_15 (d : Nat) (l0 : Value) (l1 : Value) (x : Int32) (hx : narrow .char (.int x) = .int x) (σ : Hs) : ru d 226 15 [l0, l1] [.int x] σ = some (some (.int x), σ) := q_iretn t226_15 mr226 hx
theorem t226_16 : decode (mb 226) 16 = .ok (.aload_n 0, 1) := by decide +kernel
theorem s226_16 (d : Nat) (a0 : Nat) (l1 : Value) (σ : Hs) : ru d 226 16 [.ref a0, l1] [] σ = ru d 226 17 [.ref a0, l1] [.ref a0] σ := q_aload_n t226_16 rfl
theorem t226_17 : decode (mb 226) 17 = .ok (.getfield 9, 3) := by decide +kernel
theorem s226_17_o119 (d : Nat) (l0 : Value) (l1 : Value) (σ : Hs) : ru d 226 17 [l0, l1] [.ref 119] σ = ru d 226 20 [l0, l1] [.ref 131] σ := q_getf t226_17 mo226 F9_9 rfl rfl
theorem s226_17_o120 (d : Nat) (l0 : Value) (l1 : Value) (σ : Hs) : ru d 226 17 [l0, l1] [.ref 120] σ = ru d 226 20 [l0, l1] [.ref 132] σ := q_getf t226_17 mo226 F9_9 rfl rfl
theorem s226_17_o121 (d : Nat) (l0 : Value) (l1 : Value) (σ : Hs) : ru d 226 17 [l0, l1] [.ref 121] σ = ru d 226 20 [l0, l1] [.ref 133] σ := q_getf t226_17 mo226 F9_9 rfl rfl
theorem t226_20 : decode (mb 226) 20 = .ok (.iload_n 1, 1) := by decide +kernel
theorem s226_20 (d : Nat) (l0 : Value) (i1 : Int32) (w0 : Value) (σ : Hs) : ru d 226 20 [l0, .int i1] [w0] σ = ru d 226 21 [l0, .int i1] [.int i1, w0] σ := q_iload_n t226_20 rfl
theorem c226 (d : Nat) (x0 : Nat) (x1 : Int32) (σ : Hs) : callD (d + 1) 226 [.ref x0, .int x1] σ = ru d 226 0 [.ref x0, .int x1] [] σ := callD_ru ml226 rfl rfl (Nat.le_of_ble_eq_true rfl)
