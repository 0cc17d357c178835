-- 213: Model.count(I)I
theorem t213_0 : decode (mb 213) 0 = .ok (.iload_n 1, 1) := by decide +kernel
theorem s213_0 (d : Nat) (l0 : Value) (i1 : Int32) (σ : Hs) : ru d 213 0 [l0, .int i1] [] σ = ru d 213 1 [l0, .int i1] [.int i1] σ := q_iload_n t213_0 rfl
theorem t213_1 : decode (mb 213) 1 = .ok (.tableswitch 101 0 7 #[47, 53, 60, 68, 75, 82, 89, 94], 47) := by decide +kernel
theorem f213_1 (x : Int32) : (tsw 0 7 #[47, 53, 60, 68, 75, 82, 89, 94] 101 x.toInt).bind (tgt 1) = some (if x = 0 then 48 else (if x = 1 then 54 else (if x = 2 then 61 else (if x = 3 then 69 else (if x = 4 then 76 else (if x = 5 then 83 else (if x = 6 then 90 else (if x = 7 then 95 else 102)))))))) := by
  by_cases h0 : x = 0
  · subst h0; decide +kernel
  by_cases h1 : x = 1
  · subst h1; decide +kernel
  by_cases h2 : x = 2
  · subst h2; decide +kernel
  by_cases h3 : x = 3
  · subst h3; decide +kernel
  by_cases h4 : x = 4
  · subst h4; decide +kernel
  by_cases h5 : x = 5
  · subst h5; decide +kernel
  by_cases h6 : x = 6
  · subst h6; decide +kernel
  by_cases h7 : x = 7
  · subst h7; decide +kernel
  have e0 : ¬ x.toInt = 0 := fun h => h0 (Int32.toInt_inj.mp (h.trans (by decide +kernel)))
  have e1 : ¬ x.toInt = 1 := fun h => h1 (Int32.toInt_inj.mp (h.trans (by decide +kernel)))
  have e2 : ¬ x.toInt = 2 := fun h => h2 (Int32.toInt_inj.mp (h.trans (by decide +kernel)))
  have e3 : ¬ x.toInt = 3 := fun h => h3 (Int32.toInt_inj.mp (h.trans (by decide +kernel)))
  have e4 : ¬ x.toInt = 4 := fun h => h4 (Int32.toInt_inj.mp (h.trans (by decide +kernel)))
  have e5 : ¬ x.toInt = 5 := fun h => h5 (Int32.toInt_inj.mp (h.trans (by decide +kernel)))
  have e6 : ¬ x.toInt = 6 := fun h => h6 (Int32.toInt_inj.mp (h.trans (by decide +kernel)))
  have e7 : ¬ x.toInt = 7 := fun h => h7 (Int32.toInt_inj.mp (h.trans (by decide +kernel)))
  have e : x.toInt < 0 ∨ 7 < x.toInt := by omega
  unfold tsw
  rw [if_pos e, if_neg h0, if_neg h1, if_neg h2, if_neg h3, if_neg h4, if_neg h5, if_neg h6, if_neg h7]
  decide +kernel
theorem s213_1 (d : Nat) (l0 : Value) (l1 : Value) (x : Int32) (σ : Hs) : ru d 213 1 [l0, l1] [.int x] σ = if x = 0 then ru d 213 48 [l0, l1] [] σ else if x = 1 then ru d 213 54 [l0, l1] [] σ else if x = 2 then ru d 213 61 [l0, l1] [] σ else if x = 3 then ru d 213 69 [l0, l1] [] σ else if x = 4 then ru d 213 76 [l0, l1] [] σ else if x = 5 then ru d 213 83 [l0, l1] [] σ else if x = 6 then ru d 213 90 [l0, l1] [] σ else if x = 7 then ru d 213 95 [l0, l1] [] σ else ru d 213 102 [l0, l1] [] σ := by
  refine (q_tsw t213_1 (fun x => (if x = 0 then 48 else (if x = 1 then 54 else (if x = 2 then 61 else (if x = 3 then 69 else (if x = 4 then 76 else (if x = 5 then 83 else (if x = 6 then 90 else (if x = 7 then 95 else 102))))))))) (f213_1 x)).trans ?_
  by_cases h0 : x = 0
  · rw [if_pos h0, if_pos h0]
  rw [if_neg h0, if_neg h0]
  by_cases h1 : x = 1
  · rw [if_pos h1, if_pos h1]
  rw [if_neg h1, if_neg h1]
  by_cases h2 : x = 2
  · rw [if_pos h2, if_pos h2]
  rw [if_neg h2, if_neg h2]
  by_cases h3 : x = 3
  · rw [if_pos h3, if_pos h3]
  rw [if_neg h3, if_neg h3]
  by_cases h4 : x = 4
  · rw [if_pos h4, if_pos h4]
  rw [if_neg h4, if_neg h4]
  by_cases h5 : x = 5
  · rw [if_pos h5, if_pos h5]
  rw [if_neg h5, if_neg h5]
  by_cases h6 : x = 6
  · rw [if_pos h6, if_pos h6]
  rw [if_neg h6, if_neg h6]
  by_cases h7 : x = 7
  · rw [if_pos h7, if_pos h7]
  rw [if_neg h7, if_neg h7]
theorem t213_48 : decode (mb 213) 48 = .ok (.aload_n 0, 1) := by decide +kernel
theorem s213_48 (d : Nat) (a0 : Nat) (l1 : Value) (σ : Hs) : ru d 213 48 [.ref a0, l1] [] σ = ru d 213 49 [.ref a0, l1] [.ref a0] σ := q_aload_n t213_48 rfl
theorem t213_49 : decode (mb 213) 49 = .ok (.iconst 0, 1) := by decide +kernel
theorem s213_49 (d : Nat) (l0 : Value) (l1 : Value) (w0 : Value) (σ : Hs) : ru d 213 49 [l0, l1] [w0] σ = ru d 213 50 [l0, l1] [.int 0, w0] σ := q_iconst t213_49 (by decide +kernel)
theorem t213_50 : decode (mb 213) 50 = .ok (.invokevirtual 221, 3) := by decide +kernel
theorem s213_50_o87 (d : Nat) (l0 : Value) (l1 : Value) (v1 : Value) (σ : Hs) : ru d 213 50 [l0, l1] [v1, .ref 87] σ = kont (callD d 160 [.ref 87, v1] σ) d 213 53 [l0, l1] [] := q_invv t213_50 mo213 K8_221 mj160 rfl rfl rfl rfl (Nat.le_of_ble_eq_true rfl)
theorem t213_53 : decode (mb 213) 53 = .ok (.ireturn, 1) := by decide +kernel
theorem s213_53 (d : Nat) (l0 : Value) (l1 : Value) (x : Int32) (σ : Hs) : ru d 213 53 [l0, l1] [.int x] σ = some (some (.int x), σ) := q_ireti t213_53 mr213
theorem t213_54 : decode (mb 213) 54 = .ok (.aload_n 0, 1) := by decide +kernel
theorem s213_54 (d : Nat) (a0 : Nat) (l1 : Value) (σ : Hs) : ru d 213 54 [.ref a0, l1] [] σ = ru d 213 55 [.ref a0, l1] [.ref a0] σ := q_aload_n t213_54 rfl
theorem t213_55 : decode (mb 213) 55 = .ok (.getfield 9, 3) := by decide +kernel
theorem s213_55_o87 (d : Nat) (l0 : Value) (l1 : Value) (σ : Hs) : ru d 213 55 [l0, l1] [.ref 87] σ = ru d 213 58 [l0, l1] [.ref 88] σ := q_getf t213_55 mo213 F8_9 rfl rfl
theorem t213_58 : decode (mb 213) 58 = .ok (.iconst 0, 1) := by decide +kernel
theorem s213_58 (d : Nat) (l0 : Value) (l1 : Value) (w0 : Value) (σ : Hs) : ru d 213 58 [l0, l1] [w0] σ = ru d 213 59 [l0, l1] [.int 0, w0] σ := q_iconst t213_58 (by decide +kernel)
theorem t213_59 : decode (mb 213) 59 = .ok (.iaload, 1) := by decide +kernel
theorem s213_59_o88 (d : Nat) (l0 : Value) (l1 : Value) (i : Int32) (σ : Hs) : ru d 213 59 [l0, l1] [.int i, .ref 88] σ = gd (vp_in i 545) (ru d 213 60 [l0, l1] [.int (σ 88 i.toNatClampNeg)] σ) := q_iald t213_59 rfl (by decide +kernel) rfl
theorem t213_60 : decode (mb 213) 60 = .ok (.ireturn, 1) := by decide +kernel
theorem s213_60 (d : Nat) (l0 : Value) (l1 : Value) (x : Int32) (σ : Hs) : ru d 213 60 [l0, l1] [.int x] σ = some (some (.int x), σ) := q_ireti t213_60 mr213
theorem t213_61 : decode (mb 213) 61 = .ok (.aload_n 0, 1) := by decide +kernel
theorem s213_61 (d : Nat) (a0 : Nat) (l1 : Value) (σ : Hs) : ru d 213 61 [.ref a0, l1] [] σ = ru d 213 62 [.ref a0, l1] [.ref a0] σ := q_aload_n t213_61 rfl
theorem t213_62 : decode (mb 213) 62 = .ok (.getfield 9, 3) := by decide +kernel
theorem s213_62_o87 (d : Nat) (l0 : Value) (l1 : Value) (σ : Hs) : ru d 213 62 [l0, l1] [.ref 87] σ = ru d 213 65 [l0, l1] [.ref 88] σ := q_getf t213_62 mo213 F8_9 rfl rfl
theorem t213_65 : decode (mb 213) 65 = .ok (.bipush 13, 2) := by decide +kernel
theorem s213_65 (d : Nat) (l0 : Value) (l1 : Value) (w0 : Value) (σ : Hs) : ru d 213 65 [l0, l1] [w0] σ = ru d 213 67 [l0, l1] [.int 13, w0] σ := q_bipush t213_65 (by decide +kernel)
theorem t213_67 : decode (mb 213) 67 = .ok (.iaload, 1) := by decide +kernel
theorem s213_67_o88 (d : Nat) (l0 : Value) (l1 : Value) (i : Int32) (σ : Hs) : ru d 213 67 [l0, l1] [.int i, .ref 88] σ = gd (vp_in i 545) (ru d 213 68 [l0, l1] [.int (σ 88 i.toNatClampNeg)] σ) := q_iald t213_67 rfl (by decide +kernel) rfl
theorem t213_68 : decode (mb 213) 68 = .ok (.ireturn, 1) := by decide +kernel
theorem s213_68 (d : Nat) (l0 : Value) (l1 : Value) (x : Int32) (σ : Hs) : ru d 213 68 [l0, l1] [.int x] σ = some (some (.int x), σ) := q_ireti t213_68 mr213
theorem t213_69 : decode (mb 213) 69 = .ok (.aload_n 0, 1) := by decide +kernel
theorem s213_69 (d : Nat) (a0 : Nat) (l1 : Value) (σ : Hs) : ru d 213 69 [.ref a0, l1] [] σ = ru d 213 70 [.ref a0, l1] [.ref a0] σ := q_aload_n t213_69 rfl
theorem t213_70 : decode (mb 213) 70 = .ok (.getfield 9, 3) := by decide +kernel
theorem s213_70_o87 (d : Nat) (l0 : Value) (l1 : Value) (σ : Hs) : ru d 213 70 [l0, l1] [.ref 87] σ = ru d 213 73 [l0, l1] [.ref 88] σ := q_getf t213_70 mo213 F8_9 rfl rfl
theorem t213_73 : decode (mb 213) 73 = .ok (.iconst 4, 1) := by decide +kernel
theorem s213_73 (d : Nat) (l0 : Value) (l1 : Value) (w0 : Value) (σ : Hs) : ru d 213 73 [l0, l1] [w0] σ = ru d 213 74 [l0, l1] [.int 4, w0] σ := q_iconst t213_73 (by decide +kernel)
theorem t213_74 : decode (mb 213) 74 = .ok (.iaload, 1) := by decide +kernel
theorem s213_74_o88 (d : Nat) (l0 : Value) (l1 : Value) (i : Int32) (σ : Hs) : ru d 213 74 [l0, l1] [.int i, .ref 88] σ = gd (vp_in i 545) (ru d 213 75 [l0, l1] [.int (σ 88 i.toNatClampNeg)] σ) := q_iald t213_74 rfl (by decide +kernel) rfl
theorem t213_75 : decode (mb 213) 75 = .ok (.ireturn, 1) := by decide +kernel
theorem s213_75 (d : Nat) (l0 : Value) (l1 : Value) (x : Int32) (σ : Hs) : ru d 213 75 [l0, l1] [.int x] σ = some (some (.int x), σ) := q_ireti t213_75 mr213
theorem t213_76 : decode (mb 213) 76 = .ok (.aload_n 0, 1) := by decide +kernel
theorem s213_76 (d : Nat) (a0 : Nat) (l1 : Value) (σ : Hs) : ru d 213 76 [.ref a0, l1] [] σ = ru d 213 77 [.ref a0, l1] [.ref a0] σ := q_aload_n t213_76 rfl
theorem t213_77 : decode (mb 213) 77 = .ok (.getfield 9, 3) := by decide +kernel
theorem s213_77_o87 (d : Nat) (l0 : Value) (l1 : Value) (σ : Hs) : ru d 213 77 [l0, l1] [.ref 87] σ = ru d 213 80 [l0, l1] [.ref 88] σ := q_getf t213_77 mo213 F8_9 rfl rfl
theorem t213_80 : decode (mb 213) 80 = .ok (.iconst 1, 1) := by decide +kernel
theorem s213_80 (d : Nat) (l0 : Value) (l1 : Value) (w0 : Value) (σ : Hs) : ru d 213 80 [l0, l1] [w0] σ = ru d 213 81 [l0, l1] [.int 1, w0] σ := q_iconst t213_80 (by decide +kernel)
theorem t213_81 : decode (mb 213) 81 = .ok (.iaload, 1) := by decide +kernel
theorem s213_81_o88 (d : Nat) (l0 : Value) (l1 : Value) (i : Int32) (σ : Hs) : ru d 213 81 [l0, l1] [.int i, .ref 88] σ = gd (vp_in i 545) (ru d 213 82 [l0, l1] [.int (σ 88 i.toNatClampNeg)] σ) := q_iald t213_81 rfl (by decide +kernel) rfl
theorem t213_82 : decode (mb 213) 82 = .ok (.ireturn, 1) := by decide +kernel
theorem s213_82 (d : Nat) (l0 : Value) (l1 : Value) (x : Int32) (σ : Hs) : ru d 213 82 [l0, l1] [.int x] σ = some (some (.int x), σ) := q_ireti t213_82 mr213
theorem t213_83 : decode (mb 213) 83 = .ok (.aload_n 0, 1) := by decide +kernel
theorem s213_83 (d : Nat) (a0 : Nat) (l1 : Value) (σ : Hs) : ru d 213 83 [.ref a0, l1] [] σ = ru d 213 84 [.ref a0, l1] [.ref a0] σ := q_aload_n t213_83 rfl
theorem t213_84 : decode (mb 213) 84 = .ok (.getfield 9, 3) := by decide +kernel
theorem s213_84_o87 (d : Nat) (l0 : Value) (l1 : Value) (σ : Hs) : ru d 213 84 [l0, l1] [.ref 87] σ = ru d 213 87 [l0, l1] [.ref 88] σ := q_getf t213_84 mo213 F8_9 rfl rfl
theorem t213_87 : decode (mb 213) 87 = .ok (.iconst 2, 1) := by decide +kernel
theorem s213_87 (d : Nat) (l0 : Value) (l1 : Value) (w0 : Value) (σ : Hs) : ru d 213 87 [l0, l1] [w0] σ = ru d 213 88 [l0, l1] [.int 2, w0] σ := q_iconst t213_87 (by decide +kernel)
theorem t213_88 : decode (mb 213) 88 = .ok (.iaload, 1) := by decide +kernel
theorem s213_88_o88 (d : Nat) (l0 : Value) (l1 : Value) (i : Int32) (σ : Hs) : ru d 213 88 [l0, l1] [.int i, .ref 88] σ = gd (vp_in i 545) (ru d 213 89 [l0, l1] [.int (σ 88 i.toNatClampNeg)] σ) := q_iald t213_88 rfl (by decide +kernel) rfl
theorem t213_89 : decode (mb 213) 89 = .ok (.ireturn, 1) := by decide +kernel
theorem s213_89 (d : Nat) (l0 : Value) (l1 : Value) (x : Int32) (σ : Hs) : ru d 213 89 [l0, l1] [.int x] σ = some (some (.int x), σ) := q_ireti t213_89 mr213
theorem t213_90 : decode (mb 213) 90 = .ok (.aload_n 0, 1) := by decide +kernel
theorem s213_90 (d : Nat) (a0 : Nat) (l1 : Value) (σ : Hs) : ru d 213 90 [.ref a0, l1] [] σ = ru d 213 91 [.ref a0, l1] [.ref a0] σ := q_aload_n t213_90 rfl
theorem t213_91 : decode (mb 213) 91 = .ok (.getfield 303, 3) := by decide +kernel
theorem s213_91_o87 (d : Nat) (l0 : Value) (l1 : Value) (σ : Hs) : ru d 213 91 [l0, l1] [.ref 87] σ = ru d 213 94 [l0, l1] [.int (σ 87 19)] σ := q_getf t213_91 mo213 F8_303 rfl rfl
theorem t213_94 : decode (mb 213) 94 = .ok (.ireturn, 1) := by decide +kernel
theorem s213_94 (d : Nat) (l0 : Value) (l1 : Value) (x : Int32) (σ : Hs) : ru d 213 94 [l0, l1] [.int x] σ = some (some (.int x), σ) := q_ireti t213_94 mr213
theorem t213_95 : decode (mb 213) 95 = .ok (.aload_n 0, 1) := by decide +kernel
theorem s213_95 (d : Nat) (a0 : Nat) (l1 : Value) (σ : Hs) : ru d 213 95 [.ref a0, l1] [] σ = ru d 213 96 [.ref a0, l1] [.ref a0] σ := q_aload_n t213_95 rfl
theorem t213_96 : decode (mb 213) 96 = .ok (.getfield 9, 3) := by decide +kernel
theorem s213_96_o87 (d : Nat) (l0 : Value) (l1 : Value) (σ : Hs) : ru d 213 96 [l0, l1] [.ref 87] σ = ru d 213 99 [l0, l1] [.ref 88] σ := q_getf t213_96 mo213 F8_9 rfl rfl
theorem t213_99 : decode (mb 213) 99 = .ok (.iconst 3, 1) := by decide +kernel
theorem s213_99 (d : Nat) (l0 : Value) (l1 : Value) (w0 : Value) (σ : Hs) : ru d 213 99 [l0, l1] [w0] σ = ru d 213 100 [l0, l1] [.int 3, w0] σ := q_iconst t213_99 (by decide +kernel)
theorem t213_100 : decode (mb 213) 100 = .ok (.iaload, 1) := by decide +kernel
theorem s213_100_o88 (d : Nat) (l0 : Value) (l1 : Value) (i : Int32) (σ : Hs) : ru d 213 100 [l0, l1] [.int i, .ref 88] σ = gd (vp_in i 545) (ru d 213 101 [l0, l1] [.int (σ 88 i.toNatClampNeg)] σ) := q_iald t213_100 rfl (by decide +kernel) rfl
theorem t213_101 : decode (mb 213) 101 = .ok (.ireturn, 1) := by decide +kernel
theorem s213_101 (d : Nat) (l0 : Value) (l1 : Value) (x : Int32) (σ : Hs) : ru d 213 101 [l0, l1] [.int x] σ = some (some (.int x), σ) := q_ireti t213_101 mr213
theorem t213_102 : decode (mb 213) 102 = .ok (.aload_n 0, 1) := by decide +kernel
theorem s213_102 (d : Nat) (a0 : Nat) (l1 : Value) (σ : Hs) : ru d 213 102 [.ref a0, l1] [] σ = ru d 213 103 [.ref a0, l1] [.ref a0] σ := q_aload_n t213_102 rfl
theorem t213_103 : decode (mb 213) 103 = .ok (.ldc 104, 2) := by decide +kernel
theorem s213_103 (d : Nat) (l0 : Value) (l1 : Value) (w0 : Value) (σ : Hs) : ru d 213 103 [l0, l1] [w0] σ = ru d 213 105 [l0, l1] [.int (-1000001), w0] σ := q_ldc t213_103 mo213 C8_104
theorem t213_105 : decode (mb 213) 105 = .ok (.invokevirtual 105, 3) := by decide +kernel
theorem s213_105_o87 (d : Nat) (l0 : Value) (l1 : Value) (v1 : Value) (σ : Hs) : ru d 213 105 [l0, l1] [v1, .ref 87] σ = kont (callD d 112 [.ref 87, v1] σ) d 213 108 [l0, l1] [] := q_invv t213_105 mo213 K8_105 mj112 rfl rfl rfl rfl (Nat.le_of_ble_eq_true rfl)
theorem t213_108 : decode (mb 213) 108 = .ok (.ireturn, 1) := by decide +kernel
theorem s213_108 (d : Nat) (l0 : Value) (l1 : Value) (x : Int32) (σ : Hs) : ru d 213 108 [l0, l1] [.int x] σ = some (some (.int x), σ) := q_ireti t213_108 mr213
theorem c213 (d : Nat) (x0 : Nat) (x1 : Int32) (σ : Hs) : callD (d + 1) 213 [.ref x0, .int x1] σ = ru d 213 0 [.ref x0, .int x1] [] σ := callD_ru ml213 rfl rfl (Nat.le_of_ble_eq_true rfl)
-- 214: Model.told(I)I
theorem t214_0 : decode (mb 214) 0 = .ok (.iload_n 1, 1) := by decide +kernel
theorem s214_0 (d : Nat) (l0 : Value) (i1 : Int32) (σ : Hs) : ru d 214 0 [l0, .int i1] [] σ = ru d 214 1 [l0, .int i1] [.int i1] σ := q_iload_n t214_0 rfl
theorem t214_1 : decode (mb 214) 1 = .ok (.iconst 1, 1) := by decide +kernel
theorem s214_1 (d : Nat) (l0 : Value) (l1 : Value) (w0 : Value) (σ : Hs) : ru d 214 1 [l0, l1] [w0] σ = ru d 214 2 [l0, l1] [.int 1, w0] σ := q_iconst t214_1 (by decide +kernel)
theorem t214_2 : decode (mb 214) 2 = .ok (.bipush 6, 2) := by decide +kernel
theorem s214_2 (d : Nat) (l0 : Value) (l1 : Value) (w0 w1 : Value) (σ : Hs) : ru d 214 2 [l0, l1] [w0, w1] σ = ru d 214 4 [l0, l1] [.int 6, w0, w1] σ := q_bipush t214_2 (by decide +kernel)
theorem t214_4 : decode (mb 214) 4 = .ok (.invokestatic 81, 3) := by decide +kernel
theorem s214_4 (d : Nat) (l0 : Value) (l1 : Value) (v0 v1 v2 : Value) (σ : Hs) : ru d 214 4 [l0, l1] [v2, v1, v0] σ = kont (callD d 113 [v0, v1, v2] σ) d 214 7 [l0, l1] [] := q_invs t214_4 mo214 (by decide +kernel) K8_81 mj113 (Nat.le_of_ble_eq_true rfl) rfl rfl (Nat.le_of_ble_eq_true rfl)
theorem t214_7 : decode (mb 214) 7 = .ok (.ifCond .eq 12, 3) := by decide +kernel
theorem s214_7 (d : Nat) (l0 : Value) (l1 : Value) (x : Int32) (σ : Hs) : ru d 214 7 [l0, l1] [.int x] σ = if x = 0 then ru d 214 19 [l0, l1] [] σ else ru d 214 10 [l0, l1] [] σ := q_if_eq t214_7 (by decide +kernel)
theorem t214_10 : decode (mb 214) 10 = .ok (.aload_n 0, 1) := by decide +kernel
theorem s214_10 (d : Nat) (a0 : Nat) (l1 : Value) (σ : Hs) : ru d 214 10 [.ref a0, l1] [] σ = ru d 214 11 [.ref a0, l1] [.ref a0] σ := q_aload_n t214_10 rfl
theorem t214_11 : decode (mb 214) 11 = .ok (.getfield 19, 3) := by decide +kernel
theorem s214_11_o87 (d : Nat) (l0 : Value) (l1 : Value) (σ : Hs) : ru d 214 11 [l0, l1] [.ref 87] σ = ru d 214 14 [l0, l1] [.ref 91] σ := q_getf t214_11 mo214 F8_19 rfl rfl
theorem t214_14 : decode (mb 214) 14 = .ok (.iload_n 1, 1) := by decide +kernel
theorem s214_14 (d : Nat) (l0 : Value) (i1 : Int32) (w0 : Value) (σ : Hs) : ru d 214 14 [l0, .int i1] [w0] σ = ru d 214 15 [l0, .int i1] [.int i1, w0] σ := q_iload_n t214_14 rfl
theorem t214_15 : decode (mb 214) 15 = .ok (.iaload, 1) := by decide +kernel
theorem s214_15_o91 (d : Nat) (l0 : Value) (l1 : Value) (i : Int32) (σ : Hs) : ru d 214 15 [l0, l1] [.int i, .ref 91] σ = gd (vp_in i 7) (ru d 214 16 [l0, l1] [.int (σ 91 i.toNatClampNeg)] σ) := q_iald t214_15 rfl (by decide +kernel) rfl
theorem t214_16 : decode (mb 214) 16 = .ok (.goto 9, 3) := by decide +kernel
theorem s214_16 (d : Nat) (l0 : Value) (l1 : Value) (w0 : Value) (σ : Hs) : ru d 214 16 [l0, l1] [w0] σ = ru d 214 25 [l0, l1] [w0] σ := q_goto t214_16 (by decide +kernel)
theorem t214_19 : decode (mb 214) 19 = .ok (.aload_n 0, 1) := by decide +kernel
theorem s214_19 (d : Nat) (a0 : Nat) (l1 : Value) (σ : Hs) : ru d 214 19 [.ref a0, l1] [] σ = ru d 214 20 [.ref a0, l1] [.ref a0] σ := q_aload_n t214_19 rfl
theorem t214_20 : decode (mb 214) 20 = .ok (.ldc 104, 2) := by decide +kernel
theorem s214_20 (d : Nat) (l0 : Value) (l1 : Value) (w0 : Value) (σ : Hs) : ru d 214 20 [l0, l1] [w0] σ = ru d 214 22 [l0, l1] [.int (-1000001), w0] σ := q_ldc t214_20 mo214 C8_104
theorem t214_22 : decode (mb 214) 22 = .ok (.invokevirtual 105, 3) := by decide +kernel
theorem s214_22_o87 (d : Nat) (l0 : Value) (l1 : Value) (v1 : Value) (σ : Hs) : ru d 214 22 [l0, l1] [v1, .ref 87] σ = kont (callD d 112 [.ref 87, v1] σ) d 214 25 [l0, l1] [] := q_invv t214_22 mo214 K8_105 mj112 rfl rfl rfl rfl (Nat.le_of_ble_eq_true rfl)
theorem t214_25 : decode (mb 214) 25 = .ok (.ireturn, 1) := by decide +kernel
theorem s214_25 (d : Nat) (l0 : Value) (l1 : Value) (x : Int32) (σ : Hs) : ru d 214 25 [l0, l1] [.int x] σ = some (some (.int x), σ) := q_ireti t214_25 mr214
theorem c214 (d : Nat) (x0 : Nat) (x1 : Int32) (σ : Hs) : callD (d + 1) 214 [.ref x0, .int x1] σ = ru d 214 0 [.ref x0, .int x1] [] σ := callD_ru ml214 rfl rfl (Nat.le_of_ble_eq_true rfl)
-- 215: String.isLatin1()Z
theorem t215_0 : decode (mb 215) 0 = .ok (.getstatic 38, 3) := by decide +kernel
theorem s215_0 (d : Nat) (l0 : Value) (σ : Hs) : ru d 215 0 [l0] [] σ = ru d 215 3 [l0] [.int 1] σ := q_gets t215_0 mo215 S9_38 rfl
theorem t215_3 : decode (mb 215) 3 = .ok (.ifCond .eq 14, 3) := by decide +kernel
theorem s215_3 (d : Nat) (l0 : Value) (x : Int32) (σ : Hs) : ru d 215 3 [l0] [.int x] σ = if x = 0 then ru d 215 17 [l0] [] σ else ru d 215 6 [l0] [] σ := q_if_eq t215_3 (by decide +kernel)
theorem t215_6 : decode (mb 215) 6 = .ok (.aload_n 0, 1) := by decide +kernel
theorem s215_6 (d : Nat) (a0 : Nat) (σ : Hs) : ru d 215 6 [.ref a0] [] σ = ru d 215 7 [.ref a0] [.ref a0] σ := q_aload_n t215_6 rfl
theorem t215_7 : decode (mb 215) 7 = .ok (.getfield 15, 3) := by decide +kernel
theorem s215_7_o111 (d : Nat) (l0 : Value) (σ : Hs) : ru d 215 7 [l0] [.ref 111] σ = ru d 215 10 [l0] [.int 0] σ := q_getf t215_7 mo215 F9_15 rfl rfl
theorem s215_7_o112 (d : Nat) (l0 : Value) (σ : Hs) : ru d 215 7 [l0] [.ref 112] σ = ru d 215 10 [l0] [.int 0] σ := q_getf t215_7 mo215 F9_15 rfl rfl
theorem s215_7_o113 (d : Nat) (l0 : Value) (σ : Hs) : ru d 215 7 [l0] [.ref 113] σ = ru d 215 10 [l0] [.int 0] σ := q_getf t215_7 mo215 F9_15 rfl rfl
theorem s215_7_o114 (d : Nat) (l0 : Value) (σ : Hs) : ru d 215 7 [l0] [.ref 114] σ = ru d 215 10 [l0] [.int 0] σ := q_getf t215_7 mo215 F9_15 rfl rfl
theorem s215_7_o115 (d : Nat) (l0 : Value) (σ : Hs) : ru d 215 7 [l0] [.ref 115] σ = ru d 215 10 [l0] [.int 0] σ := q_getf t215_7 mo215 F9_15 rfl rfl
theorem s215_7_o116 (d : Nat) (l0 : Value) (σ : Hs) : ru d 215 7 [l0] [.ref 116] σ = ru d 215 10 [l0] [.int 0] σ := q_getf t215_7 mo215 F9_15 rfl rfl
theorem s215_7_o117 (d : Nat) (l0 : Value) (σ : Hs) : ru d 215 7 [l0] [.ref 117] σ = ru d 215 10 [l0] [.int 0] σ := q_getf t215_7 mo215 F9_15 rfl rfl
theorem s215_7_o118 (d : Nat) (l0 : Value) (σ : Hs) : ru d 215 7 [l0] [.ref 118] σ = ru d 215 10 [l0] [.int 0] σ := q_getf t215_7 mo215 F9_15 rfl rfl
theorem s215_7_o119 (d : Nat) (l0 : Value) (σ : Hs) : ru d 215 7 [l0] [.ref 119] σ = ru d 215 10 [l0] [.int 0] σ := q_getf t215_7 mo215 F9_15 rfl rfl
theorem s215_7_o120 (d : Nat) (l0 : Value) (σ : Hs) : ru d 215 7 [l0] [.ref 120] σ = ru d 215 10 [l0] [.int 0] σ := q_getf t215_7 mo215 F9_15 rfl rfl
theorem s215_7_o121 (d : Nat) (l0 : Value) (σ : Hs) : ru d 215 7 [l0] [.ref 121] σ = ru d 215 10 [l0] [.int 0] σ := q_getf t215_7 mo215 F9_15 rfl rfl
theorem t215_10 : decode (mb 215) 10 = .ok (.ifCond .ne 7, 3) := by decide +kernel
theorem s215_10 (d : Nat) (l0 : Value) (x : Int32) (σ : Hs) : ru d 215 10 [l0] [.int x] σ = if x = 0 then ru d 215 13 [l0] [] σ else ru d 215 17 [l0] [] σ := q_if_ne t215_10 (by decide +kernel)
theorem t215_13 : decode (mb 215) 13 = .ok (.iconst 1, 1) := by decide +kernel
theorem s215_13 (d : Nat) (l0 : Value) (σ : Hs) : ru d 215 13 [l0] [] σ = ru d 215 14 [l0] [.int 1] σ := q_iconst t215_13 (by decide +kernel)
theorem t215_14 : decode (mb 215) 14 = .ok (.goto 4, 3) := by decide +kernel
theorem s215_14 (d : Nat) (l0 : Value) (w0 : Value) (σ : Hs) : ru d 215 14 [l0] [w0] σ = ru d 215 18 [l0] [w0] σ := q_goto t215_14 (by decide +kernel)
theorem t215_17 : decode (mb 215) 17 = .ok (.iconst 0, 1) := by decide +kernel
theorem s215_17 (d : Nat) (l0 : Value) (σ : Hs) : ru d 215 17 [l0] [] σ = ru d 215 18 [l0] [.int 0] σ := q_iconst t215_17 (by decide +kernel)
theorem t215_18 : decode (mb 215) 18 = .ok (.ireturn, 1) := by decide +kernel
theorem s215_18 (d : Nat) (l0 : Value) (x : Int32) (hx : isB x) (σ : Hs) : ru d 215 18 [l0] [.int x] σ = some (some (.int x), σ) := q_iretz t215_18 mr215 hx
theorem c215 (d : Nat) (x0 : Nat) (σ : Hs) : callD (d + 1) 215 [.ref x0] σ = ru d 215 0 [.ref x0] [] σ := callD_ru ml215 rfl rfl (Nat.le_of_ble_eq_true rfl)
-- 216: String.coder()B
theorem t216_0 : decode (mb 216) 0 = .ok (.getstatic 38, 3) := by decide +kernel
theorem s216_0 (d : Nat) (l0 : Value) (σ : Hs) : ru d 216 0 [l0] [] σ = ru d 216 3 [l0] [.int 1] σ := q_gets t216_0 mo216 S9_38 rfl
theorem t216_3 : decode (mb 216) 3 = .ok (.ifCond .eq 10, 3) := by decide +kernel
theorem s216_3 (d : Nat) (l0 : Value) (x : Int32) (σ : Hs) : ru d 216 3 [l0] [.int x] σ = if x = 0 then ru d 216 13 [l0] [] σ else ru d 216 6 [l0] [] σ := q_if_eq t216_3 (by decide +kernel)
theorem t216_6 : decode (mb 216) 6 = .ok (.aload_n 0, 1) := by decide +kernel
theorem s216_6 (d : Nat) (a0 : Nat) (σ : Hs) : ru d 216 6 [.ref a0] [] σ = ru d 216 7 [.ref a0] [.ref a0] σ := q_aload_n t216_6 rfl
theorem t216_7 : decode (mb 216) 7 = .ok (.getfield 15, 3) := by decide +kernel
theorem s216_7_o111 (d : Nat) (l0 : Value) (σ : Hs) : ru d 216 7 [l0] [.ref 111] σ = ru d 216 10 [l0] [.int 0] σ := q_getf t216_7 mo216 F9_15 rfl rfl
theorem s216_7_o112 (d : Nat) (l0 : Value) (σ : Hs) : ru d 216 7 [l0] [.ref 112] σ = ru d 216 10 [l0] [.int 0] σ := q_getf t216_7 mo216 F9_15 rfl rfl
theorem s216_7_o113 (d : Nat) (l0 : Value) (σ : Hs) : ru d 216 7 [l0] [.ref 113] σ = ru d 216 10 [l0] [.int 0] σ := q_getf t216_7 mo216 F9_15 rfl rfl
theorem s216_7_o114 (d : Nat) (l0 : Value) (σ : Hs) : ru d 216 7 [l0] [.ref 114] σ = ru d 216 10 [l0] [.int 0] σ := q_getf t216_7 mo216 F9_15 rfl rfl
theorem s216_7_o115 (d : Nat) (l0 : Value) (σ : Hs) : ru d 216 7 [l0] [.ref 115] σ = ru d 216 10 [l0] [.int 0] σ := q_getf t216_7 mo216 F9_15 rfl rfl
theorem s216_7_o116 (d : Nat) (l0 : Value) (σ : Hs) : ru d 216 7 [l0] [.ref 116] σ = ru d 216 10 [l0] [.int 0] σ := q_getf t216_7 mo216 F9_15 rfl rfl
theorem s216_7_o117 (d : Nat) (l0 : Value) (σ : Hs) : ru d 216 7 [l0] [.ref 117] σ = ru d 216 10 [l0] [.int 0] σ := q_getf t216_7 mo216 F9_15 rfl rfl
theorem s216_7_o118 (d : Nat) (l0 : Value) (σ : Hs) : ru d 216 7 [l0] [.ref 118] σ = ru d 216 10 [l0] [.int 0] σ := q_getf t216_7 mo216 F9_15 rfl rfl
theorem s216_7_o119 (d : Nat) (l0 : Value) (σ : Hs) : ru d 216 7 [l0] [.ref 119] σ = ru d 216 10 [l0] [.int 0] σ := q_getf t216_7 mo216 F9_15 rfl rfl
theorem s216_7_o120 (d : Nat) (l0 : Value) (σ : Hs) : ru d 216 7 [l0] [.ref 120] σ = ru d 216 10 [l0] [.int 0] σ := q_getf t216_7 mo216 F9_15 rfl rfl
theorem s216_7_o121 (d : Nat) (l0 : Value) (σ : Hs) : ru d 216 7 [l0] [.ref 121] σ = ru d 216 10 [l0] [.int 0] σ := q_getf t216_7 mo216 F9_15 rfl rfl
theorem t216_10 : decode (mb 216) 10 = .ok (.goto 4, 3) := by decide +kernel
theorem s216_10 (d : Nat) (l0 : Value) (w0 : Value) (σ : Hs) : ru d 216 10 [l0] [w0] σ = ru d 216 14 [l0] [w0] σ := q_goto t216_10 (by decide +kernel)
theorem t216_13 : decode (mb 216) 13 = .ok (.iconst 1, 1) := by decide +kernel
theorem s216_13 (d : Nat) (l0 : Value) (σ : Hs) : ru d 216 13 [l0] [] σ = ru d 216 14 [l0] [.int 1] σ := q_iconst t216_13 (by decide +kernel)
theorem t216_14 : decode (mb 216) 14 = .ok (.ireturn, 1) := by decide +kernel
theorem s216_14 (d : Nat) (l0 : Value) (x : Int32) (hx : narrow .byte (.int x) = .int x) (σ : Hs) : ru d 216 14 [l0] [.int x] σ = some (some (.int x), σ) := q_iretn t216_14 mr216 hx
theorem c216 (d : Nat) (x0 : Nat) (σ : Hs) : callD (d + 1) 216 [.ref x0] σ = ru d 216 0 [.ref x0] [] σ := callD_ru ml216 rfl rfl (Nat.le_of_ble_eq_true rfl)
-- 217: String.length()I
theorem t217_0 : decode (mb 217) 0 = .ok (.aload_n 0, 1) := by decide +kernel
theorem s217_0 (d : Nat) (a0 : Nat) (σ : Hs) : ru d 217 0 [.ref a0] [] σ = ru d 217 1 [.ref a0] [.ref a0] σ := q_aload_n t217_0 rfl
theorem t217_1 : decode (mb 217) 1 = .ok (.getfield 9, 3) := by decide +kernel
theorem s217_1_o111 (d : Nat) (l0 : Value) (σ : Hs) : ru d 217 1 [l0] [.ref 111] σ = ru d 217 4 [l0] [.ref 123] σ := q_getf t217_1 mo217 F9_9 rfl rfl
theorem s217_1_o112 (d : Nat) (l0 : Value) (σ : Hs) : ru d 217 1 [l0] [.ref 112] σ = ru d 217 4 [l0] [.ref 124] σ := q_getf t217_1 mo217 F9_9 rfl rfl
theorem s217_1_o113 (d : Nat) (l0 : Value) (σ : Hs) : ru d 217 1 [l0] [.ref 113] σ = ru d 217 4 [l0] [.ref 125] σ := q_getf t217_1 mo217 F9_9 rfl rfl
theorem s217_1_o114 (d : Nat) (l0 : Value) (σ : Hs) : ru d 217 1 [l0] [.ref 114] σ = ru d 217 4 [l0] [.ref 126] σ := q_getf t217_1 mo217 F9_9 rfl rfl
theorem s217_1_o115 (d : Nat) (l0 : Value) (σ : Hs) : ru d 217 1 [l0] [.ref 115] σ = ru d 217 4 [l0] [.ref 127] σ := q_getf t217_1 mo217 F9_9 rfl rfl
theorem s217_1_o116 (d : Nat) (l0 : Value) (σ : Hs) : ru d 217 1 [l0] [.ref 116] σ = ru d 217 4 [l0] [.ref 128] σ := q_getf t217_1 mo217 F9_9 rfl rfl
theorem s217_1_o117 (d : Nat) (l0 : Value) (σ : Hs) : ru d 217 1 [l0] [.ref 117] σ = ru d 217 4 [l0] [.ref 129] σ := q_getf t217_1 mo217 F9_9 rfl rfl
theorem s217_1_o118 (d : Nat) (l0 : Value) (σ : Hs) : ru d 217 1 [l0] [.ref 118] σ = ru d 217 4 [l0] [.ref 130] σ := q_getf t217_1 mo217 F9_9 rfl rfl
theorem s217_1_o119 (d : Nat) (l0 : Value) (σ : Hs) : ru d 217 1 [l0] [.ref 119] σ = ru d 217 4 [l0] [.ref 131] σ := q_getf t217_1 mo217 F9_9 rfl rfl
theorem s217_1_o120 (d : Nat) (l0 : Value) (σ : Hs) : ru d 217 1 [l0] [.ref 120] σ = ru d 217 4 [l0] [.ref 132] σ := q_getf t217_1 mo217 F9_9 rfl rfl
theorem s217_1_o121 (d : Nat) (l0 : Value) (σ : Hs) : ru d 217 1 [l0] [.ref 121] σ = ru d 217 4 [l0] [.ref 133] σ := q_getf t217_1 mo217 F9_9 rfl rfl
theorem t217_4 : decode (mb 217) 4 = .ok (.arraylength, 1) := by decide +kernel
theorem s217_4_o123 (d : Nat) (l0 : Value) (σ : Hs) : ru d 217 4 [l0] [.ref 123] σ = ru d 217 5 [l0] [.int 4] σ := q_alen t217_4 (by decide +kernel) (by decide +kernel) (by decide +kernel)
theorem s217_4_o124 (d : Nat) (l0 : Value) (σ : Hs) : ru d 217 4 [l0] [.ref 124] σ = ru d 217 5 [l0] [.int 4] σ := q_alen t217_4 (by decide +kernel) (by decide +kernel) (by decide +kernel)
theorem s217_4_o125 (d : Nat) (l0 : Value) (σ : Hs) : ru d 217 4 [l0] [.ref 125] σ = ru d 217 5 [l0] [.int 3] σ := q_alen t217_4 (by decide +kernel) (by decide +kernel) (by decide +kernel)
theorem s217_4_o126 (d : Nat) (l0 : Value) (σ : Hs) : ru d 217 4 [l0] [.ref 126] σ = ru d 217 5 [l0] [.int 1] σ := q_alen t217_4 (by decide +kernel) (by decide +kernel) (by decide +kernel)
theorem s217_4_o127 (d : Nat) (l0 : Value) (σ : Hs) : ru d 217 4 [l0] [.ref 127] σ = ru d 217 5 [l0] [.int 1] σ := q_alen t217_4 (by decide +kernel) (by decide +kernel) (by decide +kernel)
theorem s217_4_o128 (d : Nat) (l0 : Value) (σ : Hs) : ru d 217 4 [l0] [.ref 128] σ = ru d 217 5 [l0] [.int 3] σ := q_alen t217_4 (by decide +kernel) (by decide +kernel) (by decide +kernel)
theorem s217_4_o129 (d : Nat) (l0 : Value) (σ : Hs) : ru d 217 4 [l0] [.ref 129] σ = ru d 217 5 [l0] [.int 2] σ := q_alen t217_4 (by decide +kernel) (by decide +kernel) (by decide +kernel)
theorem s217_4_o130 (d : Nat) (l0 : Value) (σ : Hs) : ru d 217 4 [l0] [.ref 130] σ = ru d 217 5 [l0] [.int 3] σ := q_alen t217_4 (by decide +kernel) (by decide +kernel) (by decide +kernel)
theorem s217_4_o131 (d : Nat) (l0 : Value) (σ : Hs) : ru d 217 4 [l0] [.ref 131] σ = ru d 217 5 [l0] [.int 4] σ := q_alen t217_4 (by decide +kernel) (by decide +kernel) (by decide +kernel)
theorem s217_4_o132 (d : Nat) (l0 : Value) (σ : Hs) : ru d 217 4 [l0] [.ref 132] σ = ru d 217 5 [l0] [.int 4] σ := q_alen t217_4 (by decide +kernel) (by decide +kernel) (by decide +kernel)
theorem s217_4_o133 (d : Nat) (l0 : Value) (σ : Hs) : ru d 217 4 [l0] [.ref 133] σ = ru d 217 5 [l0] [.int 3] σ := q_alen t217_4 (by decide +kernel) (by decide +kernel) (by decide +kernel)
theorem t217_5 : decode (mb 217) 5 = .ok (.aload_n 0, 1) := by decide +kernel
theorem s217_5 (d : Nat) (a0 : Nat) (w0 : Value) (σ : Hs) : ru d 217 5 [.ref a0] [w0] σ = ru d 217 6 [.ref a0] [.ref a0, w0] σ := q_aload_n t217_5 rfl
theorem t217_6 : decode (mb 217) 6 = .ok (.invokevirtual 335, 3) := by decide +kernel
theorem s217_6_o111 (d : Nat) (l0 : Value) (w0 : Int32) (σ : Hs) : ru d 217 6 [l0] [.ref 111, .int w0] σ = kont (callD d 216 [.ref 111] σ) d 217 9 [l0] [.int w0] := q_invv t217_6 mo217 K9_335 mj216 rfl rfl rfl rfl (Nat.le_of_ble_eq_true rfl)
theorem s217_6_o112 (d : Nat) (l0 : Value) (w0 : Int32) (σ : Hs) : ru d 217 6 [l0] [.ref 112, .int w0] σ = kont (callD d 216 [.ref 112] σ) d 217 9 [l0] [.int w0] := q_invv t217_6 mo217 K9_335 mj216 rfl rfl rfl rfl (Nat.le_of_ble_eq_true rfl)
theorem s217_6_o113 (d : Nat) (l0 : Value) (w0 : Int32) (σ : Hs) : ru d 217 6 [l0] [.ref 113, .int w0] σ = kont (callD d 216 [.ref 113] σ) d 217 9 [l0] [.int w0] := q_invv t217_6 mo217 K9_335 mj216 rfl rfl rfl rfl (Nat.le_of_ble_eq_true rfl)
theorem s217_6_o114 (d : Nat) (l0 : Value) (w0 : Int32) (σ : Hs) : ru d 217 6 [l0] [.ref 114, .int w0] σ = kont (callD d 216 [.ref 114] σ) d 217 9 [l0] [.int w0] := q_invv t217_6 mo217 K9_335 mj216 rfl rfl rfl rfl (Nat.le_of_ble_eq_true rfl)
theorem s217_6_o115 (d : Nat) (l0 : Value) (w0 : Int32) (σ : Hs) : ru d 217 6 [l0] [.ref 115, .int w0] σ = kont (callD d 216 [.ref 115] σ) d 217 9 [l0] [.int w0] := q_invv t217_6 mo217 K9_335 mj216 rfl rfl rfl rfl (Nat.le_of_ble_eq_true rfl)
theorem s217_6_o116 (d : Nat) (l0 : Value) (w0 : Int32) (σ : Hs) : ru d 217 6 [l0] [.ref 116, .int w0] σ = kont (callD d 216 [.ref 116] σ) d 217 9 [l0] [.int w0] := q_invv t217_6 mo217 K9_335 mj216 rfl rfl rfl rfl (Nat.le_of_ble_eq_true rfl)
theorem s217_6_o117 (d : Nat) (l0 : Value) (w0 : Int32) (σ : Hs) : ru d 217 6 [l0] [.ref 117, .int w0] σ = kont (callD d 216 [.ref 117] σ) d 217 9 [l0] [.int w0] := q_invv t217_6 mo217 K9_335 mj216 rfl rfl rfl rfl (Nat.le_of_ble_eq_true rfl)
theorem s217_6_o118 (d : Nat) (l0 : Value) (w0 : Int32) (σ : Hs) : ru d 217 6 [l0] [.ref 118, .int w0] σ = kont (callD d 216 [.ref 118] σ) d 217 9 [l0] [.int w0] := q_invv t217_6 mo217 K9_335 mj216 rfl rfl rfl rfl (Nat.le_of_ble_eq_true rfl)
theorem s217_6_o119 (d : Nat) (l0 : Value) (w0 : Int32) (σ : Hs) : ru d 217 6 [l0] [.ref 119, .int w0] σ = kont (callD d 216 [.ref 119] σ) d 217 9 [l0] [.int w0] := q_invv t217_6 mo217 K9_335 mj216 rfl rfl rfl rfl (Nat.le_of_ble_eq_true rfl)
theorem s217_6_o120 (d : Nat) (l0 : Value) (w0 : Int32) (σ : Hs) : ru d 217 6 [l0] [.ref 120, .int w0] σ = kont (callD d 216 [.ref 120] σ) d 217 9 [l0] [.int w0] := q_invv t217_6 mo217 K9_335 mj216 rfl rfl rfl rfl (Nat.le_of_ble_eq_true rfl)
theorem s217_6_o121 (d : Nat) (l0 : Value) (w0 : Int32) (σ : Hs) : ru d 217 6 [l0] [.ref 121, .int w0] σ = kont (callD d 216 [.ref 121] σ) d 217 9 [l0] [.int w0] := q_invv t217_6 mo217 K9_335 mj216 rfl rfl rfl rfl (Nat.le_of_ble_eq_true rfl)
theorem t217_9 : decode (mb 217) 9 = .ok (.ishr, 1) := by decide +kernel
theorem s217_9 (d : Nat) (l0 : Value) (x y : Int32) (σ : Hs) : ru d 217 9 [l0] [.int y, .int x] σ = ru d 217 10 [l0] [.int (x >>> (y &&& 31))] σ := q_ishr t217_9
theorem t217_10 : decode (mb 217) 10 = .ok (.ireturn, 1) := by decide +kernel
theorem s217_10 (d : Nat) (l0 : Value) (x : Int32) (σ : Hs) : ru d 217 10 [l0] [.int x] σ = some (some (.int x), σ) := q_ireti t217_10 mr217
theorem c217 (d : Nat) (x0 : Nat) (σ : Hs) : callD (d + 1) 217 [.ref x0] σ = ru d 217 0 [.ref x0] [] σ := callD_ru ml217 rfl rfl (Nat.le_of_ble_eq_true rfl)
-- 218: StringLatin1.canEncode(I)Z
theorem t218_0 : decode (mb 218) 0 = .ok (.iload_n 0, 1) := by decide +kernel
theorem s218_0 (d : Nat) (i0 : Int32) (σ : Hs) : ru d 218 0 [.int i0] [] σ = ru d 218 1 [.int i0] [.int i0] σ := q_iload_n t218_0 rfl
theorem t218_1 : decode (mb 218) 1 = .ok (.ifCond .lt 14, 3) := by decide +kernel
theorem s218_1 (d : Nat) (l0 : Value) (x : Int32) (σ : Hs) : ru d 218 1 [l0] [.int x] σ = if x < 0 then ru d 218 15 [l0] [] σ else ru d 218 4 [l0] [] σ := q_if_lt t218_1 (by decide +kernel)
theorem t218_4 : decode (mb 218) 4 = .ok (.iload_n 0, 1) := by decide +kernel
theorem s218_4 (d : Nat) (i0 : Int32) (σ : Hs) : ru d 218 4 [.int i0] [] σ = ru d 218 5 [.int i0] [.int i0] σ := q_iload_n t218_4 rfl
theorem t218_5 : decode (mb 218) 5 = .ok (.sipush 255, 3) := by decide +kernel
theorem s218_5 (d : Nat) (l0 : Value) (w0 : Value) (σ : Hs) : ru d 218 5 [l0] [w0] σ = ru d 218 8 [l0] [.int 255, w0] σ := q_sipush t218_5 (by decide +kernel)
theorem t218_8 : decode (mb 218) 8 = .ok (.if_icmp .gt 7, 3) := by decide +kernel
theorem s218_8 (d : Nat) (l0 : Value) (x y : Int32) (σ : Hs) : ru d 218 8 [l0] [.int y, .int x] σ = if y < x then ru d 218 15 [l0] [] σ else ru d 218 11 [l0] [] σ := q_ic_gt t218_8 (by decide +kernel)
theorem t218_11 : decode (mb 218) 11 = .ok (.iconst 1, 1) := by decide +kernel
theorem s218_11 (d : Nat) (l0 : Value) (σ : Hs) : ru d 218 11 [l0] [] σ = ru d 218 12 [l0] [.int 1] σ := q_iconst t218_11 (by decide +kernel)
theorem t218_12 : decode (mb 218) 12 = .ok (.goto 4, 3) := by decide +kernel
theorem s218_12 (d : Nat) (l0 : Value) (w0 : Value) (σ : Hs) : ru d 218 12 [l0] [w0] σ = ru d 218 16 [l0] [w0] σ := q_goto t218_12 (by decide +kernel)
theorem t218_15 : decode (mb 218) 15 = .ok (.iconst 0, 1) := by decide +kernel
theorem s218_15 (d : Nat) (l0 : Value) (σ : Hs) : ru d 218 15 [l0] [] σ = ru d 218 16 [l0] [.int 0] σ := q_iconst t218_15 (by decide +kernel)
theorem t218_16 : decode (mb 218) 16 = .ok (.ireturn, 1) := by decide +kernel
theorem s218_16 (d : Nat) (l0 : Value) (x : Int32) (hx : isB x) (σ : Hs) : ru d 218 16 [l0] [.int x] σ = some (some (.int x), σ) := q_iretz t218_16 mr218 hx
theorem c218 (d : Nat) (x0 : Int32) (σ : Hs) : callD (d + 1) 218 [.int x0] σ = ru d 218 0 [.int x0] [] σ := callD_ru ml218 rfl rfl (Nat.le_of_ble_eq_true rfl)
-- 219: StringLatin1.indexOfChar([BIII)I
theorem t219_0 : decode (mb 219) 0 = .ok (.iload_n 1, 1) := by decide +kernel
theorem s219_0 (d : Nat) (l0 : Value) (i1 : Int32) (l2 : Value) (l3 : Value) (l4 : Value) (l5 : Value) (σ : Hs) : ru d 219 0 [l0, .int i1, l2, l3, l4, l5] [] σ = ru d 219 1 [l0, .int i1, l2, l3, l4, l5] [.int i1] σ := q_iload_n t219_0 rfl
theorem t219_1 : decode (mb 219) 1 = .ok (.i2b, 1) := by decide +kernel
theorem s219_1 (d : Nat) (l0 : Value) (l1 : Value) (l2 : Value) (l3 : Value) (l4 : Value) (l5 : Value) (x : Int32) (σ : Hs) : ru d 219 1 [l0, l1, l2, l3, l4, l5] [.int x] σ = ru d 219 2 [l0, l1, l2, l3, l4, l5] [.int x.toInt8.toInt32] σ := q_i2b t219_1
theorem t219_2 : decode (mb 219) 2 = .ok (.istore 4, 2) := by decide +kernel
theorem s219_2 (d : Nat) (l0 : Value) (l1 : Value) (l2 : Value) (i3 : Int32) (l4 : Value) (l5 : Value) (x : Int32) (σ : Hs) : ru d 219 2 [l0, l1, l2, .int i3, l4, l5] [.int x] σ = ru d 219 4 [l0, l1, l2, .int i3, .int x, l5] [] σ := q_istore t219_2 ⟨Nat.le_of_ble_eq_true rfl, rfl⟩ rfl
theorem t219_4 : decode (mb 219) 4 = .ok (.iload_n 2, 1) := by decide +kernel
theorem s219_4 (d : Nat) (l0 : Value) (l1 : Value) (i2 : Int32) (l3 : Value) (l4 : Value) (l5 : Value) (σ : Hs) : ru d 219 4 [l0, l1, .int i2, l3, l4, l5] [] σ = ru d 219 5 [l0, l1, .int i2, l3, l4, l5] [.int i2] σ := q_iload_n t219_4 rfl
theorem t219_5 : decode (mb 219) 5 = .ok (.istore 5, 2) := by decide +kernel
theorem s219_5 (d : Nat) (l0 : Value) (l1 : Value) (l2 : Value) (l3 : Value) (i4 : Int32) (l5 : Value) (x : Int32) (σ : Hs) : ru d 219 5 [l0, l1, l2, l3, .int i4, l5] [.int x] σ = ru d 219 7 [l0, l1, l2, l3, .int i4, .int x] [] σ := q_istore t219_5 ⟨Nat.le_of_ble_eq_true rfl, rfl⟩ rfl
theorem t219_7 : decode (mb 219) 7 = .ok (.iload 5, 2) := by decide +kernel
theorem s219_7 (d : Nat) (l0 : Value) (l1 : Value) (l2 : Value) (l3 : Value) (l4 : Value) (i5 : Int32) (σ : Hs) : ru d 219 7 [l0, l1, l2, l3, l4, .int i5] [] σ = ru d 219 9 [l0, l1, l2, l3, l4, .int i5] [.int i5] σ := q_iload t219_7 rfl
theorem t219_9 : decode (mb 219) 9 = .ok (.iload_n 3, 1) := by decide +kernel
theorem s219_9 (d : Nat) (l0 : Value) (l1 : Value) (l2 : Value) (i3 : Int32) (l4 : Value) (l5 : Value) (w0 : Value) (σ : Hs) : ru d 219 9 [l0, l1, l2, .int i3, l4, l5] [w0] σ = ru d 219 10 [l0, l1, l2, .int i3, l4, l5] [.int i3, w0] σ := q_iload_n t219_9 rfl
theorem t219_10 : decode (mb 219) 10 = .ok (.if_icmp .ge 21, 3) := by decide +kernel
theorem s219_10 (d : Nat) (l0 : Value) (l1 : Value) (l2 : Value) (l3 : Value) (l4 : Value) (l5 : Value) (x y : Int32) (σ : Hs) : ru d 219 10 [l0, l1, l2, l3, l4, l5] [.int y, .int x] σ = if y ≤ x then ru d 219 31 [l0, l1, l2, l3, l4, l5] [] σ else ru d 219 13 [l0, l1, l2, l3, l4, l5] [] σ := q_ic_ge t219_10 (by decide +kernel)
theorem t219_13 : decode (mb 219) 13 = .ok (.aload_n 0, 1) := by decide +kernel
theorem s219_13 (d : Nat) (a0 : Nat) (l1 : Value) (l2 : Value) (l3 : Value) (l4 : Value) (l5 : Value) (σ : Hs) : ru d 219 13 [.ref a0, l1, l2, l3, l4, l5] [] σ = ru d 219 14 [.ref a0, l1, l2, l3, l4, l5] [.ref a0] σ := q_aload_n t219_13 rfl
theorem t219_14 : decode (mb 219) 14 = .ok (.iload 5, 2) := by decide +kernel
theorem s219_14 (d : Nat) (l0 : Value) (l1 : Value) (l2 : Value) (l3 : Value) (l4 : Value) (i5 : Int32) (w0 : Value) (σ : Hs) : ru d 219 14 [l0, l1, l2, l3, l4, .int i5] [w0] σ = ru d 219 16 [l0, l1, l2, l3, l4, .int i5] [.int i5, w0] σ := q_iload t219_14 rfl
theorem t219_16 : decode (mb 219) 16 = .ok (.baload, 1) := by decide +kernel
theorem s219_16_o123 (d : Nat) (l0 : Value) (l1 : Value) (l2 : Value) (l3 : Value) (l4 : Value) (l5 : Value) (i : Int32) (σ : Hs) : ru d 219 16 [l0, l1, l2, l3, l4, l5] [.int i, .ref 123] σ = gd (vp_in i 4) (ru d 219 17 [l0, l1, l2, l3, l4, l5] [.int (([100, 115, 119, 114] : List Int32).getD i.toNatClampNeg 0)] σ) := q_bals t219_16 (by decide +kernel) (by decide +kernel) rfl rfl
theorem s219_16_o124 (d : Nat) (l0 : Value) (l1 : Value) (l2 : Value) (l3 : Value) (l4 : Value) (l5 : Value) (i : Int32) (σ : Hs) : ru d 219 16 [l0, l1, l2, l3, l4, l5] [.int i, .ref 124] σ = gd (vp_in i 4) (ru d 219 17 [l0, l1, l2, l3, l4, l5] [.int (([104, 119, 108, 110] : List Int32).getD i.toNatClampNeg 0)] σ) := q_bals t219_16 (by decide +kernel) (by decide +kernel) rfl rfl
theorem s219_16_o125 (d : Nat) (l0 : Value) (l1 : Value) (l2 : Value) (l3 : Value) (l4 : Value) (l5 : Value) (i : Int32) (σ : Hs) : ru d 219 16 [l0, l1, l2, l3, l4, l5] [.int i, .ref 125] σ = gd (vp_in i 3) (ru d 219 17 [l0, l1, l2, l3, l4, l5] [.int (([104, 119, 115] : List Int32).getD i.toNatClampNeg 0)] σ) := q_bals t219_16 (by decide +kernel) (by decide +kernel) rfl rfl
theorem s219_16_o126 (d : Nat) (l0 : Value) (l1 : Value) (l2 : Value) (l3 : Value) (l4 : Value) (l5 : Value) (i : Int32) (σ : Hs) : ru d 219 16 [l0, l1, l2, l3, l4, l5] [.int i, .ref 126] σ = gd (vp_in i 1) (ru d 219 17 [l0, l1, l2, l3, l4, l5] [.int (([124] : List Int32).getD i.toNatClampNeg 0)] σ) := q_bals t219_16 (by decide +kernel) (by decide +kernel) rfl rfl
theorem s219_16_o127 (d : Nat) (l0 : Value) (l1 : Value) (l2 : Value) (l3 : Value) (l4 : Value) (l5 : Value) (i : Int32) (σ : Hs) : ru d 219 16 [l0, l1, l2, l3, l4, l5] [.int i, .ref 127] σ = gd (vp_in i 1) (ru d 219 17 [l0, l1, l2, l3, l4, l5] [.int (([38] : List Int32).getD i.toNatClampNeg 0)] σ) := q_bals t219_16 (by decide +kernel) (by decide +kernel) rfl rfl
theorem s219_16_o128 (d : Nat) (l0 : Value) (l1 : Value) (l2 : Value) (l3 : Value) (l4 : Value) (l5 : Value) (i : Int32) (σ : Hs) : ru d 219 16 [l0, l1, l2, l3, l4, l5] [.int i, .ref 128] σ = gd (vp_in i 3) (ru d 219 17 [l0, l1, l2, l3, l4, l5] [.int (([60, 61, 62] : List Int32).getD i.toNatClampNeg 0)] σ) := q_bals t219_16 (by decide +kernel) (by decide +kernel) rfl rfl
theorem s219_16_o129 (d : Nat) (l0 : Value) (l1 : Value) (l2 : Value) (l3 : Value) (l4 : Value) (l5 : Value) (i : Int32) (σ : Hs) : ru d 219 16 [l0, l1, l2, l3, l4, l5] [.int i, .ref 129] σ = gd (vp_in i 2) (ru d 219 17 [l0, l1, l2, l3, l4, l5] [.int (([43, 45] : List Int32).getD i.toNatClampNeg 0)] σ) := q_bals t219_16 (by decide +kernel) (by decide +kernel) rfl rfl
theorem s219_16_o130 (d : Nat) (l0 : Value) (l1 : Value) (l2 : Value) (l3 : Value) (l4 : Value) (l5 : Value) (i : Int32) (σ : Hs) : ru d 219 16 [l0, l1, l2, l3, l4, l5] [.int i, .ref 130] σ = gd (vp_in i 3) (ru d 219 17 [l0, l1, l2, l3, l4, l5] [.int (([42, 47, 37] : List Int32).getD i.toNatClampNeg 0)] σ) := q_bals t219_16 (by decide +kernel) (by decide +kernel) rfl rfl
theorem t219_17 : decode (mb 219) 17 = .ok (.iload 4, 2) := by decide +kernel
theorem s219_17 (d : Nat) (l0 : Value) (l1 : Value) (l2 : Value) (l3 : Value) (i4 : Int32) (l5 : Value) (w0 : Value) (σ : Hs) : ru d 219 17 [l0, l1, l2, l3, .int i4, l5] [w0] σ = ru d 219 19 [l0, l1, l2, l3, .int i4, l5] [.int i4, w0] σ := q_iload t219_17 rfl
theorem t219_19 : decode (mb 219) 19 = .ok (.if_icmp .ne 6, 3) := by decide +kernel
theorem s219_19 (d : Nat) (l0 : Value) (l1 : Value) (l2 : Value) (l3 : Value) (l4 : Value) (l5 : Value) (x y : Int32) (σ : Hs) : ru d 219 19 [l0, l1, l2, l3, l4, l5] [.int y, .int x] σ = if x = y then ru d 219 22 [l0, l1, l2, l3, l4, l5] [] σ else ru d 219 25 [l0, l1, l2, l3, l4, l5] [] σ := q_ic_ne t219_19 (by decide +kernel)
theorem t219_22 : decode (mb 219) 22 = .ok (.iload 5, 2) := by decide +kernel
theorem s219_22 (d : Nat) (l0 : Value) (l1 : Value) (l2 : Value) (l3 : Value) (l4 : Value) (i5 : Int32) (σ : Hs) : ru d 219 22 [l0, l1, l2, l3, l4, .int i5] [] σ = ru d 219 24 [l0, l1, l2, l3, l4, .int i5] [.int i5] σ := q_iload t219_22 rfl
theorem t219_24 : decode (mb 219) 24 = .ok (.ireturn, 1) := by decide +kernel
theorem s219_24 (d : Nat) (l0 : Value) (l1 : Value) (l2 : Value) (l3 : Value) (l4 : Value) (l5 : Value) (x : Int32) (σ : Hs) : ru d 219 24 [l0, l1, l2, l3, l4, l5] [.int x] σ = some (some (.int x), σ) := q_ireti t219_24 mr219
theorem t219_25 : decode (mb 219) 25 = .ok (.iinc 5 1, 3) := by decide +kernel
theorem s219_25 (d : Nat) (l0 : Value) (l1 : Value) (l2 : Value) (l3 : Value) (i4 : Int32) (i5 : Int32) (σ : Hs) : ru d 219 25 [l0, l1, l2, l3, .int i4, .int i5] [] σ = ru d 219 28 [l0, l1, l2, l3, .int i4, .int (i5 + 1)] [] σ := q_iinc t219_25 ⟨Nat.le_of_ble_eq_true rfl, rfl⟩ rfl (by decide +kernel) rfl
theorem t219_28 : decode (mb 219) 28 = .ok (.goto (-21), 3) := by decide +kernel
theorem s219_28 (d : Nat) (l0 : Value) (l1 : Value) (l2 : Value) (l3 : Value) (l4 : Value) (l5 : Value) (σ : Hs) : ru d 219 28 [l0, l1, l2, l3, l4, l5] [] σ = ru d 219 7 [l0, l1, l2, l3, l4, l5] [] σ := q_goto t219_28 (by decide +kernel)
theorem t219_31 : decode (mb 219) 31 = .ok (.iconst (-1), 1) := by decide +kernel
theorem s219_31 (d : Nat) (l0 : Value) (l1 : Value) (l2 : Value) (l3 : Value) (l4 : Value) (l5 : Value) (σ : Hs) : ru d 219 31 [l0, l1, l2, l3, l4, l5] [] σ = ru d 219 32 [l0, l1, l2, l3, l4, l5] [.int (-1)] σ := q_iconst t219_31 (by decide +kernel)
theorem t219_32 : decode (mb 219) 32 = .ok (.ireturn, 1) := by decide +kernel
theorem s219_32 (d : Nat) (l0 : Value) (l1 : Value) (l2 : Value) (l3 : Value) (l4 : Value) (l5 : Value) (x : Int32) (σ : Hs) : ru d 219 32 [l0, l1, l2, l3, l4, l5] [.int x] σ = some (some (.int x), σ) := q_ireti t219_32 mr219
theorem c219 (d : Nat) (x0 : Nat) (x1 : Int32) (x2 : Int32) (x3 : Int32) (σ : Hs) : callD (d + 1) 219 [.ref x0, .int x1, .int x2, .int x3] σ = ru d 219 0 [.ref x0, .int x1, .int x2, .int x3, uu, uu] [] σ := callD_ru ml219 rfl rfl (Nat.le_of_ble_eq_true rfl)
-- 220: StringLatin1.indexOf([BIII)I
theorem t220_0 : decode (mb 220) 0 = .ok (.iload_n 1, 1) := by decide +kernel
theorem s220_0 (d : Nat) (l0 : Value) (i1 : Int32) (l2 : Value) (l3 : Value) (σ : Hs) : ru d 220 0 [l0, .int i1, l2, l3] [] σ = ru d 220 1 [l0, .int i1, l2, l3] [.int i1] σ := q_iload_n t220_0 rfl
theorem t220_1 : decode (mb 220) 1 = .ok (.invokestatic 88, 3) := by decide +kernel
theorem s220_1 (d : Nat) (l0 : Value) (l1 : Value) (l2 : Value) (l3 : Value) (v0 : Value) (σ : Hs) : ru d 220 1 [l0, l1, l2, l3] [v0] σ = kont (callD d 218 [v0] σ) d 220 4 [l0, l1, l2, l3] [] := q_invs t220_1 mo220 (by decide +kernel) K10_88 mj218 (Nat.le_of_ble_eq_true rfl) rfl rfl (Nat.le_of_ble_eq_true rfl)
theorem t220_4 : decode (mb 220) 4 = .ok (.ifCond .ne 5, 3) := by decide +kernel
theorem s220_4 (d : Nat) (l0 : Value) (l1 : Value) (l2 : Value) (l3 : Value) (x : Int32) (σ : Hs) : ru d 220 4 [l0, l1, l2, l3] [.int x] σ = if x = 0 then ru d 220 7 [l0, l1, l2, l3] [] σ else ru d 220 9 [l0, l1, l2, l3] [] σ := q_if_ne t220_4 (by decide +kernel)
theorem t220_7 : decode (mb 220) 7 = .ok (.iconst (-1), 1) := by decide +kernel
theorem s220_7 (d : Nat) (l0 : Value) (l1 : Value) (l2 : Value) (l3 : Value) (σ : Hs) : ru d 220 7 [l0, l1, l2, l3] [] σ = ru d 220 8 [l0, l1, l2, l3] [.int (-1)] σ := q_iconst t220_7 (by decide +kernel)
theorem t220_8 : decode (mb 220) 8 = .ok (.ireturn, 1) := by decide +kernel
theorem s220_8 (d : Nat) (l0 : Value) (l1 : Value) (l2 : Value) (l3 : Value) (x : Int32) (σ : Hs) : ru d 220 8 [l0, l1, l2, l3] [.int x] σ = some (some (.int x), σ) := q_ireti t220_8 mr220
theorem t220_9 : decode (mb 220) 9 = .ok (.iload_n 2, 1) := by decide +kernel
theorem s220_9 (d : Nat) (l0 : Value) (l1 : Value) (i2 : Int32) (l3 : Value) (σ : Hs) : ru d 220 9 [l0, l1, .int i2, l3] [] σ = ru d 220 10 [l0, l1, .int i2, l3] [.int i2] σ := q_iload_n t220_9 rfl
theorem t220_10 : decode (mb 220) 10 = .ok (.iconst 0, 1) := by decide +kernel
theorem s220_10 (d : Nat) (l0 : Value) (l1 : Value) (l2 : Value) (l3 : Value) (w0 : Value) (σ : Hs) : ru d 220 10 [l0, l1, l2, l3] [w0] σ = ru d 220 11 [l0, l1, l2, l3] [.int 0, w0] σ := q_iconst t220_10 (by decide +kernel)
theorem t220_11 : decode (mb 220) 11 = .ok (.invokestatic 92, 3) := by decide +kernel
theorem s220_11 (d : Nat) (l0 : Value) (l1 : Value) (l2 : Value) (l3 : Value) (x y : Int32) (σ : Hs) : ru d 220 11 [l0, l1, l2, l3] [.int y, .int x] σ = ru d 220 14 [l0, l1, l2, l3] [.int (jmax x y)] σ := q_mx t220_11 mo220 (by decide +kernel) (by decide +kernel) (Nat.le_of_ble_eq_true rfl)
theorem t220_14 : decode (mb 220) 14 = .ok (.istore_n 2, 1) := by decide +kernel
theorem s220_14 (d : Nat) (l0 : Value) (i1 : Int32) (l2 : Value) (l3 : Value) (x : Int32) (σ : Hs) : ru d 220 14 [l0, .int i1, l2, l3] [.int x] σ = ru d 220 15 [l0, .int i1, .int x, l3] [] σ := q_istore_n t220_14 ⟨Nat.le_of_ble_eq_true rfl, rfl⟩ rfl
theorem t220_15 : decode (mb 220) 15 = .ok (.iload_n 3, 1) := by decide +kernel
theorem s220_15 (d : Nat) (l0 : Value) (l1 : Value) (l2 : Value) (i3 : Int32) (σ : Hs) : ru d 220 15 [l0, l1, l2, .int i3] [] σ = ru d 220 16 [l0, l1, l2, .int i3] [.int i3] σ := q_iload_n t220_15 rfl
theorem t220_16 : decode (mb 220) 16 = .ok (.aload_n 0, 1) := by decide +kernel
theorem s220_16 (d : Nat) (a0 : Nat) (l1 : Value) (l2 : Value) (l3 : Value) (w0 : Value) (σ : Hs) : ru d 220 16 [.ref a0, l1, l2, l3] [w0] σ = ru d 220 17 [.ref a0, l1, l2, l3] [.ref a0, w0] σ := q_aload_n t220_16 rfl
theorem t220_17 : decode (mb 220) 17 = .ok (.arraylength, 1) := by decide +kernel
theorem s220_17_o123 (d : Nat) (l0 : Value) (l1 : Value) (l2 : Value) (l3 : Value) (w0 : Value) (σ : Hs) : ru d 220 17 [l0, l1, l2, l3] [.ref 123, w0] σ = ru d 220 18 [l0, l1, l2, l3] [.int 4, w0] σ := q_alen t220_17 (by decide +kernel) (by decide +kernel) (by decide +kernel)
theorem s220_17_o124 (d : Nat) (l0 : Value) (l1 : Value) (l2 : Value) (l3 : Value) (w0 : Value) (σ : Hs) : ru d 220 17 [l0, l1, l2, l3] [.ref 124, w0] σ = ru d 220 18 [l0, l1, l2, l3] [.int 4, w0] σ := q_alen t220_17 (by decide +kernel) (by decide +kernel) (by decide +kernel)
theorem s220_17_o125 (d : Nat) (l0 : Value) (l1 : Value) (l2 : Value) (l3 : Value) (w0 : Value) (σ : Hs) : ru d 220 17 [l0, l1, l2, l3] [.ref 125, w0] σ = ru d 220 18 [l0, l1, l2, l3] [.int 3, w0] σ := q_alen t220_17 (by decide +kernel) (by decide +kernel) (by decide +kernel)
theorem s220_17_o126 (d : Nat) (l0 : Value) (l1 : Value) (l2 : Value) (l3 : Value) (w0 : Value) (σ : Hs) : ru d 220 17 [l0, l1, l2, l3] [.ref 126, w0] σ = ru d 220 18 [l0, l1, l2, l3] [.int 1, w0] σ := q_alen t220_17 (by decide +kernel) (by decide +kernel) (by decide +kernel)
theorem s220_17_o127 (d : Nat) (l0 : Value) (l1 : Value) (l2 : Value) (l3 : Value) (w0 : Value) (σ : Hs) : ru d 220 17 [l0, l1, l2, l3] [.ref 127, w0] σ = ru d 220 18 [l0, l1, l2, l3] [.int 1, w0] σ := q_alen t220_17 (by decide +kernel) (by decide +kernel) (by decide +kernel)
theorem s220_17_o128 (d : Nat) (l0 : Value) (l1 : Value) (l2 : Value) (l3 : Value) (w0 : Value) (σ : Hs) : ru d 220 17 [l0, l1, l2, l3] [.ref 128, w0] σ = ru d 220 18 [l0, l1, l2, l3] [.int 3, w0] σ := q_alen t220_17 (by decide +kernel) (by decide +kernel) (by decide +kernel)
theorem s220_17_o129 (d : Nat) (l0 : Value) (l1 : Value) (l2 : Value) (l3 : Value) (w0 : Value) (σ : Hs) : ru d 220 17 [l0, l1, l2, l3] [.ref 129, w0] σ = ru d 220 18 [l0, l1, l2, l3] [.int 2, w0] σ := q_alen t220_17 (by decide +kernel) (by decide +kernel) (by decide +kernel)
theorem s220_17_o130 (d : Nat) (l0 : Value) (l1 : Value) (l2 : Value) (l3 : Value) (w0 : Value) (σ : Hs) : ru d 220 17 [l0, l1, l2, l3] [.ref 130, w0] σ = ru d 220 18 [l0, l1, l2, l3] [.int 3, w0] σ := q_alen t220_17 (by decide +kernel) (by decide +kernel) (by decide +kernel)
theorem t220_18 : decode (mb 220) 18 = .ok (.invokestatic 38, 3) := by decide +kernel
theorem s220_18 (d : Nat) (l0 : Value) (l1 : Value) (l2 : Value) (l3 : Value) (x y : Int32) (σ : Hs) : ru d 220 18 [l0, l1, l2, l3] [.int y, .int x] σ = ru d 220 21 [l0, l1, l2, l3] [.int (jmin x y)] σ := q_mi t220_18 mo220 (by decide +kernel) (by decide +kernel) (by decide +kernel) (Nat.le_of_ble_eq_true rfl)
theorem t220_21 : decode (mb 220) 21 = .ok (.istore_n 3, 1) := by decide +kernel
theorem s220_21 (d : Nat) (l0 : Value) (l1 : Value) (i2 : Int32) (l3 : Value) (x : Int32) (σ : Hs) : ru d 220 21 [l0, l1, .int i2, l3] [.int x] σ = ru d 220 22 [l0, l1, .int i2, .int x] [] σ := q_istore_n t220_21 ⟨Nat.le_of_ble_eq_true rfl, rfl⟩ rfl
theorem t220_22 : decode (mb 220) 22 = .ok (.iload_n 2, 1) := by decide +kernel
theorem s220_22 (d : Nat) (l0 : Value) (l1 : Value) (i2 : Int32) (l3 : Value) (σ : Hs) : ru d 220 22 [l0, l1, .int i2, l3] [] σ = ru d 220 23 [l0, l1, .int i2, l3] [.int i2] σ := q_iload_n t220_22 rfl
theorem t220_23 : decode (mb 220) 23 = .ok (.iload_n 3, 1) := by decide +kernel
theorem s220_23 (d : Nat) (l0 : Value) (l1 : Value) (l2 : Value) (i3 : Int32) (w0 : Value) (σ : Hs) : ru d 220 23 [l0, l1, l2, .int i3] [w0] σ = ru d 220 24 [l0, l1, l2, .int i3] [.int i3, w0] σ := q_iload_n t220_23 rfl
theorem t220_24 : decode (mb 220) 24 = .ok (.if_icmp .lt 5, 3) := by decide +kernel
theorem s220_24 (d : Nat) (l0 : Value) (l1 : Value) (l2 : Value) (l3 : Value) (x y : Int32) (σ : Hs) : ru d 220 24 [l0, l1, l2, l3] [.int y, .int x] σ = if x < y then ru d 220 29 [l0, l1, l2, l3] [] σ else ru d 220 27 [l0, l1, l2, l3] [] σ := q_ic_lt t220_24 (by decide +kernel)
theorem t220_27 : decode (mb 220) 27 = .ok (.iconst (-1), 1) := by decide +kernel
theorem s220_27 (d : Nat) (l0 : Value) (l1 : Value) (l2 : Value) (l3 : Value) (σ : Hs) : ru d 220 27 [l0, l1, l2, l3] [] σ = ru d 220 28 [l0, l1, l2, l3] [.int (-1)] σ := q_iconst t220_27 (by decide +kernel)
theorem t220_28 : decode (mb 220) 28 = .ok (.ireturn, 1) := by decide +kernel
theorem s220_28 (d : Nat) (l0 : Value) (l1 : Value) (l2 : Value) (l3 : Value) (x : Int32) (σ : Hs) : ru d 220 28 [l0, l1, l2, l3] [.int x] σ = some (some (.int x), σ) := q_ireti t220_28 mr220
theorem t220_29 : decode (mb 220) 29 = .ok (.aload_n 0, 1) := by decide +kernel
theorem s220_29 (d : Nat) (a0 : Nat) (l1 : Value) (l2 : Value) (l3 : Value) (σ : Hs) : ru d 220 29 [.ref a0, l1, l2, l3] [] σ = ru d 220 30 [.ref a0, l1, l2, l3] [.ref a0] σ := q_aload_n t220_29 rfl
theorem t220_30 : decode (mb 220) 30 = .ok (.iload_n 1, 1) := by decide +kernel
theorem s220_30 (d : Nat) (l0 : Value) (i1 : Int32) (l2 : Value) (l3 : Value) (w0 : Value) (σ : Hs) : ru d 220 30 [l0, .int i1, l2, l3] [w0] σ = ru d 220 31 [l0, .int i1, l2, l3] [.int i1, w0] σ := q_iload_n t220_30 rfl
theorem t220_31 : decode (mb 220) 31 = .ok (.iload_n 2, 1) := by decide +kernel
theorem s220_31 (d : Nat) (l0 : Value) (l1 : Value) (i2 : Int32) (l3 : Value) (w0 w1 : Value) (σ : Hs) : ru d 220 31 [l0, l1, .int i2, l3] [w0, w1] σ = ru d 220 32 [l0, l1, .int i2, l3] [.int i2, w0, w1] σ := q_iload_n t220_31 rfl
theorem t220_32 : decode (mb 220) 32 = .ok (.iload_n 3, 1) := by decide +kernel
theorem s220_32 (d : Nat) (l0 : Value) (l1 : Value) (l2 : Value) (i3 : Int32) (w0 w1 w2 : Value) (σ : Hs) : ru d 220 32 [l0, l1, l2, .int i3] [w0, w1, w2] σ = ru d 220 33 [l0, l1, l2, .int i3] [.int i3, w0, w1, w2] σ := q_iload_n t220_32 rfl
theorem t220_33 : decode (mb 220) 33 = .ok (.invokestatic 95, 3) := by decide +kernel
theorem s220_33 (d : Nat) (l0 : Value) (l1 : Value) (l2 : Value) (l3 : Value) (v0 v1 v2 v3 : Value) (σ : Hs) : ru d 220 33 [l0, l1, l2, l3] [v3, v2, v1, v0] σ = kont (callD d 219 [v0, v1, v2, v3] σ) d 220 36 [l0, l1, l2, l3] [] := q_invs t220_33 mo220 (by decide +kernel) K10_95 mj219 (Nat.le_of_ble_eq_true rfl) rfl rfl (Nat.le_of_ble_eq_true rfl)
theorem t220_36 : decode (mb 220) 36 = .ok (.ireturn, 1) := by decide +kernel
theorem s220_36 (d : Nat) (l0 : Value) (l1 : Value) (l2 : Value) (l3 : Value) (x : Int32) (σ : Hs) : ru d 220 36 [l0, l1, l2, l3] [.int x] σ = some (some (.int x), σ) := q_ireti t220_36 mr220
theorem c220 (d : Nat) (x0 : Nat) (x1 : Int32) (x2 : Int32) (x3 : Int32) (σ : Hs) : callD (d + 1) 220 [.ref x0, .int x1, .int x2, .int x3] σ = ru d 220 0 [.ref x0, .int x1, .int x2, .int x3] [] σ := callD_ru ml220 rfl rfl (Nat.le_of_ble_eq_true rfl)
-- 221: String.indexOf_II(II)I
theorem t221_0 : decode (mb 221) 0 = .ok (.aload_n 0, 1) := by decide +kernel
theorem s221_0 (d : Nat) (a0 : Nat) (l1 : Value) (l2 : Value) (σ : Hs) : ru d 221 0 [.ref a0, l1, l2] [] σ = ru d 221 1 [.ref a0, l1, l2] [.ref a0] σ := q_aload_n t221_0 rfl
theorem t221_1 : decode (mb 221) 1 = .ok (.invokevirtual 492, 3) := by decide +kernel
theorem s221_1_o111 (d : Nat) (l0 : Value) (l1 : Value) (l2 : Value) (σ : Hs) : ru d 221 1 [l0, l1, l2] [.ref 111] σ = kont (callD d 215 [.ref 111] σ) d 221 4 [l0, l1, l2] [] := q_invv t221_1 mo221 K9_492 mj215 rfl rfl rfl rfl (Nat.le_of_ble_eq_true rfl)
theorem s221_1_o112 (d : Nat) (l0 : Value) (l1 : Value) (l2 : Value) (σ : Hs) : ru d 221 1 [l0, l1, l2] [.ref 112] σ = kont (callD d 215 [.ref 112] σ) d 221 4 [l0, l1, l2] [] := q_invv t221_1 mo221 K9_492 mj215 rfl rfl rfl rfl (Nat.le_of_ble_eq_true rfl)
theorem s221_1_o113 (d : Nat) (l0 : Value) (l1 : Value) (l2 : Value) (σ : Hs) : ru d 221 1 [l0, l1, l2] [.ref 113] σ = kont (callD d 215 [.ref 113] σ) d 221 4 [l0, l1, l2] [] := q_invv t221_1 mo221 K9_492 mj215 rfl rfl rfl rfl (Nat.le_of_ble_eq_true rfl)
theorem s221_1_o114 (d : Nat) (l0 : Value) (l1 : Value) (l2 : Value) (σ : Hs) : ru d 221 1 [l0, l1, l2] [.ref 114] σ = kont (callD d 215 [.ref 114] σ) d 221 4 [l0, l1, l2] [] := q_invv t221_1 mo221 K9_492 mj215 rfl rfl rfl rfl (Nat.le_of_ble_eq_true rfl)
theorem s221_1_o115 (d : Nat) (l0 : Value) (l1 : Value) (l2 : Value) (σ : Hs) : ru d 221 1 [l0, l1, l2] [.ref 115] σ = kont (callD d 215 [.ref 115] σ) d 221 4 [l0, l1, l2] [] := q_invv t221_1 mo221 K9_492 mj215 rfl rfl rfl rfl (Nat.le_of_ble_eq_true rfl)
theorem s221_1_o116 (d : Nat) (l0 : Value) (l1 : Value) (l2 : Value) (σ : Hs) : ru d 221 1 [l0, l1, l2] [.ref 116] σ = kont (callD d 215 [.ref 116] σ) d 221 4 [l0, l1, l2] [] := q_invv t221_1 mo221 K9_492 mj215 rfl rfl rfl rfl (Nat.le_of_ble_eq_true rfl)
theorem s221_1_o117 (d : Nat) (l0 : Value) (l1 : Value) (l2 : Value) (σ : Hs) : ru d 221 1 [l0, l1, l2] [.ref 117] σ = kont (callD d 215 [.ref 117] σ) d 221 4 [l0, l1, l2] [] := q_invv t221_1 mo221 K9_492 mj215 rfl rfl rfl rfl (Nat.le_of_ble_eq_true rfl)
theorem s221_1_o118 (d : Nat) (l0 : Value) (l1 : Value) (l2 : Value) (σ : Hs) : ru d 221 1 [l0, l1, l2] [.ref 118] σ = kont (callD d 215 [.ref 118] σ) d 221 4 [l0, l1, l2] [] := q_invv t221_1 mo221 K9_492 mj215 rfl rfl rfl rfl (Nat.le_of_ble_eq_true rfl)
theorem t221_4 : decode (mb 221) 4 = .ok (.ifCond .eq 19, 3) := by decide +kernel
theorem s221_4 (d : Nat) (l0 : Value) (l1 : Value) (l2 : Value) (x : Int32) (σ : Hs) : ru d 221 4 [l0, l1, l2] [.int x] σ = if x = 0 then ru d 221 23 [l0, l1, l2] [] σ else ru d 221 7 [l0, l1, l2] [] σ := q_if_eq t221_4 (by decide +kernel)
theorem t221_7 : decode (mb 221) 7 = .ok (.aload_n 0, 1) := by decide +kernel
theorem s221_7 (d : Nat) (a0 : Nat) (l1 : Value) (l2 : Value) (σ : Hs) : ru d 221 7 [.ref a0, l1, l2] [] σ = ru d 221 8 [.ref a0, l1, l2] [.ref a0] σ := q_aload_n t221_7 rfl
theorem t221_8 : decode (mb 221) 8 = .ok (.getfield 9, 3) := by decide +kernel
theorem s221_8_o111 (d : Nat) (l0 : Value) (l1 : Value) (l2 : Value) (σ : Hs) : ru d 221 8 [l0, l1, l2] [.ref 111] σ = ru d 221 11 [l0, l1, l2] [.ref 123] σ := q_getf t221_8 mo221 F9_9 rfl rfl
theorem s221_8_o112 (d : Nat) (l0 : Value) (l1 : Value) (l2 : Value) (σ : Hs) : ru d 221 8 [l0, l1, l2] [.ref 112] σ = ru d 221 11 [l0, l1, l2] [.ref 124] σ := q_getf t221_8 mo221 F9_9 rfl rfl
theorem s221_8_o113 (d : Nat) (l0 : Value) (l1 : Value) (l2 : Value) (σ : Hs) : ru d 221 8 [l0, l1, l2] [.ref 113] σ = ru d 221 11 [l0, l1, l2] [.ref 125] σ := q_getf t221_8 mo221 F9_9 rfl rfl
theorem s221_8_o114 (d : Nat) (l0 : Value) (l1 : Value) (l2 : Value) (σ : Hs) : ru d 221 8 [l0, l1, l2] [.ref 114] σ = ru d 221 11 [l0, l1, l2] [.ref 126] σ := q_getf t221_8 mo221 F9_9 rfl rfl
theorem s221_8_o115 (d : Nat) (l0 : Value) (l1 : Value) (l2 : Value) (σ : Hs) : ru d 221 8 [l0, l1, l2] [.ref 115] σ = ru d 221 11 [l0, l1, l2] [.ref 127] σ := q_getf t221_8 mo221 F9_9 rfl rfl
theorem s221_8_o116 (d : Nat) (l0 : Value) (l1 : Value) (l2 : Value) (σ : Hs) : ru d 221 8 [l0, l1, l2] [.ref 116] σ = ru d 221 11 [l0, l1, l2] [.ref 128] σ := q_getf t221_8 mo221 F9_9 rfl rfl
theorem s221_8_o117 (d : Nat) (l0 : Value) (l1 : Value) (l2 : Value) (σ : Hs) : ru d 221 8 [l0, l1, l2] [.ref 117] σ = ru d 221 11 [l0, l1, l2] [.ref 129] σ := q_getf t221_8 mo221 F9_9 rfl rfl
theorem s221_8_o118 (d : Nat) (l0 : Value) (l1 : Value) (l2 : Value) (σ : Hs) : ru d 221 8 [l0, l1, l2] [.ref 118] σ = ru d 221 11 [l0, l1, l2] [.ref 130] σ := q_getf t221_8 mo221 F9_9 rfl rfl
theorem t221_11 : decode (mb 221) 11 = .ok (.iload_n 1, 1) := by decide +kernel
theorem s221_11 (d : Nat) (l0 : Value) (i1 : Int32) (l2 : Value) (w0 : Value) (σ : Hs) : ru d 221 11 [l0, .int i1, l2] [w0] σ = ru d 221 12 [l0, .int i1, l2] [.int i1, w0] σ := q_iload_n t221_11 rfl
theorem t221_12 : decode (mb 221) 12 = .ok (.iload_n 2, 1) := by decide +kernel
theorem s221_12 (d : Nat) (l0 : Value) (l1 : Value) (i2 : Int32) (w0 w1 : Value) (σ : Hs) : ru d 221 12 [l0, l1, .int i2] [w0, w1] σ = ru d 221 13 [l0, l1, .int i2] [.int i2, w0, w1] σ := q_iload_n t221_12 rfl
theorem t221_13 : decode (mb 221) 13 = .ok (.aload_n 0, 1) := by decide +kernel
theorem s221_13 (d : Nat) (a0 : Nat) (l1 : Value) (l2 : Value) (w0 w1 w2 : Value) (σ : Hs) : ru d 221 13 [.ref a0, l1, l2] [w0, w1, w2] σ = ru d 221 14 [.ref a0, l1, l2] [.ref a0, w0, w1, w2] σ := q_aload_n t221_13 rfl
theorem t221_14 : decode (mb 221) 14 = .ok (.invokevirtual 505, 3) := by decide +kernel
theorem s221_14_o111 (d : Nat) (l0 : Value) (l1 : Value) (l2 : Value) (w0 : Int32) (w1 : Int32) (w2 : Nat) (σ : Hs) : ru d 221 14 [l0, l1, l2] [.ref 111, .int w0, .int w1, .ref w2] σ = kont (callD d 217 [.ref 111] σ) d 221 17 [l0, l1, l2] [.int w0, .int w1, .ref w2] := q_invv t221_14 mo221 K9_505 mj217 rfl rfl rfl rfl (Nat.le_of_ble_eq_true rfl)
theorem s221_14_o112 (d : Nat) (l0 : Value) (l1 : Value) (l2 : Value) (w0 : Int32) (w1 : Int32) (w2 : Nat) (σ : Hs) : ru d 221 14 [l0, l1, l2] [.ref 112, .int w0, .int w1, .ref w2] σ = kont (callD d 217 [.ref 112] σ) d 221 17 [l0, l1, l2] [.int w0, .int w1, .ref w2] := q_invv t221_14 mo221 K9_505 mj217 rfl rfl rfl rfl (Nat.le_of_ble_eq_true rfl)
theorem s221_14_o113 (d : Nat) (l0 : Value) (l1 : Value) (l2 : Value) (w0 : Int32) (w1 : Int32) (w2 : Nat) (σ : Hs) : ru d 221 14 [l0, l1, l2] [.ref 113, .int w0, .int w1, .ref w2] σ = kont (callD d 217 [.ref 113] σ) d 221 17 [l0, l1, l2] [.int w0, .int w1, .ref w2] := q_invv t221_14 mo221 K9_505 mj217 rfl rfl rfl rfl (Nat.le_of_ble_eq_true rfl)
theorem s221_14_o114 (d : Nat) (l0 : Value) (l1 : Value) (l2 : Value) (w0 : Int32) (w1 : Int32) (w2 : Nat) (σ : Hs) : ru d 221 14 [l0, l1, l2] [.ref 114, .int w0, .int w1, .ref w2] σ = kont (callD d 217 [.ref 114] σ) d 221 17 [l0, l1, l2] [.int w0, .int w1, .ref w2] := q_invv t221_14 mo221 K9_505 mj217 rfl rfl rfl rfl (Nat.le_of_ble_eq_true rfl)
theorem s221_14_o115 (d : Nat) (l0 : Value) (l1 : Value) (l2 : Value) (w0 : Int32) (w1 : Int32) (w2 : Nat) (σ : Hs) : ru d 221 14 [l0, l1, l2] [.ref 115, .int w0, .int w1, .ref w2] σ = kont (callD d 217 [.ref 115] σ) d 221 17 [l0, l1, l2] [.int w0, .int w1, .ref w2] := q_invv t221_14 mo221 K9_505 mj217 rfl rfl rfl rfl (Nat.le_of_ble_eq_true rfl)
theorem s221_14_o116 (d : Nat) (l0 : Value) (l1 : Value) (l2 : Value) (w0 : Int32) (w1 : Int32) (w2 : Nat) (σ : Hs) : ru d 221 14 [l0, l1, l2] [.ref 116, .int w0, .int w1, .ref w2] σ = kont (callD d 217 [.ref 116] σ) d 221 17 [l0, l1, l2] [.int w0, .int w1, .ref w2] := q_invv t221_14 mo221 K9_505 mj217 rfl rfl rfl rfl (Nat.le_of_ble_eq_true rfl)
theorem s221_14_o117 (d : Nat) (l0 : Value) (l1 : Value) (l2 : Value) (w0 : Int32) (w1 : Int32) (w2 : Nat) (σ : Hs) : ru d 221 14 [l0, l1, l2] [.ref 117, .int w0, .int w1, .ref w2] σ = kont (callD d 217 [.ref 117] σ) d 221 17 [l0, l1, l2] [.int w0, .int w1, .ref w2] := q_invv t221_14 mo221 K9_505 mj217 rfl rfl rfl rfl (Nat.le_of_ble_eq_true rfl)
theorem s221_14_o118 (d : Nat) (l0 : Value) (l1 : Value) (l2 : Value) (w0 : Int32) (w1 : Int32) (w2 : Nat) (σ : Hs) : ru d 221 14 [l0, l1, l2] [.ref 118, .int w0, .int w1, .ref w2] σ = kont (callD d 217 [.ref 118] σ) d 221 17 [l0, l1, l2] [.int w0, .int w1, .ref w2] := q_invv t221_14 mo221 K9_505 mj217 rfl rfl rfl rfl (Nat.le_of_ble_eq_true rfl)
theorem t221_17 : decode (mb 221) 17 = .ok (.invokestatic 637, 3) := by decide +kernel
theorem s221_17 (d : Nat) (l0 : Value) (l1 : Value) (l2 : Value) (v0 v1 v2 v3 : Value) (σ : Hs) : ru d 221 17 [l0, l1, l2] [v3, v2, v1, v0] σ = kont (callD d 220 [v0, v1, v2, v3] σ) d 221 20 [l0, l1, l2] [] := q_invs t221_17 mo221 (by decide +kernel) K9_637 mj220 (Nat.le_of_ble_eq_true rfl) rfl rfl (Nat.le_of_ble_eq_true rfl)
theorem t221_20 : decode (mb 221) 20 = .ok (.goto 16, 3) := by decide +kernel
theorem s221_20 (d : Nat) (l0 : Value) (l1 : Value) (l2 : Value) (w0 : Value) (σ : Hs) : ru d 221 20 [l0, l1, l2] [w0] σ = ru d 221 36 [l0, l1, l2] [w0] σ := q_goto t221_20 (by decide +kernel)
theorem t221_23 : decode (mb 221) 23 = .ok (.aload_n 0, 1) := by decide +kernel
theorem s221_23 (d : Nat) (a0 : Nat) (l1 : Value) (l2 : Value) (σ : Hs) : ru d 221 23 [.ref a0, l1, l2] [] σ = ru d 221 24 [.ref a0, l1, l2] [.ref a0] σ := q_aload_n t221_23 rfl
theorem t221_24 : decode (mb 221) 24 = .ok (.getfield 9, 3) := by decide +kernel
theorem s221_24_o111 (d : Nat) (l0 : Value) (l1 : Value) (l2 : Value) (σ : Hs) : ru d 221 24 [l0, l1, l2] [.ref 111] σ = ru d 221 27 [l0, l1, l2] [.ref 123] σ := q_getf t221_24 mo221 F9_9 rfl rfl
theorem s221_24_o112 (d : Nat) (l0 : Value) (l1 : Value) (l2 : Value) (σ : Hs) : ru d 221 24 [l0, l1, l2] [.ref 112] σ = ru d 221 27 [l0, l1, l2] [.ref 124] σ := q_getf t221_24 mo221 F9_9 rfl rfl
theorem s221_24_o113 (d : Nat) (l0 : Value) (l1 : Value) (l2 : Value) (σ : Hs) : ru d 221 24 [l0, l1, l2] [.ref 113] σ = ru d 221 27 [l0, l1, l2] [.ref 125] σ := q_getf t221_24 mo221 F9_9 rfl rfl
theorem s221_24_o114 (d : Nat) (l0 : Value) (l1 : Value) (l2 : Value) (σ : Hs) : ru d 221 24 [l0, l1, l2] [.ref 114] σ = ru d 221 27 [l0, l1, l2] [.ref 126] σ := q_getf t221_24 mo221 F9_9 rfl rfl
theorem s221_24_o115 (d : Nat) (l0 : Value) (l1 : Value) (l2 : Value) (σ : Hs) : ru d 221 24 [l0, l1, l2] [.ref 115] σ = ru d 221 27 [l0, l1, l2] [.ref 127] σ := q_getf t221_24 mo221 F9_9 rfl rfl
theorem s221_24_o116 (d : Nat) (l0 : Value) (l1 : Value) (l2 : Value) (σ : Hs) : ru d 221 24 [l0, l1, l2] [.ref 116] σ = ru d 221 27 [l0, l1, l2] [.ref 128] σ := q_getf t221_24 mo221 F9_9 rfl rfl
theorem s221_24_o117 (d : Nat) (l0 : Value) (l1 : Value) (l2 : Value) (σ : Hs) : ru d 221 24 [l0, l1, l2] [.ref 117] σ = ru d 221 27 [l0, l1, l2] [.ref 129] σ := q_getf t221_24 mo221 F9_9 rfl rfl
theorem s221_24_o118 (d : Nat) (l0 : Value) (l1 : Value) (l2 : Value) (σ : Hs) : ru d 221 24 [l0, l1, l2] [.ref 118] σ = ru d 221 27 [l0, l1, l2] [.ref 130] σ := q_getf t221_24 mo221 F9_9 rfl rfl
theorem t221_27 : decode (mb 221) 27 = .ok (.iload_n 1, 1) := by decide +kernel
theorem s221_27 (d : Nat) (l0 : Value) (i1 : Int32) (l2 : Value) (w0 : Value) (σ : Hs) : ru d 221 27 [l0, .int i1, l2] [w0] σ = ru d 221 28 [l0, .int i1, l2] [.int i1, w0] σ := q_iload_n t221_27 rfl
theorem t221_28 : decode (mb 221) 28 = .ok (.iload_n 2, 1) := by decide +kernel
theorem s221_28 (d : Nat) (l0 : Value) (l1 : Value) (i2 : Int32) (w0 w1 : Value) (σ : Hs) : ru d 221 28 [l0, l1, .int i2] [w0, w1] σ = ru d 221 29 [l0, l1, .int i2] [.int i2, w0, w1] σ := q_iload_n t221_28 rfl
theorem t221_29 : decode (mb 221) 29 = .ok (.aload_n 0, 1) := by decide +kernel
theorem s221_29 (d : Nat) (a0 : Nat) (l1 : Value) (l2 : Value) (w0 w1 w2 : Value) (σ : Hs) : ru d 221 29 [.ref a0, l1, l2] [w0, w1, w2] σ = ru d 221 30 [.ref a0, l1, l2] [.ref a0, w0, w1, w2] σ := q_aload_n t221_29 rfl
theorem t221_30 : decode (mb 221) 30 = .ok (.invokevirtual 505, 3) := by decide +kernel
theorem s221_30_o111 (d : Nat) (l0 : Value) (l1 : Value) (l2 : Value) (w0 : Int32) (w1 : Int32) (w2 : Nat) (σ : Hs) : ru d 221 30 [l0, l1, l2] [.ref 111, .int w0, .int w1, .ref w2] σ = kont (callD d 217 [.ref 111] σ) d 221 33 [l0, l1, l2] [.int w0, .int w1, .ref w2] := q_invv t221_30 mo221 K9_505 mj217 rfl rfl rfl rfl (Nat.le_of_ble_eq_true rfl)
theorem s221_30_o112 (d : Nat) (l0 : Value) (l1 : Value) (l2 : Value) (w0 : Int32) (w1 : Int32) (w2 : Nat) (σ : Hs) : ru d 221 30 [l0, l1, l2] [.ref 112, .int w0, .int w1, .ref w2] σ = kont (callD d 217 [.ref 112] σ) d 221 33 [l0, l1, l2] [.int w0, .int w1, .ref w2] := q_invv t221_30 mo221 K9_505 mj217 rfl rfl rfl rfl (Nat.le_of_ble_eq_true rfl)
theorem s221_30_o113 (d : Nat) (l0 : Value) (l1 : Value) (l2 : Value) (w0 : Int32) (w1 : Int32) (w2 : Nat) (σ : Hs) : ru d 221 30 [l0, l1, l2] [.ref 113, .int w0, .int w1, .ref w2] σ = kont (callD d 217 [.ref 113] σ) d 221 33 [l0, l1, l2] [.int w0, .int w1, .ref w2] := q_invv t221_30 mo221 K9_505 mj217 rfl rfl rfl rfl (Nat.le_of_ble_eq_true rfl)
theorem s221_30_o114 (d : Nat) (l0 : Value) (l1 : Value) (l2 : Value) (w0 : Int32) (w1 : Int32) (w2 : Nat) (σ : Hs) : ru d 221 30 [l0, l1, l2] [.ref 114, .int w0, .int w1, .ref w2] σ = kont (callD d 217 [.ref 114] σ) d 221 33 [l0, l1, l2] [.int w0, .int w1, .ref w2] := q_invv t221_30 mo221 K9_505 mj217 rfl rfl rfl rfl (Nat.le_of_ble_eq_true rfl)
theorem s221_30_o115 (d : Nat) (l0 : Value) (l1 : Value) (l2 : Value) (w0 : Int32) (w1 : Int32) (w2 : Nat) (σ : Hs) : ru d 221 30 [l0, l1, l2] [.ref 115, .int w0, .int w1, .ref w2] σ = kont (callD d 217 [.ref 115] σ) d 221 33 [l0, l1, l2] [.int w0, .int w1, .ref w2] := q_invv t221_30 mo221 K9_505 mj217 rfl rfl rfl rfl (Nat.le_of_ble_eq_true rfl)
theorem s221_30_o116 (d : Nat) (l0 : Value) (l1 : Value) (l2 : Value) (w0 : Int32) (w1 : Int32) (w2 : Nat) (σ : Hs) : ru d 221 30 [l0, l1, l2] [.ref 116, .int w0, .int w1, .ref w2] σ = kont (callD d 217 [.ref 116] σ) d 221 33 [l0, l1, l2] [.int w0, .int w1, .ref w2] := q_invv t221_30 mo221 K9_505 mj217 rfl rfl rfl rfl (Nat.le_of_ble_eq_true rfl)
theorem s221_30_o117 (d : Nat) (l0 : Value) (l1 : Value) (l2 : Value) (w0 : Int32) (w1 : Int32) (w2 : Nat) (σ : Hs) : ru d 221 30 [l0, l1, l2] [.ref 117, .int w0, .int w1, .ref w2] σ = kont (callD d 217 [.ref 117] σ) d 221 33 [l0, l1, l2] [.int w0, .int w1, .ref w2] := q_invv t221_30 mo221 K9_505 mj217 rfl rfl rfl rfl (Nat.le_of_ble_eq_true rfl)
theorem s221_30_o118 (d : Nat) (l0 : Value) (l1 : Value) (l2 : Value) (w0 : Int32) (w1 : Int32) (w2 : Nat) (σ : Hs) : ru d 221 30 [l0, l1, l2] [.ref 118, .int w0, .int w1, .ref w2] σ = kont (callD d 217 [.ref 118] σ) d 221 33 [l0, l1, l2] [.int w0, .int w1, .ref w2] := q_invv t221_30 mo221 K9_505 mj217 rfl rfl rfl rfl (Nat.le_of_ble_eq_true rfl)
theorem t221_36 : decode (mb 221) 36 = .ok (.ireturn, 1) := by decide +kernel
theorem s221_36 (d : Nat) (l0 : Value) (l1 : Value) (l2 : Value) (x : Int32) (σ : Hs) : ru d 221 36 [l0, l1, l2] [.int x] σ = some (some (.int x), σ) := q_ireti t221_36 mr221
theorem c221 (d : Nat) (x0 : Nat) (x1 : Int32) (x2 : Int32) (σ : Hs) : callD (d + 1) 221 [.ref x0, .int x1, .int x2] σ = ru d 221 0 [.ref x0, .int x1, .int x2] [] σ := callD_ru ml221 rfl rfl (Nat.le_of_ble_eq_true rfl)
-- 222: String.indexOf_I(I)I
theorem t222_0 : decode (mb 222) 0 = .ok (.aload_n 0, 1) := by decide +kernel
theorem s222_0 (d : Nat) (a0 : Nat) (l1 : Value) (σ : Hs) : ru d 222 0 [.ref a0, l1] [] σ = ru d 222 1 [.ref a0, l1] [.ref a0] σ := q_aload_n t222_0 rfl
theorem t222_1 : decode (mb 222) 1 = .ok (.iload_n 1, 1) := by decide +kernel
theorem s222_1 (d : Nat) (l0 : Value) (i1 : Int32) (w0 : Value) (σ : Hs) : ru d 222 1 [l0, .int i1] [w0] σ = ru d 222 2 [l0, .int i1] [.int i1, w0] σ := q_iload_n t222_1 rfl
theorem t222_2 : decode (mb 222) 2 = .ok (.iconst 0, 1) := by decide +kernel
theorem s222_2 (d : Nat) (l0 : Value) (l1 : Value) (w0 w1 : Value) (σ : Hs) : ru d 222 2 [l0, l1] [w0, w1] σ = ru d 222 3 [l0, l1] [.int 0, w0, w1] σ := q_iconst t222_2 (by decide +kernel)
theorem t222_3 : decode (mb 222) 3 = .ok (.invokevirtual 633, 3) := by decide +kernel
theorem s222_3_o111 (d : Nat) (l0 : Value) (l1 : Value) (v1 v2 : Value) (σ : Hs) : ru d 222 3 [l0, l1] [v2, v1, .ref 111] σ = kont (callD d 221 [.ref 111, v1, v2] σ) d 222 6 [l0, l1] [] := q_invv t222_3 mo222 K9_633 mj221 rfl rfl rfl rfl (Nat.le_of_ble_eq_true rfl)
theorem s222_3_o112 (d : Nat) (l0 : Value) (l1 : Value) (v1 v2 : Value) (σ : Hs) : ru d 222 3 [l0, l1] [v2, v1, .ref 112] σ = kont (callD d 221 [.ref 112, v1, v2] σ) d 222 6 [l0, l1] [] := q_invv t222_3 mo222 K9_633 mj221 rfl rfl rfl rfl (Nat.le_of_ble_eq_true rfl)
theorem s222_3_o113 (d : Nat) (l0 : Value) (l1 : Value) (v1 v2 : Value) (σ : Hs) : ru d 222 3 [l0, l1] [v2, v1, .ref 113] σ = kont (callD d 221 [.ref 113, v1, v2] σ) d 222 6 [l0, l1] [] := q_invv t222_3 mo222 K9_633 mj221 rfl rfl rfl rfl (Nat.le_of_ble_eq_true rfl)
theorem s222_3_o114 (d : Nat) (l0 : Value) (l1 : Value) (v1 v2 : Value) (σ : Hs) : ru d 222 3 [l0, l1] [v2, v1, .ref 114] σ = kont (callD d 221 [.ref 114, v1, v2] σ) d 222 6 [l0, l1] [] := q_invv t222_3 mo222 K9_633 mj221 rfl rfl rfl rfl (Nat.le_of_ble_eq_true rfl)
theorem s222_3_o115 (d : Nat) (l0 : Value) (l1 : Value) (v1 v2 : Value) (σ : Hs) : ru d 222 3 [l0, l1] [v2, v1, .ref 115] σ = kont (callD d 221 [.ref 115, v1, v2] σ) d 222 6 [l0, l1] [] := q_invv t222_3 mo222 K9_633 mj221 rfl rfl rfl rfl (Nat.le_of_ble_eq_true rfl)
theorem s222_3_o116 (d : Nat) (l0 : Value) (l1 : Value) (v1 v2 : Value) (σ : Hs) : ru d 222 3 [l0, l1] [v2, v1, .ref 116] σ = kont (callD d 221 [.ref 116, v1, v2] σ) d 222 6 [l0, l1] [] := q_invv t222_3 mo222 K9_633 mj221 rfl rfl rfl rfl (Nat.le_of_ble_eq_true rfl)
theorem s222_3_o117 (d : Nat) (l0 : Value) (l1 : Value) (v1 v2 : Value) (σ : Hs) : ru d 222 3 [l0, l1] [v2, v1, .ref 117] σ = kont (callD d 221 [.ref 117, v1, v2] σ) d 222 6 [l0, l1] [] := q_invv t222_3 mo222 K9_633 mj221 rfl rfl rfl rfl (Nat.le_of_ble_eq_true rfl)
theorem s222_3_o118 (d : Nat) (l0 : Value) (l1 : Value) (v1 v2 : Value) (σ : Hs) : ru d 222 3 [l0, l1] [v2, v1, .ref 118] σ = kont (callD d 221 [.ref 118, v1, v2] σ) d 222 6 [l0, l1] [] := q_invv t222_3 mo222 K9_633 mj221 rfl rfl rfl rfl (Nat.le_of_ble_eq_true rfl)
theorem t222_6 : decode (mb 222) 6 = .ok (.ireturn, 1) := by decide +kernel
theorem s222_6 (d : Nat) (l0 : Value) (l1 : Value) (x : Int32) (σ : Hs) : ru d 222 6 [l0, l1] [.int x] σ = some (some (.int x), σ) := q_ireti t222_6 mr222
theorem c222 (d : Nat) (x0 : Nat) (x1 : Int32) (σ : Hs) : callD (d + 1) 222 [.ref x0, .int x1] σ = ru d 222 0 [.ref x0, .int x1] [] σ := callD_ru ml222 rfl rfl (Nat.le_of_ble_eq_true rfl)
-- 223: Integer.bitCount(I)I
theorem t223_0 : decode (mb 223) 0 = .ok (.iload_n 0, 1) := by decide +kernel
theorem s223_0 (d : Nat) (i0 : Int32) (σ : Hs) : ru d 223 0 [.int i0] [] σ = ru d 223 1 [.int i0] [.int i0] σ := q_iload_n t223_0 rfl
theorem t223_1 : decode (mb 223) 1 = .ok (.iload_n 0, 1) := by decide +kernel
theorem s223_1 (d : Nat) (i0 : Int32) (w0 : Value) (σ : Hs) : ru d 223 1 [.int i0] [w0] σ = ru d 223 2 [.int i0] [.int i0, w0] σ := q_iload_n t223_1 rfl
theorem t223_2 : decode (mb 223) 2 = .ok (.iconst 1, 1) := by decide +kernel
theorem s223_2 (d : Nat) (l0 : Value) (w0 w1 : Value) (σ : Hs) : ru d 223 2 [l0] [w0, w1] σ = ru d 223 3 [l0] [.int 1, w0, w1] σ := q_iconst t223_2 (by decide +kernel)
theorem t223_3 : decode (mb 223) 3 = .ok (.iushr, 1) := by decide +kernel
theorem s223_3 (d : Nat) (l0 : Value) (x y : Int32) (w0 : Value) (σ : Hs) : ru d 223 3 [l0] [.int y, .int x, w0] σ = ru d 223 4 [l0] [.int ((x.toUInt32 >>> (y.toUInt32 &&& Int32.toUInt32 31)).toInt32), w0] σ := q_iushr t223_3
theorem t223_4 : decode (mb 223) 4 = .ok (.ldc_w 265, 3) := by decide +kernel
theorem s223_4 (d : Nat) (l0 : Value) (w0 w1 : Value) (σ : Hs) : ru d 223 4 [l0] [w0, w1] σ = ru d 223 7 [l0] [.int 1431655765, w0, w1] σ := q_ldcw t223_4 mo223 C11_265
theorem t223_7 : decode (mb 223) 7 = .ok (.iand, 1) := by decide +kernel
theorem s223_7 (d : Nat) (l0 : Value) (x y : Int32) (w0 : Value) (σ : Hs) : ru d 223 7 [l0] [.int y, .int x, w0] σ = ru d 223 8 [l0] [.int (x &&& y), w0] σ := q_iand t223_7
theorem t223_8 : decode (mb 223) 8 = .ok (.isub, 1) := by decide +kernel
theorem s223_8 (d : Nat) (l0 : Value) (x y : Int32) (σ : Hs) : ru d 223 8 [l0] [.int y, .int x] σ = ru d 223 9 [l0] [.int (x - y)] σ := q_isub t223_8
theorem t223_9 : decode (mb 223) 9 = .ok (.istore_n 0, 1) := by decide +kernel
theorem s223_9 (d : Nat) (i0 : Int32) (x : Int32) (σ : Hs) : ru d 223 9 [.int i0] [.int x] σ = ru d 223 10 [.int x] [] σ := q_istore_n t223_9 ⟨Nat.le_of_ble_eq_true rfl, rfl⟩ rfl
theorem t223_10 : decode (mb 223) 10 = .ok (.iload_n 0, 1) := by decide +kernel
theorem s223_10 (d : Nat) (i0 : Int32) (σ : Hs) : ru d 223 10 [.int i0] [] σ = ru d 223 11 [.int i0] [.int i0] σ := q_iload_n t223_10 rfl
theorem t223_11 : decode (mb 223) 11 = .ok (.ldc_w 266, 3) := by decide +kernel
theorem s223_11 (d : Nat) (l0 : Value) (w0 : Value) (σ : Hs) : ru d 223 11 [l0] [w0] σ = ru d 223 14 [l0] [.int 858993459, w0] σ := q_ldcw t223_11 mo223 C11_266
theorem t223_14 : decode (mb 223) 14 = .ok (.iand, 1) := by decide +kernel
theorem s223_14 (d : Nat) (l0 : Value) (x y : Int32) (σ : Hs) : ru d 223 14 [l0] [.int y, .int x] σ = ru d 223 15 [l0] [.int (x &&& y)] σ := q_iand t223_14
theorem t223_15 : decode (mb 223) 15 = .ok (.iload_n 0, 1) := by decide +kernel
theorem s223_15 (d : Nat) (i0 : Int32) (w0 : Value) (σ : Hs) : ru d 223 15 [.int i0] [w0] σ = ru d 223 16 [.int i0] [.int i0, w0] σ := q_iload_n t223_15 rfl
theorem t223_16 : decode (mb 223) 16 = .ok (.iconst 2, 1) := by decide +kernel
theorem s223_16 (d : Nat) (l0 : Value) (w0 w1 : Value) (σ : Hs) : ru d 223 16 [l0] [w0, w1] σ = ru d 223 17 [l0] [.int 2, w0, w1] σ := q_iconst t223_16 (by decide +kernel)
theorem t223_17 : decode (mb 223) 17 = .ok (.iushr, 1) := by decide +kernel
theorem s223_17 (d : Nat) (l0 : Value) (x y : Int32) (w0 : Value) (σ : Hs) : ru d 223 17 [l0] [.int y, .int x, w0] σ = ru d 223 18 [l0] [.int ((x.toUInt32 >>> (y.toUInt32 &&& Int32.toUInt32 31)).toInt32), w0] σ := q_iushr t223_17
theorem t223_18 : decode (mb 223) 18 = .ok (.ldc_w 266, 3) := by decide +kernel
theorem s223_18 (d : Nat) (l0 : Value) (w0 w1 : Value) (σ : Hs) : ru d 223 18 [l0] [w0, w1] σ = ru d 223 21 [l0] [.int 858993459, w0, w1] σ := q_ldcw t223_18 mo223 C11_266
theorem t223_21 : decode (mb 223) 21 = .ok (.iand, 1) := by decide +kernel
theorem s223_21 (d : Nat) (l0 : Value) (x y : Int32) (w0 : Value) (σ : Hs) : ru d 223 21 [l0] [.int y, .int x, w0] σ = ru d 223 22 [l0] [.int (x &&& y), w0] σ := q_iand t223_21
theorem t223_22 : decode (mb 223) 22 = .ok (.iadd, 1) := by decide +kernel
theorem s223_22 (d : Nat) (l0 : Value) (x y : Int32) (σ : Hs) : ru d 223 22 [l0] [.int y, .int x] σ = ru d 223 23 [l0] [.int (x + y)] σ := q_iadd t223_22
theorem t223_23 : decode (mb 223) 23 = .ok (.istore_n 0, 1) := by decide +kernel
theorem s223_23 (d : Nat) (i0 : Int32) (x : Int32) (σ : Hs) : ru d 223 23 [.int i0] [.int x] σ = ru d 223 24 [.int x] [] σ := q_istore_n t223_23 ⟨Nat.le_of_ble_eq_true rfl, rfl⟩ rfl
theorem t223_24 : decode (mb 223) 24 = .ok (.iload_n 0, 1) := by decide +kernel
theorem s223_24 (d : Nat) (i0 : Int32) (σ : Hs) : ru d 223 24 [.int i0] [] σ = ru d 223 25 [.int i0] [.int i0] σ := q_iload_n t223_24 rfl
theorem t223_25 : decode (mb 223) 25 = .ok (.iload_n 0, 1) := by decide +kernel
theorem s223_25 (d : Nat) (i0 : Int32) (w0 : Value) (σ : Hs) : ru d 223 25 [.int i0] [w0] σ = ru d 223 26 [.int i0] [.int i0, w0] σ := q_iload_n t223_25 rfl
theorem t223_26 : decode (mb 223) 26 = .ok (.iconst 4, 1) := by decide +kernel
theorem s223_26 (d : Nat) (l0 : Value) (w0 w1 : Value) (σ : Hs) : ru d 223 26 [l0] [w0, w1] σ = ru d 223 27 [l0] [.int 4, w0, w1] σ := q_iconst t223_26 (by decide +kernel)
theorem t223_27 : decode (mb 223) 27 = .ok (.iushr, 1) := by decide +kernel
theorem s223_27 (d : Nat) (l0 : Value) (x y : Int32) (w0 : Value) (σ : Hs) : ru d 223 27 [l0] [.int y, .int x, w0] σ = ru d 223 28 [l0] [.int ((x.toUInt32 >>> (y.toUInt32 &&& Int32.toUInt32 31)).toInt32), w0] σ := q_iushr t223_27
theorem t223_28 : decode (mb 223) 28 = .ok (.iadd, 1) := by decide +kernel
theorem s223_28 (d : Nat) (l0 : Value) (x y : Int32) (σ : Hs) : ru d 223 28 [l0] [.int y, .int x] σ = ru d 223 29 [l0] [.int (x + y)] σ := q_iadd t223_28
theorem t223_29 : decode (mb 223) 29 = .ok (.ldc_w 267, 3) := by decide +kernel
theorem s223_29 (d : Nat) (l0 : Value) (w0 : Value) (σ : Hs) : ru d 223 29 [l0] [w0] σ = ru d 223 32 [l0] [.int 252645135, w0] σ := q_ldcw t223_29 mo223 C11_267
theorem t223_32 : decode (mb 223) 32 = .ok (.iand, 1) := by decide +kernel
theorem s223_32 (d : Nat) (l0 : Value) (x y : Int32) (σ : Hs) : ru d 223 32 [l0] [.int y, .int x] σ = ru d 223 33 [l0] [.int (x &&& y)] σ := q_iand t223_32
theorem t223_33 : decode (mb 223) 33 = .ok (.istore_n 0, 1) := by decide +kernel
theorem s223_33 (d : Nat) (i0 : Int32) (x : Int32) (σ : Hs) : ru d 223 33 [.int i0] [.int x] σ = ru d 223 34 [.int x] [] σ := q_istore_n t223_33 ⟨Nat.le_of_ble_eq_true rfl, rfl⟩ rfl
theorem t223_34 : decode (mb 223) 34 = .ok (.iload_n 0, 1) := by decide +kernel
theorem s223_34 (d : Nat) (i0 : Int32) (σ : Hs) : ru d 223 34 [.int i0] [] σ = ru d 223 35 [.int i0] [.int i0] σ := q_iload_n t223_34 rfl
theorem t223_35 : decode (mb 223) 35 = .ok (.iload_n 0, 1) := by decide +kernel
theorem s223_35 (d : Nat) (i0 : Int32) (w0 : Value) (σ : Hs) : ru d 223 35 [.int i0] [w0] σ = ru d 223 36 [.int i0] [.int i0, w0] σ := q_iload_n t223_35 rfl
theorem t223_36 : decode (mb 223) 36 = .ok (.bipush 8, 2) := by decide +kernel
theorem s223_36 (d : Nat) (l0 : Value) (w0 w1 : Value) (σ : Hs) : ru d 223 36 [l0] [w0, w1] σ = ru d 223 38 [l0] [.int 8, w0, w1] σ := q_bipush t223_36 (by decide +kernel)
theorem t223_38 : decode (mb 223) 38 = .ok (.iushr, 1) := by decide +kernel
theorem s223_38 (d : Nat) (l0 : Value) (x y : Int32) (w0 : Value) (σ : Hs) : ru d 223 38 [l0] [.int y, .int x, w0] σ = ru d 223 39 [l0] [.int ((x.toUInt32 >>> (y.toUInt32 &&& Int32.toUInt32 31)).toInt32), w0] σ := q_iushr t223_38
theorem t223_39 : decode (mb 223) 39 = .ok (.iadd, 1) := by decide +kernel
theorem s223_39 (d : Nat) (l0 : Value) (x y : Int32) (σ : Hs) : ru d 223 39 [l0] [.int y, .int x] σ = ru d 223 40 [l0] [.int (x + y)] σ := q_iadd t223_39
theorem t223_40 : decode (mb 223) 40 = .ok (.istore_n 0, 1) := by decide +kernel
theorem s223_40 (d : Nat) (i0 : Int32) (x : Int32) (σ : Hs) : ru d 223 40 [.int i0] [.int x] σ = ru d 223 41 [.int x] [] σ := q_istore_n t223_40 ⟨Nat.le_of_ble_eq_true rfl, rfl⟩ rfl
theorem t223_41 : decode (mb 223) 41 = .ok (.iload_n 0, 1) := by decide +kernel
theorem s223_41 (d : Nat) (i0 : Int32) (σ : Hs) : ru d 223 41 [.int i0] [] σ = ru d 223 42 [.int i0] [.int i0] σ := q_iload_n t223_41 rfl
theorem t223_42 : decode (mb 223) 42 = .ok (.iload_n 0, 1) := by decide +kernel
theorem s223_42 (d : Nat) (i0 : Int32) (w0 : Value) (σ : Hs) : ru d 223 42 [.int i0] [w0] σ = ru d 223 43 [.int i0] [.int i0, w0] σ := q_iload_n t223_42 rfl
theorem t223_43 : decode (mb 223) 43 = .ok (.bipush 16, 2) := by decide +kernel
theorem s223_43 (d : Nat) (l0 : Value) (w0 w1 : Value) (σ : Hs) : ru d 223 43 [l0] [w0, w1] σ = ru d 223 45 [l0] [.int 16, w0, w1] σ := q_bipush t223_43 (by decide +kernel)
theorem t223_45 : decode (mb 223) 45 = .ok (.iushr, 1) := by decide +kernel
theorem s223_45 (d : Nat) (l0 : Value) (x y : Int32) (w0 : Value) (σ : Hs) : ru d 223 45 [l0] [.int y, .int x, w0] σ = ru d 223 46 [l0] [.int ((x.toUInt32 >>> (y.toUInt32 &&& Int32.toUInt32 31)).toInt32), w0] σ := q_iushr t223_45
theorem t223_46 : decode (mb 223) 46 = .ok (.iadd, 1) := by decide +kernel
theorem s223_46 (d : Nat) (l0 : Value) (x y : Int32) (σ : Hs) : ru d 223 46 [l0] [.int y, .int x] σ = ru d 223 47 [l0] [.int (x + y)] σ := q_iadd t223_46
theorem t223_47 : decode (mb 223) 47 = .ok (.istore_n 0, 1) := by decide +kernel
theorem s223_47 (d : Nat) (i0 : Int32) (x : Int32) (σ : Hs) : ru d 223 47 [.int i0] [.int x] σ = ru d 223 48 [.int x] [] σ := q_istore_n t223_47 ⟨Nat.le_of_ble_eq_true rfl, rfl⟩ rfl
theorem t223_48 : decode (mb 223) 48 = .ok (.iload_n 0, 1) := by decide +kernel
theorem s223_48 (d : Nat) (i0 : Int32) (σ : Hs) : ru d 223 48 [.int i0] [] σ = ru d 223 49 [.int i0] [.int i0] σ := q_iload_n t223_48 rfl
theorem t223_49 : decode (mb 223) 49 = .ok (.bipush 63, 2) := by decide +kernel
theorem s223_49 (d : Nat) (l0 : Value) (w0 : Value) (σ : Hs) : ru d 223 49 [l0] [w0] σ = ru d 223 51 [l0] [.int 63, w0] σ := q_bipush t223_49 (by decide +kernel)
theorem t223_51 : decode (mb 223) 51 = .ok (.iand, 1) := by decide +kernel
theorem s223_51 (d : Nat) (l0 : Value) (x y : Int32) (σ : Hs) : ru d 223 51 [l0] [.int y, .int x] σ = ru d 223 52 [l0] [.int (x &&& y)] σ := q_iand t223_51
theorem t223_52 : decode (mb 223) 52 = .ok (.ireturn, 1) := by decide +kernel
theorem s223_52 (d : Nat) (l0 : Value) (x : Int32) (σ : Hs) : ru d 223 52 [l0] [.int x] σ = some (some (.int x), σ) := q_ireti t223_52 mr223
theorem c223 (d : Nat) (x0 : Int32) (σ : Hs) : callD (d + 1) 223 [.int x0] σ = ru d 223 0 [.int x0] [] σ := callD_ru ml223 rfl rfl (Nat.le_of_ble_eq_true rfl)
-- 224: Preconditions.checkIndex(IILjava/util/function/BiFunction;)I
theorem t224_0 : decode (mb 224) 0 = .ok (.iload_n 0, 1) := by decide +kernel
theorem s224_0 (d : Nat) (i0 : Int32) (l1 : Value) (l2 : Value) (σ : Hs) : ru d 224 0 [.int i0, l1, l2] [] σ = ru d 224 1 [.int i0, l1, l2] [.int i0] σ := q_iload_n t224_0 rfl
theorem t224_1 : decode (mb 224) 1 = .ok (.ifCond .lt 8, 3) := by decide +kernel
theorem s224_1 (d : Nat) (l0 : Value) (l1 : Value) (l2 : Value) (x : Int32) (σ : Hs) : ru d 224 1 [l0, l1, l2] [.int x] σ = if x < 0 then ru d 224 9 [l0, l1, l2] [] σ else ru d 224 4 [l0, l1, l2] [] σ := q_if_lt t224_1 (by decide +kernel)
theorem t224_4 : decode (mb 224) 4 = .ok (.iload_n 0, 1) := by decide +kernel
theorem s224_4 (d : Nat) (i0 : Int32) (l1 : Value) (l2 : Value) (σ : Hs) : ru d 224 4 [.int i0, l1, l2] [] σ = ru d 224 5 [.int i0, l1, l2] [.int i0] σ := q_iload_n t224_4 rfl
theorem t224_5 : decode (mb 224) 5 = .ok (.iload_n 1, 1) := by decide +kernel
theorem s224_5 (d : Nat) (l0 : Value) (i1 : Int32) (l2 : Value) (w0 : Value) (σ : Hs) : ru d 224 5 [l0, .int i1, l2] [w0] σ = ru d 224 6 [l0, .int i1, l2] [.int i1, w0] σ := q_iload_n t224_5 rfl
theorem t224_6 : decode (mb 224) 6 = .ok (.if_icmp .lt 10, 3) := by decide +kernel
theorem s224_6 (d : Nat) (l0 : Value) (l1 : Value) (l2 : Value) (x y : Int32) (σ : Hs) : ru d 224 6 [l0, l1, l2] [.int y, .int x] σ = if x < y then ru d 224 16 [l0, l1, l2] [] σ else ru d 224 9 [l0, l1, l2] [] σ := q_ic_lt t224_6 (by decide +kernel)
theorem t224_9 : decode (mb 224) 9 = .ok (.aload_n 2, 1) := by decide +kernel
theorem s224_9 (d : Nat) (l0 : Value) (l1 : Value) (a2 : Nat) (σ : Hs) : ru d 224 9 [l0, l1, .ref a2] [] σ = ru d 224 10 [l0, l1, .ref a2] [.ref a2] σ := q_aload_n t224_9 rfl
theorem t224_10 : decode (mb 224) 10 = .ok (.iload_n 0, 1) := by decide +kernel
theorem s224_10 (d : Nat) (i0 : Int32) (l1 : Value) (l2 : Value) (w0 : Value) (σ : Hs) : ru d 224 10 [.int i0, l1, l2] [w0] σ = ru d 224 11 [.int i0, l1, l2] [.int i0, w0] σ := q_iload_n t224_10 rfl
theorem t224_11 : decode (mb 224) 11 = .ok (.iload_n 1, 1) := by decide +kernel
theorem s224_11 (d : Nat) (l0 : Value) (i1 : Int32) (l2 : Value) (w0 w1 : Value) (σ : Hs) : ru d 224 11 [l0, .int i1, l2] [w0, w1] σ = ru d 224 12 [l0, .int i1, l2] [.int i1, w0, w1] σ := q_iload_n t224_11 rfl
theorem t224_16 : decode (mb 224) 16 = .ok (.iload_n 0, 1) := by decide +kernel
theorem s224_16 (d : Nat) (i0 : Int32) (l1 : Value) (l2 : Value) (σ : Hs) : ru d 224 16 [.int i0, l1, l2] [] σ = ru d 224 17 [.int i0, l1, l2] [.int i0] σ := q_iload_n t224_16 rfl
theorem t224_17 : decode (mb 224) 17 = .ok (.ireturn, 1) := by decide +kernel
theorem s224_17 (d : Nat) (l0 : Value) (l1 : Value) (l2 : Value) (x : Int32) (σ : Hs) : ru d 224 17 [l0, l1, l2] [.int x] σ = some (some (.int x), σ) := q_ireti t224_17 mr224
theorem c224 (d : Nat) (x0 : Int32) (x1 : Int32) (x2 : Nat) (σ : Hs) : callD (d + 1) 224 [.int x0, .int x1, .retAddr x2] σ = ru d 224 0 [.int x0, .int x1, .retAddr x2] [] σ := callD_ru ml224 rfl rfl (Nat.le_of_ble_eq_true rfl)
-- 225: String.checkIndex(II)V
theorem t225_0 : decode (mb 225) 0 = .ok (.iload_n 0, 1) := by decide +kernel
theorem s225_0 (d : Nat) (i0 : Int32) (l1 : Value) (σ : Hs) : ru d 225 0 [.int i0, l1] [] σ = ru d 225 1 [.int i0, l1] [.int i0] σ := q_iload_n t225_0 rfl
theorem t225_1 : decode (mb 225) 1 = .ok (.iload_n 1, 1) := by decide +kernel
theorem s225_1 (d : Nat) (l0 : Value) (i1 : Int32) (w0 : Value) (σ : Hs) : ru d 225 1 [l0, .int i1] [w0] σ = ru d 225 2 [l0, .int i1] [.int i1, w0] σ := q_iload_n t225_1 rfl
theorem t225_2 : decode (mb 225) 2 = .ok (.getstatic 1053, 3) := by decide +kernel
theorem s225_2 (d : Nat) (l0 : Value) (l1 : Value) (w0 w1 : Value) (σ : Hs) : ru d 225 2 [l0, l1] [w0, w1] σ = ru d 225 5 [l0, l1] [.retAddr 0, w0, w1] σ := q_gets t225_2 mo225 S9_1053 rfl
theorem t225_5 : decode (mb 225) 5 = .ok (.invokestatic 1059, 3) := by decide +kernel
theorem s225_5 (d : Nat) (l0 : Value) (l1 : Value) (v0 v1 v2 : Value) (σ : Hs) : ru d 225 5 [l0, l1] [v2, v1, v0] σ = kont (callD d 224 [v0, v1, v2] σ) d 225 8 [l0, l1] [] := q_invs t225_5 mo225 (by decide +kernel) K9_1059 mj224 (Nat.le_of_ble_eq_true rfl) rfl rfl (Nat.le_of_ble_eq_true rfl)
theorem t225_8 : decode (mb 225) 8 = .ok (.pop, 1) := by decide +kernel
theorem s225_8 (d : Nat) (l0 : Value) (l1 : Value) (x : Int32) (σ : Hs) : ru d 225 8 [l0, l1] [.int x] σ = ru d 225 9 [l0, l1] [] σ := q_pop t225_8 rfl
theorem t225_9 : decode (mb 225) 9 = .ok (.return_, 1) := by decide +kernel
theorem s225_9 (d : Nat) (l0 : Value) (l1 : Value) (σ : Hs) : ru d 225 9 [l0, l1] [] σ = some (none, σ) := q_vret t225_9 mr225
theorem c225 (d : Nat) (x0 : Int32) (x1 : Int32) (σ : Hs) : callD (d + 1) 225 [.int x0, .int x1] σ = ru d 225 0 [.int x0, .int x1] [] σ := callD_ru ml225 rfl rfl (Nat.le_of_ble_eq_true rfl)
-- 226: StringLatin1.charAt([BI)C
theorem t226_0 : decode (mb 226) 0 = .ok (.iload_n 1, 1) := by decide +kernel
theorem s226_0 (d : Nat) (l0 : Value) (i1 : Int32) (σ : Hs) : ru d 226 0 [l0, .int i1] [] σ = ru d 226 1 [l0, .int i1] [.int i1] σ := q_iload_n t226_0 rfl
theorem t226_1 : decode (mb 226) 1 = .ok (.aload_n 0, 1) := by decide +kernel
theorem s226_1 (d : Nat) (a0 : Nat) (l1 : Value) (w0 : Value) (σ : Hs) : ru d 226 1 [.ref a0, l1] [w0] σ = ru d 226 2 [.ref a0, l1] [.ref a0, w0] σ := q_aload_n t226_1 rfl
theorem t226_2 : decode (mb 226) 2 = .ok (.arraylength, 1) := by decide +kernel
theorem s226_2_o131 (d : Nat) (l0 : Value) (l1 : Value) (w0 : Value) (σ : Hs) : ru d 226 2 [l0, l1] [.ref 131, w0] σ = ru d 226 3 [l0, l1] [.int 4, w0] σ := q_alen t226_2 (by decide +kernel) (by decide +kernel) (by decide +kernel)
theorem s226_2_o132 (d : Nat) (l0 : Value) (l1 : Value) (w0 : Value) (σ : Hs) : ru d 226 2 [l0, l1] [.ref 132, w0] σ = ru d 226 3 [l0, l1] [.int 4, w0] σ := q_alen t226_2 (by decide +kernel) (by decide +kernel) (by decide +kernel)
theorem s226_2_o133 (d : Nat) (l0 : Value) (l1 : Value) (w0 : Value) (σ : Hs) : ru d 226 2 [l0, l1] [.ref 133, w0] σ = ru d 226 3 [l0, l1] [.int 3, w0] σ := q_alen t226_2 (by decide +kernel) (by decide +kernel) (by decide +kernel)
theorem t226_3 : decode (mb 226) 3 = .ok (.invokestatic 9, 3) := by decide +kernel
theorem s226_3 (d : Nat) (l0 : Value) (l1 : Value) (v0 v1 : Value) (σ : Hs) : ru d 226 3 [l0, l1] [v1, v0] σ = kont (callD d 225 [v0, v1] σ) d 226 6 [l0, l1] [] := q_invs t226_3 mo226 (by decide +kernel) K10_9 mj225 (Nat.le_of_ble_eq_true rfl) rfl rfl (Nat.le_of_ble_eq_true rfl)
theorem t226_6 : decode (mb 226) 6 = .ok (.aload_n 0, 1) := by decide +kernel
theorem s226_6 (d : Nat) (a0 : Nat) (l1 : Value) (σ : Hs) : ru d 226 6 [.ref a0, l1] [] σ = ru d 226 7 [.ref a0, l1] [.ref a0] σ := q_aload_n t226_6 rfl
theorem t226_7 : decode (mb 226) 7 = .ok (.iload_n 1, 1) := by decide +kernel
theorem s226_7 (d : Nat) (l0 : Value) (i1 : Int32) (w0 : Value) (σ : Hs) : ru d 226 7 [l0, .int i1] [w0] σ = ru d 226 8 [l0, .int i1] [.int i1, w0] σ := q_iload_n t226_7 rfl
theorem t226_8 : decode (mb 226) 8 = .ok (.baload, 1) := by decide +kernel
theorem s226_8_o131 (d : Nat) (l0 : Value) (l1 : Value) (i : Int32) (σ : Hs) : ru d 226 8 [l0, l1] [.int i, .ref 131] σ = gd (vp_in i 4) (ru d 226 9 [l0, l1] [.int (([100, 115, 119, 114] : List Int32).getD i.toNatClampNeg 0)] σ) := q_bals t226_8 (by decide +kernel) (by decide +kernel) rfl rfl
theorem s226_8_o132 (d : Nat) (l0 : Value) (l1 : Value) (i : Int32) (σ : Hs) : ru d 226 8 [l0, l1] [.int i, .ref 132] σ = gd (vp_in i 4) (ru d 226 9 [l0, l1] [.int (([104, 119, 108, 110] : List Int32).getD i.toNatClampNeg 0)] σ) := q_bals t226_8 (by decide +kernel) (by decide +kernel) rfl rfl
theorem s226_8_o133 (d : Nat) (l0 : Value) (l1 : Value) (i : Int32) (σ : Hs) : ru d 226 8 [l0, l1] [.int i, .ref 133] σ = gd (vp_in i 3) (ru d 226 9 [l0, l1] [.int (([104, 119, 115] : List Int32).getD i.toNatClampNeg 0)] σ) := q_bals t226_8 (by decide +kernel) (by decide +kernel) rfl rfl
theorem t226_9 : decode (mb 226) 9 = .ok (.sipush 255, 3) := by decide +kernel
theorem s226_9 (d : Nat) (l0 : Value) (l1 : Value) (w0 : Value) (σ : Hs) : ru d 226 9 [l0, l1] [w0] σ = ru d 226 12 [l0, l1] [.int 255, w0] σ := q_sipush t226_9 (by decide +kernel)
theorem t226_12 : decode (mb 226) 12 = .ok (.iand, 1) := by decide +kernel
theorem s226_12 (d : Nat) (l0 : Value) (l1 : Value) (x y : Int32) (σ : Hs) : ru d 226 12 [l0, l1] [.int y, .int x] σ = ru d 226 13 [l0, l1] [.int (x &&& y)] σ := q_iand t226_12
theorem t226_13 : decode (mb 226) 13 = .ok (.i2c, 1) := by decide +kernel
theorem s226_13 (d : Nat) (l0 : Value) (l1 : Value) (x : Int32) (σ : Hs) : ru d 226 13 [l0, l1] [.int x] σ = ru d 226 14 [l0, l1] [.int (x.toUInt32 % 65536).toInt32] σ := q_i2c t226_13
theorem t226_14 : decode (mb 226) 14 = .ok (.ireturn, 1) := by decide +kernel
theorem s226_14 (d : Nat) (l0 : Value) (l1 : Value) (x : Int32) (hx : narrow .char (.int x) = .int x) (σ : Hs) : ru d 226 14 [l0, l1] [.int x] σ = some (some (.int x), σ) := q_iretn t226_14 mr226 hx
theorem c226 (d : Nat) (x0 : Nat) (x1 : Int32) (σ : Hs) : callD (d + 1) 226 [.ref x0, .int x1] σ = ru d 226 0 [.ref x0, .int x1] [] σ := callD_ru ml226 rfl rfl (Nat.le_of_ble_eq_true rfl)
-- 227: String.charAt(I)C
theorem t227_0 : decode (mb 227) 0 = .ok (.aload_n 0, 1) := by decide +kernel
theorem s227_0 (d : Nat) (a0 : Nat) (l1 : Value) (σ : Hs) : ru d 227 0 [.ref a0, l1] [] σ = ru d 227 1 [.ref a0, l1] [.ref a0] σ := q_aload_n t227_0 rfl
theorem t227_1 : decode (mb 227) 1 = .ok (.invokevirtual 492, 3) := by decide +kernel
theorem s227_1_o119 (d : Nat) (l0 : Value) (l1 : Value) (σ : Hs) : ru d 227 1 [l0, l1] [.ref 119] σ = kont (callD d 215 [.ref 119] σ) d 227 4 [l0, l1] [] := q_invv t227_1 mo227 K9_492 mj215 rfl rfl rfl rfl (Nat.le_of_ble_eq_true rfl)
theorem s227_1_o120 (d : Nat) (l0 : Value) (l1 : Value) (σ : Hs) : ru d 227 1 [l0, l1] [.ref 120] σ = kont (callD d 215 [.ref 120] σ) d 227 4 [l0, l1] [] := q_invv t227_1 mo227 K9_492 mj215 rfl rfl rfl rfl (Nat.le_of_ble_eq_true rfl)
theorem s227_1_o121 (d : Nat) (l0 : Value) (l1 : Value) (σ : Hs) : ru d 227 1 [l0, l1] [.ref 121] σ = kont (callD d 215 [.ref 121] σ) d 227 4 [l0, l1] [] := q_invv t227_1 mo227 K9_492 mj215 rfl rfl rfl rfl (Nat.le_of_ble_eq_true rfl)
theorem t227_4 : decode (mb 227) 4 = .ok (.ifCond .eq 12, 3) := by decide +kernel
theorem s227_4 (d : Nat) (l0 : Value) (l1 : Value) (x : Int32) (σ : Hs) : ru d 227 4 [l0, l1] [.int x] σ = if x = 0 then ru d 227 16 [l0, l1] [] σ else ru d 227 7 [l0, l1] [] σ := q_if_eq t227_4 (by decide +kernel)
theorem t227_7 : decode (mb 227) 7 = .ok (.aload_n 0, 1) := by decide +kernel
theorem s227_7 (d : Nat) (a0 : Nat) (l1 : Value) (σ : Hs) : ru d 227 7 [.ref a0, l1] [] σ = ru d 227 8 [.ref a0, l1] [.ref a0] σ := q_aload_n t227_7 rfl
theorem t227_8 : decode (mb 227) 8 = .ok (.getfield 9, 3) := by decide +kernel
theorem s227_8_o119 (d : Nat) (l0 : Value) (l1 : Value) (σ : Hs) : ru d 227 8 [l0, l1] [.ref 119] σ = ru d 227 11 [l0, l1] [.ref 131] σ := q_getf t227_8 mo227 F9_9 rfl rfl
theorem s227_8_o120 (d : Nat) (l0 : Value) (l1 : Value) (σ : Hs) : ru d 227 8 [l0, l1] [.ref 120] σ = ru d 227 11 [l0, l1] [.ref 132] σ := q_getf t227_8 mo227 F9_9 rfl rfl
theorem s227_8_o121 (d : Nat) (l0 : Value) (l1 : Value) (σ : Hs) : ru d 227 8 [l0, l1] [.ref 121] σ = ru d 227 11 [l0, l1] [.ref 133] σ := q_getf t227_8 mo227 F9_9 rfl rfl
theorem t227_11 : decode (mb 227) 11 = .ok (.iload_n 1, 1) := by decide +kernel
theorem s227_11 (d : Nat) (l0 : Value) (i1 : Int32) (w0 : Value) (σ : Hs) : ru d 227 11 [l0, .int i1] [w0] σ = ru d 227 12 [l0, .int i1] [.int i1, w0] σ := q_iload_n t227_11 rfl
theorem t227_12 : decode (mb 227) 12 = .ok (.invokestatic 495, 3) := by decide +kernel
theorem s227_12 (d : Nat) (l0 : Value) (l1 : Value) (v0 v1 : Value) (σ : Hs) : ru d 227 12 [l0, l1] [v1, v0] σ = kont (callD d 226 [v0, v1] σ) d 227 15 [l0, l1] [] := q_invs t227_12 mo227 (by decide +kernel) K9_495 mj226 (Nat.le_of_ble_eq_true rfl) rfl rfl (Nat.le_of_ble_eq_true rfl)
theorem t227_15 : decode (mb 227) 15 = .ok (.ireturn, 1) := by decide +kernel
theorem s227_15 (d : Nat) (l0 : Value) (l1 : Value) (x : Int32) (hx : narrow .char (.int x) = .int x) (σ : Hs) : ru d 227 15 [l0, l1] [.int x] σ = some (some (.int x), σ) := q_iretn t227_15 mr227 hx
theorem t227_16 : decode (mb 227) 16 = .ok (.aload_n 0, 1) := by decide +kernel
theorem s227_16 (d : Nat) (a0 : Nat) (l1 : Value) (σ : Hs) : ru d 227 16 [.ref a0, l1] [] σ = ru d 227 17 [.ref a0, l1] [.ref a0] σ := q_aload_n t227_16 rfl
theorem t227_17 : decode (mb 227) 17 = .ok (.getfield 9, 3) := by decide +kernel
theorem s227_17_o119 (d : Nat) (l0 : Value) (l1 : Value) (σ : Hs) : ru d 227 17 [l0, l1] [.ref 119] σ = ru d 227 20 [l0, l1] [.ref 131] σ := q_getf t227_17 mo227 F9_9 rfl rfl
theorem s227_17_o120 (d : Nat) (l0 : Value) (l1 : Value) (σ : Hs) : ru d 227 17 [l0, l1] [.ref 120] σ = ru d 227 20 [l0, l1] [.ref 132] σ := q_getf t227_17 mo227 F9_9 rfl rfl
theorem s227_17_o121 (d : Nat) (l0 : Value) (l1 : Value) (σ : Hs) : ru d 227 17 [l0, l1] [.ref 121] σ = ru d 227 20 [l0, l1] [.ref 133] σ := q_getf t227_17 mo227 F9_9 rfl rfl
theorem t227_20 : decode (mb 227) 20 = .ok (.iload_n 1, 1) := by decide +kernel
theorem s227_20 (d : Nat) (l0 : Value) (i1 : Int32) (w0 : Value) (σ : Hs) : ru d 227 20 [l0, .int i1] [w0] σ = ru d 227 21 [l0, .int i1] [.int i1, w0] σ := q_iload_n t227_20 rfl
theorem c227 (d : Nat) (x0 : Nat) (x1 : Int32) (σ : Hs) : callD (d + 1) 227 [.ref x0, .int x1] σ = ru d 227 0 [.ref x0, .int x1] [] σ := callD_ru ml227 rfl rfl (Nat.le_of_ble_eq_true rfl)
