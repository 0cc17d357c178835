/-! ===== the initial world ===== -/
def setF : Nat → Int32 := va_cpy (fun j => (stbT.getD 5 []).getD j 0) (fun _ => 0) 0 0 5
def nowF : Nat → Int32 := (upd (upd (upd (upd (upd (fun _ => 0) 3 1) 4 900) 5 5) 7 60) 8 4)
def hotA : Nat → Int32 := (upd (upd (upd (upd (upd (upd (upd (fun _ => 0) 0 4) 1 5) 2 8) 3 3) 4 5) 5 3) 6 3)
def catA : Nat → Int32 := (upd (upd (upd (upd (upd (upd (upd (fun _ => 0) 0 60) 1 30) 2 120) 3 6) 4 120) 5 90) 6 10000)
def mosA : Nat → Int32 := (upd (upd (upd (upd (upd (fun _ => 0) 0 1439) 1 99) 2 3) 3 999) 4 8)
def stF : Nat → Int32 := fun k => if k = 6 then 1 else 0
def rdF : Nat → Int32 := fun k => if k = 1 then 71 else if k = 2 then 110 else 0
def iniS : Hs := fun o => if o = 1 then stF else if o = 9 then setF else if o = 30 then stF else if o = 38 then setF else if o = 66 then setF else if o = 70 then rdF else if o = 88 then nowF else if o = 92 then hotA else if o = 93 then catA else if o = 94 then mosA else fun _ => 0
def gI (g0 : Gw) (fX fM : Nat → Nat) : Gw := (fun o => if o < 87 then fX o else if o < 104 then fM (o - 87) else g0.1 o, g0.2)
theorem P_l {D : va_G} {cl : List vw_C} {w1 w2 : va_W} {H : Heap} (h : va_P D cl (w1 ++ w2) H) : va_P D cl w1 H := fun k q hq => by
  have hl : k < w1.length := (List.getElem?_eq_some_iff.mp hq).1
  exact h k q (by rw [List.getElem?_append_left hl]; exact hq)
theorem P_r {D : va_G} {cl : List vw_C} {w1 w2 : va_W} {H : Heap} (h : va_P D cl (w1 ++ w2) H) : va_P D cl w2 H := fun k q hq => h (w1.length + k) q (by rw [List.getElem?_append_right (by omega), Nat.add_sub_cancel_left]; exact hq)
theorem arrV_cg {cI : ClassId} {N : Nat} {f f' : Nat → Value} (h : ∀ j, j < N → f j = f' j) : arrV cI N f = arrV cI N f' := by
  have e : (fun j : Fin N => f j.val) = fun j => f' j.val := funext fun j => h j.val j.isLt
  unfold arrV
  rw [e]
theorem at_q {D : va_G} {cl : List vw_C} {a n : Nat} {cq : ClassId} {f f' : Nat → Option Nat} {H : Heap} (h : va_at D cl (a, .inl (cq, n, .inr (.inr (.inr (.inr f))))) H) (e : ∀ j, j < n → f j = f' j) : va_at D cl (a, .inl (cq, n, .inr (.inr (.inr (.inr f'))))) H := by
  have h : H[a]? = some (vp_cell cq (n, .inr (.inr (.inr (.inr f))))) := h
  show H[a]? = some (vp_cell cq (n, .inr (.inr (.inr (.inr f')))))
  rw [h, vp_cell_q, vp_cell_q]
  exact congrArg some (arrV_cg (fun j hj => by
    show va_rf (f j) = va_rf (f' j)
    rw [e j hj]))
set_option maxHeartbeats 4000000 in
set_option maxRecDepth 100000 in
theorem ini_at (g0 : Gw) (fX fM : Nat → Nat) (H : Heap) (hX : va_P g0.2.1 vwCl (wSmoky g0 fX) H) (hM : va_P g0.2.1 vwCl (wModel g0 fM) H) : ∀ o, o < 104 → va_at (gI g0 fX fM).2.1 vwCl ((gI g0 fX fM).1 o, celR (gI g0 fX fM) o (iniS o)) H := by
  have s1 := P_r hX
  have s2 := P_l hX
  have s3 := P_r s2
  have s4 := P_l s2
  have s5 := P_r s4
  have s6 := P_l s4
  have s7 := P_r s5
  have s8 := P_l s5
  have s9 := P_r s6
  have s10 := P_l s6
  have s11 := P_r s9
  have s12 := P_l s9
  have s13 := P_r s10
  have s14 := P_l s10
  have s15 := P_r s13
  have s16 := P_l s13
  have s17 := P_r s14
  have s18 := P_l s14
  have s19 := P_r s17
  have s20 := P_l s17
  have s21 := P_r s18
  have s22 := P_l s18
  have s23 := P_r s21
  have s24 := P_l s21
  have s25 := P_r s23
  have s26 := P_l s23
  have s27 := P_r s22
  have s28 := P_l s22
  have s29 := P_r s27
  have s30 := P_l s27
  have s31 := P_r s29
  have s32 := P_l s29
  have s33 := P_r s28
  have s34 := P_l s28
  have s35 := P_r s34
  have s36 := P_l s34
  have s37 := P_r s35
  have s38 := P_l s35
  have s39 := P_r s37
  have s40 := P_l s37
  have s41 := P_r s38
  have s42 := P_l s38
  have s43 := P_r s41
  have s44 := P_l s41
  have s45 := P_r s42
  have s46 := P_l s42
  have s47 := P_r s45
  have s48 := P_l s45
  have s49 := P_r s46
  have s50 := P_l s46
  have s51 := P_r s49
  have s52 := P_l s49
  have s53 := P_r s50
  have s54 := P_l s50
  have s55 := P_r s53
  have s56 := P_l s53
  have s57 := P_r s55
  have s58 := P_l s55
  have s59 := P_r s56
  have s60 := P_l s56
  have s61 := P_r s59
  have s62 := P_l s59
  have s63 := P_r s60
  have s64 := P_l s60
  have s65 := P_r s63
  have s66 := P_l s63
  have s67 := P_r s64
  have s68 := P_l s64
  have s69 := P_r s68
  have s70 := P_l s68
  have s71 := P_r s54
  have s72 := P_l s54
  have s73 := P_r s36
  have s74 := P_l s36
  have s75 := P_r s73
  have s76 := P_l s73
  have s77 := P_r s75
  have s78 := P_l s75
  have s79 := P_r s76
  have s80 := P_l s76
  have s81 := P_r s79
  have s82 := P_l s79
  have s83 := P_r s80
  have s84 := P_l s80
  have s85 := P_r s83
  have s86 := P_l s83
  have s87 := P_r s84
  have s88 := P_l s84
  have s89 := P_r s87
  have s90 := P_l s87
  have s91 := P_r s88
  have s92 := P_l s88
  have s93 := P_r s91
  have s94 := P_l s91
  have s95 := P_r s93
  have s96 := P_l s93
  have s97 := P_r s94
  have s98 := P_l s94
  have s99 := P_r s97
  have s100 := P_l s97
  have s101 := P_r s98
  have s102 := P_l s98
  have s103 := P_r s101
  have s104 := P_l s101
  have s105 := P_r s102
  have s106 := P_l s102
  have s107 := P_r s106
  have s108 := P_l s106
  have s109 := P_r s92
  have s110 := P_l s92
  have s111 := P_r s74
  have s112 := P_l s74
  intro o ho
  match o, ho with
  | 0, _ => exact s111 0 _ rfl
  | 1, _ => exact s110 0 _ rfl
  | 2, _ => exact s109 0 _ rfl
  | 3, _ => exact s109 10 _ rfl
  | 4, _ => exact s109 9 _ rfl
  | 5, _ => exact s109 8 _ rfl
  | 6, _ => exact s109 7 _ rfl
  | 7, _ => exact s109 6 _ rfl
  | 8, _ => exact s109 5 _ rfl
  | 9, _ => exact s109 1 _ rfl
  | 10, _ => exact s109 4 _ rfl
  | 11, _ => exact s109 3 _ rfl
  | 12, _ => exact s109 2 _ rfl
  | 13, _ => exact s108 0 _ rfl
  | 14, _ => exact at_q (s107 0 _ rfl) (fun j (hj : j < 3) => by match j, hj with | 0, _ => rfl | 1, _ => rfl | 2, _ => rfl | _ + 3, hj => exact absurd hj (by omega))
  | 15, _ => exact s105 0 _ rfl
  | 16, _ => exact s104 0 _ rfl
  | 17, _ => exact s103 0 _ rfl
  | 18, _ => exact s100 0 _ rfl
  | 19, _ => exact s99 0 _ rfl
  | 20, _ => exact s96 0 _ rfl
  | 21, _ => exact s95 0 _ rfl
  | 22, _ => exact s90 0 _ rfl
  | 23, _ => exact s89 0 _ rfl
  | 24, _ => exact s86 0 _ rfl
  | 25, _ => exact s85 0 _ rfl
  | 26, _ => exact s82 0 _ rfl
  | 27, _ => exact s81 0 _ rfl
  | 28, _ => exact s78 0 _ rfl
  | 29, _ => exact s77 0 _ rfl
  | 30, _ => exact s72 0 _ rfl
  | 31, _ => exact s71 0 _ rfl
  | 32, _ => exact s71 10 _ rfl
  | 33, _ => exact s71 9 _ rfl
  | 34, _ => exact s71 8 _ rfl
  | 35, _ => exact s71 7 _ rfl
  | 36, _ => exact s71 6 _ rfl
  | 37, _ => exact s71 5 _ rfl
  | 38, _ => exact s71 1 _ rfl
  | 39, _ => exact s71 4 _ rfl
  | 40, _ => exact s71 3 _ rfl
  | 41, _ => exact s71 2 _ rfl
  | 42, _ => exact s70 0 _ rfl
  | 43, _ => exact at_q (s69 0 _ rfl) (fun j (hj : j < 3) => by match j, hj with | 0, _ => rfl | 1, _ => rfl | 2, _ => rfl | _ + 3, hj => exact absurd hj (by omega))
  | 44, _ => exact s67 0 _ rfl
  | 45, _ => exact s66 0 _ rfl
  | 46, _ => exact s65 0 _ rfl
  | 47, _ => exact s62 0 _ rfl
  | 48, _ => exact s61 0 _ rfl
  | 49, _ => exact s58 0 _ rfl
  | 50, _ => exact s57 0 _ rfl
  | 51, _ => exact s52 0 _ rfl
  | 52, _ => exact s51 0 _ rfl
  | 53, _ => exact s48 0 _ rfl
  | 54, _ => exact s47 0 _ rfl
  | 55, _ => exact s44 0 _ rfl
  | 56, _ => exact s43 0 _ rfl
  | 57, _ => exact s40 0 _ rfl
  | 58, _ => exact s39 0 _ rfl
  | 59, _ => exact s33 0 _ rfl
  | 60, _ => exact s33 10 _ rfl
  | 61, _ => exact s33 9 _ rfl
  | 62, _ => exact s33 8 _ rfl
  | 63, _ => exact s33 7 _ rfl
  | 64, _ => exact s33 6 _ rfl
  | 65, _ => exact s33 5 _ rfl
  | 66, _ => exact s33 1 _ rfl
  | 67, _ => exact s33 4 _ rfl
  | 68, _ => exact s33 3 _ rfl
  | 69, _ => exact s33 2 _ rfl
  | 70, _ => exact s30 0 _ rfl
  | 71, _ => exact s32 0 _ rfl
  | 72, _ => exact s31 0 _ rfl
  | 73, _ => exact s24 0 _ rfl
  | 74, _ => exact s26 0 _ rfl
  | 75, _ => exact s25 0 _ rfl
  | 76, _ => exact at_q (s112 0 _ rfl) (fun j (hj : j < 4) => by match j, hj with | 0, _ => rfl | 1, _ => rfl | 2, _ => rfl | 3, _ => rfl | _ + 4, hj => exact absurd hj (by omega))
  | 77, _ => exact s20 0 _ rfl
  | 78, _ => exact s19 0 _ rfl
  | 79, _ => exact s16 0 _ rfl
  | 80, _ => exact s15 0 _ rfl
  | 81, _ => exact s12 0 _ rfl
  | 82, _ => exact s11 0 _ rfl
  | 83, _ => exact s8 0 _ rfl
  | 84, _ => exact s7 0 _ rfl
  | 85, _ => exact s3 0 _ rfl
  | 86, _ => exact s1 0 _ rfl
  | 87, _ => exact hM 0 _ rfl
  | 88, _ => exact hM 1 _ rfl
  | 89, _ => exact hM 16 _ rfl
  | 90, _ => exact hM 15 _ rfl
  | 91, _ => exact hM 14 _ rfl
  | 92, _ => exact hM 13 _ rfl
  | 93, _ => exact hM 12 _ rfl
  | 94, _ => exact hM 11 _ rfl
  | 95, _ => exact at_q (hM 10 _ rfl) (fun j (hj : j < 3) => by match j, hj with | 0, _ => rfl | 1, _ => rfl | 2, _ => rfl | _ + 3, hj => exact absurd hj (by omega))
  | 96, _ => exact hM 9 _ rfl
  | 97, _ => exact hM 8 _ rfl
  | 98, _ => exact hM 7 _ rfl
  | 99, _ => exact hM 6 _ rfl
  | 100, _ => exact hM 5 _ rfl
  | 101, _ => exact hM 4 _ rfl
  | 102, _ => exact hM 3 _ rfl
  | 103, _ => exact hM 2 _ rfl
  | _ + 104, h => exact absurd h (by omega)
