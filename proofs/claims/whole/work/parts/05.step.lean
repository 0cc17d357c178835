theorem cat_len2 {g : Gw} (hF : FMok g) (r : List Value) : ((r.map (mv g)).map fun v => v.category).sum = cats r := by
  induction r with
  | nil => rfl
  | cons v r ih =>
    unfold cats at ih ⊢
    simp only [List.map_cons, List.sum_cons]
    rw [mv_cat hF, ih]
theorem cat_len {g : Gw} (hF : FMok g) {n : Nat} {st : List Value} (h : dropC n st) : (((st.drop n).map (mv g)).map fun v => v.category).sum ≤ 8 := by
  rw [cat_len2 hF]
  exact h
/-! ===== a step of the evaluator is a step of the machine ===== -/
section EVS
variable {p : Program} {l : Launch} {e : Env} {s : State} {m : MethodId} {args : Array Value} {below : List Frame} {meth : Method} {c : Code}
set_option maxHeartbeats 4000000 in
set_option maxRecDepth 100000 in
theorem snd_step {d mi : Nat} {g : Gw} {call : Nat → List Value → Hs → Rs} (hmi : mi < 227) (hx : p.tables.exec = Jvm.exec) (hb : c.code = mb mi) (hml : c.maxLocals = ml mi) (hown : s.vm.findClass (ow (mo mi)) = some m.cls) (hts : ∀ w ∈ lw_good, w.before args s = true)
    (hK : va_K g.2.1 vwCl (tW g) s) (hI : Inj g) (hST : STA g (AA g s.heap.size) s s.heap) (hr : meth.sig.returnType = mr mi) (hlocks : meth.locks = false) (hcall : SndC l d call)
    {v0 : Option Value} {σ0 : Hs} {pc : Nat} {L st : List Value} {σ : Hs} {ls : Array Slot} {H : Heap} {locs : List Loc} {r : Sr} (hP : va_P g.2.1 vwCl (wsW g σ) H) (hS : va_S (AA g s.heap.size) s.heap H locs) (hl : LH g ls (ml mi) L) (hop : stepI call mi pc L st σ = some r)
    (k1 : ∀ (pc' : Nat) (L' st' : List Value) (σ' : Hs), r = .inl (pc', L', st', σ') → ∀ (ls' : Array Slot) (H' : Heap) (locs' : List Loc), va_P g.2.1 vwCl (wsW g σ') H' → va_S (AA g s.heap.size) s.heap H' locs' → LH g ls' (ml mi) L' → W p l e (rmD (d + 1)) s m args below meth c H' locs' 0 0 (MQ below (QR g v0 σ0 s.heap.size) args s 0 0 (AA g s.heap.size)) (F0 m pc' ls' (st'.map (mv g))))
    (k2 : ∀ q, r = .inr q → q = (v0, σ0)) : W p l e (rmD (d + 1)) s m args below meth c H locs 0 0 (MQ below (QR g v0 σ0 s.heap.size) args s 0 0 (AA g s.heap.size)) (F0 m pc ls (st.map (mv g))) := by
  have hF : FMok g := hST.2.2.2.2.1
  have hD : va_D (AA g s.heap.size) (wsW g σ) := wsW_D hI _ _
  unfold stepI at hop
  split at hop
  rotate_left
  · cases hop
  rename_i q hd
  obtain ⟨ins, len⟩ := q
  have hdg : decode (mb mi) pc = .ok (ins, len) := hd
  clear hd
  simp only at hop
  cases ins with
  | iconst n =>
    have hopZ := gd_some hop
    clear hop
    obtain ⟨rfl, hop⟩ := hopZ
    cases hop
    exact lv_iconst hx hb hdg rfl (k1 _ _ _ _ rfl _ _ _ hP hS hl)
  | bipush n =>
    have hopZ := gd_some hop
    clear hop
    obtain ⟨rfl, hop⟩ := hopZ
    cases hop
    exact lv_bipush hx hb hdg rfl (k1 _ _ _ _ rfl _ _ _ hP hS hl)
  | sipush n =>
    have hopZ := gd_some hop
    clear hop
    obtain ⟨rfl, hop⟩ := hopZ
    cases hop
    exact lv_sipush hx hb hdg rfl (k1 _ _ _ _ rfl _ _ _ hP hS hl)
  | lconst n =>
    have hopZ := gd_some hop
    clear hop
    obtain ⟨rfl, hop⟩ := hopZ
    cases hop
    exact lv_lconst hx hb hdg rfl (k1 _ _ _ _ rfl _ _ _ hP hS hl)
  | iload_n k =>
    have hopZ := gd_some hop
    clear hop
    obtain ⟨rfl, hop⟩ := hopZ
    have hopZ := o1i_some hop
    clear hop
    obtain ⟨x, hL, hop⟩ := hopZ
    cases hop
    exact lv_iload_n hx hb hdg rfl (hl.at hL (by intro h; cases h)) (k1 _ _ _ _ rfl _ _ _ hP hS hl)
  | lload_n k =>
    have hopZ := gd_some hop
    clear hop
    obtain ⟨rfl, hop⟩ := hopZ
    have hopZ := o1l_some hop
    clear hop
    obtain ⟨x, hL, hop⟩ := hopZ
    cases hop
    exact lv_lload_n hx hb hdg rfl (hl.at hL (by intro h; cases h)) (k1 _ _ _ _ rfl _ _ _ hP hS hl)
  | aload_n k =>
    have hopZ := gd_some hop
    clear hop
    obtain ⟨rfl, hop⟩ := hopZ
    have hopZ := o1r_some hop
    clear hop
    obtain ⟨x, hL, hop⟩ := hopZ
    cases hop
    exact lv_aload_n hx hb hdg rfl (hl.at hL (by intro h; cases h)) (k1 _ _ _ _ rfl _ _ _ hP hS hl)
  | iload i =>
    have hopZ := gd_some hop
    clear hop
    obtain ⟨rfl, hop⟩ := hopZ
    have hopZ := o1i_some hop
    clear hop
    obtain ⟨x, hL, hop⟩ := hopZ
    cases hop
    exact lv_iload hx hb hdg (hl.at hL (by intro h; cases h)) (k1 _ _ _ _ rfl _ _ _ hP hS hl)
  | lload i =>
    have hopZ := gd_some hop
    clear hop
    obtain ⟨rfl, hop⟩ := hopZ
    have hopZ := o1l_some hop
    clear hop
    obtain ⟨x, hL, hop⟩ := hopZ
    cases hop
    exact lv_lload hx hb hdg (hl.at hL (by intro h; cases h)) (k1 _ _ _ _ rfl _ _ _ hP hS hl)
  | aload i =>
    have hopZ := gd_some hop
    clear hop
    obtain ⟨rfl, hop⟩ := hopZ
    have hopZ := o1r_some hop
    clear hop
    obtain ⟨x, hL, hop⟩ := hopZ
    cases hop
    exact lv_aload hx hb hdg (hl.at hL (by intro h; cases h)) (k1 _ _ _ _ rfl _ _ _ hP hS hl)
  | istore_n k =>
    have hopZ := gd_some hop
    clear hop
    obtain ⟨⟨rfl, ho⟩, hop⟩ := hopZ
    have hopZ := s1i_some hop
    clear hop
    obtain ⟨x, r', rfl, hop⟩ := hopZ
    cases hop
    exact lv_istore_n hx hb hdg rfl hl.has (by rw [← hl.2.2.1]; exact ho.1) rfl (fun ls' hl' => k1 _ _ _ _ rfl _ _ _ hP hS (LH_set (x := .int x) hF hl' hl.2.2.1 ho))
  | astore_n k =>
    have hopZ := gd_some hop
    clear hop
    obtain ⟨⟨rfl, ho⟩, hop⟩ := hopZ
    have hopZ := s1r_some hop
    clear hop
    obtain ⟨x, r', rfl, hop⟩ := hopZ
    cases hop
    exact lv_astore_n hx hb hdg rfl hl.has (by rw [← hl.2.2.1]; exact ho.1) rfl (fun ls' hl' => k1 _ _ _ _ rfl _ _ _ hP hS (LH_set (x := .ref x) hF hl' hl.2.2.1 ho))
  | istore i =>
    have hopZ := gd_some hop
    clear hop
    obtain ⟨⟨rfl, ho⟩, hop⟩ := hopZ
    have hopZ := s1i_some hop
    clear hop
    obtain ⟨x, r', rfl, hop⟩ := hopZ
    cases hop
    exact lv_istore hx hb hdg hl.has (by rw [← hl.2.2.1]; exact ho.1) rfl (fun ls' hl' => k1 _ _ _ _ rfl _ _ _ hP hS (LH_set (x := .int x) hF hl' hl.2.2.1 ho))
  | astore i =>
    have hopZ := gd_some hop
    clear hop
    obtain ⟨⟨rfl, ho⟩, hop⟩ := hopZ
    have hopZ := s1r_some hop
    clear hop
    obtain ⟨x, r', rfl, hop⟩ := hopZ
    cases hop
    exact lv_astore hx hb hdg hl.has (by rw [← hl.2.2.1]; exact ho.1) rfl (fun ls' hl' => k1 _ _ _ _ rfl _ _ _ hP hS (LH_set (x := .ref x) hF hl' hl.2.2.1 ho))
  | lstore_n k =>
    have hopZ := gd_some hop
    clear hop
    obtain ⟨⟨rfl, ho⟩, hop⟩ := hopZ
    have hopZ := s1l_some hop
    clear hop
    obtain ⟨x, r', rfl, hop⟩ := hopZ
    cases hop
    exact lv_lstore_n hx hb hdg rfl hl.has (by rw [← hl.2.2.1]; exact ho.1) rfl (fun ls' hl' => k1 _ _ _ _ rfl _ _ _ hP hS (LH_set2 (x := .long x) hF hl' hl.2.2.1 ho))
  | lstore i =>
    have hopZ := gd_some hop
    clear hop
    obtain ⟨⟨rfl, ho⟩, hop⟩ := hopZ
    have hopZ := s1l_some hop
    clear hop
    obtain ⟨x, r', rfl, hop⟩ := hopZ
    cases hop
    exact lv_lstore hx hb hdg hl.has (by rw [← hl.2.2.1]; exact ho.1) rfl (fun ls' hl' => k1 _ _ _ _ rfl _ _ _ hP hS (LH_set2 (x := .long x) hF hl' hl.2.2.1 ho))
  | iinc i n =>
    have hopZ := gd_some hop
    clear hop
    obtain ⟨⟨rfl, ho⟩, hop⟩ := hopZ
    have hopZ := o1i_some hop
    clear hop
    obtain ⟨x, hL, hop⟩ := hopZ
    cases hop
    obtain ⟨k, hk⟩ := List.getElem?_of_mem (lvL_in (g := g) (q := (i, .int x)).mpr ⟨_, hL, (by intro h; cases h), rfl⟩)
    exact lv_iinc hx hb hdg hl.has hk rfl (by rw [← hl.2.2.1]; exact ho.1) rfl (fun ls' hl' => k1 _ _ _ _ rfl _ _ _ hP hS (LH_set (x := .int (x + Int32.ofInt n)) hF hl' hl.2.2.1 ho))
  | iadd =>
    have hopZ := gd_some hop
    clear hop
    obtain ⟨rfl, hop⟩ := hopZ
    have hopZ := s2i_some hop
    clear hop
    obtain ⟨x, y, r', rfl, hop⟩ := hopZ
    cases hop
    exact lv_iadd hx hb hdg (k1 _ _ _ _ rfl _ _ _ hP hS hl)
  | isub =>
    have hopZ := gd_some hop
    clear hop
    obtain ⟨rfl, hop⟩ := hopZ
    have hopZ := s2i_some hop
    clear hop
    obtain ⟨x, y, r', rfl, hop⟩ := hopZ
    cases hop
    exact lv_isub hx hb hdg (k1 _ _ _ _ rfl _ _ _ hP hS hl)
  | imul =>
    have hopZ := gd_some hop
    clear hop
    obtain ⟨rfl, hop⟩ := hopZ
    have hopZ := s2i_some hop
    clear hop
    obtain ⟨x, y, r', rfl, hop⟩ := hopZ
    cases hop
    exact lv_imul hx hb hdg (k1 _ _ _ _ rfl _ _ _ hP hS hl)
  | iand =>
    have hopZ := gd_some hop
    clear hop
    obtain ⟨rfl, hop⟩ := hopZ
    have hopZ := s2i_some hop
    clear hop
    obtain ⟨x, y, r', rfl, hop⟩ := hopZ
    cases hop
    exact lv_iand hx hb hdg (k1 _ _ _ _ rfl _ _ _ hP hS hl)
  | ior =>
    have hopZ := gd_some hop
    clear hop
    obtain ⟨rfl, hop⟩ := hopZ
    have hopZ := s2i_some hop
    clear hop
    obtain ⟨x, y, r', rfl, hop⟩ := hopZ
    cases hop
    exact lv_ior hx hb hdg (k1 _ _ _ _ rfl _ _ _ hP hS hl)
  | ixor =>
    have hopZ := gd_some hop
    clear hop
    obtain ⟨rfl, hop⟩ := hopZ
    have hopZ := s2i_some hop
    clear hop
    obtain ⟨x, y, r', rfl, hop⟩ := hopZ
    cases hop
    exact lv_ixor hx hb hdg (k1 _ _ _ _ rfl _ _ _ hP hS hl)
  | ishl =>
    have hopZ := gd_some hop
    clear hop
    obtain ⟨rfl, hop⟩ := hopZ
    have hopZ := s2i_some hop
    clear hop
    obtain ⟨x, y, r', rfl, hop⟩ := hopZ
    cases hop
    exact lv_ishl hx hb hdg (k1 _ _ _ _ rfl _ _ _ hP hS hl)
  | ishr =>
    have hopZ := gd_some hop
    clear hop
    obtain ⟨rfl, hop⟩ := hopZ
    have hopZ := s2i_some hop
    clear hop
    obtain ⟨x, y, r', rfl, hop⟩ := hopZ
    cases hop
    exact lv_ishr hx hb hdg (k1 _ _ _ _ rfl _ _ _ hP hS hl)
  | iushr =>
    have hopZ := gd_some hop
    clear hop
    obtain ⟨rfl, hop⟩ := hopZ
    have hopZ := s2i_some hop
    clear hop
    obtain ⟨x, y, r', rfl, hop⟩ := hopZ
    cases hop
    exact lv_iushr hx hb hdg rfl (k1 _ _ _ _ rfl _ _ _ hP hS hl)
  | idiv =>
    have hopZ := gd_some hop
    clear hop
    obtain ⟨rfl, hop⟩ := hopZ
    have hopZ := s2i_some hop
    clear hop
    obtain ⟨x, y, r', rfl, hop⟩ := hopZ
    have hopZ := gd_some hop
    clear hop
    obtain ⟨hy, hop⟩ := hopZ
    cases hop
    exact lv_idiv hx hb hdg hy (k1 _ _ _ _ rfl _ _ _ hP hS hl)
  | irem =>
    have hopZ := gd_some hop
    clear hop
    obtain ⟨rfl, hop⟩ := hopZ
    have hopZ := s2i_some hop
    clear hop
    obtain ⟨x, y, r', rfl, hop⟩ := hopZ
    have hopZ := gd_some hop
    clear hop
    obtain ⟨hy, hop⟩ := hopZ
    cases hop
    exact lv_irem hx hb hdg hy (k1 _ _ _ _ rfl _ _ _ hP hS hl)
  | ineg =>
    have hopZ := gd_some hop
    clear hop
    obtain ⟨rfl, hop⟩ := hopZ
    have hopZ := s1i_some hop
    clear hop
    obtain ⟨x, r', rfl, hop⟩ := hopZ
    cases hop
    exact lv_ineg hx hb hdg (k1 _ _ _ _ rfl _ _ _ hP hS hl)
  | ladd =>
    have hopZ := gd_some hop
    clear hop
    obtain ⟨rfl, hop⟩ := hopZ
    have hopZ := s2l_some hop
    clear hop
    obtain ⟨x, y, r', rfl, hop⟩ := hopZ
    cases hop
    exact lv_ladd hx hb hdg (k1 _ _ _ _ rfl _ _ _ hP hS hl)
  | lmul =>
    have hopZ := gd_some hop
    clear hop
    obtain ⟨rfl, hop⟩ := hopZ
    have hopZ := s2l_some hop
    clear hop
    obtain ⟨x, y, r', rfl, hop⟩ := hopZ
    cases hop
    exact lv_lmul hx hb hdg (k1 _ _ _ _ rfl _ _ _ hP hS hl)
  | land =>
    have hopZ := gd_some hop
    clear hop
    obtain ⟨rfl, hop⟩ := hopZ
    have hopZ := s2l_some hop
    clear hop
    obtain ⟨x, y, r', rfl, hop⟩ := hopZ
    cases hop
    exact lv_land hx hb hdg (k1 _ _ _ _ rfl _ _ _ hP hS hl)
  | ldiv =>
    have hopZ := gd_some hop
    clear hop
    obtain ⟨rfl, hop⟩ := hopZ
    have hopZ := s2l_some hop
    clear hop
    obtain ⟨x, y, r', rfl, hop⟩ := hopZ
    have hopZ := gd_some hop
    clear hop
    obtain ⟨hy, hop⟩ := hopZ
    cases hop
    exact lv_ldiv hx hb hdg hy (k1 _ _ _ _ rfl _ _ _ hP hS hl)
  | lcmp =>
    have hopZ := gd_some hop
    clear hop
    obtain ⟨rfl, hop⟩ := hopZ
    have hopZ := s2l_some hop
    clear hop
    obtain ⟨x, y, r', rfl, hop⟩ := hopZ
    cases hop
    exact W.lcmp hx hb hdg (k1 _ _ _ _ rfl _ _ _ hP hS hl)
  | lushr =>
    have hopZ := gd_some hop
    clear hop
    obtain ⟨rfl, hop⟩ := hopZ
    have hopZ := sil_some hop
    clear hop
    obtain ⟨x, y, r', rfl, hop⟩ := hopZ
    cases hop
    exact lv_lushr hx hb hdg rfl (k1 _ _ _ _ rfl _ _ _ hP hS hl)
  | lshr =>
    have hopZ := gd_some hop
    clear hop
    obtain ⟨rfl, hop⟩ := hopZ
    have hopZ := sil_some hop
    clear hop
    obtain ⟨x, y, r', rfl, hop⟩ := hopZ
    cases hop
    exact lv_lshr hx hb hdg rfl (k1 _ _ _ _ rfl _ _ _ hP hS hl)
  | i2l =>
    have hopZ := gd_some hop
    clear hop
    obtain ⟨rfl, hop⟩ := hopZ
    have hopZ := s1i_some hop
    clear hop
    obtain ⟨x, r', rfl, hop⟩ := hopZ
    cases hop
    exact lv_i2l hx hb hdg rfl (k1 _ _ _ _ rfl _ _ _ hP hS hl)
  | l2i =>
    have hopZ := gd_some hop
    clear hop
    obtain ⟨rfl, hop⟩ := hopZ
    have hopZ := s1l_some hop
    clear hop
    obtain ⟨x, r', rfl, hop⟩ := hopZ
    cases hop
    exact lv_l2i hx hb hdg rfl (k1 _ _ _ _ rfl _ _ _ hP hS hl)
  | i2b =>
    have hopZ := gd_some hop
    clear hop
    obtain ⟨rfl, hop⟩ := hopZ
    have hopZ := s1i_some hop
    clear hop
    obtain ⟨x, r', rfl, hop⟩ := hopZ
    cases hop
    exact lv_i2b hx hb hdg rfl (k1 _ _ _ _ rfl _ _ _ hP hS hl)
  | i2s =>
    have hopZ := gd_some hop
    clear hop
    obtain ⟨rfl, hop⟩ := hopZ
    have hopZ := s1i_some hop
    clear hop
    obtain ⟨x, r', rfl, hop⟩ := hopZ
    cases hop
    exact lv_i2s hx hb hdg rfl (k1 _ _ _ _ rfl _ _ _ hP hS hl)
  | i2c =>
    have hopZ := gd_some hop
    clear hop
    obtain ⟨rfl, hop⟩ := hopZ
    have hopZ := s1i_some hop
    clear hop
    obtain ⟨x, r', rfl, hop⟩ := hopZ
    cases hop
    exact lv_i2c hx hb hdg rfl (k1 _ _ _ _ rfl _ _ _ hP hS hl)
  | dup =>
    have hopZ := gd_some hop
    clear hop
    obtain ⟨rfl, hop⟩ := hopZ
    have hopZ := sany_some hop
    clear hop
    obtain ⟨v, r', rfl, hop⟩ := hopZ
    have hopZ := gd_some hop
    clear hop
    obtain ⟨hv, hop⟩ := hopZ
    cases hop
    exact lv_dup hx hb hdg (by rw [mv_cat hF]; exact hv) (k1 _ _ _ _ rfl _ _ _ hP hS hl)
  | pop =>
    have hopZ := gd_some hop
    clear hop
    obtain ⟨rfl, hop⟩ := hopZ
    have hopZ := sany_some hop
    clear hop
    obtain ⟨v, r', rfl, hop⟩ := hopZ
    have hopZ := gd_some hop
    clear hop
    obtain ⟨hv, hop⟩ := hopZ
    cases hop
    exact lv_pop hx hb hdg (by rw [mv_cat hF]; exact hv) (k1 _ _ _ _ rfl _ _ _ hP hS hl)
  | dup2 =>
    have hopZ := gd_some hop
    clear hop
    obtain ⟨rfl, hop⟩ := hopZ
    have hopZ := sany_some hop
    clear hop
    obtain ⟨v, r1, rfl, hop⟩ := hopZ
    have hopZ := sany_some hop
    clear hop
    obtain ⟨w, r', rfl, hop⟩ := hopZ
    have hopZ := gd_some hop
    clear hop
    obtain ⟨⟨hv, hw⟩, hop⟩ := hopZ
    cases hop
    exact lv_dup2_11 hx hb hdg (by rw [mv_cat hF]; exact hv) (by rw [mv_cat hF]; exact hw) (k1 _ _ _ _ rfl _ _ _ hP hS hl)
  | goto off =>
    have hopZ := gd_some hop
    clear hop
    obtain ⟨rfl, hop⟩ := hopZ
    have hopZ := Option.bind_eq_some_iff.mp hop
    clear hop
    obtain ⟨t, ht, hop⟩ := hopZ
    cases hop
    exact lv_goto hx hb hdg (tgt_some ht) (k1 _ _ _ _ rfl _ _ _ hP hS hl)
  | ifCond cn off =>
    have hopZ := gd_some hop
    clear hop
    obtain ⟨rfl, hop⟩ := hopZ
    have hopZ := Option.bind_eq_some_iff.mp hop
    clear hop
    obtain ⟨t, ht, hop⟩ := hopZ
    have hopZ := s1i_some hop
    clear hop
    obtain ⟨x, r', rfl, hop⟩ := hopZ
    cases hop
    cases cn with
    | eq =>
      refine lv_if_eq hx hb hdg (tgt_some ht) (fun hc => ?_) (fun hc => ?_)
      · exact k1 _ _ _ _ (by rw [if_pos (show cnd .eq _ _ = true from decide_eq_true hc)]) _ _ _ hP hS hl
      · exact k1 _ _ _ _ (by rw [if_neg (show ¬ cnd .eq _ _ = true from fun h => hc (of_decide_eq_true h))]) _ _ _ hP hS hl
    | ne =>
      refine lv_if_ne hx hb hdg (tgt_some ht) (fun hc => ?_) (fun hc => ?_)
      · exact k1 _ _ _ _ (by rw [if_pos (show cnd .ne _ _ = true from decide_eq_true hc)]) _ _ _ hP hS hl
      · exact k1 _ _ _ _ (by rw [if_neg (show ¬ cnd .ne _ _ = true from fun h => (of_decide_eq_true h) hc)]) _ _ _ hP hS hl
    | lt =>
      refine lv_if_lt hx hb hdg (tgt_some ht) (fun hc => ?_) (fun hc => ?_)
      · exact k1 _ _ _ _ (by rw [if_pos (show cnd .lt _ _ = true from decide_eq_true hc)]) _ _ _ hP hS hl
      · exact k1 _ _ _ _ (by rw [if_neg (show ¬ cnd .lt _ _ = true from fun h => hc (of_decide_eq_true h))]) _ _ _ hP hS hl
    | ge =>
      refine lv_if_ge hx hb hdg (tgt_some ht) (fun hc => ?_) (fun hc => ?_)
      · exact k1 _ _ _ _ (by rw [if_pos (show cnd .ge _ _ = true from decide_eq_true hc)]) _ _ _ hP hS hl
      · exact k1 _ _ _ _ (by rw [if_neg (show ¬ cnd .ge _ _ = true from fun h => hc (of_decide_eq_true h))]) _ _ _ hP hS hl
    | gt =>
      refine lv_if_gt hx hb hdg (tgt_some ht) (fun hc => ?_) (fun hc => ?_)
      · exact k1 _ _ _ _ (by rw [if_pos (show cnd .gt _ _ = true from decide_eq_true hc)]) _ _ _ hP hS hl
      · exact k1 _ _ _ _ (by rw [if_neg (show ¬ cnd .gt _ _ = true from fun h => hc (of_decide_eq_true h))]) _ _ _ hP hS hl
    | le =>
      refine lv_if_le hx hb hdg (tgt_some ht) (fun hc => ?_) (fun hc => ?_)
      · exact k1 _ _ _ _ (by rw [if_pos (show cnd .le _ _ = true from decide_eq_true hc)]) _ _ _ hP hS hl
      · exact k1 _ _ _ _ (by rw [if_neg (show ¬ cnd .le _ _ = true from fun h => hc (of_decide_eq_true h))]) _ _ _ hP hS hl
  | if_icmp cn off =>
    have hopZ := gd_some hop
    clear hop
    obtain ⟨rfl, hop⟩ := hopZ
    have hopZ := Option.bind_eq_some_iff.mp hop
    clear hop
    obtain ⟨t, ht, hop⟩ := hopZ
    have hopZ := s2i_some hop
    clear hop
    obtain ⟨x, y, r', rfl, hop⟩ := hopZ
    cases hop
    cases cn with
    | eq =>
      refine lv_icmp_eq hx hb hdg (tgt_some ht) (fun hc => ?_) (fun hc => ?_)
      · exact k1 _ _ _ _ (by rw [if_pos (show cnd .eq _ _ = true from decide_eq_true hc)]) _ _ _ hP hS hl
      · exact k1 _ _ _ _ (by rw [if_neg (show ¬ cnd .eq _ _ = true from fun h => hc (of_decide_eq_true h))]) _ _ _ hP hS hl
    | ne =>
      refine lv_icmp_ne hx hb hdg (tgt_some ht) (fun hc => ?_) (fun hc => ?_)
      · exact k1 _ _ _ _ (by rw [if_pos (show cnd .ne _ _ = true from decide_eq_true hc)]) _ _ _ hP hS hl
      · exact k1 _ _ _ _ (by rw [if_neg (show ¬ cnd .ne _ _ = true from fun h => (of_decide_eq_true h) hc)]) _ _ _ hP hS hl
    | lt =>
      refine lv_icmp_lt hx hb hdg (tgt_some ht) (fun hc => ?_) (fun hc => ?_)
      · exact k1 _ _ _ _ (by rw [if_pos (show cnd .lt _ _ = true from decide_eq_true hc)]) _ _ _ hP hS hl
      · exact k1 _ _ _ _ (by rw [if_neg (show ¬ cnd .lt _ _ = true from fun h => hc (of_decide_eq_true h))]) _ _ _ hP hS hl
    | ge =>
      refine lv_icmp_ge hx hb hdg (tgt_some ht) (fun hc => ?_) (fun hc => ?_)
      · exact k1 _ _ _ _ (by rw [if_pos (show cnd .ge _ _ = true from decide_eq_true hc)]) _ _ _ hP hS hl
      · exact k1 _ _ _ _ (by rw [if_neg (show ¬ cnd .ge _ _ = true from fun h => hc (of_decide_eq_true h))]) _ _ _ hP hS hl
    | gt =>
      refine lv_icmp_gt hx hb hdg (tgt_some ht) (fun hc => ?_) (fun hc => ?_)
      · exact k1 _ _ _ _ (by rw [if_pos (show cnd .gt _ _ = true from decide_eq_true hc)]) _ _ _ hP hS hl
      · exact k1 _ _ _ _ (by rw [if_neg (show ¬ cnd .gt _ _ = true from fun h => hc (of_decide_eq_true h))]) _ _ _ hP hS hl
    | le =>
      refine lv_icmp_le hx hb hdg (tgt_some ht) (fun hc => ?_) (fun hc => ?_)
      · exact k1 _ _ _ _ (by rw [if_pos (show cnd .le _ _ = true from decide_eq_true hc)]) _ _ _ hP hS hl
      · exact k1 _ _ _ _ (by rw [if_neg (show ¬ cnd .le _ _ = true from fun h => hc (of_decide_eq_true h))]) _ _ _ hP hS hl
  | tableswitch df lo hi offs =>
    have hopZ := s1i_some hop
    clear hop
    obtain ⟨x, r', rfl, hop⟩ := hopZ
    have hopZ := Option.bind_eq_some_iff.mp hop
    clear hop
    obtain ⟨off, hoff, hop⟩ := hopZ
    have hopZ := Option.bind_eq_some_iff.mp hop
    clear hop
    obtain ⟨t, ht, hop⟩ := hopZ
    cases hop
    unfold tsw at hoff
    by_cases hc : x.toInt < lo ∨ hi < x.toInt
    · rw [if_pos hc] at hoff
      cases hoff
      exact lv_tableOut hx hb hdg hc (tgt_some ht) (k1 _ _ _ _ rfl _ _ _ hP hS hl)
    · rw [if_neg hc] at hoff
      exact lv_tableIn hx hb hdg (fun h => hc (Or.inl h)) (fun h => hc (Or.inr h)) hoff (tgt_some ht) (k1 _ _ _ _ rfl _ _ _ hP hS hl)
  | lookupswitch df ps =>
    have hopZ := gd_some hop
    clear hop
    obtain ⟨hp, hop⟩ := hopZ
    have hopZ := s1i_some hop
    clear hop
    obtain ⟨x, r', rfl, hop⟩ := hopZ
    have hopZ := Option.bind_eq_some_iff.mp hop
    clear hop
    obtain ⟨t, ht, hop⟩ := hopZ
    cases hop
    exact lv_lookup hx hb hdg hp rfl (tgt_some ht) (k1 _ _ _ _ rfl _ _ _ hP hS hl)
  | getfield i =>
    have hopZ := gd_some hop
    clear hop
    obtain ⟨rfl, hop⟩ := hopZ
    have hopZ := s1r_some hop
    clear hop
    obtain ⟨a, r', rfl, hop⟩ := hopZ
    have hopZ := Option.bind_eq_some_iff.mp hop
    clear hop
    obtain ⟨q, hq, hop⟩ := hopZ
    have hopZ := gd_some hop
    clear hop
    obtain ⟨hob, hop⟩ := hopZ
    have hw := tbAll_at fld_ok hq
    obtain ⟨cq, kq, pl⟩ := q
    by_cases ha : a < 104
    · rw [if_pos ha] at hop
      cases hop
      obtain ⟨h1, h2⟩ := obk_lt hob ha
      simp only at h1 h2
      simp only [fldC, h2, if_true, Bool.and_eq_true, decide_eq_true_eq] at hw
      have he := wsW_at (g := g) (σ := σ) ha
      rw [celR_obj (by rw [h1]; exact h2), h1] at he
      have hn := (shp_n a ha).1 (by rw [h1]; exact h2)
      rw [h1] at hn
      refine va_get (v := mv g (fv σ a cq kq)) (C := Rn cq) (T := Tn cq) (N := Nn cq) hx hb hts (lay_good cq h2) hown hK hP a he (vwCl_at cq h2) kq hw.1 (hts _ (gdW_in hw.2)) (fun _ h => h) ?_ hdg (k1 _ _ _ _ rfl _ _ _ hP hS hl)
      rw [List.getElem?_map, List.getElem?_range (by rw [hn]; exact hw.1)]
      rfl
    · rw [if_neg ha] at hop
      obtain ⟨h1, h2, h3⟩ := obk_ge hob ha
      simp only at h1
      subst h1
      simp only [fldC, show ¬ (9 < 9) by omega, if_false] at hw
      obtain ⟨j, rfl⟩ : ∃ j : Nat, a = (110 + j : Nat) := ⟨a - 110, by omega⟩
      have hs := hST.2.1 j (by omega)
      by_cases hk : kq = 0
      · subst hk
        simp only [if_true] at hop hw
        cases hop
        have e1 : 110 + j + 12 = 122 + j := by omega
        refine vk_getf hx hb hs.2.2.1 hS hown (hts _ (gdW_in hw)) (fun _ h => h) hdg ?_
        have := k1 _ _ _ _ rfl ls H locs hP hS hl
        rw [e1] at this
        exact this
      · simp only [if_neg hk] at hop hw
        cases hop
        simp only [Bool.and_eq_true, decide_eq_true_eq] at hw
        exact vk_getf hx hb hs.2.1 hS hown (hts _ (gdW_in hw.2)) (fun _ h => h) hdg (k1 _ _ _ _ rfl _ _ _ hP hS hl)
  | putfield i =>
    have hopZ := gd_some hop
    clear hop
    obtain ⟨rfl, hop⟩ := hopZ
    have hopZ := sany_some hop
    clear hop
    obtain ⟨v, r1, rfl, hop⟩ := hopZ
    have hopZ := s1r_some hop
    clear hop
    obtain ⟨a, r', rfl, hop⟩ := hopZ
    have hopZ := Option.bind_eq_some_iff.mp hop
    clear hop
    obtain ⟨q, hq, hop⟩ := hopZ
    have hopZ := gd_some hop
    clear hop
    obtain ⟨⟨ha, h1⟩, hop⟩ := hopZ
    have hw := tbAll_at fld_ok hq
    have h9 := tbAll_at fld_9 hq
    obtain ⟨cq, kq, pl⟩ := q
    simp only at h1 hop
    simp only [decide_eq_true_eq] at h9
    have h2 : cq < 9 := by
      rcases (shp_n a ha).2 with h | h <;> omega
    simp only [fldC, h2, if_true, Bool.and_eq_true, decide_eq_true_eq] at hw
    have he := wsW_at (g := g) (σ := σ) ha
    rw [celR_obj (by rw [h1]; exact h2), h1] at he
    have hn := (shp_n a ha).1 (by rw [h1]; exact h2)
    rw [h1] at hn
    have key : ∀ (σ' : Hs) (w : Value), (∀ b, b ≠ a → σ' b = σ b) → mv g (fv σ' a cq kq) = w → (∀ j, j ≠ kq → fv σ' a cq j = fv σ a cq j) → (wsW g σ).set a (g.1 a, .inr (cq, ((List.range (shp a).2).map fun k => mv g (fv (fun _ => σ a) a cq k)).set kq w)) = wsW g σ' := by
      intro σ' w e1 e2 e3
      rw [← wsW_set e1, celR_obj (by rw [h1]; exact h2), h1]
      congr 3
      apply congrArg
      apply List.ext_getElem?
      intro j
      by_cases hj : j < (shp a).2
      · by_cases hjk : j = kq
        · subst hjk
          rw [List.getElem?_set_self (by simpa using hj), List.getElem?_map, List.getElem?_range hj]
          exact congrArg some e2.symm
        · rw [List.getElem?_set_ne (Ne.symm hjk), List.getElem?_map, List.getElem?_map, List.getElem?_range hj]
          exact congrArg some (congrArg (mv g) (e3 j hjk).symm)
      · rw [List.getElem?_eq_none (by simpa using hj), List.getElem?_eq_none (by simpa using hj)]
    have len0 : kq < ((List.range (shp a).2).map fun k => mv g (fv (fun _ => σ a) a cq k)).length := by
      rw [List.length_map, List.length_range, hn]; exact hw.1
    cases v with
    | int x =>
      have hopZ := gd_some hop
      clear hop
      obtain ⟨⟨hfk, hnar, hfit⟩, hop⟩ := hopZ
      cases hop
      have e2 : mv g (fv (up2 σ a kq x) a cq kq) = .int x := by
        unfold fv
        rw [if_neg (by omega), if_neg (by omega)]
        show Value.int (up2 σ a kq x a kq) = _
        rw [up2, if_pos ⟨rfl, rfl⟩]
      have e3 : ∀ j, j ≠ kq → fv (up2 σ a kq x) a cq j = fv σ a cq j := by
        intro j hj
        have : up2 σ a kq x a j = σ a j := by rw [up2, if_neg (fun h => hj h.2)]
        unfold fv
        rw [this]
      refine va_put (v := .int x) (ty := fty cq kq) (C := Rn cq) (T := Tn cq) (N := Nn cq) hx hb hts (lay_good cq h2) (fty cq) (fty_ok cq h2) (nm_n cq h2) hown hK hP hD hS a he (vwCl_at cq h2) kq hw.1 (hts _ (gdW_in hw.2)) (fun _ h => h) (fk_fin cq h2 kq hw.1 (by omega)) (fty_ok cq h2 kq hw.1) hnar hfit len0 hdg (fun H1 locs1 hP1 hD1 hS1 => ?_)
      rw [key _ _ (fun b hb => up2_ne hb) e2 e3] at hP1
      exact k1 _ _ _ _ rfl _ _ _ hP1 hS1 hl
    | ref b =>
      have hopZ := gd_some hop
      clear hop
      obtain ⟨⟨hfk, hb31⟩, hop⟩ := hopZ
      cases hop
      have e2 : mv g (fv (up2 σ a kq (Int32.ofNat b)) a cq kq) = .ref (g.1 b) := by
        unfold fv
        rw [if_neg (by omega), if_pos hfk]
        show Value.ref (g.1 (up2 σ a kq (Int32.ofNat b) a kq).toNatClampNeg) = _
        rw [up2, if_pos ⟨rfl, rfl⟩]
        rw [show (Int32.ofNat b).toNatClampNeg = b from nI_clamp hb31]
      have e3 : ∀ j, j ≠ kq → fv (up2 σ a kq (Int32.ofNat b)) a cq j = fv σ a cq j := by
        intro j hj
        have : up2 σ a kq (Int32.ofNat b) a j = σ a j := by rw [up2, if_neg (fun h => hj h.2)]
        unfold fv
        rw [this]
      have hty := fk_ref cq h2 kq hw.1 hfk
      have hnar : narrow (fty cq kq) (.ref (g.1 b)) = .ref (g.1 b) := by rcases hty with h | h <;> rw [h] <;> rfl
      have hfit : fits (fty cq kq) (.ref (g.1 b)) = true := by rcases hty with h | h <;> rw [h] <;> rfl
      refine va_put (v := .ref (g.1 b)) (ty := fty cq kq) (C := Rn cq) (T := Tn cq) (N := Nn cq) hx hb hts (lay_good cq h2) (fty cq) (fty_ok cq h2) (nm_n cq h2) hown hK hP hD hS a he (vwCl_at cq h2) kq hw.1 (hts _ (gdW_in hw.2)) (fun _ h => h) (fk_fin cq h2 kq hw.1 (by omega)) (fty_ok cq h2 kq hw.1) hnar hfit len0 hdg (fun H1 locs1 hP1 hD1 hS1 => ?_)
      rw [key _ _ (fun b hb => up2_ne hb) e2 e3] at hP1
      exact k1 _ _ _ _ rfl _ _ _ hP1 hS1 hl
    | long x => cases hop
    | float x => cases hop
    | double x => cases hop
    | null => cases hop
    | retAddr x => cases hop
  | getstatic i =>
    have hopZ := gd_some hop
    clear hop
    obtain ⟨rfl, hop⟩ := hopZ
    have hopZ := Option.bind_eq_some_iff.mp hop
    clear hop
    obtain ⟨q, hq, hop⟩ := hopZ
    cases hop
    have hw := tbAll_at stt_ok hq
    obtain ⟨kq, pl⟩ := q
    have k1' := k1 _ _ _ _ rfl ls H locs hP hS hl
    simp only [sttC] at hw
    by_cases h200 : kq = 200
    · subst h200
      simp only [if_true] at hw
      exact va_gets hx hb hST.2.2.1 hS hown (hts _ (gdW_in hw)) (fun _ h => h) hdg k1'
    · simp only [if_neg h200] at hw
      by_cases h201 : kq = 201
      · subst h201
        simp only [if_true] at hw
        exact va_gets hx hb hST.2.2.2.1 hS hown (hts _ (gdW_in hw)) (fun _ h => h) hdg k1'
      · simp only [if_neg h201, Bool.and_eq_true, decide_eq_true_eq] at hw
        obtain ⟨⟨ha, hb2⟩, hw⟩ := hw
        obtain ⟨j, rfl⟩ : ∃ j : Nat, kq = (104 + j : Nat) := ⟨kq - 104, by omega⟩
        have hs := (hST.1 j (by omega)).1
        rw [show 104 + j - 104 = j by omega] at hw
        have ev : (stv (104 + j) :: st).map (mv g) = .ref (g.1 (104 + j)) :: st.map (mv g) := by
          unfold stv
          rw [if_neg h200, if_neg h201]
          rfl
        rw [ev] at k1'
        by_cases hpl : pl < 2000
        · simp only [hpl, if_true] at hw
          exact va_gets hx hb hs hS hown (hts _ (gdW_in hw)) (fun _ h => h) hdg k1'
        · simp only [hpl, if_false] at hw
          exact va_getsN hx hb hs hS hown (va_Nw.use (A := args) rfl (hST.2.2.2.2.2 _ (nsW_in hw))) (fun _ h => h) hdg k1'
  | ldc i =>
    have hopZ := gd_some hop
    clear hop
    obtain ⟨rfl, hop⟩ := hopZ
    have hopZ := Option.bind_eq_some_iff.mp hop
    clear hop
    obtain ⟨q, hq, hop⟩ := hopZ
    cases hop
    have hw := tbAll_at ldc_ok hq
    obtain ⟨vq, pl⟩ := q
    have k1' := k1 _ _ _ _ rfl ls H locs hP hS hl
    cases vq with
    | int x =>
      simp only [ldcC, Bool.and_eq_true] at hw
      exact lv_ldc hx hb hown (hts _ (gdW_in hw.2)) hdg k1'
    | ref a =>
      simp only [ldcC, decide_eq_true_eq] at hw
      obtain ⟨h1, h2, h3, h4, h5⟩ := hw
      obtain ⟨j, rfl⟩ : ∃ j : Nat, pl = (3000 + j : Nat) := ⟨pl - 3000, by omega⟩
      rw [show 3000 + j - 3000 = j by omega] at h3 h4 h5
      have hs := (hST.2.1 j (by omega)).2.2.2.2
      rw [h4, h5] at hs
      subst h3
      exact va_ldcS hx hb hown hs hdg k1'
    | long x => simp [ldcC] at hw
    | float x => simp [ldcC] at hw
    | double x => simp [ldcC] at hw
    | null => simp [ldcC] at hw
    | retAddr x => simp [ldcC] at hw
  | ldc_w i =>
    have hopZ := gd_some hop
    clear hop
    obtain ⟨rfl, hop⟩ := hopZ
    have hopZ := Option.bind_eq_some_iff.mp hop
    clear hop
    obtain ⟨q, hq, hop⟩ := hopZ
    have hw := tbAll_at ldc_ok hq
    obtain ⟨vq, pl⟩ := q
    cases vq with
    | int x =>
      cases hop
      simp only [ldcC, Bool.and_eq_true] at hw
      exact lv_ldcw hx hb hown (hts _ (gdW_in hw.2)) hdg (k1 _ _ _ _ rfl _ _ _ hP hS hl)
    | ref a => cases hop
    | long x => cases hop
    | float x => cases hop
    | double x => cases hop
    | null => cases hop
    | retAddr x => cases hop
  | ldc2_w i =>
    have hopZ := gd_some hop
    clear hop
    obtain ⟨rfl, hop⟩ := hopZ
    have hopZ := Option.bind_eq_some_iff.mp hop
    clear hop
    obtain ⟨q, hq, hop⟩ := hopZ
    cases hop
    have hw := tbAll_at ld2_ok hq
    exact lv_ldc2 hx hb hown (hts _ (gdW_in hw)) hdg (k1 _ _ _ _ rfl _ _ _ hP hS hl)
  | arraylength =>
    have hopZ := gd_some hop
    clear hop
    obtain ⟨rfl, hop⟩ := hopZ
    have hopZ := s1r_some hop
    clear hop
    obtain ⟨a, r', rfl, hop⟩ := hopZ
    by_cases ha4 : a < 104
    · rw [if_pos ha4] at hop
      have hopZ := gd_some hop
      clear hop
      obtain ⟨h10, hop⟩ := hopZ
      cases hop
      have he := wsW_at (g := g) (σ := σ) ha4
      rw [celR_arr (Or.inl h10), h10] at he
      exact va_alen hx hb hK hP a 0 he (tW_10 g) rfl hdg (k1 _ _ _ _ rfl _ _ _ hP hS hl)
    · rw [if_neg ha4] at hop
      have hopZ := gd_some hop
      clear hop
      obtain ⟨ha, hop⟩ := hopZ
      cases hop
      obtain ⟨j, rfl⟩ : ∃ j : Nat, a = (122 + j : Nat) := ⟨a - 122, by omega⟩
      have hs := (hST.2.1 j (by omega)).2.2.2.1
      rw [show 122 + j - 122 = j by omega] at k1
      exact va_tlen hx hb hs hS rfl hdg (k1 _ _ _ _ rfl _ _ _ hP hS hl)
  | iaload =>
    have hopZ := gd_some hop
    clear hop
    obtain ⟨rfl, hop⟩ := hopZ
    have hopZ := sir_some hop
    clear hop
    obtain ⟨a, i, r', rfl, hop⟩ := hopZ
    have hopZ := gd_some hop
    clear hop
    obtain ⟨⟨hia, hin⟩, hop⟩ := hopZ
    cases hop
    by_cases ha : a < 104
    · have h10 : (shp a).1 = 10 := by
        simp only [isIA, Bool.or_eq_true, Bool.and_eq_true, decide_eq_true_eq, beq_iff_eq] at hia
        rcases hia with h | h
        · exact h
        · omega
      have he := wsW_at (g := g) (σ := σ) ha
      rw [celR_arr (Or.inl h10), h10] at he
      have e1 : aln a = (shp a).2 := by unfold aln; rw [if_pos ha]
      have e2 : rdA σ a i.toNatClampNeg = σ a i.toNatClampNeg := by unfold rdA; rw [if_pos ha]
      rw [e1] at hin
      rw [e2] at k1
      exact va_iald hx hb hK hP a 0 he (tW_10 g) hin hdg (k1 _ _ _ _ rfl _ _ _ hP hS hl)
    · have hia2 : 104 ≤ a ∧ a < 110 := by
        simp only [isIA, Bool.or_eq_true, Bool.and_eq_true, decide_eq_true_eq, beq_iff_eq] at hia
        rcases hia with h | h
        · exfalso
          have : shp a = (99, 0) := by
            unfold shp
            rw [List.getD_eq_getElem?_getD, List.getElem?_eq_none (by have : shpT.length = 104 := by decide +kernel
                                                                      omega)]
            rfl
          rw [this] at h
          cases h
        · exact h
      obtain ⟨j, rfl⟩ : ∃ j : Nat, a = (104 + j : Nat) := ⟨a - 104, by omega⟩
      have e1 : aln (104 + j) = (stbT.getD j []).length := by unfold aln; rw [if_neg ha, show 104 + j - 104 = j by omega]
      have e2 : rdA σ (104 + j) i.toNatClampNeg = (stbT.getD j []).getD i.toNatClampNeg 0 := by unfold rdA; rw [if_neg ha, show 104 + j - 104 = j by omega]
      rw [e1] at hin
      rw [e2] at k1
      exact va_ti hx hb (hST.1 j (by omega)).2 hS hin rfl hdg (k1 _ _ _ _ rfl _ _ _ hP hS hl)
  | baload =>
    have hopZ := gd_some hop
    clear hop
    obtain ⟨rfl, hop⟩ := hopZ
    have hopZ := sir_some hop
    clear hop
    obtain ⟨a, i, r', rfl, hop⟩ := hopZ
    by_cases ha : a < 104
    · rw [if_pos ha] at hop
      have hopZ := gd_some hop
      clear hop
      obtain ⟨⟨h11, hin⟩, hop⟩ := hopZ
      cases hop
      have he := wsW_at (g := g) (σ := σ) ha
      rw [celR_arr (Or.inr h11), h11] at he
      exact va_zald hx hb hK hP a 1 he (tW_11 g) hin hdg (k1 _ _ _ _ rfl _ _ _ hP hS hl)
    · rw [if_neg ha] at hop
      have hopZ := gd_some hop
      clear hop
      obtain ⟨⟨h11, hin⟩, hop⟩ := hopZ
      cases hop
      obtain ⟨j, rfl⟩ : ∃ j : Nat, a = (122 + j : Nat) := ⟨a - 122, by omega⟩
      have hs := (hST.2.1 j (by omega)).2.2.2.1
      rw [show 122 + j - 122 = j by omega] at hin k1
      exact va_tb hx hb hs hS hin rfl hdg (k1 _ _ _ _ rfl _ _ _ hP hS hl)
  | aaload =>
    have hopZ := gd_some hop
    clear hop
    obtain ⟨rfl, hop⟩ := hopZ
    have hopZ := sir_some hop
    clear hop
    obtain ⟨a, i, r', rfl, hop⟩ := hopZ
    have hopZ := gd_some hop
    clear hop
    obtain ⟨⟨ha, ⟨h1, h2⟩, hin⟩, hop⟩ := hopZ
    cases hop
    have he := wsW_at (g := g) (σ := σ) ha
    rw [celR_ref h1] at he
    have h3 : (shp a).1 = 12 ∨ (shp a).1 = 13 ∨ (shp a).1 = 14 := by omega
    rcases h3 with h3 | h3 | h3 <;> rw [h3] at he
    · exact va_aldq (C := "SmokyHeap$Row") hx hb hK hP a 2 he rfl hin hdg (k1 _ _ _ _ rfl _ _ _ hP hS hl)
    · exact va_aldq (C := "SmokyHeap$Sheet") hx hb hK hP a 3 he rfl hin hdg (k1 _ _ _ _ rfl _ _ _ hP hS hl)
    · exact va_aldq (C := "java/lang/String") hx hb hK hP a 4 he rfl hin hdg (k1 _ _ _ _ rfl _ _ _ hP hS hl)
  | iastore =>
    have hopZ := gd_some hop
    clear hop
    obtain ⟨rfl, hop⟩ := hopZ
    have hopZ := siir_some hop
    clear hop
    obtain ⟨a, i, x, r', rfl, hop⟩ := hopZ
    have hopZ := gd_some hop
    clear hop
    obtain ⟨⟨ha, h10, hin⟩, hop⟩ := hopZ
    cases hop
    have he := wsW_at (g := g) (σ := σ) ha
    rw [celR_arr (Or.inl h10), h10] at he
    refine va_iast hx hb hK hP hD hS a 0 he (tW_10 g) hin hdg (fun H1 locs1 hP1 hD1 hS1 => k1 _ _ _ _ rfl _ _ _ ?_ hS1 hl)
    have e := wsW_set (g := g) (σ := σ) (σ' := up2 σ a i.toNatClampNeg x) (o := a) (fun b hb => up2_ne hb)
    rw [celR_arr (Or.inl h10), h10, up2_self] at e
    rw [← e]
    exact hP1
  | bastore =>
    have hopZ := gd_some hop
    clear hop
    obtain ⟨rfl, hop⟩ := hopZ
    have hopZ := siir_some hop
    clear hop
    obtain ⟨a, i, x, r', rfl, hop⟩ := hopZ
    have hopZ := gd_some hop
    clear hop
    obtain ⟨⟨ha, h11, hin⟩, hop⟩ := hopZ
    cases hop
    have he := wsW_at (g := g) (σ := σ) ha
    rw [celR_arr (Or.inr h11), h11] at he
    refine va_zast hx hb hK hP hD hS a 1 he (tW_11 g) hin hdg (fun H1 locs1 hP1 hD1 hS1 => k1 _ _ _ _ rfl _ _ _ ?_ hS1 hl)
    have e := wsW_set (g := g) (σ := σ) (σ' := up2 σ a i.toNatClampNeg (vp_nar .boolean x)) (o := a) (fun b hb => up2_ne hb)
    rw [celR_arr (Or.inr h11), h11, up2_self] at e
    rw [← e]
    exact hP1
  | invokevirtual i =>
    have hopZ := gd_some hop
    clear hop
    obtain ⟨rfl, hop⟩ := hopZ
    have hopZ := Option.bind_eq_some_iff.mp hop
    clear hop
    obtain ⟨q, hq, hop⟩ := hopZ
    obtain ⟨mj, pl⟩ := q
    simp only at hop
    have hopZ := gd_some hop
    clear hop
    obtain ⟨⟨hmj, hst, hdr⟩, hop⟩ := hopZ
    have hopZ := o1r_some hop
    clear hop
    obtain ⟨a, ho, hop⟩ := hopZ
    have hopZ := gd_some hop
    clear hop
    obtain ⟨hob, hop⟩ := hopZ
    have hopZ := Option.bind_eq_some_iff.mp hop
    clear hop
    obtain ⟨⟨av, σ1⟩, hcl, hop⟩ := hopZ
    cases hop
    simp only at k1
    obtain ⟨As, hAs⟩ : ∃ As : List Value, As = (st.take (mn mj)).reverse := ⟨_, rfl⟩
    have hlt : mn mj < st.length := (List.getElem?_eq_some_iff.mp ho).1
    have hst2 : st = As.reverse ++ .ref a :: st.drop (mn mj + 1) := by
      rw [hAs, List.reverse_reverse]
      have h5 := List.take_append_drop (mn mj) st
      rw [List.drop_eq_getElem_cons hlt] at h5
      rw [(List.getElem?_eq_some_iff.mp ho).2] at h5
      exact h5.symm
    have htk : (st.take (mn mj + 1)).reverse = .ref a :: As := by
      rw [List.take_add_one, ho, hAs]
      simp
    have hlA : As.length = mn mj := by rw [hAs, List.length_reverse, List.length_take]; omega
    rw [htk] at hcl
    have hrd : rmD d = { frames := d, cells := 0, slots := 0, locals := 60 * d } := rfl
    have hA1 := rg_at mthA_ok hmj
    have hI1 := hts _ (gdW_in (rg_at mthI_ok hmj))
    have hD1 := rg_at mthD_ok hmj
    simp only [mthD, Bool.and_eq_true, decide_eq_true_eq] at hD1
    obtain ⟨⟨⟨⟨⟨⟨d1, d2⟩, d3⟩, d4⟩, d5⟩, d6⟩, d7⟩ := hD1
    have hMet := hcall mj _ σ av σ1 hcl hmj g H.size
    have hPc : ∀ U : State, U.heap = H → s.WarmedH U.vm → PR g σ H.size U := fun U hU hW => ⟨by rw [hU], by rw [hU]; exact hP, va_K.moved hW.alike hK, hI, by rw [hU]; exact STA_to hST hS (fun q hq => AA_sub hS.1 q hq) hW⟩
    have hroom : (rmD d).frames + 1 ≤ (rmD (d + 1)).frames ∧ 8 + (ml mj + 11) + (rmD d).locals ≤ (rmD (d + 1)).locals := ⟨Nat.le_refl _, by show 8 + (ml mj + 11) + 60 * d ≤ 60 * (d + 1); omega⟩
    have hS0 : CallFix p m c (mb mi) (ml mi) s args lw_good (ow (mo mi)) := ⟨hx, hb, hml, hown, hts⟩
    have hk := tbAll_at link_ok hq
    simp only [linkC] at hk
    have hmt : (my mj).cls = ow (mo mj) := d1
    simp only [mthA, hst] at hA1
    have hsel := rg_at mthB_ok hmj
    simp only [mthB, hst, Bool.false_or] at hsel
    have hrecv : ∃ cellB : Cell, H[g.1 a]? = some cellB ∧ cellB.vm.isStatics = false ∧ s.vm.findClass (ow (mo mj)) = some cellB.cls := by
      by_cases ha : a < 104
      · obtain ⟨h1, h2⟩ := obk_lt hob ha
        have he := wsW_at (g := g) (σ := σ) ha
        rw [celR_obj (by rw [h1]; exact h2), h1] at he
        have h6 := va_recv hK hP (vwCl_at _ h2) he
        have e6 : Rn (mo mj) = ow (mo mj) := (show ∀ c, c < 9 → Rn c = ow c by decide +kernel) _ h2
        rw [← e6]
        exact h6
      · obtain ⟨h1, h2, h3⟩ := obk_ge hob ha
        obtain ⟨j, rfl⟩ : ∃ j : Nat, a = (110 + j : Nat) := ⟨a - 110, by omega⟩
        obtain ⟨cell, c1, c2, c3, -⟩ := (hST.2.1 j (by omega)).1.kept hS.2.1
        rw [h1]
        exact ⟨cell, c1, c2, c3⟩
    have hrest : 2 * (F0 m pc ls (st.map (mv g))).monitorRoom + (((st.drop (mn mj + 1)).map (mv g)).map fun v => v.category).sum ≤ 8 := lv_room (cat_len hF hdr)
    have hpre : PreV s H (ow (mo mj)) (g.1 a) (va_Pc ((Value.ref a :: As).map (mv g)) (PR g σ H.size)) (As.map (mv g)) := ⟨PR_blind, hrecv, fun U hU hW => ⟨rfl, hPc U hU hW⟩⟩
    have hstk : (F0 m pc ls (st.map (mv g))).stack = (As.map (mv g)).reverse ++ .ref (g.1 a) :: (st.drop (mn mj + 1)).map (mv g) := by
      show st.map (mv g) = _
      conv => lhs; rw [hst2]
      rw [List.map_append, List.map_reverse]
      rfl
    have fin : va_Run p l e (rmD (d + 1)) s m args below meth c H locs 0 0 0 0 (F0 m pc ls (st.map (mv g))) ((st.drop (mn mj + 1)).map (mv g)) (QR g av σ1 H.size (Value.ref (g.1 a) :: As.map (mv g)).toArray) (AA g H.size) := by
      by_cases hpl : pl < 2000
      · simp only [hpl, if_true] at hk
        have hw5 : GoodIn lw_good (wsV (ow (mo mi)) i (ow (mo mj)) (my mj) (mw mj)) := by
          intro w hw
          unfold wsV at hw
          rcases List.mem_append.mp hw with hw | hw
          · simp only [List.mem_cons, List.not_mem_nil, or_false] at hw
            rcases hw with rfl | rfl | rfl | rfl
            · exact ⟨gdW_in hk, Or.inl rfl⟩
            · exact ⟨gdW_in hA1, Or.inl rfl⟩
            · exact ⟨by rw [hmt] at *; exact gdW_in hsel, Or.inl rfl⟩
            · exact ⟨by rw [← hmt]; exact gdW_in (rg_at mthI_ok hmj), Or.inl rfl⟩
          · exact mw_good hmj w hw
        exact va_runV hS0 hMet (cwV (mn mj) hts hw5 rfl rfl rfl ⟨hmt, d3, d4, d5⟩ hroom) hpre rfl (by rw [List.length_map]; exact hlA) hl.1 hstk hrest hdg ⟨Nat.le_refl _, Nat.le_refl _⟩
      · simp only [hpl, if_false] at hk
        exact va_runVN hS0 hMet ⟨va_cnB (mn mj) hts (mw_good hmj) rfl rfl rfl (hST.2.2.2.2.2 _ (nsW_in hk)) hI1 ⟨d3, d4, d5⟩ hroom, hts _ (gdW_in hA1), hts _ (gdW_in hsel)⟩ hpre rfl (by rw [List.length_map]; exact hlA) hl.1 hstk hrest hdg ⟨Nat.le_refl _, Nat.le_refl _⟩
    refine run_call fin hS (fun H1 locs1 hP1 hS1 => ?_)
    have := k1 _ _ _ _ rfl ls H1 locs1 hP1 hS1 hl
    rw [List.map_append] at this
    cases av <;> exact this
  | invokestatic i =>
    have hopZ := gd_some hop
    clear hop
    obtain ⟨rfl, hop⟩ := hopZ
    by_cases hac : (mo mi, i) ∈ acpT
    · rw [if_pos hac] at hop
      split at hop
      rotate_left
      · cases hop
      rename_i n dp a sp b
      have hopZ := gd_some hop
      clear hop
      obtain ⟨⟨ha, hb1, htg, htb, n1, n2, n3, n4, n5, n6⟩, hop⟩ := hopZ
      cases hop
      have hta : (shp b).1 = 10 ∨ (shp b).1 = 11 := by omega
      have hea := wsW_at (g := g) (σ := σ) ha
      have heb := wsW_at (g := g) (σ := σ) hb1
      rw [celR_arr htg] at hea
      rw [celR_arr hta, htb] at heb
      have fin : ∀ (tp : Nat) (ty : FieldType), (tW g)[tp]? = some (g.2.2.1 (shp a).1, ty) → refKind ty = false → (∀ i, i < n.toNatClampNeg → fits ty (.int (σ b (sp.toNatClampNeg + i))) = true) → W p l e (rmD (d + 1)) s m args below meth c H locs 0 0 (MQ below (QR g v0 σ0 s.heap.size) args s 0 0 (AA g s.heap.size)) (F0 m pc ls (.int n :: .int dp :: .ref (g.1 a) :: .int sp :: .ref (g.1 b) :: [])) := by
        intro tp ty h1 h2 h3
        refine va_copyi hx hb (by rw [hml]; exact hl.1.symm) hown (hts _ (acp_in hac)) (hts _ (gdW_in acw_ok.1)) (hts _ (gdW_in acw_ok.2.1)) (hts _ (gdW_in acw_ok.2.2)) hK hP hD hS b a tp tp heb hea h1 h1 h2 n1 n2 n3 n4 n5 h3 (Nat.le_add_left 1 d) ?_ hdg (fun H1 locs1 hP1 hD1 hS1 => k1 _ _ _ _ rfl _ _ _ ?_ hS1 hl)
        · show 0 + (nativeFrameWords "java/lang/System" "arraycopy" 5 + 11) ≤ 60 * (d + 1)
          have : nativeFrameWords "java/lang/System" "arraycopy" 5 = 7 := by decide +kernel
          omega
        · have e5 := wsW_set (g := g) (σ := σ) (σ' := cp2 σ b a sp.toNatClampNeg dp.toNatClampNeg n.toNatClampNeg) (o := a) (fun q hq => cp2_ne hq)
          rw [celR_arr htg, cp2_self] at e5
          rw [← e5]
          exact hP1
      rcases htg with h | h
      · exact fin 0 .int (by rw [h]; rfl) rfl (fun _ _ => rfl)
      · exact fin 1 .boolean (by rw [h]; rfl) rfl (n6 h)
    · rw [if_neg hac] at hop
      have hw9 : ∀ {w : Nat}, w ≤ 15 → ∀ r' : List Value, cats r' ≤ 8 → ((r'.map (mv g)).map fun v => v.category).sum + w ≤ (rmD (d + 1)).locals := by
        intro w hw r' hr'
        have := cat_len2 hF r'
        show _ ≤ 60 * (d + 1)
        omega
      by_cases hmx : (mo mi, i) ∈ mxT
      · rw [if_pos hmx] at hop
        have hopZ := s2i_some hop
        clear hop
        obtain ⟨x, y, r', rfl, hop⟩ := hopZ
        have hopZ := gd_some hop
        clear hop
        obtain ⟨hr8, hop⟩ := hopZ
        cases hop
        exact va_mmax hx hb (by rw [hml]; exact hl.1.symm) hown (hts _ (zp_in (f := fun o i => .methodLink (ow o) i Lib.Math.max.name) mx_ok hmx)) (hts _ (gdW_in mxw_ok.1)) (hts _ (gdW_in mxw_ok.2.2.2)) (hts _ mxc_in) (Nat.le_add_left 1 d) (hw9 (by omega) r' hr8) (Nat.le_refl _) (Nat.le_refl _) hdg (k1 _ _ _ _ rfl _ _ _ hP hS hl)
      rw [if_neg hmx] at hop
      by_cases hmi2 : (mo mi, i) ∈ miT
      · rw [if_pos hmi2] at hop
        have hopZ := s2i_some hop
        clear hop
        obtain ⟨x, y, r', rfl, hop⟩ := hopZ
        have hopZ := gd_some hop
        clear hop
        obtain ⟨hr8, hop⟩ := hopZ
        cases hop
        exact va_mmin hx hb (by rw [hml]; exact hl.1.symm) hown (hts _ (zp_in (f := fun o i => .methodLink (ow o) i Lib.Math.min.name) mi_ok hmi2)) (hts _ (gdW_in mxw_ok.2.1)) (hts _ (gdW_in mxw_ok.2.2.2)) (hts _ mic_in) (Nat.le_add_left 1 d) (hw9 (by omega) r' hr8) (Nat.le_refl _) (Nat.le_refl _) hdg (k1 _ _ _ _ rfl _ _ _ hP hS hl)
      rw [if_neg hmi2] at hop
      by_cases hmj2 : (mo mi, i) ∈ mjT
      · rw [if_pos hmj2] at hop
        have hopZ := s2l_some hop
        clear hop
        obtain ⟨x, y, r', rfl, hop⟩ := hopZ
        have hopZ := gd_some hop
        clear hop
        obtain ⟨hr8, hop⟩ := hopZ
        cases hop
        exact va_mmin_long hx hb (by rw [hml]; exact hl.1.symm) hown (hts _ (zp_in (f := fun o i => .methodLink (ow o) i Lib.MathLoose.min_long.x) mj_ok hmj2)) (hts _ (gdW_in mxw_ok.2.2.1)) (hts _ (gdW_in mxw_ok.2.2.2)) (hts _ mjc_in) (Nat.le_add_left 1 d) (hw9 (by omega) r' hr8) (Nat.le_refl _) (Nat.le_refl _) hdg (k1 _ _ _ _ rfl _ _ _ hP hS hl)
      rw [if_neg hmj2] at hop
      have hopZ := Option.bind_eq_some_iff.mp hop
      clear hop
      obtain ⟨q, hq, hop⟩ := hopZ
      obtain ⟨mj, pl⟩ := q
      simp only at hop
      have hopZ := gd_some hop
      clear hop
      obtain ⟨⟨hmj, hst, hlt, hdr⟩, hop⟩ := hopZ
      have hopZ := Option.bind_eq_some_iff.mp hop
      clear hop
      obtain ⟨⟨av, σ1⟩, hcl, hop⟩ := hopZ
      cases hop
      simp only at k1
      obtain ⟨As, hAs⟩ : ∃ As : List Value, As = (st.take (mn mj)).reverse := ⟨_, rfl⟩
      have hst2 : st = As.reverse ++ st.drop (mn mj) := by
        rw [hAs, List.reverse_reverse]
        exact (List.take_append_drop (mn mj) st).symm
      have hlA : As.length = mn mj := by rw [hAs, List.length_reverse, List.length_take]; omega
      rw [← hAs] at hcl
      have hrd : rmD d = { frames := d, cells := 0, slots := 0, locals := 60 * d } := rfl
      have hA1 := rg_at mthA_ok hmj
      have hI1 := hts _ (gdW_in (rg_at mthI_ok hmj))
      have hD1 := rg_at mthD_ok hmj
      simp only [mthD, Bool.and_eq_true, decide_eq_true_eq] at hD1
      obtain ⟨⟨⟨⟨⟨⟨d1, d2⟩, d3⟩, d4⟩, d5⟩, d6⟩, d7⟩ := hD1
      have hMet := hcall mj _ σ av σ1 hcl hmj g H.size
      have hPc : ∀ U : State, U.heap = H → s.WarmedH U.vm → PR g σ H.size U := fun U hU hW => ⟨by rw [hU], by rw [hU]; exact hP, va_K.moved hW.alike hK, hI, by rw [hU]; exact STA_to hST hS (fun q hq => AA_sub hS.1 q hq) hW⟩
      have hroom : (rmD d).frames + 1 ≤ (rmD (d + 1)).frames ∧ 8 + (ml mj + 11) + (rmD d).locals ≤ (rmD (d + 1)).locals := ⟨Nat.le_refl _, by show 8 + (ml mj + 11) + 60 * d ≤ 60 * (d + 1); omega⟩
      have hS0 : CallFix p m c (mb mi) (ml mi) s args lw_good (ow (mo mi)) := ⟨hx, hb, hml, hown, hts⟩
      have hk := tbAll_at link_ok hq
      simp only [linkC] at hk
      have hmt : (my mj).cls = ow (mo mj) := d1
      simp only [mthA, hst, if_true] at hA1
      have hrest : 2 * (F0 m pc ls (st.map (mv g))).monitorRoom + (((st.drop (mn mj)).map (mv g)).map fun v => v.category).sum ≤ 8 := lv_room (cat_len hF hdr)
      have hpre : PreS s H (va_Pc (As.map (mv g)) (PR g σ H.size)) (As.map (mv g)) := ⟨PR_blind, fun U hU hW => ⟨rfl, hPc U hU hW⟩⟩
      have hstk : (F0 m pc ls (st.map (mv g))).stack = (As.map (mv g)).reverse ++ (st.drop (mn mj)).map (mv g) := by
        show st.map (mv g) = _
        conv => lhs; rw [hst2]
        rw [List.map_append, List.map_reverse]
      have fin : va_Run p l e (rmD (d + 1)) s m args below meth c H locs 0 0 0 0 (F0 m pc ls (st.map (mv g))) ((st.drop (mn mj)).map (mv g)) (QR g av σ1 H.size (As.map (mv g)).toArray) (AA g H.size) := by
        by_cases hpl : pl < 2000
        · simp only [hpl, if_true] at hk
          have hw5 : GoodIn lw_good (va_wsS (ow (mo mi)) i (my mj) (mw mj)) := by
            intro w hw
            unfold va_wsS at hw
            rcases List.mem_append.mp hw with hw | hw
            · simp only [List.mem_cons, List.not_mem_nil, or_false] at hw
              rcases hw with rfl | rfl | rfl
              · exact ⟨gdW_in hk, Or.inl rfl⟩
              · exact ⟨gdW_in hA1, Or.inl rfl⟩
              · exact ⟨gdW_in (rg_at mthI_ok hmj), Or.inl rfl⟩
            · exact mw_good hmj w hw
          exact va_runS hS0 hMet (va_cwS (mn mj) hts hw5 rfl rfl rfl ⟨d3, d4, d5⟩ hroom) hpre rfl (by rw [List.length_map]; exact hlA) hl.1 hstk hrest hdg ⟨Nat.le_refl _, Nat.le_refl _⟩
        · simp only [hpl, if_false] at hk
          exact va_runSN hS0 hMet ⟨va_cnB (mn mj) hts (mw_good hmj) rfl rfl rfl (hST.2.2.2.2.2 _ (nsW_in hk)) hI1 ⟨d3, d4, d5⟩ hroom, hts _ (gdW_in hA1), trivial⟩ hpre rfl (by rw [List.length_map]; exact hlA) hl.1 hstk hrest hdg ⟨Nat.le_refl _, Nat.le_refl _⟩
      refine run_call fin hS (fun H1 locs1 hP1 hS1 => ?_)
      have := k1 _ _ _ _ rfl ls H1 locs1 hP1 hS1 hl
      rw [List.map_append] at this
      cases av <;> exact this
  | ireturn =>
    have hopZ := gd_some hop
    clear hop
    obtain ⟨rfl, hop⟩ := hopZ
    unfold retI at hop
    split at hop
    rotate_left
    · cases hop
    rename_i x ty hmr
    have hopZ := gd_some hop
    clear hop
    obtain ⟨hn, hop⟩ := hopZ
    cases hop
    have e := k2 _ rfl
    cases e
    exact W.zret (v := x) hx hb (hr.trans hmr) hn (fun t ht hW => ⟨rfl, by rw [ht]; exact hP, hS.F ht⟩) hS.2.2 hdg
  | areturn =>
    have hopZ := gd_some hop
    clear hop
    obtain ⟨rfl, hop⟩ := hopZ
    unfold retA at hop
    split at hop
    rotate_left
    · cases hop
    rename_i x nm hmr
    cases hop
    have e := k2 _ rfl
    cases e
    exact W.aret (v := .ref (g.1 x)) hx hb (hr.trans hmr) (Or.inl ⟨_, rfl⟩) (Or.inr ⟨_, rfl⟩) (fun t ht hW => ⟨rfl, by rw [ht]; exact hP, hS.F ht⟩) hS.2.2 hdg
  | lreturn =>
    have hopZ := gd_some hop
    clear hop
    obtain ⟨rfl, hop⟩ := hopZ
    unfold retL at hop
    split at hop
    rotate_left
    · cases hop
    rename_i x hmr
    cases hop
    have e := k2 _ rfl
    cases e
    exact W.lret (v := x) hx hb (hr.trans hmr) (fun t ht hW => ⟨rfl, by rw [ht]; exact hP, hS.F ht⟩) hS.2.2 hdg
  | return_ =>
    have hopZ := gd_some hop
    clear hop
    obtain ⟨rfl, hop⟩ := hopZ
    unfold retV at hop
    split at hop
    rotate_left
    · cases hop
    rename_i hmr
    cases hop
    have e := k2 _ rfl
    cases e
    exact W.vret hx hb (hr.trans hmr) (fun t ht hW => ⟨rfl, by rw [ht]; exact hP, hS.F ht⟩) hS.2.2 hdg
  | _ => exact ((Option.some_ne_none r) (Eq.symm hop)).elim
end EVS
