/-! ===== what the tables say of the evaluator's entries ===== -/
abbrev lw_good : List Cond := lw_tbl.filter goodWord
theorem mem_good {i : Nat} {w : Cond} (h : lw_tbl[i]? = some w) (hg : goodWord w = true) : w ∈ lw_good := List.mem_filter.mpr ⟨List.mem_of_getElem? h, hg⟩
theorem lk_mem {α : Type} {l : List (Nat × α)} {i : Nat} {v : α} (h : l.lookup i = some v) : (i, v) ∈ l := by
  induction l with
  | nil => cases h
  | cons a l ih =>
    obtain ⟨k, w⟩ := a
    by_cases hk : i = k
    · subst hk
      simp [List.lookup] at h
      subst h
      exact List.mem_cons_self
    · have hb : (i == k) = false := by simp [hk]
      simp [List.lookup, hb] at h
      exact List.mem_cons_of_mem _ (ih h)
theorem tb_mem {α : Type} {t : List (List (Nat × α))} {o i : Nat} {v : α} (h : (t.getD o []).lookup i = some v) : ∃ l, l ∈ t ∧ t[o]? = some l ∧ (i, v) ∈ l := by
  cases ho : t[o]? with
  | none =>
    rw [List.getD_eq_getElem?_getD, ho] at h
    cases h
  | some l =>
    rw [List.getD_eq_getElem?_getD, ho] at h
    exact ⟨l, List.mem_of_getElem? ho, rfl, lk_mem h⟩
/-- a test of every row of a table, by the row's own list -/
def tbAll {α : Type} (t : List (List (Nat × α))) (f : Nat → Nat → α → Bool) : Bool := (List.range t.length).all fun o => (t.getD o []).all fun q => f o q.1 q.2
theorem tbAll_at {α : Type} {t : List (List (Nat × α))} {f : Nat → Nat → α → Bool} (h : tbAll t f = true) {o i : Nat} {v : α} (hl : (t.getD o []).lookup i = some v) : f o i v = true := by
  obtain ⟨l, -, h2, h3⟩ := tb_mem hl
  have ho : o < t.length := (List.getElem?_eq_some_iff.mp h2).1
  have h4 := List.all_eq_true.mp h o (List.mem_range.mpr ho)
  rw [List.getD_eq_getElem?_getD, h2] at h4
  exact List.all_eq_true.mp h4 (i, v) h3
def gdW (i : Nat) (w : Cond) : Bool := decide (lw_tbl[i]? = some w) && goodWord w
theorem gdW_in {i : Nat} {w : Cond} (h : gdW i w = true) : w ∈ lw_good := by
  simp only [gdW, Bool.and_eq_true, decide_eq_true_eq] at h
  exact mem_good h.1 h.2
def nsW (i : Nat) (w : Cond) : Bool := decide (nestW[i]? = some w)
theorem nsW_in {i : Nat} {w : Cond} (h : nsW i w = true) : w ∈ nestW := by
  simp only [nsW, decide_eq_true_eq] at h
  exact List.mem_of_getElem? h
def hostN : String := "SmokyHeap"
/-- a call's entry: an ordinary link, or one of a nest mate -/
def linkC (o i : Nat) (q : Nat × Nat) : Bool := if q.2 < 2000 then gdW q.2 (.methodLink (ow o) i (my q.1)) else nsW (q.2 - 2000) (.methodLinkNest (ow o) i (my q.1) hostN)
set_option maxRecDepth 100000 in
theorem link_ok : tbAll linkT linkC = true := by decide +kernel
def Tn (c : Nat) : u_T := match c with
  | 0 => TX0
  | 1 => TX1
  | 2 => TX2
  | 3 => TX3
  | 4 => TX4
  | 5 => TX5
  | 6 => TX6
  | 7 => TX7
  | _ => TX8
def Rn (c : Nat) : String := match c with
  | 0 => RX0
  | 1 => RX1
  | 2 => RX2
  | 3 => RX3
  | 4 => RX4
  | 5 => RX5
  | 6 => RX6
  | 7 => RX7
  | _ => RX8
def Nn (c : Nat) : Nat := match c with
  | 0 => 14
  | 1 => 2
  | 2 => 5
  | 3 => 2
  | 4 => 3
  | 5 => 7
  | 6 => 5
  | 7 => 9
  | _ => 26
theorem vwCl_at : ∀ c, c < 9 → vwCl[c]? = some (Rn c, Tn c, Nn c)
  | 0, _ => rfl
  | 1, _ => rfl
  | 2, _ => rfl
  | 3, _ => rfl
  | 4, _ => rfl
  | 5, _ => rfl
  | 6, _ => rfl
  | 7, _ => rfl
  | 8, _ => rfl
  | n + 9, h => by omega
theorem lay_in : ∀ c, c < 9 → ∀ w ∈ u_ws (Rn c) (Tn c) (Nn c), w ∈ lw_tbl
  | 0, _ => inX0
  | 1, _ => inX1
  | 2, _ => inX2
  | 3, _ => inX3
  | 4, _ => inX4
  | 5, _ => inX5
  | 6, _ => inX6
  | 7, _ => inX7
  | 8, _ => inX8
  | n + 9, h => by omega
theorem lay_good : ∀ c, c < 9 → ∀ w ∈ u_ws (Rn c) (Tn c) (Nn c), w ∈ lw_good := by
  intro c hc w hw
  refine List.mem_filter.mpr ⟨lay_in c hc w hw, ?_⟩
  unfold u_ws at hw
  obtain ⟨k, -, rfl⟩ := List.mem_map.mp hw
  unfold u_lay
  split <;> rfl
theorem nm_n : ∀ c, c < 9 → ∀ a, a < Nn c → ∀ b, b < Nn c → a ≠ b → (Tn c a).2.1 ≠ (Tn c b).2.1
  | 0, _ => nmX0
  | 1, _ => nmX1
  | 2, _ => nmX2
  | 3, _ => nmX3
  | 4, _ => nmX4
  | 5, _ => nmX5
  | 6, _ => nmX6
  | 7, _ => nmX7
  | 8, _ => nmX8
  | n + 9, h => by omega
theorem fty_ok : ∀ c, c < 9 → ∀ k, k < Nn c → parseFieldDescriptor (Tn c k).2.2.1 = some (fty c k) := by decide +kernel
theorem fk_fin : ∀ c, c < 9 → ∀ k, k < Nn c → fk c k ≠ 2 → (Tn c k).2.2.2 = false := by decide +kernel
theorem fk_ref : ∀ c, c < 9 → ∀ k, k < Nn c → fk c k = 3 → fty c k = .object "SmokyHeap$Row" ∨ fty c k = .object "java/lang/String" := by decide +kernel
theorem shp_n : ∀ o, o < 104 → ((shp o).1 < 9 → (shp o).2 = Nn (shp o).1) ∧ ((shp o).1 < 9 ∨ (10 ≤ (shp o).1 ∧ (shp o).1 < 15)) := by decide +kernel
/-- a field's entry: a field of a class of ours (its number, the field's place), or 9: of String, 0 value, 1 coder -/
def fldC (o i : Nat) (q : Nat × Nat × Nat) : Bool := if q.1 < 9 then decide (q.2.1 < Nn q.1) && gdW q.2.2 (.fieldLink (ow o) i (Tn q.1 q.2.1).1 (Tn q.1 q.2.1).2.1 (Tn q.1 q.2.1).2.2.1)
  else if q.2.1 = 0 then gdW q.2.2 (.fieldLink (ow o) i "java/lang/String" "value" "[B") else decide (q.2.1 = 1) && gdW q.2.2 (.fieldLink (ow o) i "java/lang/String" "coder" "B")
set_option maxRecDepth 100000 in
theorem fld_ok : tbAll fldT fldC = true := by decide +kernel
theorem fld_9 : tbAll fldT (fun _ _ q => decide (q.1 ≤ 9)) = true := by decide +kernel
def sn (i : Nat) : String := snT.getD i ""
def sttC (o i : Nat) (q : Nat × Nat) : Bool := if q.1 = 200 then gdW q.2 (.fieldLink (ow o) i "java/lang/String" "COMPACT_STRINGS" "Z")
  else if q.1 = 201 then gdW q.2 (.fieldLink (ow o) i "jdk/internal/util/Preconditions" "SIOOBE_FORMATTER" "Ljava/util/function/BiFunction;")
  else decide (104 ≤ q.1 ∧ q.1 < 110) && if q.2 < 2000 then gdW q.2 (.fieldLink (ow o) i "SmokyHeap" (sn (q.1 - 104)) "[I") else nsW (q.2 - 2000) (.fieldLinkNest (ow o) i "SmokyHeap" (sn (q.1 - 104)) "[I" hostN)
set_option maxRecDepth 100000 in
theorem stt_ok : tbAll sttT sttC = true := by decide +kernel
def kow (i : Nat) : String := (kT.getD i ("", 0, "")).1
def kix (i : Nat) : Nat := (kT.getD i ("", 0, "")).2.1
def ktx (i : Nat) : String := (kT.getD i ("", 0, "")).2.2
def ldcC (o i : Nat) (q : Value × Nat) : Bool := match q.1 with
  | .int x => decide (q.2 < 3000) && gdW q.2 (.constant (ow o) i x)
  | .ref a => decide (3000 ≤ q.2 ∧ q.2 < 3012 ∧ a = 110 + (q.2 - 3000) ∧ kow (q.2 - 3000) = ow o ∧ kix (q.2 - 3000) = i)
  | _ => false
set_option maxRecDepth 100000 in
theorem ldc_ok : tbAll ldcT ldcC = true := by decide +kernel
def ld2C (o i : Nat) (q : Int64 × Nat) : Bool := gdW q.2 (.constantLong (ow o) i q.1)
set_option maxRecDepth 100000 in
theorem ld2_ok : tbAll ld2T ld2C = true := by decide +kernel
set_option maxRecDepth 100000 in
theorem acp_ok : (acpT.zip acpP).all (fun q => gdW q.2 (.methodLink (ow q.1.1) q.1.2 arraycopyName)) = true ∧ acpT.length = acpP.length := by decide +kernel
theorem acp_in {o i : Nat} (h : (o, i) ∈ acpT) : (Cond.methodLink (ow o) i arraycopyName) ∈ lw_good := by
  obtain ⟨n, hn⟩ := List.getElem?_of_mem h
  have h1 : n < acpT.length := (List.getElem?_eq_some_iff.mp hn).1
  have h2 : n < acpP.length := by rw [← acp_ok.2]; exact h1
  have h3 : (acpT.zip acpP)[n]? = some ((o, i), acpP[n]) := by
    rw [List.getElem?_zip_eq_some]
    exact ⟨hn, List.getElem?_eq_getElem h2⟩
  exact gdW_in (List.all_eq_true.mp acp_ok.1 _ (List.mem_of_getElem? h3))
set_option maxRecDepth 100000 in
theorem acw_ok : gdW acW.1 (.native arraycopyName) = true ∧ gdW acW.2.1 (.static arraycopyName) = true ∧ gdW acW.2.2 (.initialized "java/lang/System") = true := by decide +kernel
def mp_ (m : Nat) : Nat × Nat × Nat × Nat := mpT.getD m (0, 0, 0, 0)
theorem zp_in {t : List (Nat × Nat)} {ps : List Nat} {f : Nat → Nat → Cond} (h : (t.zip ps).all (fun q => gdW q.2 (f q.1.1 q.1.2)) = true ∧ t.length = ps.length) {o i : Nat} (hm : (o, i) ∈ t) : f o i ∈ lw_good := by
  obtain ⟨n, hn⟩ := List.getElem?_of_mem hm
  have h1 : n < t.length := (List.getElem?_eq_some_iff.mp hn).1
  have h2 : n < ps.length := by rw [← h.2]; exact h1
  have h3 : (t.zip ps)[n]? = some ((o, i), ps[n]) := by
    rw [List.getElem?_zip_eq_some]
    exact ⟨hn, List.getElem?_eq_getElem h2⟩
  exact gdW_in (List.all_eq_true.mp h.1 _ (List.mem_of_getElem? h3))
set_option maxRecDepth 100000 in
theorem mx_ok : (mxT.zip mxP).all (fun q => gdW q.2 (.methodLink (ow q.1.1) q.1.2 Lib.Math.max.name)) = true ∧ mxT.length = mxP.length := by decide +kernel
set_option maxRecDepth 100000 in
theorem mi_ok : (miT.zip miP).all (fun q => gdW q.2 (.methodLink (ow q.1.1) q.1.2 Lib.Math.min.name)) = true ∧ miT.length = miP.length := by decide +kernel
set_option maxRecDepth 100000 in
theorem mj_ok : (mjT.zip mjP).all (fun q => gdW q.2 (.methodLink (ow q.1.1) q.1.2 Lib.MathLoose.min_long.x)) = true ∧ mjT.length = mjP.length := by decide +kernel
set_option maxRecDepth 100000 in
theorem mxw_ok : gdW mxW.1 (.static Lib.Math.max.name) = true ∧ gdW mxW.2 (.static Lib.Math.min.name) = true ∧ gdW mjW.1 (.static Lib.MathLoose.min_long.x) = true ∧ gdW mjW.2 (.initialized "java/lang/Math") = true := by decide +kernel
set_option maxRecDepth 100000 in
theorem mxc_in : Cond.code Lib.Math.max.name Lib.Math.max.code 2 (some .int) ∈ lw_good := mem_good (i := mxC) rfl rfl
set_option maxRecDepth 100000 in
theorem mic_in : Cond.code Lib.Math.min.name Lib.Math.min.code 2 (some .int) ∈ lw_good := mem_good (i := miC) rfl rfl
set_option maxRecDepth 100000 in
theorem mjc_in : Cond.code Lib.MathLoose.min_long.x Lib.MathLoose.min_long.code 4 (some .long) ∈ lw_good := mem_good (i := mjC) rfl rfl
def mthA (m : Nat) : Bool := if ms_ m = true then gdW (mp_ m).2.1 (.static (my m)) else gdW (mp_ m).2.1 (.instanceMethod (my m))
def mthB (m : Nat) : Bool := ms_ m || gdW (mp_ m).2.2.1 (.selects (ow (mo m)) (my m) (my m))
def mthI (m : Nat) : Bool := gdW (mp_ m).2.2.2 (.initialized (my m).cls)
def mthD (m : Nat) : Bool := decide ((my m).cls = ow (mo m)) && plainName (my m).cls && decide (¬ (my m).cls = "java/lang/invoke/MethodHandle") && decide (¬ (my m).cls = "java/lang/invoke/VarHandle") && decide ((parseMethodDescriptor (my m).desc).map (fun d => d.parameters.length) = some (mn m)) && decide (ml m ≤ 30) && decide (mo m < 13)
set_option maxRecDepth 100000 in
theorem mthA_ok : (List.range 227).all mthA = true := by decide +kernel
set_option maxRecDepth 100000 in
theorem mthB_ok : (List.range 227).all mthB = true := by decide +kernel
set_option maxRecDepth 100000 in
theorem mthI_ok : (List.range 227).all mthI = true := by decide +kernel
set_option maxRecDepth 100000 in
theorem mthD_ok : (List.range 227).all mthD = true := by decide +kernel
theorem rg_at {n m : Nat} {f : Nat → Bool} (h : (List.range n).all f = true) (hm : m < n) : f m = true := List.all_eq_true.mp h m (List.mem_range.mpr hm)
set_option maxRecDepth 100000 in
theorem code_ok : mT.map (fun q => Cond.code q.1 q.2.1 q.2.2.1 q.2.2.2.1) = (mpT.map (fun q => q.1)).filterMap (fun i => lw_tbl[i]?) := rfl
theorem mT_len : mT.length = 227 := by decide +kernel
theorem code_in {m : Nat} (h : m < 227) : Cond.code (my m) (mb m) (ml m) (mr m) ∈ lw_good := by
  have h1 : m < mT.length := by rw [mT_len]; exact h
  have h2 : Cond.code (my m) (mb m) (ml m) (mr m) ∈ mT.map (fun q => Cond.code q.1 q.2.1 q.2.2.1 q.2.2.2.1) := by
    refine List.mem_map.mpr ⟨mt m, ?_, rfl⟩
    unfold mt
    rw [List.getD_eq_getElem?_getD, List.getElem?_eq_getElem h1]
    exact List.getElem_mem h1
  rw [code_ok] at h2
  obtain ⟨i, -, hi⟩ := List.mem_filterMap.mp h2
  exact mem_good hi rfl
