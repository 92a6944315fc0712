/-! ===== the ghost machine, 1: the world as maps over names (numbers of ours); a name's address stands behind it ===== -/
def gt_B : List Cond := lw_tbl.filter goodWord
def gt_isN : Cond → Bool
  | .fieldLinkNest .. => true
  | _ => false
def gt_N : List Cond := lw_tbl.filter gt_isN
theorem gt_in {w : Cond} (h : w ∈ lw_tbl) (hg : goodWord w = true) : w ∈ gt_B := List.mem_filter.mpr ⟨h, hg⟩
theorem gt_goodB {c' : Cond} (h : c' ∈ gt_B) : GoodIn gt_B (c' :: gt_B) := by
  intro w hw
  have hm : w ∈ gt_B := by
    rcases List.mem_cons.mp hw with rfl | h1
    · exact h
    · exact h1
  exact ⟨hm, good_of_word (List.mem_filter.mp hm).2⟩
/-- kinds, lengths, references (of fields and of rows), ints and longs of fields, ints and longs of rows -/
abbrev GS : Type := (Nat → Nat) × (Nat → Nat) × (Nat → Nat → Option Nat) × (Nat → Nat → Int32) × (Nat → Nat → Int64) × (Nat → Nat → Int32) × (Nat → Nat → Int64)
def kd (S : GS) : Nat → Nat := S.1
def ln (S : GS) : Nat → Nat := S.2.1
def rf (S : GS) : Nat → Nat → Option Nat := S.2.2.1
def fI (S : GS) : Nat → Nat → Int32 := S.2.2.2.1
def fJ (S : GS) : Nat → Nat → Int64 := S.2.2.2.2.1
def aI (S : GS) : Nat → Nat → Int32 := S.2.2.2.2.2.1
def aJ (S : GS) : Nat → Nat → Int64 := S.2.2.2.2.2.2
def up2 {α : Type} (f : Nat → Nat → α) (g k : Nat) (v : α) : Nat → Nat → α := fun x y => if x = g then (if y = k then v else f x y) else f x y
theorem up2_ne {α : Type} {f : Nat → Nat → α} {g k x y : Nat} {v : α} (h : x ≠ g) : up2 f g k v x y = f x y := if_neg h
theorem up2_row {α : Type} {f : Nat → Nat → α} {g k x : Nat} {v : α} (h : x ≠ g) : up2 f g k v x = f x := funext fun _ => up2_ne h
theorem up2_nk {α : Type} {f : Nat → Nat → α} {g k x y : Nat} {v : α} (h : y ≠ k) : up2 f g k v x y = f x y := by
  simp [up2, h]
theorem up2_at {α : Type} {f : Nat → Nat → α} {g k : Nat} {v : α} : up2 f g k v g k = v := by simp [up2]
theorem up2_self {α : Type} {f : Nat → Nat → α} {g k : Nat} {v : α} (y : Nat) : up2 f g k v g y = if y = k then v else f g y := by simp [up2]
def sI (S : GS) (g k : Nat) (v : Int32) : GS := (S.1, S.2.1, S.2.2.1, up2 S.2.2.2.1 g k v, S.2.2.2.2)
def sJ (S : GS) (g k : Nat) (v : Int64) : GS := (S.1, S.2.1, S.2.2.1, S.2.2.2.1, up2 S.2.2.2.2.1 g k v, S.2.2.2.2.2)
def sR (S : GS) (g k : Nat) (v : Option Nat) : GS := (S.1, S.2.1, up2 S.2.2.1 g k v, S.2.2.2)
def sA (S : GS) (g k : Nat) (v : Int32) : GS := (S.1, S.2.1, S.2.2.1, S.2.2.2.1, S.2.2.2.2.1, up2 S.2.2.2.2.2.1 g k v, S.2.2.2.2.2.2)
def sL (S : GS) (g k : Nat) (v : Int64) : GS := (S.1, S.2.1, S.2.2.1, S.2.2.2.1, S.2.2.2.2.1, S.2.2.2.2.2.1, up2 S.2.2.2.2.2.2 g k v)
/-- a new cell: of a kind, of a length, all its places 0 or null -/
def sN (S : GS) (g c n : Nat) : GS := (va_up S.1 g c, va_up S.2.1 g n, va_up S.2.2.1 g (fun _ => none), va_up S.2.2.2.1 g (fun _ => 0), va_up S.2.2.2.2.1 g (fun _ => 0), va_up S.2.2.2.2.2.1 g (fun _ => 0), va_up S.2.2.2.2.2.2 g (fun _ => 0))
theorem kd_sI (S : GS) (g : Nat) (k : Nat) (v : Int32) : kd (sI S g k v) = kd S := rfl
theorem ln_sI (S : GS) (g : Nat) (k : Nat) (v : Int32) : ln (sI S g k v) = ln S := rfl
theorem rf_sI (S : GS) (g : Nat) (k : Nat) (v : Int32) : rf (sI S g k v) = rf S := rfl
theorem fI_sI (S : GS) (g : Nat) (k : Nat) (v : Int32) : fI (sI S g k v) = up2 (fI S) g k v := rfl
theorem fJ_sI (S : GS) (g : Nat) (k : Nat) (v : Int32) : fJ (sI S g k v) = fJ S := rfl
theorem aI_sI (S : GS) (g : Nat) (k : Nat) (v : Int32) : aI (sI S g k v) = aI S := rfl
theorem aJ_sI (S : GS) (g : Nat) (k : Nat) (v : Int32) : aJ (sI S g k v) = aJ S := rfl
theorem kd_sJ (S : GS) (g : Nat) (k : Nat) (v : Int64) : kd (sJ S g k v) = kd S := rfl
theorem ln_sJ (S : GS) (g : Nat) (k : Nat) (v : Int64) : ln (sJ S g k v) = ln S := rfl
theorem rf_sJ (S : GS) (g : Nat) (k : Nat) (v : Int64) : rf (sJ S g k v) = rf S := rfl
theorem fI_sJ (S : GS) (g : Nat) (k : Nat) (v : Int64) : fI (sJ S g k v) = fI S := rfl
theorem fJ_sJ (S : GS) (g : Nat) (k : Nat) (v : Int64) : fJ (sJ S g k v) = up2 (fJ S) g k v := rfl
theorem aI_sJ (S : GS) (g : Nat) (k : Nat) (v : Int64) : aI (sJ S g k v) = aI S := rfl
theorem aJ_sJ (S : GS) (g : Nat) (k : Nat) (v : Int64) : aJ (sJ S g k v) = aJ S := rfl
theorem kd_sR (S : GS) (g : Nat) (k : Nat) (v : Option Nat) : kd (sR S g k v) = kd S := rfl
theorem ln_sR (S : GS) (g : Nat) (k : Nat) (v : Option Nat) : ln (sR S g k v) = ln S := rfl
theorem rf_sR (S : GS) (g : Nat) (k : Nat) (v : Option Nat) : rf (sR S g k v) = up2 (rf S) g k v := rfl
theorem fI_sR (S : GS) (g : Nat) (k : Nat) (v : Option Nat) : fI (sR S g k v) = fI S := rfl
theorem fJ_sR (S : GS) (g : Nat) (k : Nat) (v : Option Nat) : fJ (sR S g k v) = fJ S := rfl
theorem aI_sR (S : GS) (g : Nat) (k : Nat) (v : Option Nat) : aI (sR S g k v) = aI S := rfl
theorem aJ_sR (S : GS) (g : Nat) (k : Nat) (v : Option Nat) : aJ (sR S g k v) = aJ S := rfl
theorem kd_sA (S : GS) (g : Nat) (k : Nat) (v : Int32) : kd (sA S g k v) = kd S := rfl
theorem ln_sA (S : GS) (g : Nat) (k : Nat) (v : Int32) : ln (sA S g k v) = ln S := rfl
theorem rf_sA (S : GS) (g : Nat) (k : Nat) (v : Int32) : rf (sA S g k v) = rf S := rfl
theorem fI_sA (S : GS) (g : Nat) (k : Nat) (v : Int32) : fI (sA S g k v) = fI S := rfl
theorem fJ_sA (S : GS) (g : Nat) (k : Nat) (v : Int32) : fJ (sA S g k v) = fJ S := rfl
theorem aI_sA (S : GS) (g : Nat) (k : Nat) (v : Int32) : aI (sA S g k v) = up2 (aI S) g k v := rfl
theorem aJ_sA (S : GS) (g : Nat) (k : Nat) (v : Int32) : aJ (sA S g k v) = aJ S := rfl
theorem kd_sL (S : GS) (g : Nat) (k : Nat) (v : Int64) : kd (sL S g k v) = kd S := rfl
theorem ln_sL (S : GS) (g : Nat) (k : Nat) (v : Int64) : ln (sL S g k v) = ln S := rfl
theorem rf_sL (S : GS) (g : Nat) (k : Nat) (v : Int64) : rf (sL S g k v) = rf S := rfl
theorem fI_sL (S : GS) (g : Nat) (k : Nat) (v : Int64) : fI (sL S g k v) = fI S := rfl
theorem fJ_sL (S : GS) (g : Nat) (k : Nat) (v : Int64) : fJ (sL S g k v) = fJ S := rfl
theorem aI_sL (S : GS) (g : Nat) (k : Nat) (v : Int64) : aI (sL S g k v) = aI S := rfl
theorem aJ_sL (S : GS) (g : Nat) (k : Nat) (v : Int64) : aJ (sL S g k v) = up2 (aJ S) g k v := rfl
theorem kd_sN (S : GS) (g c n : Nat) : kd (sN S g c n) = va_up (kd S) g c := rfl
theorem ln_sN (S : GS) (g c n : Nat) : ln (sN S g c n) = va_up (ln S) g n := rfl
theorem rf_sN (S : GS) (g c n : Nat) : rf (sN S g c n) = va_up (rf S) g (fun _ => none) := rfl
theorem fI_sN (S : GS) (g c n : Nat) : fI (sN S g c n) = va_up (fI S) g (fun _ => 0) := rfl
theorem fJ_sN (S : GS) (g c n : Nat) : fJ (sN S g c n) = va_up (fJ S) g (fun _ => 0) := rfl
theorem aI_sN (S : GS) (g c n : Nat) : aI (sN S g c n) = va_up (aI S) g (fun _ => 0) := rfl
theorem aJ_sN (S : GS) (g c n : Nat) : aJ (sN S g c n) = va_up (aJ S) g (fun _ => 0) := rfl
def cTy (ci : Nat) : Nat → FieldType := match ci with
  | 0 => tyX0 | 1 => tyX1 | 2 => tyX2 | 3 => tyX3 | 4 => tyX4 | 5 => tyX5 | 6 => tyX6 | 7 => tyX7 | 8 => tyX8 | 9 => tyX9 | 10 => tyX10 | _ => tyX11
def cT (ci : Nat) : u_T := match ci with
  | 0 => TX0 | 1 => TX1 | 2 => TX2 | 3 => TX3 | 4 => TX4 | 5 => TX5 | 6 => TX6 | 7 => TX7 | 8 => TX8 | 9 => TX9 | 10 => TX10 | _ => TX11
def cR (ci : Nat) : String := match ci with
  | 0 => RX0 | 1 => RX1 | 2 => RX2 | 3 => RX3 | 4 => RX4 | 5 => RX5 | 6 => RX6 | 7 => RX7 | 8 => RX8 | 9 => RX9 | 10 => RX10 | _ => RX11
def cN (ci : Nat) : Nat := match ci with
  | 0 => 3 | 1 => 2 | 2 => 6 | 3 => 6 | 4 => 6 | 5 => 3 | 6 => 2 | 7 => 8 | 8 => 3 | 9 => 3 | 10 => 9 | _ => 46
theorem c_cases {P : Nat → Prop} (h0 : P 0) (h1 : P 1) (h2 : P 2) (h3 : P 3) (h4 : P 4) (h5 : P 5) (h6 : P 6) (h7 : P 7) (h8 : P 8) (h9 : P 9) (h10 : P 10) (h11 : P 11) {ci : Nat} (h : ci < 12) : P ci := by
  match ci, h with
  | 0, _ => exact h0
  | 1, _ => exact h1
  | 2, _ => exact h2
  | 3, _ => exact h3
  | 4, _ => exact h4
  | 5, _ => exact h5
  | 6, _ => exact h6
  | 7, _ => exact h7
  | 8, _ => exact h8
  | 9, _ => exact h9
  | 10, _ => exact h10
  | 11, _ => exact h11
  | n + 12, h => omega
theorem c_cl {ci : Nat} (h : ci < 12) : vwCl[ci]? = some (cR ci, cT ci, cN ci) := c_cases (P := fun ci => vwCl[ci]? = some (cR ci, cT ci, cN ci)) rfl rfl rfl rfl rfl rfl rfl rfl rfl rfl rfl rfl h
theorem c_ty {ci : Nat} (h : ci < 12) : ∀ k, k < cN ci → parseFieldDescriptor (cT ci k).2.2.1 = some (cTy ci k) := c_cases (P := fun ci => ∀ k, k < cN ci → parseFieldDescriptor (cT ci k).2.2.1 = some (cTy ci k)) tyX0_ok tyX1_ok tyX2_ok tyX3_ok tyX4_ok tyX5_ok tyX6_ok tyX7_ok tyX8_ok tyX9_ok tyX10_ok tyX11_ok h
theorem c_nm {ci : Nat} (h : ci < 12) : ∀ a, a < cN ci → ∀ b, b < cN ci → a ≠ b → (cT ci a).2.1 ≠ (cT ci b).2.1 := c_cases (P := fun ci => ∀ a, a < cN ci → ∀ b, b < cN ci → a ≠ b → (cT ci a).2.1 ≠ (cT ci b).2.1) nmX0 nmX1 nmX2 nmX3 nmX4 nmX5 nmX6 nmX7 nmX8 nmX9 nmX10 nmX11 h
set_option maxRecDepth 20000 in
theorem c_in {ci : Nat} (h : ci < 12) : ∀ w ∈ u_ws (cR ci) (cT ci) (cN ci), w ∈ gt_B := c_cases (P := fun ci => ∀ w ∈ u_ws (cR ci) (cT ci) (cN ci), w ∈ gt_B) (by decide +kernel) (by decide +kernel) (by decide +kernel) (by decide +kernel) (by decide +kernel) (by decide +kernel) (by decide +kernel) (by decide +kernel) (by decide +kernel) (by decide +kernel) (by decide +kernel) (by decide +kernel) h
set_option maxRecDepth 20000 in
theorem c_inst {ci : Nat} (h : ci < 12) : Cond.instantiable (cR ci) (cN ci) ∈ gt_B := c_cases (P := fun ci => Cond.instantiable (cR ci) (cN ci) ∈ gt_B) (by decide +kernel) (by decide +kernel) (by decide +kernel) (by decide +kernel) (by decide +kernel) (by decide +kernel) (by decide +kernel) (by decide +kernel) (by decide +kernel) (by decide +kernel) (by decide +kernel) (by decide +kernel) h
set_option maxRecDepth 20000 in
theorem c_init {ci : Nat} (h : ci < 12) : Cond.initialized (cR ci) ∈ gt_B := c_cases (P := fun ci => Cond.initialized (cR ci) ∈ gt_B) (by decide +kernel) (by decide +kernel) (by decide +kernel) (by decide +kernel) (by decide +kernel) (by decide +kernel) (by decide +kernel) (by decide +kernel) (by decide +kernel) (by decide +kernel) (by decide +kernel) (by decide +kernel) h
/-- which sort of place a type is: 0 an int, 1 a long, 2 a reference, 3 none of these -/
def sort_ : FieldType → Nat
  | .long => 1
  | .object _ => 2
  | .array _ => 2
  | .float => 3
  | .double => 3
  | _ => 0
theorem c_sort {ci : Nat} (h : ci < 12) : ∀ k, k < cN ci → sort_ (cTy ci k) < 3 := c_cases (P := fun ci => ∀ k, k < cN ci → sort_ (cTy ci k) < 3) (by decide) (by decide) (by decide) (by decide) (by decide) (by decide) (by decide) (by decide) (by decide) (by decide) (by decide) (by decide) h
def gv (ad : Nat → Nat) : Value → Value
  | .ref g => .ref (ad g)
  | v => v
theorem gv_cat (ad : Nat → Nat) (v : Value) : (gv ad v).category = v.category := by cases v <;> rfl
theorem gv_rf (ad : Nat → Nat) (r : Option Nat) : gv ad (va_rf r) = va_rf (r.map ad) := by cases r <;> rfl
def gf (ad : Nat → Nat) (S : GS) (g k : Nat) (ty : FieldType) : Value := if sort_ ty = 1 then .long (fJ S g k) else if sort_ ty = 2 then va_rf ((rf S g k).map ad) else .int (fI S g k)
def gfs (ad : Nat → Nat) (S : GS) (g ci : Nat) : List Value := (List.range (cN ci)).map (fun k => gf ad S g k (cTy ci k))
def gc (ad : Nat → Nat) (tc : Nat → ClassId) (S : GS) (g : Nat) : va_E :=
  if kd S g ≤ 20 then .inr (kd S g - 1, gfs ad S g (kd S g - 1))
  else .inl (tc (kd S g), ln S g, if kd S g = 22 then .inr (.inl (aJ S g)) else if kd S g ≤ 24 then .inl (aI S g) else .inr (.inr (.inr (.inr (fun i => (rf S g i).map ad)))))
def gws (ad : Nat → Nat) (tc : Nat → ClassId) (S : GS) (L : List Nat) : va_W := L.map (fun g => (ad g, gc ad tc S g))
def gok (S : GS) (L : List Nat) : Prop := (∀ g, g ∈ L ↔ (kd S g ≠ 0 ∧ kd S g ≠ 99)) ∧ ∀ g k g', kd S g ≠ 0 → rf S g k = some g' → kd S g' ≠ 0
def okv (S : GS) : Value → Prop
  | .ref g => kd S g ≠ 0
  | _ => True
def oks (S : GS) (st : List Value) : Prop := ∀ v ∈ st, okv S v
def okl (S : GS) (lo : List (Option Value)) : Prop := ∀ v, some v ∈ lo → okv S v
def gls (nL : Nat) (ls : Array Slot) (ad : Nat → Nat) (lo : List (Option Value)) : Prop := ls.size = nL ∧ lv_wf ls ∧ ∀ (i : Nat) (v : Value), lo[i]? = some (some v) → ls[i]? = some (.val (gv ad v))
theorem oks.h {S : GS} {v : Value} {st : List Value} (h : oks S (v :: st)) : okv S v := h v List.mem_cons_self
theorem oks.t {S : GS} {v : Value} {st : List Value} (h : oks S (v :: st)) : oks S st := fun w hw => h w (List.mem_cons_of_mem _ hw)
theorem oks.c {S : GS} {v : Value} {st : List Value} (h : oks S st) (hv : okv S v) : oks S (v :: st) := fun w hw => (List.mem_cons.mp hw).elim (fun e => e ▸ hv) (h w)
theorem oks.nil {S : GS} : oks S [] := fun _ h => absurd h List.not_mem_nil
theorem okv.mono {S S' : GS} (h : ∀ g, kd S g ≠ 0 → kd S' g ≠ 0) {v : Value} (hv : okv S v) : okv S' v := by
  cases v <;> first | exact h _ hv | trivial
theorem oks.mono {S S' : GS} (h : ∀ g, kd S g ≠ 0 → kd S' g ≠ 0) {st : List Value} (hs : oks S st) : oks S' st := fun v hv => (hs v hv).mono h
theorem okl.mono {S S' : GS} (h : ∀ g, kd S g ≠ 0 → kd S' g ≠ 0) {lo : List (Option Value)} (hs : okl S lo) : okl S' lo := fun v hv => (hs v hv).mono h
theorem okl.set {S : GS} {lo : List (Option Value)} {i : Nat} {v : Value} (h : okl S lo) (hv : okv S v) : okl S (lo.set i (some v)) := by
  intro w hw
  rcases List.mem_or_eq_of_mem_set hw with h1 | h1
  · exact h w h1
  · cases h1; exact hv
theorem okl.setN {S : GS} {lo : List (Option Value)} {i : Nat} (h : okl S lo) : okl S (lo.set i none) := by
  intro w hw
  rcases List.mem_or_eq_of_mem_set hw with h1 | h1
  · exact h w h1
  · cases h1
theorem gv_same {S : GS} {ad ad' : Nat → Nat} (h : ∀ g, kd S g ≠ 0 → ad' g = ad g) {v : Value} (hv : okv S v) : gv ad' v = gv ad v := by
  cases v <;> first | rfl | exact congrArg Value.ref (h _ hv)
theorem gvs_same {S : GS} {ad ad' : Nat → Nat} (h : ∀ g, kd S g ≠ 0 → ad' g = ad g) {st : List Value} (hs : oks S st) : st.map (gv ad') = st.map (gv ad) := List.map_congr_left (fun v hv => gv_same h (hs v hv))
theorem gls.moved {S : GS} {ad ad' : Nat → Nat} (h : ∀ g, kd S g ≠ 0 → ad' g = ad g) {nL : Nat} {ls : Array Slot} {lo : List (Option Value)} (hs : okl S lo) (hl : gls nL ls ad lo) : gls nL ls ad' lo :=
  ⟨hl.1, hl.2.1, fun i v hv => by rw [gv_same h (hs v (List.mem_of_getElem? hv))]; exact hl.2.2 i v hv⟩
theorem gfs_get {ad : Nat → Nat} {S : GS} {g ci k : Nat} (h : k < cN ci) : (gfs ad S g ci)[k]? = some (gf ad S g k (cTy ci k)) := by
  simp [gfs, List.getElem?_map, List.getElem?_range, h]
theorem gfs_len {ad : Nat → Nat} {S : GS} {g ci : Nat} : (gfs ad S g ci).length = cN ci := by simp [gfs]
theorem gfs_set {ad : Nat → Nat} {S S' : GS} {g ci f : Nat} {v : Value} (h1 : ∀ j, j ≠ f → gf ad S' g j (cTy ci j) = gf ad S g j (cTy ci j)) (h2 : gf ad S' g f (cTy ci f) = v) : (gfs ad S g ci).set f v = gfs ad S' g ci := by
  apply List.ext_getElem?
  intro j
  by_cases hj : j < cN ci
  · rw [gfs_get hj, List.getElem?_set]
    by_cases e : f = j
    · subst e
      rw [if_pos rfl, if_pos (by rw [gfs_len]; exact hj), h2]
    · rw [if_neg e, gfs_get hj, h1 j (fun q => e q.symm)]
  · rw [List.getElem?_eq_none (by rw [List.length_set, gfs_len]; omega), List.getElem?_eq_none (by rw [gfs_len]; omega)]
theorem gws_at {ad : Nat → Nat} {tc : Nat → ClassId} {S : GS} {L : List Nat} {g : Nat} (h : g ∈ L) : ∃ i : Nat, L[i]? = some g ∧ (gws ad tc S L)[i]? = some (ad g, gc ad tc S g) := by
  obtain ⟨i, hi⟩ := List.getElem?_of_mem h
  exact ⟨i, hi, by rw [gws, List.getElem?_map, hi]; rfl⟩
theorem gws_get {ad : Nat → Nat} {tc : Nat → ClassId} {S : GS} {L : List Nat} {i g : Nat} (h : L[i]? = some g) : (gws ad tc S L)[i]? = some (ad g, gc ad tc S g) := by rw [gws, List.getElem?_map, h]; rfl
theorem gws_set {A : Nat → Prop} {ad : Nat → Nat} {tc : Nat → ClassId} {S S' : GS} {L : List Nat} {i g : Nat} (hD : va_D A (gws ad tc S L)) (h : L[i]? = some g) (ho : ∀ g', g' ≠ g → gc ad tc S' g' = gc ad tc S g') : (gws ad tc S L).set i (ad g, gc ad tc S' g) = gws ad tc S' L := by
  apply List.ext_getElem?
  intro j
  by_cases e : i = j
  · subst e
    rw [List.getElem?_set_self (by rw [gws, List.length_map]; exact (List.getElem?_eq_some_iff.mp h).1), gws_get h]
  · rw [List.getElem?_set_ne e]
    cases hj : L[j]? with
    | none => rw [gws, gws, List.getElem?_map, List.getElem?_map, hj]; rfl
    | some g' =>
      have hne : g' ≠ g := fun q => e (hD.1 i j _ _ (gws_get h) (gws_get hj) (by rw [q]))
      rw [gws_get hj, gws_get hj, ho g' hne]
