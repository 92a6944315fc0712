/-! ===== the ghost machine, 4: rows of the heap ===== -/
def FL (own : String) (idx ci f : Nat) : Prop := ci < 12 ∧ f < cN ci ∧ Cond.fieldLink own idx (cT ci f).1 (cT ci f).2.1 (cT ci f).2.2.1 ∈ gt_B
def FN (own : String) (idx ci f : Nat) : Prop := ci < 12 ∧ f < cN ci ∧ ∃ host, Cond.fieldLinkNest own idx (cT ci f).1 (cT ci f).2.1 (cT ci f).2.2.1 host ∈ gt_N
section GH
variable {X : CX} {own : String} {cc : ByteArray} {nL d kc nc pc k n : Nat} {lo : List (Option Value)} {st : List Value} {S : GS}
theorem gc_obj {ad : Nat → Nat} {tc : Nat → ClassId} {g ci : Nat} (hci : ci < 12) (hk : kd S g = ci + 1) : gc ad tc S g = .inr (ci, gfs ad S g ci) := by
  unfold gc
  rw [hk, if_pos (by omega)]
  rfl
theorem gc_int {ad : Nat → Nat} {tc : Nat → ClassId} {g c : Nat} (hk : kd S g = c) (hc : c = 21 ∨ c = 23 ∨ c = 24) : gc ad tc S g = .inl (tc c, ln S g, .inl (aI S g)) := by
  unfold gc
  rw [hk]
  rcases hc with rfl | rfl | rfl <;> rfl
theorem gc_long {ad : Nat → Nat} {tc : Nat → ClassId} {g : Nat} (hk : kd S g = 22) : gc ad tc S g = .inl (tc 22, ln S g, .inr (.inl (aJ S g))) := by
  unfold gc
  rw [hk]
  rfl
theorem gc_refs {ad : Nat → Nat} {tc : Nat → ClassId} {g c : Nat} (hk : kd S g = c) (hc : c = 25 ∨ c = 26 ∨ c = 27) : gc ad tc S g = .inl (tc c, ln S g, .inr (.inr (.inr (.inr (fun i => (rf S g i).map ad))))) := by
  unfold gc
  rw [hk]
  rcases hc with rfl | rfl | rfl <;> rfl
theorem Mx.mem {L : List Nat} {ad : Nat → Nat} {H : Heap} {locs : List Loc} (hM : Mx X S L ad H locs) {g : Nat} (h : kd S g ≠ 0) (h2 : kd S g ≠ 99) : g ∈ L := (hM.1.1 g).mpr ⟨h, h2⟩
/-- a cell has changed -/
theorem Mx.cell {S' : GS} {L : List Nat} {ad : Nat → Nat} {H H1 : Heap} {locs locs1 : List Loc} {i g : Nat} {e : va_E} (hM : Mx X S L ad H locs) (hi : L[i]? = some g) (hkd : kd S' = kd S) (hok : gok S' L) (ho : ∀ g', g' ≠ g → gc ad (x_tc X) S' g' = gc ad (x_tc X) S g') (he : gc ad (x_tc X) S' g = e)
    (hP : va_P (x_dC X, x_dI X) vwCl ((gws ad (x_tc X) S L).set i (ad g, e)) H1) (hD : va_D (x_A X) ((gws ad (x_tc X) S L).set i (ad g, e))) (hS : va_S (x_A X) (x_s X).heap H1 locs1) : Mx X S' L ad H1 locs1 := by
  subst he
  rw [gws_set hM.2.2.2.1 hi ho] at hP hD
  exact ⟨hok, fun g0 h0 => ⟨(hM.2.1 g0 h0).1, by rw [hkd]; exact (hM.2.1 g0 h0).2⟩, hP, hD, hS⟩
theorem V_getX {idx ci f g : Nat} {v : Value} (E : En X own cc nL d kc nc) (hF : FL own idx ci f) (hd : decode cc pc = .ok (.getfield idx, 3)) (hk : kd S g = ci + 1) (hv : ∀ ad, gf ad S g f (cTy ci f) = gv ad v) (ho : ∀ L, gok S L → okv S v) (h : V X (pc + 3) lo (v :: st) S k n) : V X pc lo (.ref g :: st) S k n := by
  intro L ad H locs ls hM hlo hst hls
  obtain ⟨hci, hf, hw⟩ := hF
  obtain ⟨i, hi, hg⟩ := gws_at (ad := ad) (tc := x_tc X) (S := S) (hM.mem (g := g) (by omega) (by omega))
  rw [gc_obj hci hk] at hg
  exact va_get (ref := (cT ci f).1) E.ex E.by E.ts (c_in hci) E.ow E.kk.1 hM.2.2.1 i hg (c_cl hci) f hf (E.ts _ hw) (fun _ q => q) (by rw [gfs_get hf, hv]) hd (h L ad H locs ls hM hlo (hst.t.c (ho L hM.1)) hls)
theorem V_getXN {idx ci f g : Nat} {v : Value} (E : En X own cc nL d kc nc) (hF : FN own idx ci f) (hd : decode cc pc = .ok (.getfield idx, 3)) (hk : kd S g = ci + 1) (hv : ∀ ad, gf ad S g f (cTy ci f) = gv ad v) (ho : ∀ L, gok S L → okv S v) (h : V X (pc + 3) lo (v :: st) S k n) : V X pc lo (.ref g :: st) S k n := by
  intro L ad H locs ls hM hlo hst hls
  obtain ⟨hci, hf, host, hw⟩ := hF
  obtain ⟨i, hi, hg⟩ := gws_at (ad := ad) (tc := x_tc X) (S := S) (hM.mem (g := g) (by omega) (by omega))
  rw [gc_obj hci hk] at hg
  exact va_getN (ref := (cT ci f).1) E.ex E.by E.ts (c_in hci) E.ow E.kk.1 hM.2.2.1 i hg (c_cl hci) f hf (va_Nw.use rfl (E.kk.2.1 _ hw)) (fun _ q => q) (by rw [gfs_get hf, hv]) hd (h L ad H locs ls hM hlo (hst.t.c (ho L hM.1)) hls)
theorem gf_i {ad : Nat → Nat} {g f : Nat} {ty : FieldType} (h : sort_ ty = 0) : gf ad S g f ty = gv ad (.int (fI S g f)) := by simp [gf, h, gv]
theorem gf_l {ad : Nat → Nat} {g f : Nat} {ty : FieldType} (h : sort_ ty = 1) : gf ad S g f ty = gv ad (.long (fJ S g f)) := by simp [gf, h, gv]
theorem gf_r {ad : Nat → Nat} {g f : Nat} {ty : FieldType} (h : sort_ ty = 2) : gf ad S g f ty = gv ad (va_rf (rf S g f)) := by simp [gf, h, gv_rf]
theorem V_getI {idx ci f g : Nat} (E : En X own cc nL d kc nc) (hF : FL own idx ci f) (hd : decode cc pc = .ok (.getfield idx, 3)) (hs : sort_ (cTy ci f) = 0) (hk : kd S g = ci + 1) (h : V X (pc + 3) lo (.int (fI S g f) :: st) S k n) : V X pc lo (.ref g :: st) S k n := V_getX E hF hd hk (fun _ => gf_i hs) (fun _ _ => trivial) h
theorem V_getJ {idx ci f g : Nat} (E : En X own cc nL d kc nc) (hF : FL own idx ci f) (hd : decode cc pc = .ok (.getfield idx, 3)) (hs : sort_ (cTy ci f) = 1) (hk : kd S g = ci + 1) (h : V X (pc + 3) lo (.long (fJ S g f) :: st) S k n) : V X pc lo (.ref g :: st) S k n := V_getX E hF hd hk (fun _ => gf_l hs) (fun _ _ => trivial) h
theorem V_getR {idx ci f g g' : Nat} (E : En X own cc nL d kc nc) (hF : FL own idx ci f) (hd : decode cc pc = .ok (.getfield idx, 3)) (hs : sort_ (cTy ci f) = 2) (hk : kd S g = ci + 1) (hr : rf S g f = some g') (h : V X (pc + 3) lo (.ref g' :: st) S k n) : V X pc lo (.ref g :: st) S k n := V_getX (v := .ref g') E hF hd hk (fun _ => by rw [gf_r hs, hr]; rfl) (fun _ q => q.2 g f g' (by omega) hr) h
theorem V_getIN {idx ci f g : Nat} (E : En X own cc nL d kc nc) (hF : FN own idx ci f) (hd : decode cc pc = .ok (.getfield idx, 3)) (hs : sort_ (cTy ci f) = 0) (hk : kd S g = ci + 1) (h : V X (pc + 3) lo (.int (fI S g f) :: st) S k n) : V X pc lo (.ref g :: st) S k n := V_getXN E hF hd hk (fun _ => gf_i hs) (fun _ _ => trivial) h
theorem V_getJN {idx ci f g : Nat} (E : En X own cc nL d kc nc) (hF : FN own idx ci f) (hd : decode cc pc = .ok (.getfield idx, 3)) (hs : sort_ (cTy ci f) = 1) (hk : kd S g = ci + 1) (h : V X (pc + 3) lo (.long (fJ S g f) :: st) S k n) : V X pc lo (.ref g :: st) S k n := V_getXN E hF hd hk (fun _ => gf_l hs) (fun _ _ => trivial) h
theorem V_getRN {idx ci f g g' : Nat} (E : En X own cc nL d kc nc) (hF : FN own idx ci f) (hd : decode cc pc = .ok (.getfield idx, 3)) (hs : sort_ (cTy ci f) = 2) (hk : kd S g = ci + 1) (hr : rf S g f = some g') (h : V X (pc + 3) lo (.ref g' :: st) S k n) : V X pc lo (.ref g :: st) S k n := V_getXN (v := .ref g') E hF hd hk (fun _ => by rw [gf_r hs, hr]; rfl) (fun _ q => q.2 g f g' (by omega) hr) h
/-- S' is S with the field f of the object g set to v -/
def Fset (S S' : GS) (g ci f : Nat) (v : Value) : Prop := kd S' = kd S ∧ (∀ L, okv S v → gok S L → gok S' L) ∧ (∀ ad j, j ≠ f → gf ad S' g j (cTy ci j) = gf ad S g j (cTy ci j)) ∧ (∀ ad, gf ad S' g f (cTy ci f) = gv ad v) ∧ ∀ ad tc g', g' ≠ g → gc ad tc S' g' = gc ad tc S g'
theorem V_putX {S' : GS} {idx ci f g : Nat} {v : Value} (E : En X own cc nL d kc nc) (hF : FL own idx ci f) (hd : decode cc pc = .ok (.putfield idx, 3)) (hk : kd S g = ci + 1) (hs : Fset S S' g ci f v) (hn : ∀ ad, narrow (cTy ci f) (gv ad v) = gv ad v ∧ fits (cTy ci f) (gv ad v) = true) (hfin : (cT ci f).2.2.2 = false) (h : V X (pc + 3) lo st S' k n) : V X pc lo (v :: .ref g :: st) S k n := by
  intro L ad H locs ls hM hlo hst hls
  obtain ⟨hci, hf, hw⟩ := hF
  obtain ⟨i, hi, hg⟩ := gws_at (ad := ad) (tc := x_tc X) (S := S) (hM.mem (g := g) (by omega) (by omega))
  rw [gc_obj hci hk] at hg
  obtain ⟨e1, e2, e3, e4, e5⟩ := hs
  refine va_put (ref := (cT ci f).1) (ty := cTy ci f) E.ex E.by E.ts (c_in hci) (cTy ci) (c_ty hci) (c_nm hci) E.ow E.kk.1 hM.2.2.1 hM.2.2.2.1 hM.2.2.2.2 i hg (c_cl hci) f hf (E.ts _ hw) (fun _ q => q) hfin (c_ty hci f hf) (hn ad).1 (hn ad).2 (by rw [gfs_len]; exact hf) hd (fun H1 locs1 hP hD hS => ?_)
  exact h L ad H1 locs1 ls (hM.cell hi e1 (e2 L hst.h hM.1) (e5 ad _) (by rw [gc_obj hci (by rw [e1]; exact hk), gfs_set (e3 ad) (e4 ad)]) hP hD hS) (hlo.mono (fun g q => by rw [e1]; exact q)) (hst.t.t.mono (fun g q => by rw [e1]; exact q)) hls
theorem V_putXN {S' : GS} {idx ci f g : Nat} {v : Value} (E : En X own cc nL d kc nc) (hF : FN own idx ci f) (hd : decode cc pc = .ok (.putfield idx, 3)) (hk : kd S g = ci + 1) (hs : Fset S S' g ci f v) (hn : ∀ ad, narrow (cTy ci f) (gv ad v) = gv ad v ∧ fits (cTy ci f) (gv ad v) = true) (hfin : (cT ci f).2.2.2 = false) (h : V X (pc + 3) lo st S' k n) : V X pc lo (v :: .ref g :: st) S k n := by
  intro L ad H locs ls hM hlo hst hls
  obtain ⟨hci, hf, host, hw⟩ := hF
  obtain ⟨i, hi, hg⟩ := gws_at (ad := ad) (tc := x_tc X) (S := S) (hM.mem (g := g) (by omega) (by omega))
  rw [gc_obj hci hk] at hg
  obtain ⟨e1, e2, e3, e4, e5⟩ := hs
  refine va_putN (ref := (cT ci f).1) (ty := cTy ci f) E.ex E.by E.ts (c_in hci) (cTy ci) (c_ty hci) (c_nm hci) E.ow E.kk.1 hM.2.2.1 hM.2.2.2.1 hM.2.2.2.2 i hg (c_cl hci) f hf (va_Nw.use rfl (E.kk.2.1 _ hw)) (fun _ q => q) hfin (c_ty hci f hf) (hn ad).1 (hn ad).2 (by rw [gfs_len]; exact hf) hd (fun H1 locs1 hP hD hS => ?_)
  exact h L ad H1 locs1 ls (hM.cell hi e1 (e2 L hst.h hM.1) (e5 ad _) (by rw [gc_obj hci (by rw [e1]; exact hk), gfs_set (e3 ad) (e4 ad)]) hP hD hS) (hlo.mono (fun g q => by rw [e1]; exact q)) (hst.t.t.mono (fun g q => by rw [e1]; exact q)) hls
theorem V_putXF {S' : GS} {idx ci f g : Nat} {v : Value} (E : En X own cc nL d kc nc) (hF : FL own idx ci f) (hnm : (x_me X).name = "<init>") (hd : decode cc pc = .ok (.putfield idx, 3)) (hk : kd S g = ci + 1) (hs : Fset S S' g ci f v) (hn : ∀ ad, narrow (cTy ci f) (gv ad v) = gv ad v ∧ fits (cTy ci f) (gv ad v) = true) (hfin : (cT ci f).2.2.2 = true) (hdecl : (cT ci f).1 = own) (h : V X (pc + 3) lo st S' k n) : V X pc lo (v :: .ref g :: st) S k n := by
  intro L ad H locs ls hM hlo hst hls
  obtain ⟨hci, hf, hw⟩ := hF
  obtain ⟨i, hi, hg⟩ := gws_at (ad := ad) (tc := x_tc X) (S := S) (hM.mem (g := g) (by omega) (by omega))
  rw [gc_obj hci hk] at hg
  obtain ⟨e1, e2, e3, e4, e5⟩ := hs
  refine va_putF (ref := (cT ci f).1) (ty := cTy ci f) E.ex E.by E.ts (c_in hci) (cTy ci) (c_ty hci) (c_nm hci) E.ow E.kk.1 hM.2.2.1 hM.2.2.2.1 hM.2.2.2.2 i hg (c_cl hci) f hf (E.ts _ hw) (fun _ q => q) hfin hnm hdecl (c_ty hci f hf) (hn ad).1 (hn ad).2 (by rw [gfs_len]; exact hf) hd (fun H1 locs1 hP hD hS => ?_)
  exact h L ad H1 locs1 ls (hM.cell hi e1 (e2 L hst.h hM.1) (e5 ad _) (by rw [gc_obj hci (by rw [e1]; exact hk), gfs_set (e3 ad) (e4 ad)]) hP hD hS) (hlo.mono (fun g q => by rw [e1]; exact q)) (hst.t.t.mono (fun g q => by rw [e1]; exact q)) hls
theorem gfs_congr {ad ad' : Nat → Nat} {S S' : GS} {g ci : Nat} (h1 : fI S' g = fI S g) (h2 : fJ S' g = fJ S g) (h3 : ∀ k, (rf S' g k).map ad' = (rf S g k).map ad) : gfs ad' S' g ci = gfs ad S g ci := by
  unfold gfs gf
  rw [h1, h2]
  simp only [h3]
theorem gc_congr {ad ad' : Nat → Nat} {tc : Nat → ClassId} {S S' : GS} {g : Nat} (h0 : kd S' g = kd S g) (h1 : fI S' g = fI S g) (h2 : fJ S' g = fJ S g) (h3 : ∀ k, (rf S' g k).map ad' = (rf S g k).map ad) (h4 : ln S' g = ln S g) (h5 : aI S' g = aI S g) (h6 : aJ S' g = aJ S g) : gc ad' tc S' g = gc ad tc S g := by
  unfold gc
  rw [h0, h4, h5, h6, gfs_congr h1 h2 h3]
  simp only [h3]
theorem Fset_I {g ci f : Nat} {v : Int32} (hs : sort_ (cTy ci f) = 0) : Fset S (sI S g f v) g ci f (.int v) := by
  refine ⟨rfl, fun L _ h => h, fun ad j hj => ?_, fun ad => ?_, fun ad tc g' hg => gc_congr rfl (up2_row hg) rfl (fun _ => rfl) rfl rfl rfl⟩
  · simp only [gf, fI_sI, fJ_sI, rf_sI, up2_nk hj]
  · rw [gf_i hs, fI_sI, up2_at]
theorem Fset_J {g ci f : Nat} {v : Int64} (hs : sort_ (cTy ci f) = 1) : Fset S (sJ S g f v) g ci f (.long v) := by
  refine ⟨rfl, fun L _ h => h, fun ad j hj => ?_, fun ad => ?_, fun ad tc g' hg => gc_congr rfl rfl (up2_row hg) (fun _ => rfl) rfl rfl rfl⟩
  · simp only [gf, fI_sJ, fJ_sJ, rf_sJ, up2_nk hj]
  · rw [gf_l hs, fJ_sJ, up2_at]
theorem gok_R {g f : Nat} {v : Option Nat} (L : List Nat) (hv : okv S (va_rf v)) (h : gok S L) : gok (sR S g f v) L := by
  refine ⟨h.1, fun a j b ha hb => ?_⟩
  by_cases e : a = g ∧ j = f
  · obtain ⟨rfl, rfl⟩ := e
    have : v = some b := by rw [← hb]; exact up2_at.symm
    subst this
    exact hv
  · refine h.2 a j b ha ?_
    rw [← hb]
    by_cases e1 : a = g
    · exact (up2_nk (fun q => e ⟨e1, q⟩)).symm
    · exact (up2_ne e1).symm
theorem Fset_R {g ci f : Nat} {v : Option Nat} (hs : sort_ (cTy ci f) = 2) : Fset S (sR S g f v) g ci f (va_rf v) := by
  refine ⟨rfl, fun L hv h => gok_R L hv h, fun ad j hj => ?_, fun ad => ?_, fun ad tc g' hg => gc_congr rfl rfl rfl (fun k => by rw [show rf (sR S g f v) g' k = rf S g' k from up2_ne hg]) rfl rfl rfl⟩
  · simp only [gf, fI_sR, fJ_sR, rf_sR, up2_nk hj]
  · rw [gf_r hs, rf_sR, up2_at]
theorem nf_ref {ty : FieldType} (h : sort_ ty = 2) (ad : Nat → Nat) (v : Option Nat) : narrow ty (gv ad (va_rf v)) = gv ad (va_rf v) ∧ fits ty (gv ad (va_rf v)) = true := by
  cases ty <;> first | (cases h; done) | (cases v <;> exact ⟨rfl, rfl⟩)
theorem V_putI {idx ci f g : Nat} {v : Int32} (E : En X own cc nL d kc nc) (hF : FL own idx ci f) (hd : decode cc pc = .ok (.putfield idx, 3)) (hs : sort_ (cTy ci f) = 0) (hk : kd S g = ci + 1) (hn : narrow (cTy ci f) (.int v) = .int v ∧ fits (cTy ci f) (.int v) = true) (hfin : (cT ci f).2.2.2 = false) (h : V X (pc + 3) lo st (sI S g f v) k n) : V X pc lo (.int v :: .ref g :: st) S k n := V_putX E hF hd hk (Fset_I hs) (fun _ => hn) hfin h
theorem V_putIN {idx ci f g : Nat} {v : Int32} (E : En X own cc nL d kc nc) (hF : FN own idx ci f) (hd : decode cc pc = .ok (.putfield idx, 3)) (hs : sort_ (cTy ci f) = 0) (hk : kd S g = ci + 1) (hn : narrow (cTy ci f) (.int v) = .int v ∧ fits (cTy ci f) (.int v) = true) (hfin : (cT ci f).2.2.2 = false) (h : V X (pc + 3) lo st (sI S g f v) k n) : V X pc lo (.int v :: .ref g :: st) S k n := V_putXN E hF hd hk (Fset_I hs) (fun _ => hn) hfin h
theorem V_putIF {idx ci f g : Nat} {v : Int32} (E : En X own cc nL d kc nc) (hF : FL own idx ci f) (hnm : (x_me X).name = "<init>") (hd : decode cc pc = .ok (.putfield idx, 3)) (hs : sort_ (cTy ci f) = 0) (hk : kd S g = ci + 1) (hn : narrow (cTy ci f) (.int v) = .int v ∧ fits (cTy ci f) (.int v) = true) (hfin : (cT ci f).2.2.2 = true) (hdecl : (cT ci f).1 = own) (h : V X (pc + 3) lo st (sI S g f v) k n) : V X pc lo (.int v :: .ref g :: st) S k n := V_putXF E hF hnm hd hk (Fset_I hs) (fun _ => hn) hfin hdecl h
theorem nf_long {ty : FieldType} (h : sort_ ty = 1) (v : Int64) : narrow ty (.long v) = .long v ∧ fits ty (.long v) = true := by
  cases ty <;> first | (cases h; done) | exact ⟨rfl, rfl⟩
theorem V_putJ {idx ci f g : Nat} {v : Int64} (E : En X own cc nL d kc nc) (hF : FL own idx ci f) (hd : decode cc pc = .ok (.putfield idx, 3)) (hs : sort_ (cTy ci f) = 1) (hk : kd S g = ci + 1) (hfin : (cT ci f).2.2.2 = false) (h : V X (pc + 3) lo st (sJ S g f v) k n) : V X pc lo (.long v :: .ref g :: st) S k n := V_putX E hF hd hk (Fset_J hs) (fun _ => nf_long hs v) hfin h
theorem V_putR {idx ci f g g' : Nat} (E : En X own cc nL d kc nc) (hF : FL own idx ci f) (hd : decode cc pc = .ok (.putfield idx, 3)) (hs : sort_ (cTy ci f) = 2) (hk : kd S g = ci + 1) (hfin : (cT ci f).2.2.2 = false) (h : V X (pc + 3) lo st (sR S g f (some g')) k n) : V X pc lo (.ref g' :: .ref g :: st) S k n := V_putX (v := .ref g') E hF hd hk (Fset_R (v := some g') hs) (fun ad => nf_ref hs ad (some g')) hfin h
theorem V_putRF {idx ci f g g' : Nat} (E : En X own cc nL d kc nc) (hF : FL own idx ci f) (hnm : (x_me X).name = "<init>") (hd : decode cc pc = .ok (.putfield idx, 3)) (hs : sort_ (cTy ci f) = 2) (hk : kd S g = ci + 1) (hfin : (cT ci f).2.2.2 = true) (hdecl : (cT ci f).1 = own) (h : V X (pc + 3) lo st (sR S g f (some g')) k n) : V X pc lo (.ref g' :: .ref g :: st) S k n := V_putXF (v := .ref g') E hF hnm hd hk (Fset_R (v := some g') hs) (fun ad => nf_ref hs ad (some g')) hfin hdecl h
/-! rows (arrays) -/
theorem g_in {x : Int32} {j N : Nat} (hx : x = nI j) (hj : j < N) (hb : N < 2 ^ 31) : vp_in x N ∧ x.toNatClampNeg = j := by
  subst hx
  exact ⟨vp_in_nI hj hb, nI_clamp (by omega)⟩
theorem V_iald {g j : Nat} {x : Int32} (E : En X own cc nL d kc nc) (hd : decode cc pc = .ok (.iaload, 1)) (hk : kd S g = 21) (hx : x = nI j) (hj : j < ln S g) (hb : ln S g < 2 ^ 31) (h : V X (pc + 1) lo (.int (aI S g j) :: st) S k n) : V X pc lo (.int x :: .ref g :: st) S k n := by
  intro L ad H locs ls hM hlo hst hls
  obtain ⟨i, hi, hg⟩ := gws_at (ad := ad) (tc := x_tc X) (S := S) (hM.mem (g := g) (by omega) (by omega))
  rw [gc_int hk (by omega)] at hg
  obtain ⟨q1, q2⟩ := g_in hx hj hb
  refine va_iald E.ex E.by E.kk.1 hM.2.2.1 i 0 hg rfl q1 hd ?_
  rw [q2]
  exact h L ad H locs ls hM hlo (hst.t.t.c trivial) hls
theorem V_bald {g j : Nat} {x : Int32} (E : En X own cc nL d kc nc) (hd : decode cc pc = .ok (.baload, 1)) (hk : kd S g = 23) (hx : x = nI j) (hj : j < ln S g) (hb : ln S g < 2 ^ 31) (h : V X (pc + 1) lo (.int (aI S g j) :: st) S k n) : V X pc lo (.int x :: .ref g :: st) S k n := by
  intro L ad H locs ls hM hlo hst hls
  obtain ⟨i, hi, hg⟩ := gws_at (ad := ad) (tc := x_tc X) (S := S) (hM.mem (g := g) (by omega) (by omega))
  rw [gc_int hk (by omega)] at hg
  obtain ⟨q1, q2⟩ := g_in hx hj hb
  refine va_bald E.ex E.by E.kk.1 hM.2.2.1 i 2 hg rfl q1 hd ?_
  rw [q2]
  exact h L ad H locs ls hM hlo (hst.t.t.c trivial) hls
theorem V_zald {g j : Nat} {x : Int32} (E : En X own cc nL d kc nc) (hd : decode cc pc = .ok (.baload, 1)) (hk : kd S g = 24) (hx : x = nI j) (hj : j < ln S g) (hb : ln S g < 2 ^ 31) (h : V X (pc + 1) lo (.int (aI S g j) :: st) S k n) : V X pc lo (.int x :: .ref g :: st) S k n := by
  intro L ad H locs ls hM hlo hst hls
  obtain ⟨i, hi, hg⟩ := gws_at (ad := ad) (tc := x_tc X) (S := S) (hM.mem (g := g) (by omega) (by omega))
  rw [gc_int hk (by omega)] at hg
  obtain ⟨q1, q2⟩ := g_in hx hj hb
  refine va_zald E.ex E.by E.kk.1 hM.2.2.1 i 3 hg rfl q1 hd ?_
  rw [q2]
  exact h L ad H locs ls hM hlo (hst.t.t.c trivial) hls
theorem V_lald {g j : Nat} {x : Int32} (E : En X own cc nL d kc nc) (hd : decode cc pc = .ok (.laload, 1)) (hk : kd S g = 22) (hx : x = nI j) (hj : j < ln S g) (hb : ln S g < 2 ^ 31) (h : V X (pc + 1) lo (.long (aJ S g j) :: st) S k n) : V X pc lo (.int x :: .ref g :: st) S k n := by
  intro L ad H locs ls hM hlo hst hls
  obtain ⟨i, hi, hg⟩ := gws_at (ad := ad) (tc := x_tc X) (S := S) (hM.mem (g := g) (by omega) (by omega))
  rw [gc_long hk] at hg
  obtain ⟨q1, q2⟩ := g_in hx hj hb
  refine va_lald E.ex E.by E.kk.1 hM.2.2.1 i 1 hg rfl q1 hd ?_
  rw [q2]
  exact h L ad H locs ls hM hlo (hst.t.t.c trivial) hls
theorem V_aald {g j c : Nat} {x : Int32} (E : En X own cc nL d kc nc) (hd : decode cc pc = .ok (.aaload, 1)) (hk : kd S g = c) (hc : c = 25 ∨ c = 26 ∨ c = 27) (hx : x = nI j) (hj : j < ln S g) (hb : ln S g < 2 ^ 31) (h : V X (pc + 1) lo (va_rf (rf S g j) :: st) S k n) : V X pc lo (.int x :: .ref g :: st) S k n := by
  intro L ad H locs ls hM hlo hst hls
  obtain ⟨i, hi, hg⟩ := gws_at (ad := ad) (tc := x_tc X) (S := S) (hM.mem (g := g) (by omega) (by omega))
  rw [gc_refs hk hc] at hg
  obtain ⟨q1, q2⟩ := g_in hx hj hb
  have ho : okv S (va_rf (rf S g j)) := by
    cases hr : rf S g j with
    | none => trivial
    | some g' => exact hM.1.2 g j g' (by omega) hr
  have h9 := h L ad H locs ls hM hlo (hst.t.t.c ho) hls
  rw [List.map_cons, gv_rf] at h9
  rcases hc with rfl | rfl | rfl
  · refine va_aldq E.ex E.by E.kk.1 hM.2.2.1 i 4 hg rfl q1 hd ?_
    rw [q2]
    exact h9
  · refine va_aldq E.ex E.by E.kk.1 hM.2.2.1 i 5 hg rfl q1 hd ?_
    rw [q2]
    exact h9
  · refine va_aldq E.ex E.by E.kk.1 hM.2.2.1 i 6 hg rfl q1 hd ?_
    rw [q2]
    exact h9
theorem sA_row {g j : Nat} {v : Int32} : aI (sA S g j v) g = upd (aI S g) j v := by
  funext y
  rw [aI_sA]
  simp [up2, upd]
theorem sL_row {g j : Nat} {v : Int64} : aJ (sL S g j v) g = vp_updL (aJ S g) j v := by
  funext y
  rw [aJ_sL]
  simp [up2, vp_updL]
theorem gc_sA {ad : Nat → Nat} {tc : Nat → ClassId} {g j g' : Nat} {v : Int32} (h : g' ≠ g) : gc ad tc (sA S g j v) g' = gc ad tc S g' := gc_congr rfl rfl rfl (fun _ => rfl) rfl (up2_row h) rfl
theorem gc_sL {ad : Nat → Nat} {tc : Nat → ClassId} {g j g' : Nat} {v : Int64} (h : g' ≠ g) : gc ad tc (sL S g j v) g' = gc ad tc S g' := gc_congr rfl rfl rfl (fun _ => rfl) rfl rfl (up2_row h)
theorem V_iast {g j : Nat} {x v : Int32} (E : En X own cc nL d kc nc) (hd : decode cc pc = .ok (.iastore, 1)) (hk : kd S g = 21) (hx : x = nI j) (hj : j < ln S g) (hb : ln S g < 2 ^ 31) (h : V X (pc + 1) lo st (sA S g j v) k n) : V X pc lo (.int v :: .int x :: .ref g :: st) S k n := by
  intro L ad H locs ls hM hlo hst hls
  obtain ⟨i, hi, hg⟩ := gws_at (ad := ad) (tc := x_tc X) (S := S) (hM.mem (g := g) (by omega) (by omega))
  rw [gc_int hk (by omega)] at hg
  obtain ⟨q1, q2⟩ := g_in hx hj hb
  refine va_iast E.ex E.by E.kk.1 hM.2.2.1 hM.2.2.2.1 hM.2.2.2.2 i 0 hg rfl q1 hd (fun H1 locs1 hP hD hS => ?_)
  rw [q2] at hP hD
  exact h L ad H1 locs1 ls (hM.cell hi rfl hM.1 (fun g' hg' => gc_sA hg') (by rw [gc_int (S := sA S g j v) hk (by omega), sA_row]; rfl) hP hD hS) hlo hst.t.t.t hls
theorem V_bast {g j : Nat} {x v : Int32} (E : En X own cc nL d kc nc) (hd : decode cc pc = .ok (.bastore, 1)) (hk : kd S g = 23) (hx : x = nI j) (hj : j < ln S g) (hb : ln S g < 2 ^ 31) (h : V X (pc + 1) lo st (sA S g j (vp_nar .byte v)) k n) : V X pc lo (.int v :: .int x :: .ref g :: st) S k n := by
  intro L ad H locs ls hM hlo hst hls
  obtain ⟨i, hi, hg⟩ := gws_at (ad := ad) (tc := x_tc X) (S := S) (hM.mem (g := g) (by omega) (by omega))
  rw [gc_int hk (by omega)] at hg
  obtain ⟨q1, q2⟩ := g_in hx hj hb
  refine va_bast E.ex E.by E.kk.1 hM.2.2.1 hM.2.2.2.1 hM.2.2.2.2 i 2 hg rfl q1 hd (fun H1 locs1 hP hD hS => ?_)
  rw [q2] at hP hD
  exact h L ad H1 locs1 ls (hM.cell hi rfl hM.1 (fun g' hg' => gc_sA hg') (by rw [gc_int (S := sA S g j (vp_nar .byte v)) hk (by omega), sA_row]; rfl) hP hD hS) hlo hst.t.t.t hls
theorem V_zast {g j : Nat} {x v : Int32} (E : En X own cc nL d kc nc) (hd : decode cc pc = .ok (.bastore, 1)) (hk : kd S g = 24) (hx : x = nI j) (hj : j < ln S g) (hb : ln S g < 2 ^ 31) (h : V X (pc + 1) lo st (sA S g j (vp_nar .boolean v)) k n) : V X pc lo (.int v :: .int x :: .ref g :: st) S k n := by
  intro L ad H locs ls hM hlo hst hls
  obtain ⟨i, hi, hg⟩ := gws_at (ad := ad) (tc := x_tc X) (S := S) (hM.mem (g := g) (by omega) (by omega))
  rw [gc_int hk (by omega)] at hg
  obtain ⟨q1, q2⟩ := g_in hx hj hb
  refine va_zast E.ex E.by E.kk.1 hM.2.2.1 hM.2.2.2.1 hM.2.2.2.2 i 3 hg rfl q1 hd (fun H1 locs1 hP hD hS => ?_)
  rw [q2] at hP hD
  exact h L ad H1 locs1 ls (hM.cell hi rfl hM.1 (fun g' hg' => gc_sA hg') (by rw [gc_int (S := sA S g j (vp_nar .boolean v)) hk (by omega), sA_row]; rfl) hP hD hS) hlo hst.t.t.t hls
theorem V_last {g j : Nat} {x : Int32} {v : Int64} (E : En X own cc nL d kc nc) (hd : decode cc pc = .ok (.lastore, 1)) (hk : kd S g = 22) (hx : x = nI j) (hj : j < ln S g) (hb : ln S g < 2 ^ 31) (h : V X (pc + 1) lo st (sL S g j v) k n) : V X pc lo (.long v :: .int x :: .ref g :: st) S k n := by
  intro L ad H locs ls hM hlo hst hls
  obtain ⟨i, hi, hg⟩ := gws_at (ad := ad) (tc := x_tc X) (S := S) (hM.mem (g := g) (by omega) (by omega))
  rw [gc_long hk] at hg
  obtain ⟨q1, q2⟩ := g_in hx hj hb
  refine va_last E.ex E.by E.kk.1 hM.2.2.1 hM.2.2.2.1 hM.2.2.2.2 i 1 hg rfl q1 hd (fun H1 locs1 hP hD hS => ?_)
  rw [q2] at hP hD
  exact h L ad H1 locs1 ls (hM.cell hi rfl hM.1 (fun g' hg' => gc_sL hg') (by rw [gc_long (S := sL S g j v) hk, sL_row]; rfl) hP hD hS) hlo hst.t.t.t hls
theorem sR_row {ad : Nat → Nat} {g j : Nat} {r : Option Nat} : (fun i => (rf (sR S g j r) g i).map ad) = va_up (fun i => (rf S g i).map ad) j (r.map ad) := by
  funext y
  rw [rf_sR]
  simp only [up2, va_up, if_true]
  split <;> rfl
theorem V_aast {g j c ci g' : Nat} {x : Int32} (E : En X own cc nL d kc nc) (hd : decode cc pc = .ok (.aastore, 1)) (hk : kd S g = c) (hc : (c = 25 ∧ ci = 7) ∨ (c = 26 ∧ ci = 8) ∨ (c = 27 ∧ ci = 3)) (hk' : kd S g' = ci + 1) (hx : x = nI j) (hj : j < ln S g) (hb : ln S g < 2 ^ 31) (h : V X (pc + 1) lo st (sR S g j (some g')) k n) : V X pc lo (.ref g' :: .int x :: .ref g :: st) S k n := by
  intro L ad H locs ls hM hlo hst hls
  obtain ⟨i, hi, hg⟩ := gws_at (ad := ad) (tc := x_tc X) (S := S) (hM.mem (g := g) (by omega) (by omega))
  obtain ⟨i', hi', hg'⟩ := gws_at (ad := ad) (tc := x_tc X) (S := S) (hM.mem (g := g') (by omega) (by omega))
  have hc3 : c = 25 ∨ c = 26 ∨ c = 27 := by omega
  rw [gc_refs hk hc3] at hg
  rw [gc_obj (by omega) hk'] at hg'
  obtain ⟨q1, q2⟩ := g_in hx hj hb
  have key : ∀ (H1 : Heap) (locs1 : List Loc), va_P (x_dC X, x_dI X) vwCl ((gws ad (x_tc X) S L).set i (ad g, .inl (x_tc X c, ln S g, .inr (.inr (.inr (.inr (va_up (fun i => (rf S g i).map ad) x.toNatClampNeg (some (ad g'))))))))) H1 → va_D (x_A X) ((gws ad (x_tc X) S L).set i (ad g, .inl (x_tc X c, ln S g, .inr (.inr (.inr (.inr (va_up (fun i => (rf S g i).map ad) x.toNatClampNeg (some (ad g'))))))))) → va_S (x_A X) (x_s X).heap H1 locs1 →
      W (x_p X) (x_l X) (x_e X) (x_R X) (x_s X) (x_m X) (x_a X) (x_b X) (x_me X) (x_c X) H1 locs1 k n (x_Q X) (F0 (x_m X) (pc + 1) ls (st.map (gv ad))) := by
    intro H1 locs1 hP hD hS
    rw [q2] at hP hD
    exact h L ad H1 locs1 ls (hM.cell hi rfl (gok_R (v := some g') L hst.h hM.1) (fun g2 hg2 => gc_congr rfl rfl rfl (fun k => by rw [show rf (sR S g j (some g')) g2 k = rf S g2 k from up2_ne hg2]) rfl rfl rfl) (by rw [gc_refs (S := sR S g j (some g')) hk hc3, sR_row]; rfl) hP hD hS) hlo hst.t.t.t hls
  rcases hc with ⟨rfl, rfl⟩ | ⟨rfl, rfl⟩ | ⟨rfl, rfl⟩
  · exact va_astq (r := (RX7, TX7, 8)) E.ex E.by E.kk.1 hM.2.2.1 hM.2.2.2.1 hM.2.2.2.2 i 4 i' 7 hg rfl hg' rfl q1 hd key
  · exact va_astq (r := (RX8, TX8, 3)) E.ex E.by E.kk.1 hM.2.2.1 hM.2.2.2.1 hM.2.2.2.2 i 5 i' 8 hg rfl hg' rfl q1 hd key
  · exact va_astq (r := (RX3, TX3, 6)) E.ex E.by E.kk.1 hM.2.2.1 hM.2.2.2.1 hM.2.2.2.2 i 6 i' 3 hg rfl hg' rfl q1 hd key
theorem V_alen {g : Nat} (E : En X own cc nL d kc nc) (hd : decode cc pc = .ok (.arraylength, 1)) (hk : 21 ≤ kd S g ∧ kd S g ≤ 27) (h : V X (pc + 1) lo (.int (nI (ln S g)) :: st) S k n) : V X pc lo (.ref g :: st) S k n := by
  intro L ad H locs ls hM hlo hst hls
  obtain ⟨i, hi, hg⟩ := gws_at (ad := ad) (tc := x_tc X) (S := S) (hM.mem (g := g) (by omega) (by omega))
  have h9 := h L ad H locs ls hM hlo (hst.t.c trivial) hls
  have hc : kd S g = 21 ∨ kd S g = 22 ∨ kd S g = 23 ∨ kd S g = 24 ∨ kd S g = 25 ∨ kd S g = 26 ∨ kd S g = 27 := by omega
  rcases hc with e | e | e | e | e | e | e
  · rw [gc_int e (by omega)] at hg
    exact va_alen E.ex E.by E.kk.1 hM.2.2.1 i 0 hg rfl rfl hd h9
  · rw [gc_long e] at hg
    exact va_alen E.ex E.by E.kk.1 hM.2.2.1 i 1 hg rfl rfl hd h9
  · rw [gc_int e (by omega)] at hg
    exact va_alen E.ex E.by E.kk.1 hM.2.2.1 i 2 hg rfl rfl hd h9
  · rw [gc_int e (by omega)] at hg
    exact va_alen E.ex E.by E.kk.1 hM.2.2.1 i 3 hg rfl rfl hd h9
  · rw [gc_refs e (by omega)] at hg
    exact va_alen E.ex E.by E.kk.1 hM.2.2.1 i 4 hg rfl rfl hd h9
  · rw [gc_refs e (by omega)] at hg
    exact va_alen E.ex E.by E.kk.1 hM.2.2.1 i 5 hg rfl rfl hd h9
  · rw [gc_refs e (by omega)] at hg
    exact va_alen E.ex E.by E.kk.1 hM.2.2.1 i 6 hg rfl rfl hd h9
end GH
