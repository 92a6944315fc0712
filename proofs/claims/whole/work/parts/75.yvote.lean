/-! ===== a new vote in the class ===== -/
section
variable {S : GS} {g h c n k : Nat}
theorem sN_kd (hn : h ≠ g) : kd (sN S g c n) h = kd S h := va_up_ne _ _ hn
theorem sN_ln (hn : h ≠ g) : ln (sN S g c n) h = ln S h := va_up_ne _ _ hn
theorem sN_rr (hn : h ≠ g) : rf (sN S g c n) h = rf S h := va_up_ne _ _ hn
theorem sN_fI (hn : h ≠ g) : fI (sN S g c n) h = fI S h := va_up_ne _ _ hn
theorem sN_fJ (hn : h ≠ g) : fJ (sN S g c n) h = fJ S h := va_up_ne _ _ hn
theorem sN_aI (hn : h ≠ g) : aI (sN S g c n) h = aI S h := va_up_ne _ _ hn
theorem sN_aJ (hn : h ≠ g) : aJ (sN S g c n) h = aJ S h := va_up_ne _ _ hn
end
/-- S2 is S but for the cells of D -/
def YSm (D : Nat → Prop) (S S2 : GS) : Prop := ∀ g, ¬ D g → kd S2 g = kd S g ∧ ln S2 g = ln S g ∧ rf S2 g = rf S g ∧ fI S2 g = fI S g ∧ fJ S2 g = fJ S g ∧ aI S2 g = aI S g ∧ aJ S2 g = aJ S g
theorem YSm.rfl' (D : Nat → Prop) (S : GS) : YSm D S S := fun _ _ => ⟨rfl, rfl, rfl, rfl, rfl, rfl, rfl⟩
theorem YSm.trans {D : Nat → Prop} {S S2 S3 : GS} (h : YSm D S S2) (h2 : YSm D S2 S3) : YSm D S S3 := fun g hg => by
  obtain ⟨a1, a2, a3, a4, a5, a6, a7⟩ := h g hg
  obtain ⟨b1, b2, b3, b4, b5, b6, b7⟩ := h2 g hg
  exact ⟨b1.trans a1, b2.trans a2, b3.trans a3, b4.trans a4, b5.trans a5, b6.trans a6, b7.trans a7⟩
theorem YSm.mono {D D' : Nat → Prop} {S S2 : GS} (h : YSm D S S2) (hd : ∀ g, D g → D' g) : YSm D' S S2 := fun g hg => h g (fun q => hg (hd g q))
theorem YSm.N {D : Nat → Prop} {S : GS} {g c n : Nat} (hg : D g) : YSm D S (sN S g c n) := fun h hh => by
  have e : h ≠ g := fun q => hh (q ▸ hg)
  exact ⟨sN_kd e, sN_ln e, sN_rr e, sN_fI e, sN_fJ e, sN_aI e, sN_aJ e⟩
theorem YSm.I {D : Nat → Prop} {S : GS} {g k : Nat} {v : Int32} (hg : D g) : YSm D S (sI S g k v) := fun h hh => ⟨rfl, rfl, rfl, up2_row (fun q => hh (q ▸ hg)), rfl, rfl, rfl⟩
theorem YSm.J {D : Nat → Prop} {S : GS} {g k : Nat} {v : Int64} (hg : D g) : YSm D S (sJ S g k v) := fun h hh => ⟨rfl, rfl, rfl, rfl, up2_row (fun q => hh (q ▸ hg)), rfl, rfl⟩
theorem YSm.R {D : Nat → Prop} {S : GS} {g k : Nat} {v : Option Nat} (hg : D g) : YSm D S (sR S g k v) := fun h hh => ⟨rfl, rfl, up2_row (fun q => hh (q ▸ hg)), rfl, rfl, rfl, rfl⟩
theorem YSm.A {D : Nat → Prop} {S : GS} {g k : Nat} {v : Int32} (hg : D g) : YSm D S (sA S g k v) := fun h hh => ⟨rfl, rfl, rfl, rfl, rfl, up2_row (fun q => hh (q ▸ hg)), rfl⟩
theorem YSm.L {D : Nat → Prop} {S : GS} {g k : Nat} {v : Int64} (hg : D g) : YSm D S (sL S g k v) := fun h hh => ⟨rfl, rfl, rfl, rfl, rfl, rfl, up2_row (fun q => hh (q ▸ hg))⟩
theorem YSm.rA {D : Nat → Prop} {S : GS} {g : Nat} {f : Nat → Int32} (hg : D g) : YSm D S (rA S g f) := fun h hh => ⟨rfl, rfl, rfl, rfl, rfl, va_up_ne _ _ (fun q => hh (q ▸ hg)), rfl⟩
theorem YSm.rL {D : Nat → Prop} {S : GS} {g : Nat} {f : Nat → Int64} (hg : D g) : YSm D S (rL S g f) := fun h hh => ⟨rfl, rfl, rfl, rfl, rfl, rfl, va_up_ne _ _ (fun q => hh (q ▸ hg))⟩
theorem YSm.kd {D : Nat → Prop} {S S2 : GS} (h : YSm D S S2) {g : Nat} (hg : ¬ D g) : kd S2 g = kd S g := (h g hg).1
theorem YSm.ln {D : Nat → Prop} {S S2 : GS} (h : YSm D S S2) {g : Nat} (hg : ¬ D g) : ln S2 g = ln S g := (h g hg).2.1
theorem YSm.rf {D : Nat → Prop} {S S2 : GS} (h : YSm D S S2) {g : Nat} (hg : ¬ D g) : rf S2 g = rf S g := (h g hg).2.2.1
theorem YSm.fI {D : Nat → Prop} {S S2 : GS} (h : YSm D S S2) {g : Nat} (hg : ¬ D g) : fI S2 g = fI S g := (h g hg).2.2.2.1
theorem YSm.fJ {D : Nat → Prop} {S S2 : GS} (h : YSm D S S2) {g : Nat} (hg : ¬ D g) : fJ S2 g = fJ S g := (h g hg).2.2.2.2.1
theorem YSm.aI {D : Nat → Prop} {S S2 : GS} (h : YSm D S S2) {g : Nat} (hg : ¬ D g) : aI S2 g = aI S g := (h g hg).2.2.2.2.2.1
theorem YSm.aJ {D : Nat → Prop} {S S2 : GS} (h : YSm D S S2) {g : Nat} (hg : ¬ D g) : aJ S2 g = aJ S g := (h g hg).2.2.2.2.2.2
/-- what the class holds stays where its cells stay -/
def dVes (g : Nat) : Prop := g = 200 ∨ g = 201 ∨ (1000 ≤ g ∧ g < 1100) ∨ (2000 ≤ g ∧ g < 2100)
def dTxt (g : Nat) : Prop := g = 205 ∨ g = 206
def dVot (g : Nat) : Prop := g = 207 ∨ g = 208 ∨ (3000 ≤ g ∧ g < 3050) ∨ (4000 ≤ g ∧ g < 4050) ∨ (5000 ≤ g ∧ g < 5050)
theorem YVes.fr {D : Nat → Prop} {S S2 : GS} {A : AV} (h : YSm D S S2) (hd : ∀ g, dVes g → ¬ D g) (hn : vn A ≤ 100) (hY : YVes S A) : YVes S2 A := by
  obtain ⟨y1, y2, y3⟩ := hY
  refine ⟨?_, fun v hv => ?_, fun v hv h1 => ?_⟩
  · rw [h.fI (hd 200 (by unfold dVes; omega))]; exact y1
  · have e1 := hd (1000 + v) (by unfold dVes; omega)
    have e2 := hd (2000 + v) (by unfold dVes; omega)
    rw [h.rf (hd 201 (by unfold dVes; omega)), h.kd e1, h.rf e1, h.kd e2, h.ln e2, h.fI e1, h.aI e2]
    exact y2 v hv
  · rw [h.kd (hd (1000 + v) (by unfold dVes; omega)), h.kd (hd (2000 + v) (by unfold dVes; omega))]
    exact y3 v hv h1
theorem YTx.fr {D : Nat → Prop} {S S2 : GS} {T : AT} (h : YSm D S S2) (hd : ∀ g, dTxt g → ¬ D g) (hX : YTx S T) : YTx S2 T := by
  unfold YTx
  rw [h.fI (hd 205 (by unfold dTxt; omega)), h.aI (hd 206 (by unfold dTxt; omega))]
  exact hX
theorem YVo.fr {D : Nat → Prop} {S S2 : GS} {B : AB} (h : YSm D S S2) (hd : ∀ g, dVot g → ¬ D g) (hn : bn B ≤ 50) (hV : YVo S B) : YVo S2 B := by
  obtain ⟨y1, y2, y3⟩ := hV
  refine ⟨?_, fun v hv => ?_, fun v hv h1 => ?_⟩
  · rw [h.fI (hd 207 (by unfold dVot; omega))]; exact y1
  · have e1 := hd (3000 + v) (by unfold dVot; omega)
    have e2 := hd (4000 + v) (by unfold dVot; omega)
    have e3 := hd (5000 + v) (by unfold dVot; omega)
    rw [h.rf (hd 208 (by unfold dVot; omega)), h.kd e1, h.rf e1, h.kd e2, h.rf e2, h.kd e3, h.ln e3, h.fI e1, h.fI e2, h.aI e3]
    exact y2 v hv
  · rw [h.kd (hd (3000 + v) (by unfold dVot; omega)), h.kd (hd (4000 + v) (by unfold dVot; omega)), h.kd (hd (5000 + v) (by unfold dVot; omega))]
    exact y3 v hv h1
theorem YOK.sN {S : GS} {g c n : Nat} (hg : 300 ≤ g) (hQ : YOK S) : YOK (sN S g c n) := by
  refine ⟨fun h hh => ?_, fun h k r hr => ?_⟩
  · have := yT_small hh
    rw [sN_kd (by omega), sN_ln (by omega)]
    exact hQ.1 h hh
  · have := yR_small hr
    rw [sN_rr (by omega)]
    exact hQ.2 h k r hr
theorem YOK.sR {S : GS} {g k : Nat} {v : Option Nat} (hg : 300 ≤ g ∨ g = 208 ∨ g = 213) (hQ : YOK S) : YOK (sR S g k v) := by
  refine ⟨hQ.1, fun h k2 r hr => ?_⟩
  have h1 := yR_small hr
  have h2 : h ≠ 208 ∧ h ≠ 213 := by
    unfold yR at hr
    split at hr <;> first | (cases hr; done) | exact ⟨by omega, by omega⟩
  rw [rf_sR, up2_ne (by omega)]
  exact hQ.2 h k2 r hr
def yTi (S : GS) (o b n : Nat) : GS := sR (sN S b 23 n) o 0 (some b)
def yCp (S : GS) (u n : Nat) : GS := sI (rA (yTi (sN S (4000 + u) 7 0) (4000 + u) (5000 + u) n) (5000 + u) (va_cpy (aI (yTi (sN S (4000 + u) 7 0) (4000 + u) (5000 + u) n) 206) (aI (yTi (sN S (4000 + u) 7 0) (4000 + u) (5000 + u) n) (5000 + u)) 0 0 n)) (4000 + u) 1 (nI n)
def yVi (S : GS) (o t : Nat) (x : Int32) : GS := sR (sI S o 0 x) o 1 (some t)
def yAdd (S : GS) (u n : Nat) (x : Int32) : GS := sI (sR (yVi (yCp (sN S (3000 + u) 9 0) u n) (3000 + u) (4000 + u) x) 208 u (some (3000 + u))) 207 2 (nI (u + 1))
theorem yTi_sm (S : GS) (u n : Nat) : YSm (fun g => g = 4000 + u ∨ g = 5000 + u) S (yTi (sN S (4000 + u) 7 0) (4000 + u) (5000 + u) n) := ((YSm.N (Or.inl rfl)).trans (YSm.N (Or.inr rfl))).trans (YSm.R (Or.inl rfl))
theorem yCp_sm (S : GS) (u n : Nat) : YSm (fun g => g = 4000 + u ∨ g = 5000 + u) S (yCp S u n) := ((yTi_sm S u n).trans (YSm.rA (Or.inr rfl))).trans (YSm.I (Or.inl rfl))
theorem yCp_ok {S : GS} {u n : Nat} (hQ : YOK S) : YOK (yCp S u n) := YOK.sR (S := sN (sN S (4000 + u) 7 0) (5000 + u) 23 n) (g := 4000 + u) (k := 0) (v := some (5000 + u)) (Or.inl (by omega)) ((hQ.sN (by omega)).sN (by omega))
theorem yAdd_sm (S : GS) (u n : Nat) (x : Int32) : YSm (fun g => g = 3000 + u ∨ g = 4000 + u ∨ g = 5000 + u ∨ g = 207 ∨ g = 208) S (yAdd S u n x) :=
  (((((YSm.N (Or.inl rfl)).trans ((yCp_sm _ u n).mono (fun g hg => by omega))).trans (YSm.I (Or.inl rfl))).trans (YSm.R (Or.inl rfl))).trans (YSm.R (by omega))).trans (YSm.I (by omega))
theorem FR_le {T : AT} {i w o g j : Nat} (h : FR T i w o g = some j) (hi : i ≤ T.1) : j ≤ T.1 := by
  have key : ∀ m i w o g, i + m = T.1 → FR T i w o g = some j → j ≤ T.1 := by
    intro m
    induction m with
    | zero =>
      intro i w o g hm h
      rw [FR_end (by omega)] at h
      split at h
      · exact Nat.le_of_eq (Option.some.inj h).symm
      · cases h
    | succ m ih =>
      intro i w o g hm h
      rw [FR_step w o g (by omega)] at h
      split at h
      · split at h
        · have := Option.some.inj h; omega
        · exact ih (i + 1) _ _ _ (by omega) h
      · split at h
        · exact ih (i + 1) _ _ _ (by omega) h
        · split at h
          · exact ih (i + 1) _ _ _ (by omega) h
          · have := Option.some.inj h; omega
  exact key (T.1 - i) i w o g (by omega) h
theorem an_none {T : AT} (hT : TOK T) (h : an (FR T 0 1 0 0) = -1) : FR T 0 1 0 0 = none := by
  cases e : FR T 0 1 0 0 with
  | none => rfl
  | some i =>
    rw [e] at h
    exact absurd h (nIm1 (by have := FR_le e (Nat.zero_le _); have := hT.1; omega))
theorem imax_n0 {n : Nat} (hn : n ≤ 200) : (if (0 : Int32) < nI n then nI n else 0) = nI n := by
  by_cases h : n = 0
  · subst h; decide
  · exact if_pos (nI_lt (a := 0) (b := n) (by omega) (by omega))
