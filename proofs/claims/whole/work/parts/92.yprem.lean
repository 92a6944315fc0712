/-! ===== the premiums in the class ===== -/
def YPx (S : GS) (R : AR) (x : Nat) : Prop := (rf S 213 x = some (6000 + x) ∧ kd S (6000 + x) = 4 ∧ rf S (6000 + x) 0 = some (1000 + rS R x) ∧ rf S (6000 + x) 4 = some (7000 + x) ∧ kd S (7000 + x) = 21 ∧ ln S (7000 + x) = 20) ∧ fI S (6000 + x) 1 = nI (rG R x) ∧ fI S (6000 + x) 2 = nI (rC R x) ∧ fI S (6000 + x) 3 = nI (rD R x)
def YPv (S : GS) (R : AR) (x : Nat) : Prop := fI S (6000 + x) 5 = an (rV R x) ∧ ∀ m, m < 20 → aI S (7000 + x) m = nI (rH R x m)
def YPr (S : GS) (R : AR) : Prop := fI S 212 4 = nI (rn R) ∧ (∀ x, x < rn R → YPx S R x ∧ YPv S R x) ∧ ∀ x, rn R ≤ x → x < 100 → kd S (6000 + x) = 0 ∧ kd S (7000 + x) = 0
def dMea (g : Nat) : Prop := g = 209 ∨ g = 210 ∨ g = 211 ∨ g = 214
def YMf (S S2 : GS) : Prop := YSm dMea S S2 ∧ (YOK S → YOK S2)
theorem YMf.rfl' (S : GS) : YMf S S := ⟨YSm.rfl' _ S, fun h => h⟩
theorem YMf.trans {S S2 S3 : GS} (h : YMf S S2) (h2 : YMf S2 S3) : YMf S S3 := ⟨h.1.trans h2.1, fun q => h2.2 (h.2 q)⟩
theorem YRf.m {S S2 : GS} (h : YRf S S2) : YMf S S2 := ⟨h.1.mono (fun g hg => by unfold dMea; omega), h.2⟩
theorem YMf.A {S : GS} {j : Nat} {v : Int32} : YMf S (sA S 214 j v) := ⟨YSm.A (by unfold dMea; omega), fun h => h⟩
theorem YMf.ves {S S2 : GS} {A : AV} (h : YMf S S2) (hn : vn A ≤ 100) (hY : YVes S A) : YVes S2 A := hY.fr h.1 (fun g hg => by unfold dVes at hg; unfold dMea; omega) hn
theorem YMf.vot {S S2 : GS} {B : AB} (h : YMf S S2) (hn : bn B ≤ 50) (hV : YVo S B) : YVo S2 B := hV.fr h.1 (fun g hg => by unfold dVot at hg; unfold dMea; omega) hn
theorem YMf.big {S S2 : GS} (h : YMf S S2) {g : Nat} (hg : 6000 ≤ g) : kd S2 g = kd S g ∧ ln S2 g = ln S g ∧ rf S2 g = rf S g ∧ fI S2 g = fI S g ∧ aI S2 g = aI S g := by
  have hd : ¬ dMea g := by unfold dMea; omega
  exact ⟨h.1.kd hd, h.1.ln hd, h.1.rf hd, h.1.fI hd, h.1.aI hd⟩
def flg (n : Nat) : Nat := if n = 0 then 1 else 0
theorem flg_0 {n : Nat} (h : n = 0) : flg n = 1 := if_pos h
theorem flg_1 {n : Nat} (h : ¬ n = 0) : flg n = 0 := if_neg h
def dSet (x g : Nat) : Prop := g = 6000 + x ∨ g = 7000 + x ∨ g = 209 ∨ g = 210 ∨ g = 211 ∨ g = 214 ∨ g = 216 ∨ g = 217 ∨ dLed g
def YSf (S S2 : GS) (x : Nat) : Prop := YSm (dSet x) S S2 ∧ (YOK S → YOK S2) ∧ (kd S2 (6000 + x) = kd S (6000 + x) ∧ rf S2 (6000 + x) = rf S (6000 + x) ∧ ∀ k, k ≠ 5 → fI S2 (6000 + x) k = fI S (6000 + x) k) ∧ kd S2 (7000 + x) = kd S (7000 + x) ∧ ln S2 (7000 + x) = ln S (7000 + x)
theorem YSf.rfl' (S : GS) (x : Nat) : YSf S S x := ⟨YSm.rfl' _ S, fun h => h, ⟨rfl, rfl, fun _ _ => rfl⟩, rfl, rfl⟩
theorem YSf.trans {S S2 S3 : GS} {x : Nat} (h : YSf S S2 x) (h2 : YSf S2 S3 x) : YSf S S3 x := ⟨h.1.trans h2.1, fun q => h2.2.1 (h.2.1 q), ⟨h2.2.2.1.1.trans h.2.2.1.1, h2.2.2.1.2.1.trans h.2.2.1.2.1, fun k hk => (h2.2.2.1.2.2 k hk).trans (h.2.2.1.2.2 k hk)⟩, h2.2.2.2.1.trans h.2.2.2.1, h2.2.2.2.2.trans h.2.2.2.2⟩
theorem YSf.of {S S2 : GS} {D : Nat → Prop} {x : Nat} (h : YSm D S S2) (hd : ∀ g, D g → dSet x g ∧ g < 6000) (hq : YOK S → YOK S2) : YSf S S2 x := by
  have h6 : ¬ D (6000 + x) := fun q => by have := (hd _ q).2; omega
  have h7 : ¬ D (7000 + x) := fun q => by have := (hd _ q).2; omega
  exact ⟨h.mono (fun g hg => (hd g hg).1), hq, ⟨h.kd h6, h.rf h6, fun k _ => by rw [h.fI h6]⟩, h.kd h7, h.ln h7⟩
theorem YMf.s {S S2 : GS} (h : YMf S S2) (x : Nat) : YSf S S2 x := YSf.of h.1 (fun g hg => by unfold dMea at hg; unfold dSet; omega) h.2
theorem YEf.s {S S2 : GS} (h : YEf S S2) (x : Nat) : YSf S S2 x := YSf.of h.1 (fun g hg => by have hg2 := hg; unfold dLed at hg2; exact ⟨by unfold dSet; exact Or.inr (Or.inr (Or.inr (Or.inr (Or.inr (Or.inr (Or.inr (Or.inr hg))))))), by omega⟩) h.2
theorem YSf.D2 (S : GS) (x : Nat) (f : Nat → Int32) (h : Nat → Int64) : YSf S (D2 S 216 217 f h) x := YSf.of (D := fun g => g = 216 ∨ g = 217) ((YSm.rA (Or.inl rfl)).trans (YSm.rL (Or.inr rfl))) (fun g hg => by unfold dSet; omega) (fun q => q)
theorem YSf.V (S : GS) (x : Nat) (v : Int32) : YSf S (sI S (6000 + x) 5 v) x := ⟨YSm.I (Or.inl rfl), fun q => q, ⟨rfl, rfl, fun k hk => (show up2 (fI S) (6000 + x) 5 v (6000 + x) k = fI S (6000 + x) k from up2_nk hk)⟩, rfl, rfl⟩
theorem YSf.H (S : GS) (x j : Nat) (v : Int32) : YSf S (sA S (7000 + x) j v) x := ⟨YSm.A (Or.inr (Or.inl rfl)), fun q => q, ⟨rfl, rfl, fun _ _ => rfl⟩, rfl, rfl⟩
theorem YSf.ves {S S2 : GS} {A : AV} {x : Nat} (h : YSf S S2 x) (hn : vn A ≤ 100) (hY : YVes S A) : YVes S2 A := hY.fr h.1 (fun g hg => by unfold dVes at hg; unfold dSet dLed; omega) hn
theorem YSf.vot {S S2 : GS} {B : AB} {x : Nat} (h : YSf S S2 x) (hn : bn B ≤ 50) (hV : YVo S B) : YVo S2 B := hV.fr h.1 (fun g hg => by unfold dVot at hg; unfold dSet dLed; omega) hn
theorem YLx.sm {S S2 : GS} {L : AL} {g : Nat} (h : ∀ q, dLed q → kd S2 q = kd S q ∧ ln S2 q = ln S q ∧ rf S2 q = rf S q ∧ fI S2 q = fI S q ∧ aI S2 q = aI S q) (hL : YLx S L g) : YLx S2 L g := by
  obtain ⟨h1, ⟨a1, a2, a3, a4, a5, a6⟩, h3⟩ := hL
  have e1 := h 218 (Or.inl rfl)
  have e2 := h 219 (Or.inr (Or.inl rfl))
  have e3 := h (300 + g) (by unfold dLed; omega)
  refine ⟨by rw [e1.2.2.2.1]; exact h1, ⟨a1, by rw [e1.2.2.1]; exact a2, by rw [e3.1]; exact a3, by rw [e3.2.1]; exact a4, fun j hj w hw => by rw [e3.2.2.2.2]; exact a5 j hj w hw, fun z hz hz2 => by rw [(h (300 + z) (by unfold dLed; omega)).1]; exact a6 z hz hz2⟩, fun m hm => by rw [e2.2.2.2.2]; exact h3 m hm⟩
theorem YLd.fr {D : Nat → Prop} {S S2 : GS} {L : AL} (h : YSm D S S2) (hd : ∀ g, dLed g → ¬ D g) (hL : YLd S L) : YLd S2 L := YLx.sm (fun q hq => ⟨h.kd (hd q hq), h.ln (hd q hq), h.rf (hd q hq), h.fI (hd q hq), h.aI (hd q hq)⟩) hL
