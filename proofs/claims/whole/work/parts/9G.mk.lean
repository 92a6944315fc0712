/-! ===== frames of the reference's calls: which fields and rows change ===== -/
def MKf (KI KJ D : List Nat) (S S2 : GS) : Prop := (∀ k, k ∉ KI → fI S2 0 k = fI S 0 k) ∧ (∀ k, k ∉ KJ → fJ S2 0 k = fJ S 0 k) ∧ (kd S2 = kd S ∧ ln S2 = ln S ∧ rf S2 = rf S) ∧ (∀ g, g ≠ 0 → fI S2 g = fI S g ∧ fJ S2 g = fJ S g) ∧ ∀ g, g ∉ D → aI S2 g = aI S g ∧ aJ S2 g = aJ S g
section
variable {KI KJ D : List Nat} {S S2 S3 : GS}
theorem MKf.rfl' : MKf KI KJ D S S := ⟨fun _ _ => rfl, fun _ _ => rfl, ⟨rfl, rfl, rfl⟩, fun _ _ => ⟨rfl, rfl⟩, fun _ _ => ⟨rfl, rfl⟩⟩
theorem MKf.trans (h : MKf KI KJ D S S2) (h2 : MKf KI KJ D S2 S3) : MKf KI KJ D S S3 := ⟨fun k q => (h2.1 k q).trans (h.1 k q), fun k q => (h2.2.1 k q).trans (h.2.1 k q), ⟨h2.2.2.1.1.trans h.2.2.1.1, h2.2.2.1.2.1.trans h.2.2.1.2.1, h2.2.2.1.2.2.trans h.2.2.1.2.2⟩, fun g q => ⟨(h2.2.2.2.1 g q).1.trans (h.2.2.2.1 g q).1, (h2.2.2.2.1 g q).2.trans (h.2.2.2.1 g q).2⟩, fun g q => ⟨(h2.2.2.2.2 g q).1.trans (h.2.2.2.2 g q).1, (h2.2.2.2.2 g q).2.trans (h.2.2.2.2 g q).2⟩⟩
theorem MKf.I {k : Nat} {v : Int32} (hk : k ∈ KI) : MKf KI KJ D S (sI S 0 k v) := ⟨fun j q => (show up2 (fI S) 0 k v 0 j = fI S 0 j from up2_nk (fun e => q (e ▸ hk))), fun _ _ => rfl, ⟨rfl, rfl, rfl⟩, fun g q => ⟨(show up2 (fI S) 0 k v g = fI S g from up2_row q), rfl⟩, fun _ _ => ⟨rfl, rfl⟩⟩
theorem MKf.J {k : Nat} {v : Int64} (hk : k ∈ KJ) : MKf KI KJ D S (sJ S 0 k v) := ⟨fun _ _ => rfl, fun j q => (show up2 (fJ S) 0 k v 0 j = fJ S 0 j from up2_nk (fun e => q (e ▸ hk))), ⟨rfl, rfl, rfl⟩, fun g q => ⟨rfl, (show up2 (fJ S) 0 k v g = fJ S g from up2_row q)⟩, fun _ _ => ⟨rfl, rfl⟩⟩
theorem MKf.A {g j : Nat} {v : Int32} (hg : g ∈ D) : MKf KI KJ D S (sA S g j v) := ⟨fun _ _ => rfl, fun _ _ => rfl, ⟨rfl, rfl, rfl⟩, fun _ _ => ⟨rfl, rfl⟩, fun h q => ⟨(show up2 (aI S) g j v h = aI S h from up2_row (fun e => q (e ▸ hg))), rfl⟩⟩
theorem MKf.r {g : Nat} {f : Nat → Int32} (hg : g ∈ D) : MKf KI KJ D S (rA S g f) := ⟨fun _ _ => rfl, fun _ _ => rfl, ⟨rfl, rfl, rfl⟩, fun _ _ => ⟨rfl, rfl⟩, fun h q => ⟨(show va_up (aI S) g f h = aI S h from va_up_ne _ _ (fun e => q (e ▸ hg))), rfl⟩⟩
theorem MKf.l {g : Nat} {f : Nat → Int64} (hg : g ∈ D) : MKf KI KJ D S (rL S g f) := ⟨fun _ _ => rfl, fun _ _ => rfl, ⟨rfl, rfl, rfl⟩, fun _ _ => ⟨rfl, rfl⟩, fun h q => ⟨rfl, (show va_up (aJ S) g f h = aJ S h from va_up_ne _ _ (fun e => q (e ▸ hg)))⟩⟩
theorem FrM.k {LA LJ : List Nat} (h : FrM LA LJ S S2) (h1 : ∀ g ∈ LA, g ∈ D) (h2 : ∀ g ∈ LJ, g ∈ D) : MKf KI KJ D S S2 := by
  obtain ⟨a1, a2, a3, a4, a5, a6, a7⟩ := h
  exact ⟨fun _ _ => by rw [a4], fun _ _ => by rw [a5], ⟨a1, a2, a3⟩, fun _ _ => ⟨by rw [a4], by rw [a5]⟩, fun g q => ⟨a6 g (fun z => q (h1 g z)), a7 g (fun z => q (h2 g z))⟩⟩
theorem MKf.sm (h : MKf KI KJ D S S2) (hD : ∀ g ∈ D, g < 200) : YSm dMo S S2 := by
  intro g hg
  have hg : ¬ g < 200 := hg
  obtain ⟨h1, h2, ⟨h3, h4, h5⟩, h6, h7⟩ := h
  have e := h7 g (fun q => hg (hD g q))
  have e2 := h6 g (by omega)
  exact ⟨by rw [h3], by rw [h4], by rw [h5], e2.1, e2.2, e.1, e.2⟩
theorem MOK.k' (h : MKf KI KJ D S S2) (hM : MOK S) : MOK S2 := by
  unfold MOK
  rw [h.2.2.1.1, h.2.2.1.2.1, h.2.2.1.2.2]
  exact hM
theorem MVes.k' {A : AV} (h : MKf KI KJ D S S2) (h1 : 1 ∉ KI) (h2 : ∀ g, 6 ≤ g → g ≤ 12 → g ∉ D) (hV : MVes S A) : MVes S2 A := by
  have e : ∀ g, 6 ≤ g → g ≤ 12 → aI S2 g = aI S g := fun g a b => (h.2.2.2.2 g (h2 g a b)).1
  unfold MVes
  rw [h.1 1 h1, e 6 (by decide) (by decide), e 7 (by decide) (by decide), e 8 (by decide) (by decide), e 9 (by decide) (by decide), e 10 (by decide) (by decide), e 11 (by decide) (by decide), e 12 (by decide) (by decide)]
  exact hV
theorem MTx.k' {T : AT} (h : MKf KI KJ D S S2) (h1 : 17 ∉ KI) (h2 : 16 ∉ D) (hX : MTx S T) : MTx S2 T := by
  unfold MTx
  rw [h.1 17 h1, (h.2.2.2.2 16 h2).1]
  exact hX
theorem MVo.k' {B : AB} (h : MKf KI KJ D S S2) (h1 : 24 ∉ KI) (h2 : ∀ g, 21 ≤ g → g ≤ 23 → g ∉ D) (hV : MVo S B) : MVo S2 B := hV.sm (h.1 24 h1) (h.2.2.2.2 21 (h2 21 (by decide) (by decide))).1 (h.2.2.2.2 22 (h2 22 (by decide) (by decide))).1 (h.2.2.2.2 23 (h2 23 (by decide) (by decide))).1
theorem MPl.k' {J : AP} (h : MKf KI KJ D S S2) (h1 : 45 ∉ KI) (h2 : 41 ∉ D ∧ 42 ∉ D ∧ 44 ∉ D) (hJ : MPl S J) : MPl S2 J := by
  unfold MPl
  rw [h.1 45 h1, (h.2.2.2.2 41 h2.1).1, (h.2.2.2.2 42 h2.2.1).1, (h.2.2.2.2 44 h2.2.2).1]
  exact hJ
theorem MLd.k' {L : AL} (h : MKf KI KJ D S S2) (h1 : 3 ∉ KI) (h2 : ∀ g, 39 ≤ g → g ∈ D → 40 ≤ g ∧ g < 100) (hL : MLd S L) : MLd S2 L := MLx.sm (h.1 3 h1) (fun i _ => by rw [h.2.2.1.2.2]) (fun g a b => ⟨by rw [h.2.2.1.1], by rw [h.2.2.1.2.1], (h.2.2.2.2 g (fun q => by have := h2 g (by omega) q; omega)).1⟩) (h.2.2.2.2 39 (fun q => by have := h2 39 (by omega) q; omega)).1 hL
theorem MPr.k' {A : AV} {Q : AR} (h : MKf KI KJ D S S2) (h1 : 2 ∉ KI) (h2 : ∀ g, 28 ≤ g → g ≤ 34 → g ∉ D) (hR : MPr S A Q) : MPr S2 A Q := ⟨(h.1 2 h1).trans hR.1, fun x hx => (hR.2.1 x hx).sm (fun g a b => (h.2.2.2.2 g (h2 g a (by omega))).1), fun x hx => (hR.2.2 x hx).sm (h.2.2.2.2 34 (h2 34 (by decide) (by decide))).1⟩
end
/-! the sacks that were paid for keep their plots -/
theorem gm_same {A A2 : AV} {s : Nat} (h : ∀ p, vD A2 s p = vD A s p) (m : Nat) : gmN A2 s m = gmN A s m ∧ plN A2 s m = plN A s m := by
  unfold gmN plN
  rw [h, h, h]
  exact ⟨rfl, rfl⟩
theorem MPr.A {S : GS} {A A2 : AV} {Q : AR} (hd : ∀ x, x < rn Q → ∀ p, vD A2 (rS Q x) p = vD A (rS Q x) p) (hR : MPr S A Q) : MPr S A2 Q := by
  refine ⟨hR.1, fun x hx => ?_, fun x hx => ?_⟩
  · obtain ⟨a1, a2, a3, a4, a5⟩ := hR.2.1 x hx
    refine ⟨a1, a2, a3, a4, fun m hm => ?_⟩
    rw [(gm_same (hd x hx) m).1, (gm_same (hd x hx) m).2]
    exact a5 m hm
  · intro m hm hg
    rw [(gm_same (hd x hx) m).1] at hg
    exact hR.2.2 x hx m hm hg
theorem ROK.A {Q : AR} {A A2 : AV} {B : AB} {t t2 : Nat} (ht : t ≤ t2) (hn : vn A ≤ vn A2) (hc : ∀ x, x < rn Q → vC A2 (rS Q x) ≠ 0) (hd : ∀ x, x < rn Q → ∀ p, vD A2 (rS Q x) p = vD A (rS Q x) p) (h : ROK Q A B t) : ROK Q A2 B t2 := by
  refine ⟨h.1, fun x hx => ?_⟩
  obtain ⟨a1, a2, a3, a4, a5, a6, a7, a8⟩ := h.2 x hx
  refine ⟨by omega, hc x hx, by omega, a4, a5, a6, a7, fun m hm => ?_⟩
  rw [(gm_same (hd x hx) m).1]
  exact a8 m hm
