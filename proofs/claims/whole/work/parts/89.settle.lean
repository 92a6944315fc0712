/-! ===== settling a premium: which entries are written ===== -/
def lfd (g sh h : Nat → Nat) (fi td x : Nat) (L : AL) : Nat → AL
  | 0 => L
  | m + 1 => if g m ≠ 0 ∧ (fi = 1 ∨ sh m ≠ h m) then aEnt (lfd g sh h fi td x L m) td x m (nI (sh m) - nI (h m)) else lfd g sh h fi td x L m
section
variable {g sh h : Nat → Nat} {fi td x : Nat} {L : AL}
theorem lfd_1 {m : Nat} (h1 : ¬ g m = 0) (h2 : fi = 1 ∨ sh m ≠ h m) : lfd g sh h fi td x L (m + 1) = aEnt (lfd g sh h fi td x L m) td x m (nI (sh m) - nI (h m)) := if_pos ⟨h1, h2⟩
theorem lfd_0 {m : Nat} (h1 : g m = 0 ∨ (fi ≠ 1 ∧ sh m = h m)) : lfd g sh h fi td x L (m + 1) = lfd g sh h fi td x L m := if_neg (fun z => by rcases h1 with q | q; exact z.1 q; rcases z.2 with y | y; exact q.1 y; exact y q.2)
theorem lfd_le (m : Nat) : en L ≤ en (lfd g sh h fi td x L m) ∧ en (lfd g sh h fi td x L m) ≤ en L + m := by
  induction m with
  | zero => exact ⟨Nat.le_refl _, Nat.le_refl _⟩
  | succ m ih =>
    by_cases e : g m ≠ 0 ∧ (fi = 1 ∨ sh m ≠ h m)
    · rw [lfd_1 e.1 e.2]
      show en L ≤ en (lfd g sh h fi td x L m) + 1 ∧ en (lfd g sh h fi td x L m) + 1 ≤ en L + (m + 1)
      omega
    · rw [show lfd g sh h fi td x L (m + 1) = lfd g sh h fi td x L m from if_neg e]
      omega
theorem lfd_cn {m n : Nat} (hmn : m ≤ n) (hc : cn g m = cn g n) : lfd g sh h fi td x L n = lfd g sh h fi td x L m := by
  induction n with
  | zero => rw [show m = 0 by omega]
  | succ n ih =>
    by_cases e : m = n + 1
    · rw [e]
    · have h1 := cn_mono g (m := m) (n := n) (by omega)
      have h2 := cn_mono g (m := n) (n := n + 1) (by omega)
      have h3 : g n = 0 := Classical.byContradiction (fun q => by have := cn_1 q; omega)
      rw [lfd_0 (Or.inl h3)]
      exact ih (by omega) (by omega)
/-- the fold stands before member m, where as many members with beans are done -/
theorem lfd_at {M m : Nat} (hc : cn g M = cn g m) (hg : ¬ g m = 0) : lfd g sh h fi td x L M = lfd g sh h fi td x L m := by
  rcases Nat.lt_or_ge m M with z | z
  · have := cn_lt z hg; omega
  · exact (lfd_cn z hc).symm
theorem en_lfd_mono {m n : Nat} (hmn : m ≤ n) : en (lfd g sh h fi td x L m) ≤ en (lfd g sh h fi td x L n) := by
  induction n with
  | zero => rw [show m = 0 by omega]; exact Nat.le_refl _
  | succ n ih =>
    by_cases e : m = n + 1
    · rw [e]; exact Nat.le_refl _
    · have h1 := ih (by omega)
      by_cases e2 : g n ≠ 0 ∧ (fi = 1 ∨ sh n ≠ h n)
      · rw [lfd_1 e2.1 e2.2]
        show _ ≤ en (lfd g sh h fi td x L n) + 1
        omega
      · rw [show lfd g sh h fi td x L (n + 1) = lfd g sh h fi td x L n from if_neg e2]; exact h1
end
/-- the room of the ledgers' rows -/
def mK (n : Nat) : Nat := 4 * gnB 256 n
def mN (n : Nat) : Nat := 4 * (512 * 2 ^ gnB 256 n)
def yK (n : Nat) : Nat := gnB 32 n
def yN (n : Nat) : Nat := 256 * 2 ^ gnB 32 n
theorem mK_mono {m n : Nat} (h : m ≤ n) : mK m ≤ mK n := by have := gn_mono (b := 256) h; unfold mK; omega
theorem yK_mono {m n : Nat} (h : m ≤ n) : yK m ≤ yK n := gn_mono (b := 32) h
theorem mN_mono {m n : Nat} (h : m ≤ n) : mN m ≤ mN n := by have := Nat.pow_le_pow_right (n := 2) (by decide) (gn_mono (b := 256) h); unfold mN; omega
theorem yN_mono {m n : Nat} (h : m ≤ n) : yN m ≤ yN n := by have := Nat.pow_le_pow_right (n := 2) (by decide) (gn_mono (b := 32) h); unfold yN; omega
/-! the reference's premiums -/
def MPx (S : GS) (A : AV) (R : AR) (x : Nat) : Prop := aI S 28 x = nI (rD R x) ∧ aI S 29 x = nI (rC R x) ∧ aI S 30 x = nI (rG R x) ∧ aI S 31 x = an (rV R x) ∧ ∀ m, m < 20 → aI S 32 (20 * x + m) = nI (gmN A (rS R x) m) ∧ aI S 33 (20 * x + m) = nI (plN A (rS R x) m)
def MPh (S : GS) (A : AV) (R : AR) (x : Nat) : Prop := ∀ m, m < 20 → ¬ gmN A (rS R x) m = 0 → aI S 34 (20 * x + m) = nI (rH R x m)
def MPr (S : GS) (A : AV) (R : AR) : Prop := fI S 0 2 = nI (rn R) ∧ (∀ x, x < rn R → MPx S A R x) ∧ ∀ x, x < rn R → MPh S A R x
/-- what holds of the premiums -/
def ROK (R : AR) (A : AV) (B : AB) (t : Nat) : Prop := rn R ≤ 100 ∧ ∀ x, x < rn R → rS R x < vn A ∧ vC A (rS R x) ≠ 0 ∧ rD R x ≤ t ∧ 1 ≤ rC R x ∧ rC R x ≤ 1000000 ∧ rG R x ≤ 3 ∧ (∀ v, rV R x = some v → v < bn B) ∧ ∀ m, m < 20 → rH R x m ≤ 1000000 ∧ (gmN A (rS R x) m = 0 → rH R x m = 0)
def dMQ (g : Nat) : Prop := g = 0 ∨ (13 ≤ g ∧ g ≤ 15) ∨ (27 ≤ g ∧ g ≤ 34) ∨ g = 39 ∨ g = 40 ∨ (100 ≤ g ∧ g < 140)
def MQf (S S2 : GS) : Prop := (∀ k, k ≠ 2 → k ≠ 3 → fI S2 0 k = fI S 0 k) ∧ (∀ k, k ≠ 5 → fJ S2 0 k = fJ S 0 k) ∧ (MOK S → MOK S2) ∧ YSm dMQ S S2
theorem MQf.rfl' (S : GS) : MQf S S := ⟨fun _ _ _ => rfl, fun _ _ => rfl, fun h => h, YSm.rfl' _ S⟩
theorem MQf.trans {S S2 S3 : GS} (h : MQf S S2) (h2 : MQf S2 S3) : MQf S S3 := ⟨fun k a b => (h2.1 k a b).trans (h.1 k a b), fun k a => (h2.2.1 k a).trans (h.2.1 k a), fun q => h2.2.2.1 (h.2.2.1 q), h.2.2.2.trans h2.2.2.2⟩
theorem MEf.q {S S2 : GS} (h : MEf S S2) : MQf S S2 := ⟨fun k _ b => h.1 k b, fun k _ => congrFun h.2.1 k, fun q => h.ok q, h.2.2.2.2.2.mono (fun g hg => by unfold dMQ; omega)⟩
theorem MPf.q {S S2 : GS} {x : Nat} {o : Option Nat} (h : MPf S S2 x o) : MQf S S2 := by
  obtain ⟨h1, h2, h3, h4, h5, h6, h7, h8⟩ := h
  refine ⟨fun k _ _ => by rw [h4], fun k _ => by rw [h5], fun q => ?_, fun g hg => ?_⟩
  · unfold MOK
    rw [h1, h2, h3]
    exact q
  · unfold dMQ at hg
    exact ⟨by rw [h1], by rw [h2], by rw [h3], by rw [h4], by rw [h5], h6 g (by omega) (by omega) (by omega), h8 g (by omega) (by omega) (by omega)⟩
theorem MQf.A {S : GS} {g j : Nat} {v : Int32} (hg : 27 ≤ g ∧ g ≤ 34) : MQf S (sA S g j v) := ⟨fun _ _ _ => rfl, fun _ _ => rfl, fun q => q, YSm.A (by unfold dMQ; omega)⟩
theorem MQf.r {S : GS} {g : Nat} {f : Nat → Int32} (hg : 27 ≤ g ∧ g ≤ 34) : MQf S (rA S g f) := ⟨fun _ _ _ => rfl, fun _ _ => rfl, fun q => q, YSm.rA (by unfold dMQ; omega)⟩
theorem MQf.I {S : GS} {v : Int32} : MQf S (sI S 0 2 v) := ⟨fun k a _ => (show up2 (fI S) 0 2 v 0 k = fI S 0 k from up2_nk a), fun _ _ => rfl, fun q => q, YSm.I (Or.inl rfl)⟩
theorem MQf.J {S : GS} {v : Int64} : MQf S (sJ S 0 5 v) := ⟨fun k _ _ => rfl, fun k a => (show up2 (fJ S) 0 5 v 0 k = fJ S 0 k from up2_nk a), fun q => q, YSm.J (Or.inl rfl)⟩
theorem MVes.fq {S S2 : GS} {A : AV} (h : MQf S S2) (hV : MVes S A) : MVes S2 A := by
  unfold MVes
  have e : ∀ g, 6 ≤ g → g ≤ 12 → aI S2 g = aI S g := fun g a b => h.2.2.2.aI (by unfold dMQ; omega)
  rw [h.1 1 (by decide) (by decide), e 6 (by decide) (by decide), e 7 (by decide) (by decide), e 8 (by decide) (by decide), e 9 (by decide) (by decide), e 10 (by decide) (by decide), e 11 (by decide) (by decide), e 12 (by decide) (by decide)]
  exact hV
theorem MVo.fq {S S2 : GS} {B : AB} (h : MQf S S2) (hV : MVo S B) : MVo S2 B := hV.sm (h.1 24 (by decide) (by decide)) (h.2.2.2.aI (by unfold dMQ; omega)) (h.2.2.2.aI (by unfold dMQ; omega)) (h.2.2.2.aI (by unfold dMQ; omega))
theorem MTx.fq {S S2 : GS} {T : AT} (h : MQf S S2) (hX : MTx S T) : MTx S2 T := by
  unfold MTx
  rw [h.1 17 (by decide) (by decide), h.2.2.2.aI (g := 16) (by unfold dMQ; omega)]
  exact hX
/-- the rows of premium x stay -/
theorem MPx.sm {S S2 : GS} {A : AV} {R : AR} {x : Nat} (h : ∀ g, 28 ≤ g → g ≤ 33 → aI S2 g = aI S g) (hx : MPx S A R x) : MPx S2 A R x := by
  unfold MPx
  rw [h 28 (by decide) (by decide), h 29 (by decide) (by decide), h 30 (by decide) (by decide), h 31 (by decide) (by decide), h 32 (by decide) (by decide), h 33 (by decide) (by decide)]
  exact hx
theorem MPh.sm {S S2 : GS} {A : AV} {R : AR} {x : Nat} (h : aI S2 34 = aI S 34) (hx : MPh S A R x) : MPh S2 A R x := by
  unfold MPh
  rw [h]
  exact hx
theorem MLx.sm {S S2 : GS} {L : AL} {gf : Nat → Nat} (h1 : fI S2 0 3 = fI S 0 3) (h2 : ∀ i, i < 4 → rf S2 0 (35 + i) = rf S 0 (35 + i)) (h3 : ∀ g, 100 ≤ g → g < 140 → kd S2 g = kd S g ∧ ln S2 g = ln S g ∧ aI S2 g = aI S g) (h4 : aI S2 39 = aI S 39) (h : MLx S L gf) : MLx S2 L gf := by
  obtain ⟨a1, a2, a3⟩ := h
  refine ⟨h1.trans a1, fun i hi => ?_, fun m hm => by rw [h4]; exact a3 m hm⟩
  obtain ⟨b1, b2, b3, b4, b5, b6⟩ := a2 i hi
  obtain ⟨c1, c2, c3⟩ := h3 (100 + 4 * gf i + i) (by omega) (by omega)
  refine ⟨b1, (h2 i hi).trans b2, c1.trans b3, c2.trans b4, fun j hj => by rw [c3]; exact b5 j hj, fun z hz hz2 => ?_⟩
  rw [(h3 (100 + 4 * z + i) (by omega) (by omega)).1]
  exact b6 z hz hz2
theorem MLd.A {S : GS} {L : AL} {g j : Nat} {v : Int32} (hg : 27 ≤ g ∧ g ≤ 34) (h : MLd S L) : MLd (sA S g j v) L := MLx.sm (S := S) rfl (fun _ _ => rfl) (fun q _ _ => ⟨rfl, rfl, (show up2 (aI S) g j v q = aI S q from up2_row (by omega))⟩) (show up2 (aI S) g j v 39 = aI S 39 from up2_row (by omega)) h
theorem MLd.r {S : GS} {L : AL} {g : Nat} {f : Nat → Int32} (hg : 27 ≤ g ∧ g ≤ 34) (h : MLd S L) : MLd (rA S g f) L := MLx.sm (S := S) rfl (fun _ _ => rfl) (fun q _ _ => ⟨rfl, rfl, (show va_up (aI S) g f q = aI S q from va_up_ne _ _ (by omega))⟩) (show va_up (aI S) g f 39 = aI S 39 from va_up_ne _ _ (by omega)) h
theorem MLd.I {S : GS} {L : AL} {v : Int32} (h : MLd S L) : MLd (sI S 0 2 v) L := MLx.sm (S := S) (show up2 (fI S) 0 2 v 0 3 = fI S 0 3 from up2_nk (by decide)) (fun _ _ => rfl) (fun q _ _ => ⟨rfl, rfl, rfl⟩) rfl h
theorem MLd.J {S : GS} {L : AL} {v : Int64} (h : MLd S L) : MLd (sJ S 0 5 v) L := MLx.sm (S := S) rfl (fun _ _ => rfl) (fun q _ _ => ⟨rfl, rfl, rfl⟩) rfl h
theorem MLd.p {S S2 : GS} {L : AL} {x : Nat} {o : Option Nat} (hp : MPf S S2 x o) (h : MLd S L) : MLd S2 L := by
  obtain ⟨h1, h2, h3, h4, h5, h6, h7, h8⟩ := hp
  exact MLx.sm (S := S) (by rw [h4]) (fun _ _ => by rw [h3]) (fun q _ _ => ⟨by rw [h1], by rw [h2], h6 q (by omega) (by omega) (by omega)⟩) (h6 39 (by decide) (by decide) (by decide)) h
/-- a new premium; a premium parted anew -/
def aPrm (R : AR) (s d c q : Nat) (o : Option Nat) (hh : Nat → Nat) : AR := (rn R + 1, va_up (rS R) (rn R) s, va_up (rD R) (rn R) d, va_up (rC R) (rn R) c, va_up (rG R) (rn R) q, va_up (rV R) (rn R) o, va_up (rH R) (rn R) hh)
def rSet (R : AR) (x : Nat) (o : Option Nat) (hh : Nat → Nat) : AR := (rn R, rS R, rD R, rC R, rG R, va_up (rV R) x o, va_up (rH R) x hh)
