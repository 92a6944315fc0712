/-! ===== the class's ledger: one row of four words an entry; doubled g times: name 300 + g ===== -/
def YLx (S : GS) (L : AL) (g : Nat) : Prop := fI S 218 2 = nI (en L) ∧ (g ≤ 12 ∧ rf S 218 1 = some (300 + g) ∧ kd S (300 + g) = 21 ∧ ln S (300 + g) = 128 * 2 ^ g ∧ (∀ j, j < en L → ∀ w, w < 4 → aI S (300 + g) (4 * j + w) = eE L j w) ∧ ∀ h, g < h → h ≤ 12 → kd S (300 + h) = 0) ∧ ∀ m, m < 20 → aI S 219 m = eC L m
def YLd (S : GS) (L : AL) : Prop := YLx S L (gnB 32 (en L))
def dLed (g : Nat) : Prop := g = 218 ∨ g = 219 ∨ (300 ≤ g ∧ g < 313)
def YEf (S S2 : GS) : Prop := YSm dLed S S2 ∧ (YOK S → YOK S2)
theorem YEf.rfl' (S : GS) : YEf S S := ⟨YSm.rfl' _ S, fun h => h⟩
theorem YEf.trans {S S2 S3 : GS} (h : YEf S S2) (h2 : YEf S2 S3) : YEf S S3 := ⟨h.1.trans h2.1, fun q => h2.2 (h.2 q)⟩
def yG1 (S : GS) (g : Nat) : GS := sR (mGr S (300 + g) (300 + (g + 1)) (128 * 2 ^ g)) 218 1 (some (300 + (g + 1)))
theorem yG1_ef {S : GS} {g : Nat} (hg : g ≤ 11) : YEf S (yG1 S g) := by
  refine ⟨((YSm.N (by unfold dLed; omega)).trans (YSm.rA (by unfold dLed; omega))).trans (YSm.R (Or.inl rfl)), fun hQ => ?_⟩
  have h1 : YOK (sN S (300 + (g + 1)) 21 (2 * (128 * 2 ^ g))) := hQ.sN (by omega)
  refine ⟨h1.1, fun a k r hr => ?_⟩
  show up2 (rf (sN S (300 + (g + 1)) 21 (2 * (128 * 2 ^ g)))) 218 1 (some (300 + (g + 1))) a k = _
  have h2 : ¬ (a = 218 ∧ k = 1) := by
    unfold yR at hr
    split at hr <;> first | (cases hr; done) | omega
  by_cases e : a = 218
  · rw [up2_nk (fun q => h2 ⟨e, q⟩)]; exact h1.2 a k r hr
  · rw [up2_ne e]; exact h1.2 a k r hr
theorem YLx.grow {S : GS} {L : AL} {g : Nat} (h : YLx S L g) (hg : g ≤ 11) (hn : 4 * en L ≤ 128 * 2 ^ g) : YLx (yG1 S g) L (g + 1) := by
  obtain ⟨h1, ⟨a1, a2, a3, a4, a5, a6⟩, h3⟩ := h
  refine ⟨?_, ⟨by omega, ?_, ?_, ?_, fun j hj w hw => ?_, fun z hz hz2 => ?_⟩, fun m hm => ?_⟩
  · exact (congrFun (sN_fI (S := S) (c := 21) (n := 2 * (128 * 2 ^ g)) (h := 218) (g := 300 + (g + 1)) (by omega)) 2).trans h1
  · exact up2_at (f := rf (sN S (300 + (g + 1)) 21 (2 * (128 * 2 ^ g)))) (g := 218) (k := 1) (v := some (300 + (g + 1)))
  · exact va_up_self _ _ _
  · show va_up (ln S) (300 + (g + 1)) (2 * (128 * 2 ^ g)) (300 + (g + 1)) = _
    rw [va_up_self, pow_succ2]
    omega
  · show va_up (aI (sN S (300 + (g + 1)) 21 (2 * (128 * 2 ^ g)))) (300 + (g + 1)) (fun i => if i < 128 * 2 ^ g then aI S (300 + g) i else 0) (300 + (g + 1)) (4 * j + w) = _
    rw [va_up_self, if_pos (by omega)]
    exact a5 j hj w hw
  · exact (sN_kd (S := S) (c := 21) (n := 2 * (128 * 2 ^ g)) (h := 300 + z) (g := 300 + (g + 1)) (by omega)).trans (a6 z (by omega) hz2)
  · show va_up (aI (sN S (300 + (g + 1)) 21 (2 * (128 * 2 ^ g)))) (300 + (g + 1)) (fun i => if i < 128 * 2 ^ g then aI S (300 + g) i else 0) 219 m = _
    rw [va_up_ne _ _ (by omega), sN_aI (by omega)]
    exact h3 m hm
def yE4 (S : GS) (L : AL) (g d p m : Nat) (c : Int32) : GS := sI (sA (sA (sA (sA (sA S (300 + g) (4 * en L) (nI d)) (300 + g) (4 * en L + 1) (nI p)) (300 + g) (4 * en L + 2) (nI m)) (300 + g) (4 * en L + 3) c) 219 m (eC L m + c)) 218 2 (nI (en L + 1))
theorem yE4_ef {S : GS} {L : AL} {g d p m : Nat} {c : Int32} (hg : g ≤ 12) : YEf S (yE4 S L g d p m c) := by
  have hd : dLed (300 + g) := by unfold dLed; omega
  exact ⟨(((((YSm.A hd).trans (YSm.A hd)).trans (YSm.A hd)).trans (YSm.A hd)).trans (YSm.A (Or.inr (Or.inl rfl)))).trans (YSm.I (Or.inl rfl)), fun h => h⟩
theorem YLx.ent {S : GS} {L : AL} {g d p m : Nat} {c : Int32} (h : YLx S L g) (hm : m < 20) : YLx (yE4 S L g d p m c) (aEnt L d p m c) g := by
  obtain ⟨h1, ⟨a1, a2, a3, a4, a5, a6⟩, h3⟩ := h
  refine ⟨?_, ⟨a1, a2, a3, a4, fun j hj w hw => ?_, a6⟩, fun q hq => ?_⟩
  · show up2 (fI S) 218 2 (nI (en L + 1)) 218 2 = _
    rw [up2_at]; rfl
  · have hj : j < en L + 1 := hj
    show up2 (up2 (up2 (up2 (up2 (aI S) (300 + g) (4 * en L) (nI d)) (300 + g) (4 * en L + 1) (nI p)) (300 + g) (4 * en L + 2) (nI m)) (300 + g) (4 * en L + 3) c) 219 m (eC L m + c) (300 + g) (4 * j + w) = va_up (eE L) (en L) (ent4 d p m c) j w
    rw [up2_ne (by omega)]
    by_cases e : j = en L
    · subst e
      rw [va_up_self]
      have hc : w = 0 ∨ w = 1 ∨ w = 2 ∨ w = 3 := by omega
      rcases hc with rfl | rfl | rfl | rfl
      · rw [up2_nk (by omega), up2_nk (by omega), up2_nk (by omega)]
        exact up2_at
      · rw [up2_nk (by omega), up2_nk (by omega), up2_at]; rfl
      · rw [up2_nk (by omega), up2_at]; rfl
      · rw [up2_at]; rfl
    · rw [va_up_ne _ _ e, up2_nk (by omega), up2_nk (by omega), up2_nk (by omega), up2_nk (by omega)]
      exact a5 j (by omega) w hw
  · show up2 (up2 (up2 (up2 (up2 (aI S) (300 + g) (4 * en L) (nI d)) (300 + g) (4 * en L + 1) (nI p)) (300 + g) (4 * en L + 2) (nI m)) (300 + g) (4 * en L + 3) c) 219 m (eC L m + c) 219 q = va_up (eC L) m (eC L m + c) q
    by_cases e : q = m
    · subst e; rw [up2_at, va_up_self]
    · rw [up2_nk e, va_up_ne _ _ e, up2_ne (by omega), up2_ne (by omega), up2_ne (by omega), up2_ne (by omega)]
      exact h3 q hq
theorem mGr_cpy {S : GS} {o b N : Nat} (hob : o ≠ b) : rA (sN S b 21 (2 * N)) b (va_cpy (aI (sN S b 21 (2 * N)) o) (aI (sN S b 21 (2 * N)) b) 0 0 N) = mGr S o b N := by
  unfold mGr
  congr 1
  funext i
  unfold va_cpy
  by_cases e : i < N
  · rw [if_pos (by omega), if_pos e, sN_aI hob]
    congr 1
    omega
  · rw [if_neg (by omega), if_neg e]
    exact congrFun (va_up_self (aI S) b (fun _ => 0)) i
theorem YLx.cg {S : GS} {L : AL} {g g2 : Nat} (h : YLx S L g) (e : g = g2) : YLx S L g2 := e ▸ h
