/-! ===== the ledger: how many entries, their four words, the coins of each member ===== -/
abbrev AL : Type := Nat × (Nat → Nat → Int32) × (Nat → Int32)
def en (L : AL) : Nat := L.1
def eE (L : AL) : Nat → Nat → Int32 := L.2.1
def eC (L : AL) : Nat → Int32 := L.2.2
def ent4 (d p m : Nat) (c : Int32) : Nat → Int32 := fun w => if w = 0 then nI d else if w = 1 then nI p else if w = 2 then nI m else c
def aEnt (L : AL) (d p m : Nat) (c : Int32) : AL := (en L + 1, va_up (eE L) (en L) (ent4 d p m c), va_up (eC L) m (eC L m + c))
/-- how often a row that begins with b places was doubled, for n entries -/
def gnB (b : Nat) : Nat → Nat
  | 0 => 0
  | n + 1 => if n = b * 2 ^ gnB b n then gnB b n + 1 else gnB b n
theorem gn_up {b n : Nat} (h : n = b * 2 ^ gnB b n) : gnB b (n + 1) = gnB b n + 1 := if_pos h
theorem gn_eq {b n : Nat} (h : ¬ n = b * 2 ^ gnB b n) : gnB b (n + 1) = gnB b n := if_neg h
theorem gn_le {b : Nat} (hb : 0 < b) (n : Nat) : n ≤ b * 2 ^ gnB b n := by
  induction n with
  | zero => exact Nat.zero_le _
  | succ n ih =>
    by_cases h : n = b * 2 ^ gnB b n
    · rw [gn_up h, Nat.pow_succ]
      have : 1 ≤ 2 ^ gnB b n := Nat.one_le_two_pow
      have : b * 1 ≤ b * 2 ^ gnB b n := Nat.mul_le_mul_left _ this
      rw [← Nat.mul_assoc]
      omega
    · rw [gn_eq h]
      omega
theorem gn_lt {b n : Nat} (h : gnB b n ≠ 0) : b * 2 ^ (gnB b n - 1) < n := by
  induction n with
  | zero => exact absurd rfl h
  | succ n ih =>
    by_cases e : n = b * 2 ^ gnB b n
    · rw [gn_up e]
      show b * 2 ^ (gnB b n + 1 - 1) < n + 1
      rw [Nat.add_sub_cancel]
      omega
    · rw [gn_eq e] at h ⊢
      have := ih h
      omega
theorem gn_bound {b n k : Nat} (h : n ≤ b * 2 ^ k) : gnB b n ≤ k := by
  rcases Nat.lt_or_ge k (gnB b n) with z | z
  · have h1 := gn_lt (b := b) (n := n) (by omega)
    have h2 : b * 2 ^ k ≤ b * 2 ^ (gnB b n - 1) := Nat.mul_le_mul_left _ (Nat.pow_le_pow_right (by decide) (by omega))
    omega
  · exact z
theorem gn_mono {b m n : Nat} (h : m ≤ n) : gnB b m ≤ gnB b n := by
  induction n with
  | zero => rw [show m = 0 by omega]; exact Nat.le_refl _
  | succ n ih =>
    by_cases e : m = n + 1
    · rw [e]; exact Nat.le_refl _
    · have h1 := ih (by omega)
      by_cases e2 : n = b * 2 ^ gnB b n
      · rw [gn_up e2]; omega
      · rw [gn_eq e2]; exact h1
theorem pow_pos2 (k : Nat) : 1 ≤ 2 ^ k := Nat.one_le_two_pow
theorem pow_succ2 (k : Nat) : 2 ^ (k + 1) = 2 * 2 ^ k := by rw [Nat.pow_succ, Nat.mul_comm]
/-! the reference: four rows; row i of doubling g: name 100 + 4 g + i -/
def MLx (S : GS) (L : AL) (gf : Nat → Nat) : Prop := fI S 0 3 = nI (en L) ∧ (∀ i, i < 4 → gf i ≤ 9 ∧ rf S 0 (35 + i) = some (100 + 4 * gf i + i) ∧ kd S (100 + 4 * gf i + i) = 21 ∧ ln S (100 + 4 * gf i + i) = 256 * 2 ^ gf i ∧ (∀ j, j < en L → aI S (100 + 4 * gf i + i) j = eE L j i) ∧ ∀ h, gf i < h → h ≤ 9 → kd S (100 + 4 * h + i) = 0) ∧ ∀ m, m < 20 → aI S 39 m = eC L m
def MLd (S : GS) (L : AL) : Prop := MLx S L (fun _ => gnB 256 (en L))
def MEf (S S2 : GS) : Prop := (∀ k, k ≠ 3 → fI S2 0 k = fI S 0 k) ∧ fJ S2 0 = fJ S 0 ∧ (∀ k, ¬ (35 ≤ k ∧ k ≤ 38) → rf S2 0 k = rf S 0 k) ∧ kd S2 0 = kd S 0 ∧ (kd S2 39 = kd S 39 ∧ ln S2 39 = ln S 39) ∧ YSm (fun g => g = 0 ∨ g = 39 ∨ (100 ≤ g ∧ g < 140)) S S2
theorem MEf.rfl' (S : GS) : MEf S S := ⟨fun _ _ => rfl, rfl, fun _ _ => rfl, rfl, ⟨rfl, rfl⟩, YSm.rfl' _ S⟩
theorem MEf.trans {S S2 S3 : GS} (h : MEf S S2) (h2 : MEf S2 S3) : MEf S S3 := ⟨fun k hk => (h2.1 k hk).trans (h.1 k hk), h2.2.1.trans h.2.1, fun k hk => (h2.2.2.1 k hk).trans (h.2.2.1 k hk), h2.2.2.2.1.trans h.2.2.2.1, ⟨h2.2.2.2.2.1.1.trans h.2.2.2.2.1.1, h2.2.2.2.2.1.2.trans h.2.2.2.2.1.2⟩, h.2.2.2.2.2.trans h2.2.2.2.2.2⟩
theorem MEf.ok {S S2 : GS} (h : MEf S S2) (hM : MOK S) : MOK S2 := by
  obtain ⟨h1, h2, h3, h4, h5, h6⟩ := h
  refine ⟨h4.trans hM.1, fun k hk => ?_⟩
  have hs : k < 45 ∧ ¬ (35 ≤ k ∧ k ≤ 38) ∧ k ≠ 0 := by
    unfold mT at hk
    split at hk <;> first | exact ⟨by omega, by omega, by omega⟩ | exact absurd rfl hk
  have h7 := hM.2 k hk
  rw [h3 k hs.2.1]
  by_cases e : k = 39
  · subst e
    rw [h5.1, h5.2]
    exact h7
  · rw [h6.kd (by omega), h6.ln (by omega)]
    exact h7
/-- one row doubled -/
def mGr (S : GS) (o b N : Nat) : GS := rA (sN S b 21 (2 * N)) b (fun i => if i < N then aI S o i else 0)
def mG1 (S : GS) (gf : Nat → Nat) (i : Nat) : GS := sR (mGr S (100 + 4 * gf i + i) (100 + 4 * (gf i + 1) + i) (256 * 2 ^ gf i)) 0 (35 + i) (some (100 + 4 * (gf i + 1) + i))
theorem mG1_ef {S : GS} {gf : Nat → Nat} {i : Nat} (hi : i < 4) (hg : gf i ≤ 8) : MEf S (mG1 S gf i) := by
  have hb : (100 : Nat) ≤ 100 + 4 * (gf i + 1) + i ∧ 100 + 4 * (gf i + 1) + i < 140 := by omega
  refine ⟨fun k _ => ?_, ?_, fun k hk => ?_, ?_, ⟨?_, ?_⟩, ?_⟩
  · exact congrFun (sN_fI (S := S) (c := 21) (n := 2 * (256 * 2 ^ gf i)) (h := 0) (g := 100 + 4 * (gf i + 1) + i) (by omega)) k
  · exact sN_fJ (S := S) (c := 21) (n := 2 * (256 * 2 ^ gf i)) (h := 0) (g := 100 + 4 * (gf i + 1) + i) (by omega)
  · show up2 (rf (sN S (100 + 4 * (gf i + 1) + i) 21 (2 * (256 * 2 ^ gf i)))) 0 (35 + i) _ 0 k = _
    rw [up2_nk (by omega), sN_rr (by omega)]
  · exact sN_kd (S := S) (c := 21) (n := 2 * (256 * 2 ^ gf i)) (h := 0) (g := 100 + 4 * (gf i + 1) + i) (by omega)
  · exact sN_kd (S := S) (c := 21) (n := 2 * (256 * 2 ^ gf i)) (h := 39) (g := 100 + 4 * (gf i + 1) + i) (by omega)
  · exact sN_ln (S := S) (c := 21) (n := 2 * (256 * 2 ^ gf i)) (h := 39) (g := 100 + 4 * (gf i + 1) + i) (by omega)
  · exact ((YSm.N (Or.inr (Or.inr hb))).trans (YSm.rA (Or.inr (Or.inr hb)))).trans (YSm.R (Or.inl rfl))
theorem MLx.grow {S : GS} {L : AL} {gf : Nat → Nat} {i : Nat} (h : MLx S L gf) (hi : i < 4) (hg : gf i ≤ 8) (hn : en L ≤ 256 * 2 ^ gf i) : MLx (mG1 S gf i) L (va_up gf i (gf i + 1)) := by
  obtain ⟨h1, h2, h3⟩ := h
  have ef := mG1_ef (S := S) hi hg
  refine ⟨?_, fun j hj => ?_, fun m hm => ?_⟩
  · exact (congrFun (sN_fI (S := S) (c := 21) (n := 2 * (256 * 2 ^ gf i)) (h := 0) (g := 100 + 4 * (gf i + 1) + i) (by omega)) 3).trans h1
  · have k1 := h2 j hj
    by_cases e : j = i
    · subst e
      rw [va_up_self]
      refine ⟨by omega, ?_, ?_, ?_, fun q hq => ?_, fun z hz hz2 => ?_⟩
      · exact up2_at (f := rf (sN S (100 + 4 * (gf j + 1) + j) 21 (2 * (256 * 2 ^ gf j)))) (g := 0) (k := 35 + j) (v := some (100 + 4 * (gf j + 1) + j))
      · exact va_up_self _ _ _
      · show va_up (ln S) (100 + 4 * (gf j + 1) + j) (2 * (256 * 2 ^ gf j)) (100 + 4 * (gf j + 1) + j) = _
        rw [va_up_self, pow_succ2]
        omega
      · show va_up (aI (sN S (100 + 4 * (gf j + 1) + j) 21 (2 * (256 * 2 ^ gf j)))) (100 + 4 * (gf j + 1) + j) (fun i => if i < 256 * 2 ^ gf j then aI S (100 + 4 * gf j + j) i else 0) (100 + 4 * (gf j + 1) + j) q = _
        rw [va_up_self, if_pos (by omega)]
        exact k1.2.2.2.2.1 q hq
      · exact (sN_kd (S := S) (c := 21) (n := 2 * (256 * 2 ^ gf j)) (h := 100 + 4 * z + j) (g := 100 + 4 * (gf j + 1) + j) (by omega)).trans (k1.2.2.2.2.2 z (by omega) hz2)
    · rw [va_up_ne _ _ e]
      have e2 : ∀ z, 100 + 4 * z + j ≠ 100 + 4 * (gf i + 1) + i := fun z => by omega
      refine ⟨k1.1, ?_, ?_, ?_, fun q hq => ?_, fun z hz hz2 => ?_⟩
      · show up2 (rf (sN S (100 + 4 * (gf i + 1) + i) 21 (2 * (256 * 2 ^ gf i)))) 0 (35 + i) _ 0 (35 + j) = _
        rw [up2_nk (by omega), sN_rr (by omega)]
        exact k1.2.1
      · exact (sN_kd (S := S) (c := 21) (n := 2 * (256 * 2 ^ gf i)) (e2 (gf j))).trans k1.2.2.1
      · exact (sN_ln (S := S) (c := 21) (n := 2 * (256 * 2 ^ gf i)) (e2 (gf j))).trans k1.2.2.2.1
      · show va_up (aI (sN S (100 + 4 * (gf i + 1) + i) 21 (2 * (256 * 2 ^ gf i)))) (100 + 4 * (gf i + 1) + i) _ (100 + 4 * gf j + j) q = _
        rw [va_up_ne _ _ (e2 (gf j)), sN_aI (e2 (gf j))]
        exact k1.2.2.2.2.1 q hq
      · exact (sN_kd (S := S) (c := 21) (n := 2 * (256 * 2 ^ gf i)) (e2 z)).trans (k1.2.2.2.2.2 z hz hz2)
  · show va_up (aI (sN S (100 + 4 * (gf i + 1) + i) 21 (2 * (256 * 2 ^ gf i)))) (100 + 4 * (gf i + 1) + i) _ 39 m = _
    rw [va_up_ne _ _ (by omega), sN_aI (by omega)]
    exact h3 m hm
/-- an entry written -/
def mE4 (S : GS) (L : AL) (gf : Nat → Nat) (d p m : Nat) (c : Int32) : GS := sA (sI (sA (sA (sA (sA S (100 + 4 * gf 0) (en L) (nI d)) (100 + 4 * gf 1 + 1) (en L) (nI p)) (100 + 4 * gf 2 + 2) (en L) (nI m)) (100 + 4 * gf 3 + 3) (en L) c) 0 3 (nI (en L + 1))) 39 m (eC L m + c)
theorem mE4_ef {S : GS} {L : AL} {gf : Nat → Nat} {d p m : Nat} {c : Int32} (hg : ∀ i, i < 4 → gf i ≤ 9) : MEf S (mE4 S L gf d p m c) := by
  have g0 := hg 0 (by omega)
  have g1 := hg 1 (by omega)
  have g2 := hg 2 (by omega)
  have g3 := hg 3 (by omega)
  refine ⟨fun k hk => (show up2 (fI S) 0 3 (nI (en L + 1)) 0 k = fI S 0 k from up2_nk hk), rfl, fun k hk => rfl, rfl, ⟨rfl, rfl⟩, ?_⟩
  exact (((((YSm.A (by omega)).trans (YSm.A (by omega))).trans (YSm.A (by omega))).trans (YSm.A (by omega))).trans (YSm.I (Or.inl rfl))).trans (YSm.A (Or.inr (Or.inl rfl)))
theorem mE4_row {S : GS} {L : AL} {gf : Nat → Nat} {d p m : Nat} {c : Int32} {i j : Nat} (hi : i < 4) : aI (mE4 S L gf d p m c) (100 + 4 * gf i + i) j = if j = en L then ent4 d p m c i else aI S (100 + 4 * gf i + i) j := by
  show up2 (up2 (up2 (up2 (up2 (aI S) (100 + 4 * gf 0) (en L) (nI d)) (100 + 4 * gf 1 + 1) (en L) (nI p)) (100 + 4 * gf 2 + 2) (en L) (nI m)) (100 + 4 * gf 3 + 3) (en L) c) 39 m (eC L m + c) (100 + 4 * gf i + i) j = _
  rw [up2_ne (by omega)]
  have hc : i = 0 ∨ i = 1 ∨ i = 2 ∨ i = 3 := by omega
  rcases hc with rfl | rfl | rfl | rfl
  · rw [up2_ne (by omega), up2_ne (by omega), up2_ne (by omega)]
    exact up2_self j
  · rw [up2_ne (by omega), up2_ne (by omega), up2_self, up2_ne (by omega)]
    rfl
  · rw [up2_ne (by omega), up2_self, up2_ne (by omega), up2_ne (by omega)]
    rfl
  · rw [up2_self, up2_ne (by omega), up2_ne (by omega), up2_ne (by omega)]
    rfl
theorem MLx.ent {S : GS} {L : AL} {gf : Nat → Nat} {d p m : Nat} {c : Int32} (h : MLx S L gf) (hm : m < 20) : MLx (mE4 S L gf d p m c) (aEnt L d p m c) gf := by
  obtain ⟨h1, h2, h3⟩ := h
  refine ⟨?_, fun i hi => ?_, fun q hq => ?_⟩
  · show up2 (fI S) 0 3 (nI (en L + 1)) 0 3 = _
    rw [up2_at]; rfl
  · obtain ⟨a1, a2, a3, a4, a5, a6⟩ := h2 i hi
    refine ⟨a1, a2, a3, a4, fun j hj => ?_, a6⟩
    have hj : j < en L + 1 := hj
    rw [mE4_row hi]
    show _ = va_up (eE L) (en L) (ent4 d p m c) j i
    by_cases e : j = en L
    · subst e; rw [if_pos rfl, va_up_self]
    · rw [if_neg e, va_up_ne _ _ e]; exact a5 j (by omega)
  · show up2 _ 39 m (eC L m + c) 39 q = va_up (eC L) m (eC L m + c) q
    by_cases e : q = m
    · subst e; rw [up2_at, va_up_self]
    · rw [up2_nk e, va_up_ne _ _ e]
      have g0 := (h2 0 (by omega)).1
      have g1 := (h2 1 (by omega)).1
      have g2 := (h2 2 (by omega)).1
      have g3 := (h2 3 (by omega)).1
      show up2 (up2 (up2 (up2 (aI S) (100 + 4 * gf 0) (en L) (nI d)) (100 + 4 * gf 1 + 1) (en L) (nI p)) (100 + 4 * gf 2 + 2) (en L) (nI m)) (100 + 4 * gf 3 + 3) (en L) c 39 q = _
      rw [up2_ne (by omega), up2_ne (by omega), up2_ne (by omega), up2_ne (by omega)]
      exact h3 q hq
theorem MLx.cg {S : GS} {L : AL} {gf : Nat → Nat} {g : Nat} (h : MLx S L gf) (hg : ∀ i, i < 4 → gf i = g) : MLx S L (fun _ => g) := by
  obtain ⟨h1, h2, h3⟩ := h
  refine ⟨h1, fun i hi => ?_, h3⟩
  have h4 := h2 i hi
  rw [hg i hi] at h4
  exact h4
