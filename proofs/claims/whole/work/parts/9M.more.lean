/-! ===== more of what the loop's cases need ===== -/
section
variable {S S2 : GS} {A : AV} {T T2 : AT} {B B2 : AB} {J J2 : AP} {L L2 : AL} {Q Q2 : AR} {td bo pd pd2 : Nat}
theorem st_par0 (hI : MI S A T B J L Q td bo pd) (h : S2 = S ∨ ∃ a w o q f, S2 = pst S a w o q f) : MI S2 A T B J L Q td bo pd ∧ YSm dMo S S2 := by
  rcases h with h | ⟨a, w, o, q, f, h⟩
  · rw [h]; exact ⟨hI, YSm.rfl' _ _⟩
  · rw [h]; exact st_par hI f_pst
theorem so_unv1 (hO : OI A T B J L Q td) {v : Nat} (hv : v < bn B) (h0 : bG B v = 0) : OI A T (aUnv B v) J L Q td := by
  have h := hO.2.2.2.2.2
  refine ⟨hO.1, hO.2.1, hO.2.2.1.unv, hO.2.2.2.1, hO.2.2.2.2.1.unv, ?_⟩
  rw [gcn_unv hv h0]
  omega
theorem f_yJob {x z : Int32} : YSm (fun g => 221 ≤ g ∧ g ≤ 226) S (yJob S J x z) := ((YSm.A (by omega)).trans (YSm.A (by omega))).trans (YSm.I (by omega))
theorem f_mJob {x z : Int32} : MKf [45] [] [41, 42, 43, 44] S (mJob S J x z) := ((MKf.A (by decide)).trans (MKf.A (by decide))).trans (MKf.I (by decide))
theorem ypl_r {g : Nat} {f : Nat → Int32} (hg : g = 224 ∨ g = 226) (h : YPl S J) : YPl (rA S g f) J := by
  have e : ∀ q, q ≠ g → aI (rA S g f) q = aI S q := fun q hq => va_up_ne _ _ hq
  unfold YPl
  rw [e 222 (by omega), e 223 (by omega), e 225 (by omega)]
  exact h
theorem mpl_r {f : Nat → Int32} (h : MPl S J) : MPl (rA S 43 f) J := by
  have e : ∀ q, q ≠ 43 → aI (rA S 43 f) q = aI S q := fun q hq => va_up_ne _ _ hq
  unfold MPl
  rw [e 41 (by omega), e 42 (by omega), e 44 (by omega)]
  exact h
end
