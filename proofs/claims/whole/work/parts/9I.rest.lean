/-! ===== the other calls, in the law's loop ===== -/
section
variable {S S2 : GS} {A : AV} {T T2 : AT} {B B2 : AB} {J J2 : AP} {L L2 : AL} {Q Q2 : AR} {td bo pd pd2 : Nat}
/-- the reference: text, votes' rows, parser, plan, pile -/
theorem MI.gen (hI : MI S A T B J L Q td bo pd) (f : MKf [17, 18, 19, 20, 24, 25, 45] [] [16, 21, 22, 23, 26, 27, 41, 42, 43, 44] S S2) (hX : MTx S2 T2) (hV : MVo S2 B2) (hJ : MPl S2 J2) : MI S2 A T2 B2 J2 L Q td bo pd ∧ YSm dMo S S2 := by
  obtain ⟨h1, h2, h3, h4, h5, h6, h7, h8, h9, h10⟩ := hI
  refine ⟨⟨MOK.k' f h1, MVes.k' f (by decide) (fun g a b q => by simp at q; omega) h2, hX, hV, hJ, MLd.k' f (by decide) (fun g a q => by simp at q; omega) h6, MPr.k' f (by decide) (fun g a b q => by simp at q; omega) h7, (f.1 0 (by decide)).trans h8, (f.2.1 4 (by decide)).trans h9, (f.2.1 5 (by decide)).trans h10⟩, f.sm (by decide)⟩
theorem YI.gen (hI : YI S A T B J L Q td bo pd) (hn : vn A ≤ 100) (f : YSm (fun g => dTxt g ∨ dVot g ∨ (209 ≤ g ∧ g ≤ 211) ∨ (221 ≤ g ∧ g ≤ 226)) S S2) (hQ : YOK S2) (hX : YTx S2 T2) (hV : YVo S2 B2) (hJ : YPl S2 J2) : YI S2 A T2 B2 J2 L Q td bo pd ∧ YSm dYo S S2 := by
  obtain ⟨h1, h2, h3, h4, h5, h6, h7, h8, h9, h10⟩ := hI
  have e : ∀ g, g = 200 ∨ g = 212 ∨ g = 213 ∨ 6000 ≤ g → ¬ (dTxt g ∨ dVot g ∨ (209 ≤ g ∧ g ≤ 211) ∨ (221 ≤ g ∧ g ≤ 226)) := fun g hg => by unfold dTxt dVot; omega
  exact ⟨⟨hQ, h2.fr f (fun g hg => by unfold dVes at hg; unfold dTxt dVot; omega) hn, hX, hV, hJ, h6.fr f (fun g hg => by unfold dLed at hg; unfold dTxt dVot; omega), h7.fr f (e 212 (by omega)) (e 213 (by omega)) (fun g hg => e g (by omega)), (by rw [f.fI (e 200 (by omega))]; exact h8), (by rw [f.fJ (e 200 (by omega))]; exact h9), (by rw [f.fJ (e 212 (by omega))]; exact h10)⟩, f.mono (fun g hg => by unfold dTxt dVot at hg; unfold dYo; omega)⟩
-- text
theorem st_txt (hI : MI S A T B J L Q td bo pd) (f : MKf [17] [] [16] S S2) (hX : MTx S2 T2) : MI S2 A T2 B J L Q td bo pd ∧ YSm dMo S S2 :=
  MI.gen hI ⟨fun k q => f.1 k (fun z => q (by simp at z; simp [z])), fun k q => f.2.1 k q, f.2.2.1, f.2.2.2.1, fun g q => f.2.2.2.2 g (fun z => q (by simp at z; simp [z]))⟩ hX (MVo.k' f (by decide) (fun g a b q => by simp at q; omega) hI.2.2.2.1) (MPl.k' f (by decide) (by decide) hI.2.2.2.2.1)
theorem sy_txt (hI : YI S A T B J L Q td bo pd) (hO : OI A T B J L Q td) (f : YSm dTxt S S2) (hQ : YOK S2) (hX : YTx S2 T2) : YI S2 A T2 B J L Q td bo pd ∧ YSm dYo S S2 :=
  YI.gen hI hO.1.1 (f.mono (fun g hg => Or.inl hg)) hQ hX (hI.2.2.2.1.fr f (fun g hg => by unfold dVot at hg; unfold dTxt; omega) hO.2.2.1.1) (hI.2.2.2.2.1.fr f (fun g hg => by unfold dTxt; omega))
theorem so_txt (hO : OI A T B J L Q td) (hT : TOK T2) : OI A T2 B J L Q td := ⟨hO.1, hT, hO.2.2⟩
theorem f_tsm {n : Nat} {f : Nat → Int32} : MKf [17] [] [16] S (tsm S n f) := (MKf.r (by decide)).trans (MKf.I (by decide))
theorem f_tst {n : Nat} {f : Nat → Int32} : YSm dTxt S (tst S n f) := (YSm.rA (Or.inr rfl)).trans (YSm.I (Or.inl rfl))
-- the parser's fields and the pile
theorem st_par (hI : MI S A T B J L Q td bo pd) (f : MKf [18, 19, 20, 25] [] [26, 27] S S2) : MI S2 A T B J L Q td bo pd ∧ YSm dMo S S2 :=
  MI.gen hI ⟨fun k q => f.1 k (fun z => q (by simp at z ⊢; omega)), fun k q => f.2.1 k q, f.2.2.1, f.2.2.2.1, fun g q => f.2.2.2.2 g (fun z => q (by simp at z ⊢; omega))⟩ (MTx.k' f (by decide) (by decide) hI.2.2.1) (MVo.k' f (by decide) (fun g a b q => by simp at q; omega) hI.2.2.2.1) (MPl.k' f (by decide) (by decide) hI.2.2.2.2.1)
theorem f_pst {a : Nat} {w : Int32} {o q : Nat} {f : Nat → Int32} : MKf [18, 19, 20, 25] [] [26, 27] S (pst S a w o q f) := ((((MKf.r (by decide)).trans (MKf.I (by decide))).trans (MKf.I (by decide))).trans (MKf.I (by decide))).trans (MKf.I (by decide))
theorem f_pile {f : Nat → Int64} : MKf [18, 19, 20, 25] [] [26, 27] S (rL S 27 f) := MKf.l (by decide)
theorem sy_rck (hI : YI S A T B J L Q td bo pd) (hO : OI A T B J L Q td) (f : YRf S S2) : YI S2 A T B J L Q td bo pd ∧ YSm dYo S S2 :=
  YI.gen hI hO.1.1 (f.1.mono (fun g hg => by unfold dTxt dVot; omega)) (f.2 hI.1) (hI.2.2.1.fr f.1 (fun g hg => by unfold dTxt at hg; omega)) (hI.2.2.2.1.fr f.1 (fun g hg => by unfold dVot at hg; omega) hO.2.2.1.1) (hI.2.2.2.2.1.fr f.1 (fun g hg => by omega))
-- plan
theorem st_plan (hI : MI S A T B J L Q td bo pd) (f : MKf [45] [] [41, 42, 43, 44] S S2) (hJ : MPl S2 J2) : MI S2 A T B J2 L Q td bo pd ∧ YSm dMo S S2 :=
  MI.gen hI ⟨fun k q => f.1 k (fun z => q (by simp at z; simp [z])), fun k q => f.2.1 k q, f.2.2.1, f.2.2.2.1, fun g q => f.2.2.2.2 g (fun z => q (by simp at z ⊢; omega))⟩ (MTx.k' f (by decide) (by decide) hI.2.2.1) (MVo.k' f (by decide) (fun g a b q => by simp at q; omega) hI.2.2.2.1) hJ
theorem sy_plan (hI : YI S A T B J L Q td bo pd) (hO : OI A T B J L Q td) (f : YSm (fun g => 221 ≤ g ∧ g ≤ 226) S S2) (hQ : YOK S2) (hJ : YPl S2 J2) : YI S2 A T B J2 L Q td bo pd ∧ YSm dYo S S2 :=
  YI.gen hI hO.1.1 (f.mono (fun g hg => Or.inr (Or.inr (Or.inr hg)))) hQ (hI.2.2.1.fr f (fun g hg => by unfold dTxt at hg; omega)) (hI.2.2.2.1.fr f (fun g hg => by unfold dVot at hg; omega) hO.2.2.1.1) hJ
theorem so_plan (hO : OI A T B J L Q td) (hJ : POKa J2) : OI A T B J2 L Q td := ⟨hO.1, hO.2.1, hO.2.2.1, hJ, hO.2.2.2.2⟩
-- vote
theorem st_vote (hI : MI S A T B J L Q td bo pd) {a : Nat} {w : Int32} {o q : Nat} {f c : Nat → Int32} {x : Nat} (hc : cOld S (bn B) q f c) (hP : ∀ f3, (∀ k, k < q → f3 k = f k) → PMv T f3) : MI (mVot S a w o q f c (bn B) (nI x)) A (aEnd T 0) (aVote B T x) J L Q td bo pd ∧ YSm dMo S (mVot S a w o q f c (bn B) (nI x)) := by
  have fr : MKf [17, 18, 19, 20, 24, 25, 45] [] [16, 21, 22, 23, 26, 27, 41, 42, 43, 44] S (mVot S a w o q f c (bn B) (nI x)) := (((((((((MKf.r (by decide)).trans (MKf.I (by decide))).trans (MKf.I (by decide))).trans (MKf.I (by decide))).trans (MKf.I (by decide))).trans (MKf.r (by decide))).trans (MKf.A (by decide))).trans (MKf.A (by decide))).trans (MKf.I (by decide))).trans (MKf.I (by decide))
  refine MI.gen hI fr ⟨(by rw [mVot, fI_sI, up2_at]; rfl), fun i hi => absurd hi (Nat.not_lt_zero i)⟩ (hI.2.2.2.1.vote hc hP) ?_
  have e : ∀ k, k = 45 → fI (mVot S a w o q f c (bn B) (nI x)) 0 k = fI S 0 k := fun k hk => by
    rw [mVot, fI_sI, up2_nk (by omega), fI_sI, up2_nk (by omega)]
    exact pst_k S a w o q f (by omega)
  have ea : ∀ g, g = 41 ∨ g = 42 ∨ g = 44 → aI (mVot S a w o q f c (bn B) (nI x)) g = aI S g := fun g hg => by
    show up2 (up2 (va_up (va_up (aI S) 26 f) 21 c) 22 (bn B) (nI x)) 23 (bn B) 0 g = _
    rw [up2_row (by omega), up2_row (by omega), va_up_ne _ _ (by omega), va_up_ne _ _ (by omega)]
  have h5 := hI.2.2.2.2.1
  unfold MPl
  rw [e 45 rfl, ea 41 (by omega), ea 42 (by omega), ea 44 (by omega)]
  exact h5
theorem sy_vote (hI : YI S A T B J L Q td bo pd) (hO : OI A T B J L Q td) {x : Nat} (hn : bn B < 50) : YI (sI (yAdd S (bn B) T.1 (nI x)) 205 1 0) A (aEnd T 0) (aVote B T x) J L Q td bo pd ∧ YSm dYo S (sI (yAdd S (bn B) T.1 (nI x)) 205 1 0) := by
  have f : YSm (fun g => g = 3000 + bn B ∨ g = 4000 + bn B ∨ g = 5000 + bn B ∨ g = 207 ∨ g = 208 ∨ g = 205) S (sI (yAdd S (bn B) T.1 (nI x)) 205 1 0) := ((yAdd_sm S (bn B) T.1 (nI x)).mono (fun g hg => by omega)).trans (YSm.I (by omega))
  exact YI.gen hI hO.1.1 (f.mono (fun g hg => by unfold dTxt dVot; omega)) (yok_vote hI.1) ⟨(show up2 (fI (yAdd S (bn B) T.1 (nI x))) 205 1 0 205 1 = _ from up2_at), fun i hi => absurd hi (Nat.not_lt_zero i)⟩ (hI.2.2.2.1.vote hO.2.2.1 hI.2.2.1 hn) (hI.2.2.2.2.1.fr f (fun g hg => by omega))
theorem gcn_vote {x : Nat} : gcn (aVote B T x) = gcn B := by
  show sumN (va_up (bG B) (bn B) 0) (bn B + 1) = sumN (bG B) (bn B)
  simp only [sumN]
  rw [va_up_self, sumN_congr (g := bG B) (fun i hi => va_up_ne _ _ (by omega))]
  rfl
theorem so_vote (hO : OI A T B J L Q td) {x : Nat} (hn : bn B < 50) (hx : x ≤ 10000) : OI A (aEnd T 0) (aVote B T x) J L Q td := by
  refine ⟨hO.1, hO.2.1.fin (Nat.zero_le _), hO.2.2.1.vote hn hO.2.1 hx, hO.2.2.2.1, ?_, by rw [gcn_vote]; exact hO.2.2.2.2.2⟩
  obtain ⟨h1, h2⟩ := hO.2.2.2.2.1
  refine ⟨h1, fun y hy => ?_⟩
  obtain ⟨a1, a2, a3, a4, a5, a6, a7, a8⟩ := h2 y hy
  exact ⟨a1, a2, a3, a4, a5, a6, fun v hv => Nat.lt_succ_of_lt (a7 v hv), a8⟩
-- premium
theorem MI.prm (hI : MI S A T B J L Q td bo pd) (f : MQf S S2) (hL : MLd S2 L2) (hR : MPr S2 A Q2) (hp : fJ S2 0 5 = lN pd2) : MI S2 A T B J L2 Q2 td bo pd2 ∧ YSm dMo S S2 := by
  obtain ⟨h1, h2, h3, h4, h5, h6, h7, h8, h9, h10⟩ := hI
  refine ⟨⟨f.2.2.1 h1, h2.fq f, h3.fq f, h4.fq f, ?_, hL, hR, (f.1 0 (by decide) (by decide)).trans h8, (f.2.1 4 (by decide)).trans h9, hp⟩, f.2.2.2.mono (fun g hg => by unfold dMQ at hg; unfold dMo; omega)⟩
  unfold MPl
  rw [f.1 45 (by decide) (by decide), f.2.2.2.aI (g := 41) (by unfold dMQ; omega), f.2.2.2.aI (g := 42) (by unfold dMQ; omega), f.2.2.2.aI (g := 44) (by unfold dMQ; omega)]
  exact h5
theorem YI.prm (hI : YI S A T B J L Q td bo pd) (hO : OI A T B J L Q td) (f : YQf S S2) (hL : YLd S2 L2) (hR : YPr S2 Q2) (hp : fJ S2 212 5 = lN pd2) : YI S2 A T B J L2 Q2 td bo pd2 ∧ YSm dYo S S2 := by
  obtain ⟨h1, h2, h3, h4, h5, h6, h7, h8, h9, h10⟩ := hI
  exact ⟨⟨f.2 h1, h2.fr f.1 (fun g hg => by unfold dVes at hg; unfold dYQ dLed; omega) hO.1.1, h3.fr f.1 (fun g hg => by unfold dTxt at hg; unfold dYQ dLed; omega), h4.fr f.1 (fun g hg => by unfold dVot at hg; unfold dYQ dLed; omega) hO.2.2.1.1, h5.fr f.1 (fun g hg => by unfold dYQ dLed; omega), hL, hR, (by rw [f.1.fI (by unfold dYQ dLed; omega)]; exact h8), (by rw [f.1.fJ (by unfold dYQ dLed; omega)]; exact h9), hp⟩, f.1.mono (fun g hg => by unfold dYQ dLed at hg; unfold dYo; omega)⟩
theorem so_prm (hO : OI A T B J L Q td) {s c : Nat} (hs : s < vn A) (hc0 : vC A s ≠ 0) (hc1 : 1 ≤ c) (hc : c ≤ 1000000) (hn : rn Q < 100) (hL : en L2 ≤ en L + 20) : OI A T B J L2 (aPrm Q s td c (vG A s) (inF B td) (shr A B s (vG A s) (inF B td) c)) td := by
  have hd : 0 < vdry A s := by
    have h3 := (hO.1.2.2.1 s hs).2.2.2.2.2.2.2.2.2.2 hc0
    have := h3.2.1
    omega
  refine ⟨hO.1, hO.2.1, hO.2.2.1, hO.2.2.2.1, ⟨hn, fun x hx => ?_⟩, by have := hO.2.2.2.2.2; show en L2 ≤ 20 * (rn Q + 1) + 2000 * gcn B; omega⟩
  have hx : x < rn Q + 1 := hx
  show va_up (rS Q) (rn Q) s x < vn A ∧ vC A (va_up (rS Q) (rn Q) s x) ≠ 0 ∧ va_up (rD Q) (rn Q) td x ≤ td ∧ 1 ≤ va_up (rC Q) (rn Q) c x ∧ va_up (rC Q) (rn Q) c x ≤ 1000000 ∧ va_up (rG Q) (rn Q) (vG A s) x ≤ 3 ∧ (∀ v, va_up (rV Q) (rn Q) (inF B td) x = some v → v < bn B) ∧ ∀ m, m < 20 → va_up (rH Q) (rn Q) (shr A B s (vG A s) (inF B td) c) x m ≤ 1000000 ∧ (gmN A (va_up (rS Q) (rn Q) s x) m = 0 → va_up (rH Q) (rn Q) (shr A B s (vG A s) (inF B td) c) x m = 0)
  by_cases e : x = rn Q
  · subst e
    rw [va_up_self, va_up_self, va_up_self, va_up_self, va_up_self, va_up_self]
    exact ⟨hs, hc0, Nat.le_refl _, hc1, hc, (hO.1.2.2.1 s hs).2.2.2.1, cy_inF, fun m hm => ⟨Nat.le_trans (shr_le hd hm) hc, fun h0 => shr_0 hd hm h0⟩⟩
  · rw [va_up_ne _ _ e, va_up_ne _ _ e, va_up_ne _ _ e, va_up_ne _ _ e, va_up_ne _ _ e, va_up_ne _ _ e]
    exact hO.2.2.2.2.1.2 x (by omega)
-- unvote
theorem gcn_unv {v : Nat} (hv : v < bn B) (h0 : bG B v = 0) : gcn (aUnv B v) = gcn B + 1 := by
  have h := sumN_up (f := bG B) (g := va_up (bG B) v 1) (n := bn B) hv (fun j _ hj => va_up_ne _ _ hj)
  rw [va_up_self, h0] at h
  show sumN (va_up (bG B) v 1) (bn B) = sumN (bG B) (bn B) + 1
  omega
theorem gcn_le (hB : BOK B) : gcn B ≤ bn B := by
  have h : sumN (bG B) (bn B) ≤ sumN (fun _ => 1) (bn B) := sumN_le (fun i hi => (hB.2 i hi).2.1)
  rw [sumN_const, Nat.mul_one] at h
  exact h
theorem gcn_lt (hB : BOK B) {v : Nat} (hv : v < bn B) (h0 : bG B v = 0) : gcn B < 50 := by
  have h1 := gcn_unv hv h0
  have h2 := gcn_le (B := aUnv B v) hB.unv
  have h3 : bn (aUnv B v) = bn B := rfl
  have h4 := hB.1
  omega
theorem so_unv (hO : OI A T B J L Q td) {v : Nat} (hv : v < bn B) (h0 : bG B v = 0) : OI A T (aUnv B v) J (ufd A (aUnv B v) v td L Q (rn Q)).1 (ufd A (aUnv B v) v td L Q (rn Q)).2 td := by
  refine ⟨hO.1, hO.2.1, hO.2.2.1.unv, hO.2.2.2.1, ROK.ufd hO.2.2.2.2.1.unv hO.1 (rn Q) (Nat.le_refl _), ?_⟩
  rw [(ufd_R (rn Q)).1, gcn_unv hv h0]
  have h1 := (ufd_en (A := A) (B := aUnv B v) (v := v) (td := td) (L := L) (R := Q) (rn Q)).2
  have h2 := hO.2.2.2.2.1.1
  have h3 := hO.2.2.2.2.2
  omega
theorem st_unv0 (hI : MI S A T B J L Q td bo pd) {v : Nat} : MI (sA S 23 v 1) A T (aUnv B v) J L Q td bo pd ∧ YSm dMo S (sA S 23 v 1) := by
  have f : MKf [] [] [23] S (sA S 23 v 1) := MKf.A (by decide)
  exact MI.gen hI (MKf.A (by decide)) (MTx.k' f (by decide) (by decide) hI.2.2.1) hI.2.2.2.1.unv (MPl.k' f (by decide) (by decide) hI.2.2.2.2.1)
theorem sy_unv0 (hI : YI S A T B J L Q td bo pd) (hO : OI A T B J L Q td) {v : Nat} (hv : v < bn B) : YI (sI S (3000 + v) 2 1) A T (aUnv B v) J L Q td bo pd ∧ YSm dYo S (sI S (3000 + v) 2 1) := by
  have hb := hO.2.2.1.1
  have f : YSm (fun g => g = 3000 + v) S (sI S (3000 + v) 2 1) := YSm.I rfl
  exact YI.gen hI hO.1.1 (f.mono (fun g hg => by unfold dTxt dVot; omega)) hI.1 (hI.2.2.1.fr f (fun g hg => by unfold dTxt at hg; omega)) (hI.2.2.2.1.unv hv hb) (hI.2.2.2.2.1.fr f (fun g hg => by omega))
end
