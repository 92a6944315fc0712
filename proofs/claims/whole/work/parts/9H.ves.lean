/-! ===== the calls on vessels, in the law's loop ===== -/
def dV (g : Nat) : Prop := g = 200 ∨ g = 201 ∨ g = 203 ∨ g = 204 ∨ (1000 ≤ g ∧ g < 1100) ∨ (2000 ≤ g ∧ g < 2100)
section
variable {S S2 : GS} {A A2 : AV} {T : AT} {B : AB} {J : AP} {L : AL} {Q : AR} {td td2 bo bo2 pd : Nat}
theorem MI.ves (hI : MI S A T B J L Q td bo pd) (f : MKf [0, 1] [4] [6, 7, 8, 9, 10, 11, 12, 13, 14, 15] S S2) (hA : MVes S2 A2) (ht : fI S2 0 0 = nI td2) (hb : fJ S2 0 4 = lN bo2) (hd : ∀ x, x < rn Q → ∀ p, vD A2 (rS Q x) p = vD A (rS Q x) p) : MI S2 A2 T B J L Q td2 bo2 pd ∧ YSm dMo S S2 := by
  obtain ⟨h1, h2, h3, h4, h5, h6, h7, h8, h9, h10⟩ := hI
  have ni : ∀ g, 16 ≤ g → g ∉ [6, 7, 8, 9, 10, 11, 12, 13, 14, 15] := fun g hg q => by simp at q; omega
  exact ⟨⟨MOK.k' f h1, hA, MTx.k' f (by decide) (ni 16 (by omega)) h3, MVo.k' f (by decide) (fun g a _ => ni g (by omega)) h4, MPl.k' f (by decide) ⟨ni 41 (by omega), ni 42 (by omega), ni 44 (by omega)⟩ h5, MLd.k' f (by decide) (fun g a q => absurd q (ni g (by omega))) h6, MPr.A hd (MPr.k' f (by decide) (fun g a _ => ni g (by omega)) h7), ht, hb, (f.2.1 5 (by decide)).trans h10⟩, f.sm (by decide)⟩
theorem YI.ves (hI : YI S A T B J L Q td bo pd) (hb5 : bn B ≤ 50) (f : YSm dV S S2) (hQ : YOK S2) (hA : YVes S2 A2) (ht : fI S2 200 2 = nI td2) (hb : fJ S2 200 3 = lN bo2) : YI S2 A2 T B J L Q td2 bo2 pd ∧ YSm dYo S S2 := by
  obtain ⟨h1, h2, h3, h4, h5, h6, h7, h8, h9, h10⟩ := hI
  exact ⟨⟨hQ, hA, h3.fr f (fun g hg => by unfold dTxt at hg; unfold dV; omega), h4.fr f (fun g hg => by unfold dVot at hg; unfold dV; omega) hb5, h5.fr f (fun g hg => by unfold dV; omega), h6.fr f (fun g hg => by unfold dLed at hg; unfold dV; omega), h7.fr f (by unfold dV; omega) (by unfold dV; omega) (fun g hg => by unfold dV; omega), ht, hb, (by rw [f.fJ (by unfold dV; omega)]; exact h10)⟩, f.mono (fun g hg => by unfold dV at hg; unfold dYo; omega)⟩
theorem OI.ves (h : OI A T B J L Q td) (hV : VOK A2 td2) (ht : td ≤ td2) (hn : vn A ≤ vn A2) (hc : ∀ x, x < rn Q → vC A2 (rS Q x) ≠ 0) (hd : ∀ x, x < rn Q → ∀ p, vD A2 (rS Q x) p = vD A (rS Q x) p) : OI A2 T B J L Q td2 := ⟨hV, h.2.1, h.2.2.1, h.2.2.2.1, ROK.A ht hn hc hd h.2.2.2.2.1, h.2.2.2.2.2⟩
/-- a sack that was paid for: it was cut -/
theorem OI.sk (h : OI A T B J L Q td) {x : Nat} (hx : x < rn Q) : rS Q x < vn A ∧ vC A (rS Q x) ≠ 0 ∧ vK A (rS Q x) = 3 := by
  obtain ⟨a1, a2, -⟩ := h.2.2.2.2.1.2 x hx
  exact ⟨a1, a2, ((h.1.2.2.1 _ a1).2.2.2.2.2.2.2.2.2.2 a2).1⟩
-- vessel
theorem st_vessel (hM : MI S A T B J L Q td bo pd) (hO : OI A T B J L Q td) {x : Int32} (hp : pVessel A x) : MI (mVessel S A x) (aVessel A (tn x)) T B J L Q td bo pd ∧ YSm dMo S (mVessel S A x) := by
  obtain ⟨c, rfl, tc, -, uc, -⟩ := wi_nat hp.1 (by omega)
  rw [tc]
  exact MI.ves hM ((MKf.A (by decide)).trans (MKf.I (by decide))) (hM.2.1.vessel hp.2) ((show up2 (fI S) 0 1 (nI (vn A + 1)) 0 0 = fI S 0 0 from up2_nk (by decide)).trans hM.2.2.2.2.2.2.2.1) hM.2.2.2.2.2.2.2.2.1 (fun _ _ _ => rfl)
theorem sy_vessel (hY : YI S A T B J L Q td bo pd) (hO : OI A T B J L Q td) {x : Int32} (hp : pVessel A x) : YI (yVessel S (vn A) x) (aVessel A (tn x)) T B J L Q td bo pd ∧ YSm dYo S (yVessel S (vn A) x) := by
  obtain ⟨c, rfl, tc, -, uc, -⟩ := wi_nat hp.1 (by omega)
  rw [tc]
  have hn := hp.2
  refine YI.ves hY hO.2.2.1.1 (fun g hg => ?_) hY.1.vessel (hY.2.1.vessel hO.1 hp.2) ?_ ?_
  · unfold dV at hg
    exact ⟨yV_kdn (by omega) (by omega), yV_lnn (by omega) (by omega), funext fun k => yV_rfn (by omega) (by omega) (by omega), yV_fIn (by omega) (by omega) (by omega), yV_fJn (by omega) (by omega), yV_aIn (by omega) (by omega), yV_aJn (by omega) (by omega)⟩
  · show up2 (va_up (up2 (va_up (fI S) (1000 + vn A) (fun _ => 0)) (1000 + vn A) 0 (nI c)) (2000 + vn A) (fun _ => 0)) 200 1 (nI (vn A + 1)) 200 2 = _
    rw [up2_nk (by decide), va_up_ne _ _ (by omega), up2_ne (by omega), va_up_ne _ _ (by omega)]
    exact hY.2.2.2.2.2.2.2.1
  · rw [yV_fJn (by omega) (by omega)]
    exact hY.2.2.2.2.2.2.2.2.1
theorem so_vessel (hO : OI A T B J L Q td) {x : Int32} (hp : pVessel A x) : OI (aVessel A (tn x)) T B J L Q td := by
  obtain ⟨c, rfl, tc, -, uc, -⟩ := wi_nat hp.1 (by omega)
  rw [tc]
  exact hO.ves (hO.1.vessel (by omega) hp.2) (Nat.le_refl _) (Nat.le_succ _) (fun x hx => (hO.sk hx).2.1) (fun _ _ _ => rfl)
-- buy
theorem kp_buy (hO : OI A T B J L Q td) {v p g b : Nat} (hk : vK A v = 0) : ∀ x, x < rn Q → ∀ q, vD (aBuy A v p g b) (rS Q x) q = vD A (rS Q x) q := by
  intro x hx q
  have h3 := (hO.sk hx).2.2
  show va_up (vD A) v _ (rS Q x) q = _
  rw [va_up_ne _ _ (fun e => by rw [e] at h3; omega)]
theorem st_buy (hM : MI S A T B J L Q td bo pd) (hO : OI A T B J L Q td) {v p g b : Nat} (hk : vK A v = 0) (hp : p < 60) : MI (mBuy S A v p g b) (aBuy A v p g b) T B J L Q td (bo + (g - b)) pd ∧ YSm dMo S (mBuy S A v p g b) :=
  MI.ves hM (((MKf.A (by decide)).trans (MKf.A (by decide))).trans (MKf.J (by decide))) (hM.2.1.buy hp) hM.2.2.2.2.2.2.2.1 ((show up2 (fJ S) 0 4 (fJ S 0 4 + lN (g - b)) 0 4 = _ from up2_at).trans (by rw [hM.2.2.2.2.2.2.2.2.1, lN_add])) (kp_buy hO hk)
theorem sy_buy (hY : YI S A T B J L Q td bo pd) (hO : OI A T B J L Q td) {v p g b : Nat} (hv : v < vn A) (hp : p < 60) : YI (yBuy S v p g b) (aBuy A v p g b) T B J L Q td (bo + (g - b)) pd ∧ YSm dYo S (yBuy S v p g b) := by
  have hn := hO.1.1
  refine YI.ves hY hO.2.2.1.1 ((((YSm.A (by unfold dV; omega)).trans (YSm.I (by unfold dV; omega))).trans (YSm.I (by unfold dV; omega))).trans (YSm.J (by unfold dV; omega))) hY.1 (hY.2.1.buy hv hn hp) ?_ ?_
  · show up2 (up2 (fI S) (1000 + v) 2 _) (1000 + v) 3 _ 200 2 = _
    rw [up2_ne (by omega), up2_ne (by omega)]
    exact hY.2.2.2.2.2.2.2.1
  · show up2 (fJ S) 200 3 (fJ S 200 3 + lN (g - b)) 200 3 = _
    rw [up2_at, hY.2.2.2.2.2.2.2.2.1, lN_add]
theorem so_buy (hO : OI A T B J L Q td) {v p g b : Nat} (hv : v < vn A) (hk : vK A v = 0) (hp : p < 60) (hb : b ≤ g) (hw : vwt A v + g ≤ 1000000) : OI (aBuy A v p g b) T B J L Q td :=
  hO.ves (hO.1.buy hv hk hp hb hw) (Nat.le_refl _) (Nat.le_refl _) (fun x hx => (hO.sk hx).2.1) (kp_buy hO hk)
-- move
theorem kp_move (hO : OI A T B J L Q td) {v u g : Nat} (hk3 : vK A v ≠ 3) (hk : vK A u = 3 → vC A u = 0) : ∀ x, x < rn Q → ∀ q, vD (aMove A v u g) (rS Q x) q = vD A (rS Q x) q := by
  intro x hx q
  obtain ⟨-, h2, h3⟩ := hO.sk hx
  show va_up (va_up (vD A) v _) u _ (rS Q x) q = _
  rw [va_up_ne _ _ (fun e => by rw [e] at h2 h3; exact h2 (hk h3)), va_up_ne _ _ (fun e => by rw [e] at h3; exact hk3 h3)]
theorem st_move (hM : MI S A T B J L Q td bo pd) (hO : OI A T B J L Q td) {v u g : Nat} (hk3 : vK A v ≠ 3) (hk : vK A u = 3 → vC A u = 0) (f : FrM [7, 8, 9, 15] [13, 14] S S2) (hA : MVes S2 (aMove A v u g)) : MI S2 (aMove A v u g) T B J L Q td bo pd ∧ YSm dMo S S2 :=
  MI.ves hM (f.k (by decide) (by decide)) hA (by rw [f.2.2.2.1]; exact hM.2.2.2.2.2.2.2.1) (by rw [f.2.2.2.2.1]; exact hM.2.2.2.2.2.2.2.2.1) (kp_move hO hk3 hk)
theorem sy_move (hY : YI S A T B J L Q td bo pd) (hO : OI A T B J L Q td) {v u : Nat} {A2 : AV} (hv : v < vn A) (hu : u < vn A) (f : YFr2 S S2 v u) (hA : YVes S2 A2) : YI S2 A2 T B J L Q td bo pd ∧ YSm dYo S S2 := by
  have hn := hO.1.1
  have f2 := f
  obtain ⟨a1, a2, a3, a4, a5, a6, a7⟩ := f
  refine YI.ves hY hO.2.2.1.1 (fun g hg => ?_) (f2.ok hY.1) hA (by rw [a6 200 (by omega) (by omega)]; exact hY.2.2.2.2.2.2.2.1) (by rw [a4]; exact hY.2.2.2.2.2.2.2.2.1)
  unfold dV at hg
  exact ⟨by rw [a1], by rw [a2], by rw [a3], a6 g (by omega) (by omega), by rw [a4], a7 g (by omega) (by omega) (by omega), a5 g (by omega)⟩
theorem so_move (hO : OI A T B J L Q td) {v u g : Nat} (hv : v < vn A) (hu : u < vn A) (hvu : v ≠ u) (hg1 : 0 < g) (hg : g ≤ vwt A v) (hw : vwt A u + g ≤ 1000000) (hk3 : vK A v ≠ 3) (hk : vK A u = 3 → vwet A v ≤ 75 ∧ vC A u = 0) : OI (aMove A v u g) T B J L Q td :=
  hO.ves (hO.1.move hv hu hvu hg1 hg hw hk3 hk) (Nat.le_refl _) (Nat.le_refl _) (fun x hx => (hO.sk hx).2.1) (kp_move hO hk3 (fun q => (hk q).2))
-- turn, cover
theorem st_mark (hM : MI S A T B J L Q td bo pd) {v c : Nat} : MI (mMark S v c) (aMark A v c) T B J L Q td bo pd ∧ YSm dMo S (mMark S v c) :=
  MI.ves hM (MKf.A (by decide)) hM.2.1.mark hM.2.2.2.2.2.2.2.1 hM.2.2.2.2.2.2.2.2.1 (fun _ _ _ => rfl)
theorem sy_mark (hY : YI S A T B J L Q td bo pd) (hO : OI A T B J L Q td) {v c : Nat} (hv : v < vn A) : YI (sI S (1000 + v) 5 (nI c)) (aMark A v c) T B J L Q td bo pd ∧ YSm dYo S (sI S (1000 + v) 5 (nI c)) := by
  have hn := hO.1.1
  exact YI.ves hY hO.2.2.1.1 (YSm.I (by unfold dV; omega)) hY.1 (hY.2.1.mark hv hn) ((show up2 (fI S) (1000 + v) 5 (nI c) 200 2 = _ from up2_ne (by omega)).trans hY.2.2.2.2.2.2.2.1) hY.2.2.2.2.2.2.2.2.1
theorem so_mark (hO : OI A T B J L Q td) {v c : Nat} (hv : v < vn A) (hc : c ≤ 1) : OI (aMark A v c) T B J L Q td := hO.ves (hO.1.mark hv hc) (Nat.le_refl _) (Nat.le_refl _) (fun x hx => (hO.sk hx).2.1) (fun _ _ _ => rfl)
-- day
theorem st_day (hM : MI S A T B J L Q td bo pd) {su ra : Nat} {f g h : Nat → Int32} (hA : MVes (sI (R3 S f g h) 0 0 (nI (td + 1))) (aDayN A su ra (vn A))) : MI (sI (R3 S f g h) 0 0 (nI (td + 1))) (aDayN A su ra (vn A)) T B J L Q (td + 1) bo pd ∧ YSm dMo S (sI (R3 S f g h) 0 0 (nI (td + 1))) :=
  MI.ves hM ((((MKf.r (by decide)).trans (MKf.r (by decide))).trans (MKf.r (by decide))).trans (MKf.I (by decide))) hA (show up2 (fI S) 0 0 (nI (td + 1)) 0 0 = _ from up2_at) hM.2.2.2.2.2.2.2.2.1 (fun _ _ _ => rfl)
theorem sy_day (hY : YI S A T B J L Q td bo pd) (hO : OI A T B J L Q td) {A2 : AV} {S3 : GS} (f : YFrV S S3) (hA : YVes S3 A2) : YI (sI S3 200 2 (nI (td + 1))) A2 T B J L Q (td + 1) bo pd ∧ YSm dYo S (sI S3 200 2 (nI (td + 1))) := by
  have f2 := f
  obtain ⟨a1, a2, a3, a4, a5, a6, a7⟩ := f
  have e1 : YSm dV S S3 := fun g hg => by
    unfold dV at hg
    exact ⟨by rw [a1], by rw [a2], by rw [a3], a7 g (by omega), by rw [a4], by rw [a6], by rw [a5]⟩
  refine YI.ves hY hO.2.2.1.1 (e1.trans (YSm.I (by unfold dV; omega))) (f2.ok hY.1) ?_ (show up2 (fI S3) 200 2 (nI (td + 1)) 200 2 = _ from up2_at) (by show fJ S3 200 3 = _; rw [a4]; exact hY.2.2.2.2.2.2.2.2.1)
  obtain ⟨y1, y2, y3⟩ := hA
  refine ⟨(show up2 (fI S3) 200 2 (nI (td + 1)) 200 1 = _ from up2_nk (by decide)).trans y1, fun v hv => ?_, y3⟩
  have e : fI (sI S3 200 2 (nI (td + 1))) (1000 + v) = fI S3 (1000 + v) := (show up2 (fI S3) 200 2 (nI (td + 1)) (1000 + v) = _ from up2_row (by omega))
  rw [e]
  exact y2 v hv
theorem so_day (hO : OI A T B J L Q td) {su ra : Nat} (ht : td + 1 ≤ 600) : OI (aDayN A su ra (vn A)) T B J L Q (td + 1) := hO.ves (hO.1.day ht) (Nat.le_succ _) (Nat.le_refl _) (fun x hx => (hO.sk hx).2.1) (fun _ _ _ => rfl)
-- cut
theorem st_cut (hM : MI S A T B J L Q td bo pd) {v g : Nat} : MI (mCut S A v g) (aCut A v g) T B J L Q td bo pd ∧ YSm dMo S (mCut S A v g) :=
  MI.ves hM ((MKf.A (by decide)).trans (MKf.A (by decide))) hM.2.1.cut hM.2.2.2.2.2.2.2.1 hM.2.2.2.2.2.2.2.2.1 (fun _ _ _ => rfl)
theorem sy_cut (hY : YI S A T B J L Q td bo pd) (hO : OI A T B J L Q td) {v g : Nat} (hv : v < vn A) : YI (yCut S v (vC A v) g) (aCut A v g) T B J L Q td bo pd ∧ YSm dYo S (yCut S v (vC A v) g) := by
  have hn := hO.1.1
  exact YI.ves hY hO.2.2.1.1 ((YSm.I (by unfold dV; omega)).trans (YSm.I (by unfold dV; omega))) hY.1 (hY.2.1.cut hv hn) ((show up2 (up2 (fI S) (1000 + v) 7 (nI (vC A v + 1))) (1000 + v) 6 (nI g) 200 2 = _ from by rw [up2_ne (by omega), up2_ne (by omega)]).trans hY.2.2.2.2.2.2.2.1) hY.2.2.2.2.2.2.2.2.1
theorem so_cut (hO : OI A T B J L Q td) {v g : Nat} (hv : v < vn A) (hk : vK A v = 3) (hw : vwt A v ≠ 0) (hc : vC A v ≤ 1) (hg : 1 ≤ g ∧ g ≤ 3) : OI (aCut A v g) T B J L Q td := by
  refine hO.ves (hO.1.cut hv hk hw hc hg) (Nat.le_refl _) (Nat.le_refl _) (fun x hx => ?_) (fun _ _ _ => rfl)
  show va_up (vC A) v (vC A v + 1) (rS Q x) ≠ 0
  by_cases e : rS Q x = v
  · rw [e, va_up_self]; omega
  · rw [va_up_ne _ _ e]; exact (hO.sk hx).2.1
end
