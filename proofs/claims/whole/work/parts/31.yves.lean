/-! ===== a new vessel in the class ===== -/
def yInit (S : GS) (v : Nat) (x : Int32) : GS := sR (sN (sI S (1000 + v) 0 x) (2000 + v) 21 60) (1000 + v) 1 (some (2000 + v))
def yVessel (S : GS) (v : Nat) (x : Int32) : GS := sI (sR (yInit (sN S (1000 + v) 8 0) v x) 201 v (some (1000 + v))) 200 1 (nI (v + 1))
section
variable {S : GS} {v : Nat} {x : Int32}
theorem yV_kd (g : Nat) : kd (yVessel S v x) g = if g = 2000 + v then 21 else if g = 1000 + v then 8 else kd S g := rfl
theorem yV_ln (g : Nat) : ln (yVessel S v x) g = if g = 2000 + v then 60 else if g = 1000 + v then 0 else ln S g := rfl
theorem yV_kdn {g : Nat} (h1 : g ≠ 1000 + v) (h2 : g ≠ 2000 + v) : kd (yVessel S v x) g = kd S g := by rw [yV_kd, if_neg h2, if_neg h1]
theorem yV_lnn {g : Nat} (h1 : g ≠ 1000 + v) (h2 : g ≠ 2000 + v) : ln (yVessel S v x) g = ln S g := by rw [yV_ln, if_neg h2, if_neg h1]
theorem yV_rfn {g k : Nat} (h1 : g ≠ 1000 + v) (h2 : g ≠ 2000 + v) (h3 : ¬ (g = 201 ∧ k = v)) : rf (yVessel S v x) g k = rf S g k := by
  show up2 (up2 (va_up (va_up (rf S) (1000 + v) (fun _ => none)) (2000 + v) (fun _ => none)) (1000 + v) 1 (some (2000 + v))) 201 v (some (1000 + v)) g k = rf S g k
  by_cases e : g = 201
  · rw [up2_nk (fun q => h3 ⟨e, q⟩), up2_ne h1, va_up_ne _ _ h2, va_up_ne _ _ h1]
  · rw [up2_ne e, up2_ne h1, va_up_ne _ _ h2, va_up_ne _ _ h1]
theorem yV_fIn {g : Nat} (h1 : g ≠ 1000 + v) (h2 : g ≠ 2000 + v) (h3 : g ≠ 200) : fI (yVessel S v x) g = fI S g := by
  show up2 (va_up (up2 (va_up (fI S) (1000 + v) (fun _ => 0)) (1000 + v) 0 x) (2000 + v) (fun _ => 0)) 200 1 (nI (v + 1)) g = fI S g
  rw [up2_row h3, va_up_ne _ _ h2, up2_row h1, va_up_ne _ _ h1]
theorem yV_fJn {g : Nat} (h1 : g ≠ 1000 + v) (h2 : g ≠ 2000 + v) : fJ (yVessel S v x) g = fJ S g := by
  show va_up (va_up (fJ S) (1000 + v) (fun _ => 0)) (2000 + v) (fun _ => 0) g = fJ S g
  rw [va_up_ne _ _ h2, va_up_ne _ _ h1]
theorem yV_aIn {g : Nat} (h1 : g ≠ 1000 + v) (h2 : g ≠ 2000 + v) : aI (yVessel S v x) g = aI S g := by
  show va_up (va_up (aI S) (1000 + v) (fun _ => 0)) (2000 + v) (fun _ => 0) g = aI S g
  rw [va_up_ne _ _ h2, va_up_ne _ _ h1]
theorem yV_aJn {g : Nat} (h1 : g ≠ 1000 + v) (h2 : g ≠ 2000 + v) : aJ (yVessel S v x) g = aJ S g := by
  show va_up (va_up (aJ S) (1000 + v) (fun _ => 0)) (2000 + v) (fun _ => 0) g = aJ S g
  rw [va_up_ne _ _ h2, va_up_ne _ _ h1]
theorem yV_fv (k : Nat) : fI (yVessel S v x) (1000 + v) k = if k = 0 then x else 0 := by
  show up2 (va_up (up2 (va_up (fI S) (1000 + v) (fun _ => 0)) (1000 + v) 0 x) (2000 + v) (fun _ => 0)) 200 1 (nI (v + 1)) (1000 + v) k = _
  rw [up2_ne (by omega), va_up_ne _ _ (by omega), up2_self, va_up_self]
theorem yT_small {g : Nat} (h : (yT g).1 ≠ 0) : g < 300 := by
  rcases Nat.lt_or_ge g 300 with q | q
  · exact q
  · exfalso
    apply h
    unfold yT
    split <;> first | omega | rfl
theorem yR_small {g k r : Nat} (h : yR g k = some r) : g < 300 ∧ (g = 201 → False) := by
  unfold yR at h
  split at h <;> first | (cases h; done) | exact ⟨by omega, by omega⟩
theorem YOK.vessel (hQ : YOK S) : YOK (yVessel S v x) := by
  refine ⟨fun g hg => ?_, fun g k r hr => ?_⟩
  · have := yT_small hg
    rw [yV_kdn (by omega) (by omega), yV_lnn (by omega) (by omega)]
    exact hQ.1 g hg
  · have := yR_small hr
    rw [yV_rfn (by omega) (by omega) (fun q => this.2 q.1)]
    exact hQ.2 g k r hr
end
theorem YVes.vessel {S : GS} {A : AV} {t c : Nat} (hY : YVes S A) (hO : VOK A t) (hn : vn A < 100) : YVes (yVessel S (vn A) (nI c)) (aVessel A c) := by
  obtain ⟨y1, y2, y3⟩ := hY
  refine ⟨?_, fun u hu => ?_, fun u hu hu2 => ?_⟩
  · unfold yVessel
    rw [fI_sI, up2_at]
    rfl
  · have hu : u < vn A + 1 := hu
    by_cases e : u = vn A
    · subst e
      have h5 := hO.2.2.2 (vn A) (Nat.le_refl _)
      have h6 : vdry A (vn A) = 0 := by
        unfold vdry
        rw [sumN_congr (g := fun _ => 0) (fun i _ => h5.1 i)]
        decide
      have e1 : vK (aVessel A c) (vn A) = c := va_up_self _ _ _
      rw [yV_fv, yV_fv, yV_fv, yV_fv, yV_fv, yV_fv, yV_fv, e1]
      show _ ∧ _ ∧ _ = nI (vdry A (vn A)) ∧ _ = nI (vW A (vn A)) ∧ _ = nI (vT A (vn A)) ∧ _ = nI (vM A (vn A)) ∧ _ = nI (vG A (vn A)) ∧ _ = nI (vC A (vn A)) ∧ ∀ p, p < 60 → _ = nI (vD A (vn A) p)
      rw [h6, h5.2.2.1, h5.2.2.2.1, h5.2.2.2.2.1, h5.2.2.2.2.2.1, h5.2.2.2.2.2.2]
      refine ⟨⟨?_, ?_, ?_, ?_, ?_⟩, rfl, rfl, rfl, rfl, rfl, rfl, rfl, fun p _ => ?_⟩
      · unfold yVessel
        rw [rf_sI, rf_sR, up2_at]
      · rw [yV_kd, if_neg (by omega), if_pos rfl]
      · unfold yVessel yInit
        rw [rf_sI, rf_sR, up2_ne (by omega), rf_sR, up2_at]
      · rw [yV_kd, if_pos rfl]
      · rw [yV_ln, if_pos rfl]
      · rw [h5.1 p]
        show va_up (va_up (aI S) (1000 + vn A) (fun _ => 0)) (2000 + vn A) (fun _ => 0) (2000 + vn A) p = _
        rw [va_up_self]
        rfl
    · have h5 := y2 u (by omega)
      have e1 : vK (aVessel A c) u = vK A u := va_up_ne _ _ e
      rw [e1, yV_kdn (by omega) (by omega), yV_kdn (by omega) (by omega), yV_lnn (by omega) (by omega), yV_rfn (by omega) (by omega) (fun q => e q.2), yV_rfn (by omega) (by omega) (by omega), yV_fIn (by omega) (by omega) (by omega), yV_aIn (by omega) (by omega)]
      exact h5
  · have hu : vn A + 1 ≤ u := hu
    rw [yV_kdn (by omega) (by omega), yV_kdn (by omega) (by omega)]
    exact y3 u (by omega) hu2
theorem V_newN {X : CX} {own : String} {cc : ByteArray} {nL d kc nc pc k n : Nat} {lo : List (Option Value)} {st : List Value} {S : GS} {idx ci N : Nat} (g : Nat) (E : En X own cc nL d kc nc) (hci : ci < 12) (hw : Cond.classLink own idx (cR ci) ∈ gt_B) (hd : decode cc pc = .ok (.new idx, 3)) (hf : kd S g = 0) (hN : cN ci = N) (hk : k + 1 ≤ kc) (hn : n + N ≤ nc) (h : V X (pc + 3) lo (.ref g :: st) (sN S g (ci + 1) 0) (k + 1) (n + N)) : V X pc lo st S k n := by
  subst hN
  exact V_new g E hci hw hd hf hk hn h
