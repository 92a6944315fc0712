/-! ===== the ghost machine, 6: System.arraycopy from place 0 to place 0, between rows of ints or of bytes ===== -/
set_option maxRecDepth 20000 in
theorem w_acp : Cond.native arraycopyName ∈ gt_B ∧ Cond.static arraycopyName ∈ gt_B ∧ Cond.initialized "java/lang/System" ∈ gt_B := by decide +kernel
section GCP
variable {X : CX} {own : String} {cc : ByteArray} {nL d kc nc pc k n : Nat} {lo : List (Option Value)} {st : List Value} {S : GS}
theorem V_acopy {idx g g' c m : Nat} {x : Int32} (E : En X own cc nL d kc nc) (hl : Cond.methodLink own idx arraycopyName ∈ gt_B) (hd : decode cc pc = .ok (.invokestatic idx, 3)) (hk : kd S g = c) (hk' : kd S g' = c) (hc : c = 21 ∨ c = 23) (hx : x = nI m) (hm : m < 2 ^ 31) (h1 : m ≤ ln S g) (h2 : m ≤ ln S g') (hf : c = 23 → ∀ i, i < m → fits .byte (.int (aI S g i)) = true) (hw : (st.map fun v => v.category).sum ≤ 8) (hdd : 1 ≤ d) (h : V X (pc + 3) lo st (rA S g' (va_cpy (aI S g) (aI S g') 0 0 m)) k n) : V X pc lo (.int x :: .int 0 :: .ref g' :: .int 0 :: .ref g :: st) S k n := by
  intro L ad H locs ls hM hlo hst hls
  subst hx
  have hcl : (nI m).toNatClampNeg = m := nI_clamp hm
  have h0 : ¬ nI m < 0 := nI_pos hm
  obtain ⟨i, hi, hg⟩ := gws_at (ad := ad) (tc := x_tc X) (S := S) (hM.mem (g := g) (by omega) (by omega))
  obtain ⟨i', hi', hg'⟩ := gws_at (ad := ad) (tc := x_tc X) (S := S) (hM.mem (g := g') (by omega) (by omega))
  rw [gc_int hk (by omega)] at hg
  rw [gc_int hk' (by omega)] at hg'
  have key : ∀ (ty : FieldType) (t0 : Nat), (g_tys (x_tc X))[t0]? = some (x_tc X c, ty) → refKind ty = false → (∀ i, i < m → fits ty (.int (aI S g i)) = true) → W (x_p X) (x_l X) (x_e X) (x_R X) (x_s X) (x_m X) (x_a X) (x_b X) (x_me X) (x_c X) H locs k n (x_Q X) (F0 (x_m X) pc ls ((Value.int (nI m) :: .int 0 :: .ref g' :: .int 0 :: .ref g :: st).map (gv ad))) := by
    intro ty t0 ht hr hfit
    refine va_copyi E.ex E.by hls.1.symm E.ow (E.ts _ hl) (E.ts _ w_acp.1) (E.ts _ w_acp.2.1) (E.ts _ w_acp.2.2) E.kk.1 hM.2.2.1 hM.2.2.2.1 hM.2.2.2.2 i i' t0 t0 hg hg' ht ht hr (by decide) (by decide) h0 (by rw [hcl]; show 0 + m ≤ _; omega) (by rw [hcl]; show 0 + m ≤ _; omega) (fun j hj => ?_) (by rw [E.fr]; exact hdd) ?_ hd (fun H1 locs1 hP hD hS => ?_)
    · rw [hcl] at hj
      show fits ty (.int (aI S g (0 + j))) = true
      rw [Nat.zero_add]
      exact hfit j hj
    · rw [g_cat]
      have := E.lo
      show _ + (7 + 11) ≤ _
      omega
    · rw [hcl] at hP hD
      exact h L ad H1 locs1 ls (hM.cell hi' rfl hM.1 (fun g0 hg0 => gc_congr rfl rfl rfl (fun _ => rfl) rfl (va_up_ne _ _ hg0) rfl) (by rw [gc_int (S := rA S g' (va_cpy (aI S g) (aI S g') 0 0 m)) hk' (by omega), aI_rA, va_up_self]; rfl) hP hD hS) hlo hst.t.t.t.t.t hls
  rcases hc with rfl | rfl
  · exact key .int 0 rfl rfl (fun _ _ => rfl)
  · exact key .byte 2 rfl rfl (hf rfl)
end GCP
theorem fits_bv {b : Nat} (hb : b < 256) : fits .byte (.int (bv b)) = true :=
  (by decide +kernel : ∀ b : Fin 256, fits .byte (.int (bv b.1)) = true) ⟨b, hb⟩
