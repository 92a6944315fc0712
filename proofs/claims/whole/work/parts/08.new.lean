/-! ===== the ghost machine, 5: new cells, calls ===== -/
section GN
variable {X : CX} {own : String} {cc : ByteArray} {nL d kc nc pc k n : Nat} {lo : List (Option Value)} {st : List Value} {S : GS}
theorem sN_rf {ad : Nat → Nat} {g c m q g' : Nat} {L : List Nat} (hok : gok S L) (hf : kd S g = 0) (hg' : kd S g' ≠ 0) (j : Nat) : (rf (sN S g c m) g' j).map (va_up ad g q) = (rf S g' j).map ad := by
  have hne : g' ≠ g := fun e => hg' (e ▸ hf)
  rw [rf_sN, va_up_ne _ _ hne]
  cases hr : rf S g' j with
  | none => rfl
  | some r =>
    have : r ≠ g := fun e => hok.2 g' j r hg' hr (e ▸ hf)
    simp only [Option.map_some]
    rw [va_up_ne _ _ this]
theorem sN_gc {ad : Nat → Nat} {tc : Nat → ClassId} {g c m q g' : Nat} {L : List Nat} (hok : gok S L) (hf : kd S g = 0) (hg' : kd S g' ≠ 0) : gc (va_up ad g q) tc (sN S g c m) g' = gc ad tc S g' := by
  have hne : g' ≠ g := fun e => hg' (e ▸ hf)
  exact gc_congr (by rw [kd_sN, va_up_ne _ _ hne]) (by rw [fI_sN, va_up_ne _ _ hne]) (by rw [fJ_sN, va_up_ne _ _ hne]) (sN_rf hok hf hg') (by rw [ln_sN, va_up_ne _ _ hne]) (by rw [aI_sN, va_up_ne _ _ hne]) (by rw [aJ_sN, va_up_ne _ _ hne])
theorem sN_gws {ad : Nat → Nat} {tc : Nat → ClassId} {g c m q : Nat} {L : List Nat} (hok : gok S L) (hf : kd S g = 0) : gws (va_up ad g q) tc (sN S g c m) (L ++ [g]) = gws ad tc S L ++ [(q, gc (va_up ad g q) tc (sN S g c m) g)] := by
  unfold gws
  rw [List.map_append]
  congr 1
  · refine List.map_congr_left (fun g' hg' => ?_)
    have hk := ((hok.1 g').mp hg').1
    have hne : g' ≠ g := fun e => hk (e ▸ hf)
    rw [va_up_ne _ _ hne, sN_gc hok hf hk]
  · simp [va_up_self]
theorem sN_gok {g c m : Nat} {L : List Nat} (hok : gok S L) (hf : kd S g = 0) (hc : c ≠ 0) (hc2 : c ≠ 99) : gok (sN S g c m) (L ++ [g]) := by
  refine ⟨fun g' => ?_, fun a j b ha hb => ?_⟩
  · by_cases e : g' = g
    · subst e
      rw [kd_sN, va_up_self]
      simp [hc, hc2]
    · rw [kd_sN, va_up_ne _ _ e, ← hok.1 g']
      simp [e]
  · by_cases e : a = g
    · subst e
      rw [rf_sN, va_up_self] at hb
      cases hb
    · rw [kd_sN, va_up_ne _ _ e] at ha
      rw [rf_sN, va_up_ne _ _ e] at hb
      have h1 := hok.2 a j b ha hb
      have h2 : b ≠ g := fun q => h1 (q ▸ hf)
      rw [kd_sN, va_up_ne _ _ h2]
      exact h1
theorem sN_mono {g c m : Nat} (hf : kd S g = 0) : ∀ a, kd S a ≠ 0 → kd (sN S g c m) a ≠ 0 := fun a ha => by
  have e : a ≠ g := fun q => ha (q ▸ hf)
  rw [kd_sN, va_up_ne _ _ e]
  exact ha
theorem sN_ad {ad : Nat → Nat} {g q : Nat} (hf : kd S g = 0) : ∀ a, kd S a ≠ 0 → va_up ad g q a = ad a := fun a ha => va_up_ne _ _ (fun e => ha (e ▸ hf))
theorem Mx.new {L : List Nat} {ad : Nat → Nat} {H H1 : Heap} {locs : List Loc} {g c m q : Nat} {e : va_E} (hM : Mx X S L ad H locs) (hf : kd S g = 0) (hc : c ≠ 0) (hc2 : c ≠ 99) (he : gc (va_up ad g q) (x_tc X) (sN S g c m) g = e)
    (hP : va_P (x_dC X, x_dI X) vwCl (gws ad (x_tc X) S L ++ [(q, e)]) H1) (hD : va_D (x_A X) (gws ad (x_tc X) S L ++ [(q, e)])) (hS : va_S (x_A X) (x_s X).heap H1 locs) : Mx X (sN S g c m) (L ++ [g]) (va_up ad g q) H1 locs := by
  subst he
  rw [← sN_gws hM.1 hf] at hP hD
  exact ⟨sN_gok hM.1 hf hc hc2, fun g0 h0 => ⟨(sN_ad hf g0 (hM.2.1 g0 h0).2).trans (hM.2.1 g0 h0).1, sN_mono hf g0 (hM.2.1 g0 h0).2⟩, hP, hD, hS⟩
theorem V_newC {g c m q : Nat} {pc' : Nat} {L : List Nat} {ad : Nat → Nat} {H1 : Heap} {locs : List Loc} {ls : Array Slot} {k' n' : Nat} (hf : kd S g = 0) (h : V X pc' lo (.ref g :: st) (sN S g c m) k' n') (hlo : okl S lo) (hst : oks S st) (hls : gls (x_c X).maxLocals ls ad lo) (hc : c ≠ 0) (hM : Mx X (sN S g c m) (L ++ [g]) (va_up ad g q) H1 locs) :
    W (x_p X) (x_l X) (x_e X) (x_R X) (x_s X) (x_m X) (x_a X) (x_b X) (x_me X) (x_c X) H1 locs k' n' (x_Q X) (F0 (x_m X) pc' ls (.ref q :: st.map (gv ad))) := by
  have h9 := h (L ++ [g]) (va_up ad g q) H1 locs ls hM (hlo.mono (sN_mono hf)) ((hst.mono (sN_mono hf)).c (by show kd (sN S g c m) g ≠ 0; rw [kd_sN, va_up_self]; exact hc)) (hls.moved (sN_ad hf) hlo)
  rw [List.map_cons, gvs_same (sN_ad hf) hst] at h9
  rw [show gv (va_up ad g q) (.ref g) = .ref q from congrArg Value.ref (va_up_self _ _ _)] at h9
  exact h9
/-- new: an object; its name g is ours to choose among the free ones -/
theorem V_new {idx ci : Nat} (g : Nat) (E : En X own cc nL d kc nc) (hci : ci < 12) (hw : Cond.classLink own idx (cR ci) ∈ gt_B) (hd : decode cc pc = .ok (.new idx, 3)) (hf : kd S g = 0) (hk : k + 1 ≤ kc) (hn : n + cN ci ≤ nc) (h : V X (pc + 3) lo (.ref g :: st) (sN S g (ci + 1) 0) (k + 1) (n + cN ci)) : V X pc lo st S k n := by
  intro L ad H locs ls hM hlo hst hls
  refine va_new (ci := ci) (fs := (List.range (cN ci)).map (fun j => defaultValue (cTy ci j))) E.ex E.by E.ts (c_in hci) (cTy ci) (c_ty hci) E.ow (E.ts _ hw) (E.ts _ (c_inst hci)) (E.ts _ (c_init hci)) E.kk.1 hM.2.2.1 hM.2.2.2.1 hM.2.2.2.2 E.hA (c_cl hci) (fun j hj => by simp [vp_V, hj]) (by rw [E.ce]; exact hk) (by rw [E.sl]; exact hn) hd (fun q H1 hP hD hS => ?_)
  refine V_newC hf h hlo hst hls (by omega) (hM.new hf (by omega) (by omega) ?_ hP hD hS)
  rw [gc_obj hci (by rw [kd_sN, va_up_self])]
  congr 2
  refine List.map_congr_left (fun j hj => ?_)
  have hs := c_sort hci j (List.mem_range.mp hj)
  unfold gf
  rw [fJ_sN, rf_sN, fI_sN, va_up_self, va_up_self, va_up_self]
  cases hty : cTy ci j <;> rw [hty] at hs <;> first | rfl | (exact absurd hs (by decide))
def g_at : ArrayType → Nat
  | .int => 21
  | .long => 22
  | .byte => 23
  | .boolean => 24
  | _ => 0
theorem tc_eq {ty : FieldType} {cA c2 : ClassId} {s : State} (h : va_RA s cA ty) (h2 : va_RA s c2 ty) : cA = c2 := by
  cases ty with
  | object C =>
    obtain ⟨_, _, -, -, -, e⟩ := h
    obtain ⟨_, _, -, -, -, e2⟩ := h2
    exact Option.some.inj (e.symm.trans e2)
  | _ => exact Option.some.inj ((show s.vm.findClass _ = some cA from h).symm.trans h2)
/-- newarray of ints, longs, bytes, booleans -/
theorem V_newa {at_ : ArrayType} {x : Int32} {N c : Nat} (g : Nat) (E : En X own cc nL d kc nc) (hc : g_at at_ = c) (hc0 : c ≠ 0) (hw : Cond.arrayClass (newarray.typeOf at_) ∈ gt_B) (hd : decode cc pc = .ok (.newarray at_, 2)) (hx : x = nI N) (hN : N ≤ 60000000) (hf : kd S g = 0) (hk : k + 1 ≤ kc) (hn : n + N ≤ nc) (h : V X (pc + 2) lo (.ref g :: st) (sN S g c N) (k + 1) (n + N)) : V X pc lo (.int x :: st) S k n := by
  intro L ad H locs ls hM hlo hst hls
  subst hx
  have hcl : (nI N).toNatClampNeg = N := nI_clamp (by omega)
  have h0 : ¬ nI N < 0 := nI_pos (by omega)
  have key : ∀ (ty : FieldType) (a0 : vp_A) (t0 : Nat), newarray.typeOf at_ = ty → (∀ cA : ClassId, vp_cell cA a0 = arrV cA N (fun _ => defaultValue ty)) → N * componentBytes ty ≤ 536870912 → (g_tys (x_tc X))[t0]? = some (x_tc X c, ty) → (∀ ad, gc ad (x_tc X) (sN S g c N) g = .inl (x_tc X c, a0)) →
      W (x_p X) (x_l X) (x_e X) (x_R X) (x_s X) (x_m X) (x_a X) (x_b X) (x_me X) (x_c X) H locs k n (x_Q X) (F0 (x_m X) pc ls (.int (nI N) :: st.map (gv ad))) := by
    intro ty a0 t0 hty ha hby ht hg
    refine va_newa (a0 := a0) E.ex E.by (E.ts _ hw) hty E.kk.1 hM.2.2.1 hM.2.2.2.1 hM.2.2.2.2 E.hA ha h0 hcl hby (by rw [E.ce]; exact hk) (by rw [E.sl]; exact hn) hd (fun q cA H1 hK hP hD hS => ?_)
    have h1 := (hK.2 (g_tys (x_tc X)).length (cA, ty) (by simp)).2
    have h2 := (E.kk.1.2 t0 _ ht).2
    have hcA : cA = x_tc X c := tc_eq h1 h2
    rw [hcA] at hP hD
    exact V_newC hf h hlo hst.t hls hc0 (hM.new hf hc0 (by rintro rfl; cases at_ <;> cases hc) (hg _) hP hD hS)
  subst hc
  cases at_ <;> first | exact absurd rfl hc0 | skip
  · refine key .boolean (N, .inl (fun _ => 0)) 3 rfl (fun _ => rfl) (by show N * 1 ≤ _; omega) rfl (fun ad => ?_)
    rw [gc_int (by rw [kd_sN, va_up_self]) (by simp [g_at]), ln_sN, aI_sN, va_up_self, va_up_self]
  · refine key .byte (N, .inl (fun _ => 0)) 2 rfl (fun _ => rfl) (by show N * 1 ≤ _; omega) rfl (fun ad => ?_)
    rw [gc_int (by rw [kd_sN, va_up_self]) (by simp [g_at]), ln_sN, aI_sN, va_up_self, va_up_self]
  · refine key .int (N, .inl (fun _ => 0)) 0 rfl (fun _ => rfl) (by show N * 4 ≤ _; omega) rfl (fun ad => ?_)
    rw [gc_int (by rw [kd_sN, va_up_self]) (by simp [g_at]), ln_sN, aI_sN, va_up_self, va_up_self]
  · refine key .long (N, .inr (.inl (fun _ => 0))) 1 rfl (fun _ => rfl) (by show N * 8 ≤ _; omega) rfl (fun ad => ?_)
    rw [gc_long (by rw [kd_sN, va_up_self]; rfl), ln_sN, aJ_sN, va_up_self, va_up_self]
    try rfl
/-- anewarray of one of the three classes -/
theorem V_newq {idx ci c : Nat} {x : Int32} {N : Nat} (g : Nat) (E : En X own cc nL d kc nc) (hc : (c = 25 ∧ ci = 7) ∨ (c = 26 ∧ ci = 8) ∨ (c = 27 ∧ ci = 3)) (hw : Cond.classLink own idx (cR ci) ∈ gt_B) (hd : decode cc pc = .ok (.anewarray idx, 3)) (hx : x = nI N) (hN : N ≤ 60000000) (hf : kd S g = 0) (hk : k + 1 ≤ kc) (hn : n + N ≤ nc) (h : V X (pc + 3) lo (.ref g :: st) (sN S g c N) (k + 1) (n + N)) : V X pc lo (.int x :: st) S k n := by
  intro L ad H locs ls hM hlo hst hls
  subst hx
  have hcl : (nI N).toNatClampNeg = N := nI_clamp (by omega)
  have h0 : ¬ nI N < 0 := nI_pos (by omega)
  have hc3 : c = 25 ∨ c = 26 ∨ c = 27 := by omega
  have key : ∀ (C : String) (t0 : Nat), cR ci = C → va_AO C (x_s X) → (g_tys (x_tc X))[t0]? = some (x_tc X c, .object C) →
      W (x_p X) (x_l X) (x_e X) (x_R X) (x_s X) (x_m X) (x_a X) (x_b X) (x_me X) (x_c X) H locs k n (x_Q X) (F0 (x_m X) pc ls (.int (nI N) :: st.map (gv ad))) := by
    intro C t0 hC hao ht
    rw [hC] at hw
    refine va_newq E.ex E.by E.ow (E.ts _ hw) hao E.kk.1 hM.2.2.1 hM.2.2.2.1 hM.2.2.2.2 E.hA h0 hcl (by omega) (by rw [E.ce]; exact hk) (by rw [E.sl]; exact hn) hd (fun q cA H1 hK hP hD hS => ?_)
    have h1 := (hK.2 (g_tys (x_tc X)).length (cA, .object C) (by simp)).2
    have h2 := (E.kk.1.2 t0 _ ht).2
    have hcA : cA = x_tc X c := tc_eq h1 h2
    rw [hcA] at hP hD
    refine V_newC hf h hlo hst.t hls (by omega) (hM.new hf (by omega) (by omega) ?_ hP hD hS)
    rw [gc_refs (by rw [kd_sN, va_up_self]) hc3, ln_sN, rf_sN, va_up_self, va_up_self]
    rfl
  rcases hc with ⟨rfl, rfl⟩ | ⟨rfl, rfl⟩ | ⟨rfl, rfl⟩
  · exact key RX7 4 rfl E.kk.2.2.1 rfl
  · exact key RX8 5 rfl E.kk.2.2.2.1 rfl
  · exact key RX3 6 rfl E.kk.2.2.2.2 rfl
end GN
