/-! ===== the ghost machine, 6: calls ===== -/
section GCA
variable {X : CX} {own : String} {cc : ByteArray} {nL d kc nc pc k n : Nat} {lo : List (Option Value)} {st : List Value} {S : GS}
theorem Mx.free {L : List Nat} {ad : Nat → Nat} {H : Heap} {locs : List Loc} (hM : Mx X S L ad H locs) (hA : ∀ q, (x_s X).heap.size ≤ q → x_A X q) : ∀ q, va_A (gws ad (x_tc X) S L) H.size q → x_A X q := by
  rintro q (⟨i, e, h⟩ | h)
  · exact hM.2.2.2.1.2 i _ h
  · exact hA q (Nat.le_trans hM.2.2.2.2.1 h)
theorem V_after {post : Option Value → GS → Prop} {k' n' : Nat} {rest st0 : List Value} {L : List Nat} {ad : Nat → Nat} {H : Heap} {locs : List Loc} {ls : Array Slot} {a : Array Value} (hA : ∀ q, (x_s X).heap.size ≤ q → x_A X q)
    (hr : va_Run (x_p X) (x_l X) (x_e X) (x_R X) (x_s X) (x_m X) (x_a X) (x_b X) (x_me X) (x_c X) H locs k n k' n' (F0 (x_m X) pc ls st0) (rest.map (gv ad)) (gQ (x_dC X) (x_dI X) (x_tc X) ad (fun g => kd S g ≠ 0) post (va_A (gws ad (x_tc X) S L) H.size) a) (va_A (gws ad (x_tc X) S L) H.size))
    (hM : Mx X S L ad H locs) (hlo : okl S lo) (hst : oks S rest) (hls : gls (x_c X).maxLocals ls ad lo) (h : ∀ r S', post r S' → V X (pc + 3) lo (r.toList ++ rest) S' (k + k') (n + n')) :
    W (x_p X) (x_l X) (x_e X) (x_R X) (x_s X) (x_m X) (x_a X) (x_b X) (x_me X) (x_c X) H locs k n (x_Q X) (F0 (x_m X) pc ls st0) := by
  intro T hT Y
  obtain ⟨v, st₀, t, T', L1, h0, X', hL, e1, e2, ⟨⟨r, S', L', ad', hv, hp, hok, hor, hag, hP', hD'⟩, hz, hk⟩, hst2⟩ := hr T hT Y
  cases hv
  rw [h0] at hz hk
  have hfree := hM.free hA
  have hM' : Mx X S' L' ad' T'.heap (locs ++ L1) := by
    refine ⟨hok, fun g hg => ⟨((hag g (hM.2.1 g hg).2).1).trans (hM.2.1 g hg).1, (hag g (hM.2.1 g hg).2).2⟩, by rw [e1]; exact hP', hD'.weaken (fun _ q _ hq => hfree q.1 hq), ?_⟩
    refine ⟨Nat.le_trans hM.2.2.2.2.1 (by rw [e1]; exact hz), fun q h1 h2 => ?_, fun q hq => ?_⟩
    · rw [e1, hk q (Nat.lt_of_lt_of_le h1 hM.2.2.2.2.1) (fun z => h2 (hfree q z))]
      exact hM.2.2.2.2.2.1 q h1 h2
    · rcases List.mem_append.mp hq with h9 | h9
      · exact hM.2.2.2.2.2.2 q h9
      · exact hfree _ (hL q h9)
  have hlo' : okl S' lo := hlo.mono (fun g q => (hag g q).2)
  have hst' : oks S' (r.toList ++ rest) := by
    intro w hw
    rcases List.mem_append.mp hw with h9 | h9
    · exact hor w h9
    · exact (hst w h9).mono (fun g q => (hag g q).2)
  obtain ⟨t2, a1, b1⟩ := h r S' hp L' ad' T'.heap (locs ++ L1) ls hM' hlo' hst' (hls.moved (fun g q => (hag g q).1) hlo) T' rfl X'
  refine ⟨t2, hst2 t2 ?_, b1⟩
  have es : (r.map (gv ad')).toList ++ rest.map (gv ad) = (r.toList ++ rest).map (gv ad') := by
    rw [List.map_append, gvs_same (fun g q => (hag g q).1) hst]
    cases r <;> rfl
  rw [← es] at a1
  exact a1
def MS_ (y : MethodName) (b : ByteArray) (mL : Nat) (ret : Option FieldType) (na : Nat) : Prop := Cond.initialized y.cls ∈ gt_B ∧ Cond.code y b mL ret ∈ gt_B ∧ (y.cls ≠ "java/lang/invoke/MethodHandle" ∧ y.cls ≠ "java/lang/invoke/VarHandle" ∧ (parseMethodDescriptor y.desc).map (fun d => d.parameters.length) = some na) ∧ mL ≤ 21
def MV_ (y : MethodName) (b : ByteArray) (mL : Nat) (ret : Option FieldType) (na ci : Nat) : Prop := MS_ y b mL ret na ∧ ci < 12 ∧ Cond.instanceMethod y ∈ gt_B ∧ Cond.selects (cR ci) y y ∈ gt_B
theorem g_blind {as : List Value} {sz : Nat} {L : List Nat} {ad : Nat → Nat} {dC : Nat → ClassId} {dI : Nat → Nat → Nat} {tc : Nat → ClassId} : FrameBlind (va_Pc (as.map (gv ad)) (fun U => U.heap.size = sz ∧ gok S L ∧ oks S as ∧ va_P (dC, dI) vwCl (gws ad tc S L) U.heap ∧ va_D (fun _ => True) (gws ad tc S L) ∧ gKK dC dI tc U)) := by
  intro a U g mk q
  obtain ⟨q0, q1, q2, q3, q4, q5, q6⟩ := q
  exact ⟨q0, q1, q2, q3, q4, q5, gKK.same (s := U) (U := U.calling g mk a) rfl q6⟩
theorem g_pre {as : List Value} {L : List Nat} {ad : Nat → Nat} {H : Heap} {locs : List Loc} (E : En X own cc nL d kc nc) (hM : Mx X S L ad H locs) (has : oks S as) : ∀ U : State, U.heap = H → (x_s X).WarmedH U.vm → va_Pc (as.map (gv ad)) (fun U => U.heap.size = H.size ∧ gok S L ∧ oks S as ∧ va_P (x_dC X, x_dI X) vwCl (gws ad (x_tc X) S L) U.heap ∧ va_D (fun _ => True) (gws ad (x_tc X) S L) ∧ gKK (x_dC X) (x_dI X) (x_tc X) U) (as.map (gv ad)).toArray U := by
  intro U hU hW
  refine ⟨rfl, by rw [hU], hM.1, has, by rw [hU]; exact hM.2.2.1, hM.2.2.2.1.weaken (fun _ _ _ _ => trivial), E.kk.warm hW⟩
theorem g_callB {idx d' k' n' mL na : Nat} {y : MethodName} {b : ByteArray} {ret : Option FieldType} (E : En X own cc nL d kc nc) (hl : Cond.methodLink own idx y ∈ gt_B) (hy : MS_ y b mL ret na) (hdd : d' + 1 ≤ d) : CallB (x_R X) (x_s X) (x_a X) own idx y b mL ret (.code y b mL ret :: gt_B) ({ frames := d', cells := k', slots := n', locals := 40 * d' } : Room) k' n' na :=
  callB_of (Ts := gt_B) na E.ts (gt_goodB hy.2.1) rfl rfl rfl (E.ts _ hy.1) (E.ts _ hl) hy.2.2.1 ⟨by rw [E.fr]; exact hdd, by have := E.lo; have := hy.2.2.2; simp only; omega⟩
theorem g_rest {ad : Nat → Nat} {rest : List Value} {ls : Array Slot} {st0 : List Value} (hw : (rest.map fun v => v.category).sum ≤ 8) : 2 * (F0 (x_m X) pc ls st0).monitorRoom + ((rest.map (gv ad)).map fun v => v.category).sum ≤ 8 := by
  refine lv_room ?_
  rw [List.map_map]
  have : ((fun v : Value => v.category) ∘ gv ad) = fun v => v.category := funext (fun v => gv_cat ad v)
  rw [this]
  exact hw
theorem V_callV {idx d' k' n' mL ci g : Nat} {y : MethodName} {b : ByteArray} {ret : Option FieldType} {as rest : List Value} {post : Option Value → GS → Prop} (E : En X own cc nL d kc nc) (hC : GC (x_l X) d' y b mL ret (.ref g :: as) S post k' n') (hl : Cond.methodLink own idx y ∈ gt_B) (hy : MV_ y b mL ret as.length ci) (hk : kd S g = ci + 1) (hd : decode cc pc = .ok (.invokevirtual idx, 3)) (hst0 : st = as.reverse ++ .ref g :: rest) (hw : (rest.map fun v => v.category).sum ≤ 8) (hdd : d' + 1 ≤ d) (hkk : k + k' ≤ kc) (hnn : n + n' ≤ nc)
    (h : ∀ r S', post r S' → V X (pc + 3) lo (r.toList ++ rest) S' (k + k') (n + n')) : V X pc lo st S k n := by
  intro L ad H locs ls hM hlo hst hls
  subst hst0
  have hr : oks S rest := fun v hv => hst v (List.mem_append_right _ (List.mem_cons_of_mem _ hv))
  have has : oks S (.ref g :: as) := by
    intro v hv
    rcases List.mem_cons.mp hv with e | e
    · exact hst v (List.mem_append_right _ (List.mem_cons.mpr (Or.inl e)))
    · exact hst v (List.mem_append_left _ (List.mem_reverse.mpr e))
  obtain ⟨i, hi, hg⟩ := gws_at (ad := ad) (tc := x_tc X) (S := S) (hM.mem (g := g) (by omega) (by have := hy.2.1; omega))
  rw [gc_obj hy.2.1 hk] at hg
  refine V_after E.hA (va_runV (As := as.map (gv ad)) (C := cR ci) (b := ad g) (Ts := gt_B) ⟨E.ex, E.by, E.ml, E.ow, E.ts⟩ (hC (x_dC X) (x_dI X) (x_tc X) ad L H.size) ⟨g_callB E hl hy.1 hdd, E.ts _ hy.2.2.1, E.ts _ hy.2.2.2⟩ ⟨g_blind, va_recv E.kk.1 hM.2.2.1 (c_cl hy.2.1) hg, g_pre E hM has⟩ rfl (by simp) (hls.1.trans E.ml) ?_ (g_rest hw) hd ⟨by rw [E.ce]; exact hkk, by rw [E.sl]; exact hnn⟩) hM hlo hr hls h
  simp [gv]
theorem V_callS {idx d' k' n' mL : Nat} {y : MethodName} {b : ByteArray} {ret : Option FieldType} {as rest : List Value} {post : Option Value → GS → Prop} (E : En X own cc nL d kc nc) (hC : GC (x_l X) d' y b mL ret as S post k' n') (hl : Cond.methodLink own idx y ∈ gt_B) (hy : MS_ y b mL ret as.length ∧ Cond.static y ∈ gt_B) (hd : decode cc pc = .ok (.invokestatic idx, 3)) (hst0 : st = as.reverse ++ rest) (hw : (rest.map fun v => v.category).sum ≤ 8) (hdd : d' + 1 ≤ d) (hkk : k + k' ≤ kc) (hnn : n + n' ≤ nc)
    (h : ∀ r S', post r S' → V X (pc + 3) lo (r.toList ++ rest) S' (k + k') (n + n')) : V X pc lo st S k n := by
  intro L ad H locs ls hM hlo hst hls
  subst hst0
  have hr : oks S rest := fun v hv => hst v (List.mem_append_right _ hv)
  have has : oks S as := fun v hv => hst v (List.mem_append_left _ (List.mem_reverse.mpr hv))
  refine V_after E.hA (va_runS (As := as.map (gv ad)) (Ts := gt_B) ⟨E.ex, E.by, E.ml, E.ow, E.ts⟩ (hC (x_dC X) (x_dI X) (x_tc X) ad L H.size) ⟨g_callB E hl hy.1 hdd, E.ts _ hy.2⟩ ⟨g_blind, g_pre E hM has⟩ rfl (by simp) (hls.1.trans E.ml) ?_ (g_rest hw) hd ⟨by rw [E.ce]; exact hkk, by rw [E.sl]; exact hnn⟩) hM hlo hr hls h
  simp
theorem V_callI {idx d' k' n' mL g : Nat} {y : MethodName} {b : ByteArray} {as rest : List Value} {post : Option Value → GS → Prop} (E : En X own cc nL d kc nc) (hC : GC (x_l X) d' y b mL none (.ref g :: as) S post k' n') (hl : Cond.methodLink own idx y ∈ gt_B) (hy : MS_ y b mL none as.length ∧ Cond.instanceMethod y ∈ gt_B ∧ y.name = "<init>") (hd : decode cc pc = .ok (.invokespecial idx, 3)) (hst0 : st = as.reverse ++ .ref g :: rest) (hw : (rest.map fun v => v.category).sum ≤ 8) (hdd : d' + 1 ≤ d) (hkk : k + k' ≤ kc) (hnn : n + n' ≤ nc)
    (h : ∀ r S', post r S' → V X (pc + 3) lo (r.toList ++ rest) S' (k + k') (n + n')) : V X pc lo st S k n := by
  intro L ad H locs ls hM hlo hst hls
  subst hst0
  have hr : oks S rest := fun v hv => hst v (List.mem_append_right _ (List.mem_cons_of_mem _ hv))
  have has : oks S (.ref g :: as) := by
    intro v hv
    rcases List.mem_cons.mp hv with e | e
    · exact hst v (List.mem_append_right _ (List.mem_cons.mpr (Or.inl e)))
    · exact hst v (List.mem_append_left _ (List.mem_reverse.mpr e))
  refine V_after E.hA (va_runI (As := as.map (gv ad)) (b := ad g) (Ts := gt_B) ⟨E.ex, E.by, E.ml, E.ow, E.ts⟩ (hC (x_dC X) (x_dI X) (x_tc X) ad L H.size) ⟨g_callB E hl hy.1 hdd, hy.2.2, E.ts _ hy.2.1⟩ ⟨g_blind, g_pre E hM has⟩ rfl (by simp) (hls.1.trans E.ml) ?_ (g_rest hw) hd ⟨by rw [E.ce]; exact hkk, by rw [E.sl]; exact hnn⟩) hM hlo hr hls h
  simp [gv]
set_option maxRecDepth 20000 in
theorem w_obj : Cond.instanceMethod objectInit ∈ gt_B ∧ Cond.code objectInit ⟨#[0xb1]⟩ 1 none ∈ gt_B := by decide +kernel
theorem V_objInit {idx g : Nat} (E : En X own cc nL d kc nc) (hl : Cond.methodLink own idx objectInit ∈ gt_B) (hd : decode cc pc = .ok (.invokespecial idx, 3)) (hw : (st.map fun v => v.category).sum ≤ 8) (hdd : 1 ≤ d) (h : V X (pc + 3) lo st S k n) : V X pc lo (.ref g :: st) S k n := by
  intro L ad H locs ls hM hlo hst hls
  have h8 := g_rest (X := X) (pc := pc) (ad := ad) (ls := ls) (st0 := (Value.ref g :: st).map (gv ad)) hw
  exact W.objInit E.ex E.by E.ow (E.ts _ hl) (E.ts _ w_obj.1) (E.ts _ w_obj.2) rfl hls.1 rfl hd (by rw [E.fr]; exact hdd) (by have := E.lo; omega) (h L ad H locs ls hM hlo hst.t hls)
set_option maxRecDepth 20000 in
theorem w_math : Cond.static Lib.Math.max.name ∈ gt_B ∧ Cond.static Lib.Math.min.name ∈ gt_B ∧ Cond.initialized "java/lang/Math" ∈ gt_B ∧ Cond.code Lib.Math.max.name Lib.Math.max.code 2 (some .int) ∈ gt_B ∧ Cond.code Lib.Math.min.name Lib.Math.min.code 2 (some .int) ∈ gt_B := by decide +kernel
set_option maxRecDepth 20000 in
theorem w_mathL : Cond.static Lib.MathLoose.max_long.x ∈ gt_B ∧ Cond.static Lib.MathLoose.min_long.x ∈ gt_B ∧ Cond.code Lib.MathLoose.max_long.x Lib.MathLoose.max_long.code 4 (some .long) ∈ gt_B ∧ Cond.code Lib.MathLoose.min_long.x Lib.MathLoose.min_long.code 4 (some .long) ∈ gt_B := by decide +kernel
theorem g_cat {ad : Nat → Nat} {rest : List Value} : ((rest.map (gv ad)).map fun v => v.category).sum = (rest.map fun v => v.category).sum := by
  rw [List.map_map]
  have : ((fun v : Value => v.category) ∘ gv ad) = fun v => v.category := funext (fun v => gv_cat ad v)
  rw [this]
theorem V_imax {idx : Nat} {x y : Int32} (E : En X own cc nL d kc nc) (hl : Cond.methodLink own idx Lib.Math.max.name ∈ gt_B) (hd : decode cc pc = .ok (.invokestatic idx, 3)) (hw : (st.map fun v => v.category).sum ≤ 8) (hdd : 1 ≤ d) (hk : k ≤ kc) (hn : n ≤ nc) (h : V X (pc + 3) lo (.int (if x < y then y else x) :: st) S k n) : V X pc lo (.int y :: .int x :: st) S k n := by
  intro L ad H locs ls hM hlo hst hls
  exact va_mmax E.ex E.by hls.1.symm E.ow (E.ts _ hl) (E.ts _ w_math.1) (E.ts _ w_math.2.2.1) (E.ts _ w_math.2.2.2.1) (by rw [E.fr]; exact hdd) (by rw [g_cat]; have := E.lo; omega) (by rw [E.ce]; exact hk) (by rw [E.sl]; exact hn) hd (h L ad H locs ls hM hlo (hst.t.t.c trivial) hls)
theorem V_imin {idx : Nat} {x y : Int32} (E : En X own cc nL d kc nc) (hl : Cond.methodLink own idx Lib.Math.min.name ∈ gt_B) (hd : decode cc pc = .ok (.invokestatic idx, 3)) (hw : (st.map fun v => v.category).sum ≤ 8) (hdd : 1 ≤ d) (hk : k ≤ kc) (hn : n ≤ nc) (h : V X (pc + 3) lo (.int (if y < x then y else x) :: st) S k n) : V X pc lo (.int y :: .int x :: st) S k n := by
  intro L ad H locs ls hM hlo hst hls
  exact va_mmin E.ex E.by hls.1.symm E.ow (E.ts _ hl) (E.ts _ w_math.2.1) (E.ts _ w_math.2.2.1) (E.ts _ w_math.2.2.2.2) (by rw [E.fr]; exact hdd) (by rw [g_cat]; have := E.lo; omega) (by rw [E.ce]; exact hk) (by rw [E.sl]; exact hn) hd (h L ad H locs ls hM hlo (hst.t.t.c trivial) hls)
theorem V_lmax {idx : Nat} {x y : Int64} (E : En X own cc nL d kc nc) (hl : Cond.methodLink own idx Lib.MathLoose.max_long.x ∈ gt_B) (hd : decode cc pc = .ok (.invokestatic idx, 3)) (hw : (st.map fun v => v.category).sum ≤ 8) (hdd : 1 ≤ d) (hk : k ≤ kc) (hn : n ≤ nc) (h : V X (pc + 3) lo (.long (if y < x then x else y) :: st) S k n) : V X pc lo (.long y :: .long x :: st) S k n := by
  intro L ad H locs ls hM hlo hst hls
  exact va_mmax_long E.ex E.by hls.1.symm E.ow (E.ts _ hl) (E.ts _ w_mathL.1) (E.ts _ w_math.2.2.1) (E.ts _ w_mathL.2.2.1) (by rw [E.fr]; exact hdd) (by rw [g_cat]; have := E.lo; omega) (by rw [E.ce]; exact hk) (by rw [E.sl]; exact hn) hd (h L ad H locs ls hM hlo (hst.t.t.c trivial) hls)
theorem V_lmin {idx : Nat} {x y : Int64} (E : En X own cc nL d kc nc) (hl : Cond.methodLink own idx Lib.MathLoose.min_long.x ∈ gt_B) (hd : decode cc pc = .ok (.invokestatic idx, 3)) (hw : (st.map fun v => v.category).sum ≤ 8) (hdd : 1 ≤ d) (hk : k ≤ kc) (hn : n ≤ nc) (h : V X (pc + 3) lo (.long (if y < x then y else x) :: st) S k n) : V X pc lo (.long y :: .long x :: st) S k n := by
  intro L ad H locs ls hM hlo hst hls
  exact va_mmin_long E.ex E.by hls.1.symm E.ow (E.ts _ hl) (E.ts _ w_mathL.2.1) (E.ts _ w_math.2.2.1) (E.ts _ w_mathL.2.2.2) (by rw [E.fr]; exact hdd) (by rw [g_cat]; have := E.lo; omega) (by rw [E.ce]; exact hk) (by rw [E.sl]; exact hn) hd (h L ad H locs ls hM hlo (hst.t.t.c trivial) hls)
end GCA
