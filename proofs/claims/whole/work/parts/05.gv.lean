/-! ===== the ghost machine, 2: the judgement V, contracts GC ===== -/
abbrev CX : Type := Program × Launch × Env × Room × State × MethodId × Array Value × List Frame × Method × Code × (State → Prop) × (Nat → ClassId) × (Nat → Nat → Nat) × (Nat → ClassId) × (Nat → Prop) × (Nat → Prop) × (Nat → Nat)
abbrev x_p (X : CX) : Program := X.1
abbrev x_l (X : CX) : Launch := X.2.1
abbrev x_e (X : CX) : Env := X.2.2.1
abbrev x_R (X : CX) : Room := X.2.2.2.1
abbrev x_s (X : CX) : State := X.2.2.2.2.1
abbrev x_m (X : CX) : MethodId := X.2.2.2.2.2.1
abbrev x_a (X : CX) : Array Value := X.2.2.2.2.2.2.1
abbrev x_b (X : CX) : List Frame := X.2.2.2.2.2.2.2.1
abbrev x_me (X : CX) : Method := X.2.2.2.2.2.2.2.2.1
abbrev x_c (X : CX) : Code := X.2.2.2.2.2.2.2.2.2.1
abbrev x_Q (X : CX) : State → Prop := X.2.2.2.2.2.2.2.2.2.2.1
abbrev x_dC (X : CX) : Nat → ClassId := X.2.2.2.2.2.2.2.2.2.2.2.1
abbrev x_dI (X : CX) : Nat → Nat → Nat := X.2.2.2.2.2.2.2.2.2.2.2.2.1
abbrev x_tc (X : CX) : Nat → ClassId := X.2.2.2.2.2.2.2.2.2.2.2.2.2.1
abbrev x_A (X : CX) : Nat → Prop := X.2.2.2.2.2.2.2.2.2.2.2.2.2.2.1
abbrev x_D0 (X : CX) : Nat → Prop := X.2.2.2.2.2.2.2.2.2.2.2.2.2.2.2.1
abbrev x_ad0 (X : CX) : Nat → Nat := X.2.2.2.2.2.2.2.2.2.2.2.2.2.2.2.2
def g_tys (tc : Nat → ClassId) : List (ClassId × FieldType) := [(tc 21, .int), (tc 22, .long), (tc 23, .byte), (tc 24, .boolean), (tc 25, .object RX7), (tc 26, .object RX8), (tc 27, .object RX3)]
def gKK (dC : Nat → ClassId) (dI : Nat → Nat → Nat) (tc : Nat → ClassId) (U : State) : Prop := va_K (dC, dI) vwCl (g_tys tc) U ∧ (∀ w ∈ gt_N, va_Nw w U) ∧ (va_AO RX7 U ∧ va_AO RX8 U ∧ va_AO RX3 U)
theorem gt_N_form {w : Cond} (h : w ∈ gt_N) : ∃ a i b n d h, w = .fieldLinkNest a i b n d h := by
  have h2 := (List.mem_filter.mp h).2
  cases w <;> first | exact ⟨_, _, _, _, _, _, rfl⟩ | cases h2
theorem gKK.warm {dC : Nat → ClassId} {dI : Nat → Nat → Nat} {tc : Nat → ClassId} {s U : State} (hW : s.WarmedH U.vm) (h : gKK dC dI tc s) : gKK dC dI tc U := by
  refine ⟨va_K.moved hW.alike h.1, fun w hw => ?_, h.2.2.1.moved hW.alike, h.2.2.2.1.moved hW.alike, h.2.2.2.2.moved hW.alike⟩
  have h3 := h.2.1 w hw
  obtain ⟨_, _, _, _, _, _, rfl⟩ := gt_N_form hw
  exact h3.warmF hW
theorem gKK.same {dC : Nat → ClassId} {dI : Nat → Nat → Nat} {tc : Nat → ClassId} {s U : State} (hW : s.vm = U.vm) (h : gKK dC dI tc s) : gKK dC dI tc U := by
  have ha : s.vm.Alike U.vm := hW ▸ Vm.Alike.refl s.vm
  refine ⟨va_K.moved ha h.1, fun w hw => ?_, h.2.2.1.moved ha, h.2.2.2.1.moved ha, h.2.2.2.2.moved ha⟩
  have h3 := h.2.1 w hw
  obtain ⟨_, _, _, _, _, _, rfl⟩ := gt_N_form hw
  exact va_Nw.same rfl hW h3
def Mx (X : CX) (S : GS) (L : List Nat) (ad : Nat → Nat) (H : Heap) (locs : List Loc) : Prop :=
  gok S L ∧ (∀ g, x_D0 X g → ad g = x_ad0 X g ∧ kd S g ≠ 0) ∧ va_P (x_dC X, x_dI X) vwCl (gws ad (x_tc X) S L) H ∧ va_D (x_A X) (gws ad (x_tc X) S L) ∧ va_S (x_A X) (x_s X).heap H locs
def V (X : CX) (pc : Nat) (lo : List (Option Value)) (st : List Value) (S : GS) (k n : Nat) : Prop :=
  ∀ (L : List Nat) (ad : Nat → Nat) (H : Heap) (locs : List Loc) (ls : Array Slot), Mx X S L ad H locs → okl S lo → oks S st → gls (x_c X).maxLocals ls ad lo →
    W (x_p X) (x_l X) (x_e X) (x_R X) (x_s X) (x_m X) (x_a X) (x_b X) (x_me X) (x_c X) H locs k n (x_Q X) (F0 (x_m X) pc ls (st.map (gv ad)))
/-- what a method's walk stands on -/
def En (X : CX) (own : String) (cc : ByteArray) (nL d kc nc : Nat) : Prop :=
  (x_p X).tables.exec = Jvm.exec ∧ (x_c X).code = cc ∧ (x_c X).maxLocals = nL ∧ (x_s X).vm.findClass own = some (x_m X).cls ∧ (∀ w ∈ gt_B, w.before (x_a X) (x_s X) = true) ∧ gKK (x_dC X) (x_dI X) (x_tc X) (x_s X) ∧ (∀ q, (x_s X).heap.size ≤ q → x_A X q) ∧ (x_R X).frames = d ∧ (x_R X).cells = kc ∧ (x_R X).slots = nc ∧ 40 * d ≤ (x_R X).locals
theorem En.ex {X : CX} {own : String} {cc : ByteArray} {nL d kc nc : Nat} (E : En X own cc nL d kc nc) : (x_p X).tables.exec = Jvm.exec := E.1
theorem En.by {X : CX} {own : String} {cc : ByteArray} {nL d kc nc : Nat} (E : En X own cc nL d kc nc) : (x_c X).code = cc := E.2.1
theorem En.ml {X : CX} {own : String} {cc : ByteArray} {nL d kc nc : Nat} (E : En X own cc nL d kc nc) : (x_c X).maxLocals = nL := E.2.2.1
theorem En.ow {X : CX} {own : String} {cc : ByteArray} {nL d kc nc : Nat} (E : En X own cc nL d kc nc) : (x_s X).vm.findClass own = some (x_m X).cls := E.2.2.2.1
theorem En.ts {X : CX} {own : String} {cc : ByteArray} {nL d kc nc : Nat} (E : En X own cc nL d kc nc) : ∀ w ∈ gt_B, w.before (x_a X) (x_s X) = true := E.2.2.2.2.1
theorem En.kk {X : CX} {own : String} {cc : ByteArray} {nL d kc nc : Nat} (E : En X own cc nL d kc nc) : gKK (x_dC X) (x_dI X) (x_tc X) (x_s X) := E.2.2.2.2.2.1
theorem En.hA {X : CX} {own : String} {cc : ByteArray} {nL d kc nc : Nat} (E : En X own cc nL d kc nc) : ∀ q, (x_s X).heap.size ≤ q → x_A X q := E.2.2.2.2.2.2.1
theorem En.fr {X : CX} {own : String} {cc : ByteArray} {nL d kc nc : Nat} (E : En X own cc nL d kc nc) : (x_R X).frames = d := E.2.2.2.2.2.2.2.1
theorem En.ce {X : CX} {own : String} {cc : ByteArray} {nL d kc nc : Nat} (E : En X own cc nL d kc nc) : (x_R X).cells = kc := E.2.2.2.2.2.2.2.2.1
theorem En.sl {X : CX} {own : String} {cc : ByteArray} {nL d kc nc : Nat} (E : En X own cc nL d kc nc) : (x_R X).slots = nc := E.2.2.2.2.2.2.2.2.2.1
theorem En.lo {X : CX} {own : String} {cc : ByteArray} {nL d kc nc : Nat} (E : En X own cc nL d kc nc) : 40 * d ≤ (x_R X).locals := E.2.2.2.2.2.2.2.2.2.2
def gQ (dC : Nat → ClassId) (dI : Nat → Nat → Nat) (tc : Nat → ClassId) (ad0 : Nat → Nat) (D0 : Nat → Prop) (post : Option Value → GS → Prop) (A : Nat → Prop) : Array Value → State → Outcome → State → Prop := fun _ st o t =>
  (∃ (r : Option Value) (S : GS) (L : List Nat) (ad : Nat → Nat), o = .returned (r.map (gv ad)) ∧ post r S ∧ gok S L ∧ oks S r.toList ∧ (∀ g, D0 g → ad g = ad0 g ∧ kd S g ≠ 0) ∧ va_P (dC, dI) vwCl (gws ad tc S L) t.heap ∧ va_D A (gws ad tc S L)) ∧ va_F A st t
/-- how a method's walk ends -/
def Rt (X : CX) (ret : Option FieldType) (post : Option Value → GS → Prop) : Prop :=
  (x_me X).sig.returnType = ret ∧ (x_me X).locks = false ∧ x_Q X = MQ (x_b X) (gQ (x_dC X) (x_dI X) (x_tc X) (x_ad0 X) (x_D0 X) post (x_A X)) (x_a X) (x_s X) (x_R X).cells (x_R X).slots (x_A X)
def GC (l : Launch) (d : Nat) (y : MethodName) (b : ByteArray) (mL : Nat) (ret : Option FieldType) (as : List Value) (S : GS) (post : Option Value → GS → Prop) (k n : Nat) : Prop :=
  ∀ (dC : Nat → ClassId) (dI : Nat → Nat → Nat) (tc : Nat → ClassId) (ad : Nat → Nat) (L : List Nat) (sz : Nat),
    Met l y (.code y b mL ret :: gt_B) ({ frames := d, cells := k, slots := n, locals := 40 * d } : Room)
      (va_Pc (as.map (gv ad)) (fun U => U.heap.size = sz ∧ gok S L ∧ oks S as ∧ va_P (dC, dI) vwCl (gws ad tc S L) U.heap ∧ va_D (fun _ => True) (gws ad tc S L) ∧ gKK dC dI tc U))
      (gQ dC dI tc ad (fun g => kd S g ≠ 0) post (va_A (gws ad tc S L) sz)) k n (va_A (gws ad tc S L) sz)
/-- the locals at a method's entry -/
def l_ent : List Value → List (Option Value)
  | [] => []
  | v :: vs => if v.category = 2 then some v :: none :: l_ent vs else some v :: l_ent vs
def l_pad (n : Nat) (l : List (Option Value)) : List (Option Value) := l ++ List.replicate (n - l.length) none
theorem l_ent_args (ad : Nat → Nat) : ∀ (vs : List Value) (j i : Nat) (v : Value), (l_ent vs)[i]? = some (some v) → (j + i, gv ad v) ∈ lv_args j (vs.map (gv ad))
  | [], _, _, _, h => by simp [l_ent] at h
  | w :: vs, j, i, v, h => by
    unfold l_ent at h
    by_cases hc : w.category = 2
    · rw [if_pos hc] at h
      match i, h with
      | 0, h =>
        have : w = v := by simpa using h
        subst this
        simp [lv_args]
      | 1, h => simp at h
      | i + 2, h =>
        have h2 : (l_ent vs)[i]? = some (some v) := by simpa using h
        have := l_ent_args ad vs (j + 2) i v h2
        simp only [List.map_cons, lv_args, gv_cat, hc]
        refine List.mem_cons_of_mem _ ?_
        rw [show j + (i + 2) = j + 2 + i by omega]
        exact this
    · rw [if_neg hc] at h
      have hc1 : w.category = 1 := (lv_cat w).resolve_right hc
      match i, h with
      | 0, h =>
        have : w = v := by simpa using h
        subst this
        simp [lv_args]
      | i + 1, h =>
        have h2 : (l_ent vs)[i]? = some (some v) := by simpa using h
        have := l_ent_args ad vs (j + 1) i v h2
        simp only [List.map_cons, lv_args, gv_cat, hc1]
        refine List.mem_cons_of_mem _ ?_
        rw [show j + (i + 1) = j + 1 + i by omega]
        exact this
theorem l_ent_ok {S : GS} : ∀ (vs : List Value), oks S vs → okl S (l_ent vs)
  | [], _ => fun _ h => absurd h List.not_mem_nil
  | w :: vs, h => by
    intro v hv
    unfold l_ent at hv
    split at hv
    · rcases List.mem_cons.mp hv with e | hv
      · cases e; exact h.h
      · rcases List.mem_cons.mp hv with e | hv
        · cases e
        · exact l_ent_ok vs h.t v hv
    · rcases List.mem_cons.mp hv with e | hv
      · cases e; exact h.h
      · exact l_ent_ok vs h.t v hv
theorem l_pad_get {n : Nat} {l : List (Option Value)} {i : Nat} {v : Value} (h : (l_pad n l)[i]? = some (some v)) : l[i]? = some (some v) := by
  unfold l_pad at h
  by_cases hi : i < l.length
  · rwa [List.getElem?_append_left hi] at h
  · rw [List.getElem?_append_right (by omega), List.getElem?_replicate] at h
    split at h <;> cases h
theorem l_pad_ok {S : GS} {n : Nat} {l : List (Option Value)} (h : okl S l) : okl S (l_pad n l) := by
  intro v hv
  rcases List.mem_append.mp hv with h1 | h1
  · exact h v h1
  · have := (List.mem_replicate.mp h1).2
    cases this
/-- a contract out of a walk -/
theorem GC.ofV {l : Launch} {d : Nat} {y : MethodName} {b : ByteArray} {mL : Nat} {ret : Option FieldType} {as : List Value} {S : GS} {post : Option Value → GS → Prop} {k n : Nat} (hy : plainName y.cls = true) (hlen : (lg_sl as).length ≤ mL)
    (h : ∀ X : CX, x_l X = l → En X y.cls b mL d k n → Rt X ret post → (x_me X).name = y.name → V X 0 (l_pad mL (l_ent as)) [] S 0 0) : GC l d y b mL ret as S post k n := by
  intro dC dI tc ad L sz
  refine Met.ofW (cc := b) (maxL := mL) (ret := ret) hy rfl ?_
  intro p e s m args below meth c s₁ B hml hv
  obtain ⟨rfl, hsz, hok, has, hP, hD0, hK⟩ := hv
  have hts := atoms_spec (ws := .code y b mL ret :: gt_B) B.pre
  subst hsz
  have hD := hD0.self (sz := s.heap.size)
  have hl := lv_entry (as.map (gv ad)) (n := mL) (by
    have : ∀ vs : List Value, (lg_sl (vs.map (gv ad))).length = (lg_sl vs).length := by
      intro vs
      induction vs with
      | nil => rfl
      | cons v vs ih =>
        cases v <;> simp_all [lg_sl, gv] <;> rfl
    rw [this]; exact hlen)
  rw [lg_entry_eq]
  generalize (lg_sl (as.map (gv ad)) ++ List.replicate (mL - (lg_sl (as.map (gv ad))).length) Slot.unset).toArray = ls at hl ⊢
  refine h (p, l, e, ({ frames := d, cells := k, slots := n, locals := 40 * d } : Room), s, m, (as.map (gv ad)).toArray, below, meth, c, _, dC, dI, tc, va_A (gws ad tc S L) s.heap.size, (fun g => kd S g ≠ 0), ad) rfl
    ⟨B.exec, B.bytes, hml, findClass_of_methodNamed B.named, fun w hw => hts w (List.mem_cons_of_mem _ hw), hK, fun q hq => Or.inr hq, rfl, rfl, rfl, Nat.le_refl _⟩ ⟨B.returns, B.notSynchronized, rfl⟩ (name_of_methodNamed B.named B.method).1
    L ad s.heap [] ls ⟨hok, fun g hg => ⟨rfl, hg⟩, hP, hD, va_S.rf⟩ (l_pad_ok (l_ent_ok as has)) oks.nil ⟨hl.1.trans hml.symm, hl.2.1, fun i v hv => ?_⟩
  have := l_ent_args ad as 0 i v (l_pad_get hv)
  rw [Nat.zero_add] at this
  exact hl.2.2 _ this
