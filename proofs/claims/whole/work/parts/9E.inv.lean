/-! ===== what the law's loop keeps ===== -/
def MI (S : GS) (A : AV) (T : AT) (B : AB) (J : AP) (L : AL) (Q : AR) (td bo pd : Nat) : Prop := MOK S ∧ MVes S A ∧ MTx S T ∧ MVo S B ∧ MPl S J ∧ MLd S L ∧ MPr S A Q ∧ fI S 0 0 = nI td ∧ fJ S 0 4 = lN bo ∧ fJ S 0 5 = lN pd
def YI (S : GS) (A : AV) (T : AT) (B : AB) (J : AP) (L : AL) (Q : AR) (td bo pd : Nat) : Prop := YOK S ∧ YVes S A ∧ YTx S T ∧ YVo S B ∧ YPl S J ∧ YLd S L ∧ YPr S Q ∧ fI S 200 2 = nI td ∧ fJ S 200 3 = lN bo ∧ fJ S 212 5 = lN pd
def gcn (B : AB) : Nat := sumN (bG B) (bn B)
def OI (A : AV) (T : AT) (B : AB) (J : AP) (L : AL) (Q : AR) (td : Nat) : Prop := VOK A td ∧ TOK T ∧ BOK B ∧ POKa J ∧ ROK Q A B td ∧ en L ≤ 20 * rn Q + 2000 * gcn B
def dYo (g : Nat) : Prop := 200 ≤ g ∧ g ≠ 999
def dMo (g : Nat) : Prop := g < 200
theorem MOK.fr {S S2 : GS} (h : YSm dYo S S2) (hM : MOK S) : MOK S2 := by
  have e : ∀ g, g < 200 → ¬ dYo g := fun g hg => by unfold dYo; omega
  refine ⟨(h.kd (e 0 (by decide))).trans hM.1, fun k hk => ?_⟩
  have hs : k < 45 := by
    unfold mT at hk
    split at hk <;> first | omega | exact absurd rfl hk
  rw [h.rf (e 0 (by decide)), h.kd (e k (by omega)), h.ln (e k (by omega))]
  exact hM.2 k hk
theorem MI.fr {S S2 : GS} {A : AV} {T : AT} {B : AB} {J : AP} {L : AL} {Q : AR} {td bo pd : Nat} (h : YSm dYo S S2) (hI : MI S A T B J L Q td bo pd) : MI S2 A T B J L Q td bo pd := by
  obtain ⟨h1, h2, h3, h4, h5, h6, h7, h8, h9, h10⟩ := hI
  have e : ∀ g, g < 200 → ¬ dYo g := fun g hg => by unfold dYo; omega
  have eI : fI S2 0 = fI S 0 := h.fI (e 0 (by decide))
  have eJ : fJ S2 0 = fJ S 0 := h.fJ (e 0 (by decide))
  have eA : ∀ g, g < 200 → aI S2 g = aI S g := fun g hg => h.aI (e g hg)
  refine ⟨h1.fr h, ?_, ?_, ?_, ?_, ?_, ?_, ?_, ?_, ?_⟩
  · unfold MVes
    rw [eI, eA 6 (by decide), eA 7 (by decide), eA 8 (by decide), eA 9 (by decide), eA 10 (by decide), eA 11 (by decide), eA 12 (by decide)]
    exact h2
  · unfold MTx
    rw [eI, eA 16 (by decide)]
    exact h3
  · exact h4.sm (by rw [eI]) (eA 21 (by decide)) (eA 22 (by decide)) (eA 23 (by decide))
  · unfold MPl
    rw [eI, eA 41 (by decide), eA 42 (by decide), eA 44 (by decide)]
    exact h5
  · exact MLx.sm (by rw [eI]) (fun i _ => by rw [h.rf (e 0 (by decide))]) (fun g _ hg => ⟨h.kd (e g (by omega)), h.ln (e g (by omega)), eA g (by omega)⟩) (eA 39 (by decide)) h6
  · exact ⟨by rw [eI]; exact h7.1, fun x hx => (h7.2.1 x hx).sm (fun g _ hg => eA g (by omega)), fun x hx => (h7.2.2 x hx).sm (eA 34 (by decide))⟩
  · rw [eI]; exact h8
  · rw [eJ]; exact h9
  · rw [eJ]; exact h10
theorem YOK.fr {S S2 : GS} (h : YSm dMo S S2) (hQ : YOK S) : YOK S2 := by
  have hT : ∀ g, (yT g).1 ≠ 0 → 200 ≤ g := by
    intro g hg
    unfold yT at hg
    split at hg <;> first | omega | exact absurd rfl hg
  have hR : ∀ g k r, yR g k = some r → 200 ≤ g := by
    intro g k r hr
    unfold yR at hr
    split at hr <;> first | (cases hr; done) | omega
  refine ⟨fun g hg => ?_, fun g k r hr => ?_⟩
  · have := hT g hg
    rw [h.kd (by unfold dMo; omega), h.ln (by unfold dMo; omega)]
    exact hQ.1 g hg
  · have := hR g k r hr
    rw [h.rf (by unfold dMo; omega)]
    exact hQ.2 g k r hr
theorem YPl.fr {D : Nat → Prop} {S S2 : GS} {J : AP} (h : YSm D S S2) (hd : ∀ g, (221 ≤ g ∧ g ≤ 226) → ¬ D g) (hJ : YPl S J) : YPl S2 J := by
  unfold YPl
  rw [h.fI (hd 221 (by decide)), h.aI (hd 222 (by decide)), h.aI (hd 223 (by decide)), h.aI (hd 225 (by decide))]
  exact hJ
theorem YI.fr {S S2 : GS} {A : AV} {T : AT} {B : AB} {J : AP} {L : AL} {Q : AR} {td bo pd : Nat} (hn : vn A ≤ 100) (hb : bn B ≤ 50) (h : YSm dMo S S2) (hI : YI S A T B J L Q td bo pd) : YI S2 A T B J L Q td bo pd := by
  obtain ⟨h1, h2, h3, h4, h5, h6, h7, h8, h9, h10⟩ := hI
  have e : ∀ g, 200 ≤ g → ¬ dMo g := fun g hg => by unfold dMo; omega
  refine ⟨h1.fr h, h2.fr h (fun g hg => e g (by unfold dVes at hg; omega)) hn, h3.fr h (fun g hg => e g (by unfold dTxt at hg; omega)), h4.fr h (fun g hg => e g (by unfold dVot at hg; omega)) hb, h5.fr h (fun g hg => e g (by omega)), h6.fr h (fun g hg => e g (by unfold dLed at hg; omega)), h7.fr h (e 212 (by decide)) (e 213 (by decide)) (fun g hg => e g (by omega)), ?_, ?_, ?_⟩
  · rw [h.fI (e 200 (by decide))]; exact h8
  · rw [h.fJ (e 200 (by decide))]; exact h9
  · rw [h.fJ (e 212 (by decide))]; exact h10
/-- the state behind the two constructors -/
def A00 : AV := (0, fun _ => 0, fun _ _ => 0, fun _ => 0, fun _ => 0, fun _ => 0, fun _ => 0, fun _ => 0)
def T00 : AT := (0, fun _ => 0)
def B00 : AB := (0, fun _ => 0, fun _ => 0, fun _ => T00)
def J00 : AP := (0, fun _ => 0, fun _ => 0, fun _ => 0)
def L00 : AL := (0, fun _ _ => 0, fun _ => 0)
def Q00 : AR := (0, fun _ => 0, fun _ => 0, fun _ => 0, fun _ => 0, fun _ => none, fun _ _ => 0)
theorem OI00 : OI A00 T00 B00 J00 L00 Q00 0 := by
  refine ⟨⟨Nat.zero_le _, by decide, fun v hv => absurd hv (Nat.not_lt_zero v), fun v _ => ⟨fun _ => rfl, rfl, rfl, rfl, rfl, rfl, rfl⟩⟩, ⟨Nat.zero_le _, fun i hi => absurd hi (Nat.not_lt_zero i)⟩, ⟨Nat.zero_le _, fun v hv => absurd hv (Nat.not_lt_zero v)⟩, ⟨Nat.zero_le _, fun v hv => absurd hv (Nat.not_lt_zero v), fun d _ => Nat.zero_le _⟩, ⟨Nat.zero_le _, fun v hv => absurd hv (Nat.not_lt_zero v)⟩, Nat.zero_le _⟩
def DN (g : Nat) : Prop := (200 ≤ g ∧ g ≤ 226) ∨ g = 300
theorem yRow_sm {D : Nat → Prop} {S : GS} {o f g c n : Nat} (ho : D o) (hg : D g) : YSm D S (yRow S o f g c n) := (YSm.N hg).trans (YSm.R ho)
section
variable (S : GS)
theorem yPt1_sm : YSm DN S (yPt1 S) := (yRow_sm (by unfold DN; omega) (by unfold DN; omega)).trans (yRow_sm (by unfold DN; omega) (by unfold DN; omega))
theorem yPt2_sm : YSm DN S (yPt2 S) := (yRow_sm (by unfold DN; omega) (by unfold DN; omega)).trans (yRow_sm (by unfold DN; omega) (by unfold DN; omega))
theorem yRk_sm : YSm DN S (yRk S) := (yRow_sm (by unfold DN; omega) (by unfold DN; omega)).trans (yRow_sm (by unfold DN; omega) (by unfold DN; omega))
theorem yLe_sm : YSm DN S (yLe S) := (yRow_sm (by unfold DN; omega) (by unfold DN; omega)).trans (yRow_sm (by unfold DN; omega) (by unfold DN; omega))
theorem yPn_sm : YSm DN S (yPn S) := ((((yRow_sm (by unfold DN; omega) (by unfold DN; omega)).trans (yRow_sm (by unfold DN; omega) (by unfold DN; omega))).trans (yRow_sm (by unfold DN; omega) (by unfold DN; omega))).trans (yRow_sm (by unfold DN; omega) (by unfold DN; omega))).trans (yRow_sm (by unfold DN; omega) (by unfold DN; omega))
theorem yVs_sm : YSm DN S (yVs S) := (((yRow_sm (by unfold DN; omega) (by unfold DN; omega)).trans (YSm.N (by unfold DN; omega))).trans (yRk_sm _)).trans (YSm.R (by unfold DN; omega))
theorem yPm_sm : YSm DN S (yPm S) := (((((((yRow_sm (by unfold DN; omega) (by unfold DN; omega)).trans (yRow_sm (by unfold DN; omega) (by unfold DN; omega))).trans (YSm.N (by unfold DN; omega))).trans (yPt2_sm _)).trans (YSm.R (by unfold DN; omega))).trans (YSm.N (by unfold DN; omega))).trans (yLe_sm _)).trans (YSm.R (by unfold DN; omega))
theorem yNew_sm : YSm DN S (yNew S) := ((((((((((((((((yRow_sm (by unfold DN; omega) (by unfold DN; omega)).trans (YSm.N (by unfold DN; omega))).trans (yPt1_sm _)).trans (YSm.R (by unfold DN; omega))).trans (YSm.N (by unfold DN; omega))).trans ((YSm.N (by unfold DN; omega)).trans (YSm.R (by unfold DN; omega)))).trans (YSm.R (by unfold DN; omega))).trans (YSm.N (by unfold DN; omega))).trans (yVs_sm _)).trans (YSm.R (by unfold DN; omega))).trans (YSm.N (by unfold DN; omega))).trans (yPm_sm _)).trans (YSm.R (by unfold DN; omega))).trans (YSm.N (by unfold DN; omega))).trans (yPn_sm _)).trans (YSm.R (by unfold DN; omega)))
end
set_option maxRecDepth 8000 in
set_option maxHeartbeats 4000000 in
theorem YOK00 (S : GS) : YOK (yNew (sN S 200 11 0)) := by
  refine ⟨fun g hg => ?_, fun g k r hr => ?_⟩
  · unfold yT at hg
    split at hg <;> first | exact ⟨rfl, rfl⟩ | exact absurd rfl hg
  · unfold yR at hr
    split at hr <;> first | (cases hr; rfl) | (cases hr; done)
set_option maxRecDepth 8000 in
set_option maxHeartbeats 4000000 in
theorem YI00 (S : GS) (hf : ∀ g, 201 ≤ g → g ≠ 999 → kd S g = 0) : YI (yNew (sN S 200 11 0)) A00 T00 B00 J00 L00 Q00 0 0 0 := by
  have sm := yNew_sm (sN S 200 11 0)
  have fr : ∀ g, 301 ≤ g → g ≠ 999 → kd (yNew (sN S 200 11 0)) g = 0 := fun g h1 h2 => (sm.kd (by unfold DN; omega)).trans ((sN_kd (by omega)).trans (hf g (by omega) h2))
  refine ⟨YOK00 S, ⟨rfl, fun v hv => absurd hv (Nat.not_lt_zero v), fun v _ hv => ⟨fr _ (by omega) (by omega), fr _ (by omega) (by omega)⟩⟩, ⟨rfl, fun i hi => absurd hi (Nat.not_lt_zero i)⟩, ⟨rfl, fun v hv => absurd hv (Nat.not_lt_zero v), fun v _ hv => ⟨fr _ (by omega) (by omega), fr _ (by omega) (by omega), fr _ (by omega) (by omega)⟩⟩, ⟨rfl, fun v hv => absurd hv (Nat.not_lt_zero v), fun d _ => rfl⟩, ⟨rfl, ⟨Nat.zero_le _, rfl, rfl, rfl, fun j hj => absurd hj (Nat.not_lt_zero j), fun z hz hz2 => fr _ (by have : 0 < z := hz; omega) (by omega)⟩, fun m _ => rfl⟩, ⟨rfl, fun v hv => absurd hv (Nat.not_lt_zero v), fun v _ hv => ⟨fr _ (by omega) (by omega), fr _ (by omega) (by omega)⟩⟩, rfl, rfl, rfl⟩
set_option maxRecDepth 8000 in
set_option maxHeartbeats 4000000 in
theorem MOK00 (S : GS) : MOK (mNew (sN S 0 12 0)) := by
  refine ⟨rfl, fun k hk => ?_⟩
  unfold mT at hk
  split at hk <;> first | exact ⟨rfl, rfl, rfl⟩ | exact absurd rfl hk
