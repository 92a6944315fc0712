/-! ===== the text that is told: its length and its bytes ===== -/
abbrev AT : Type := Nat × (Nat → Nat)
def TOK (T : AT) : Prop := T.1 ≤ 200 ∧ ∀ i, i < T.1 → 1 ≤ T.2 i ∧ T.2 i ≤ 255
def MTx (S : GS) (T : AT) : Prop := fI S 0 17 = nI T.1 ∧ ∀ i, i < T.1 → aI S 16 i = nI (T.2 i)
def YTx (S : GS) (T : AT) : Prop := fI S 205 1 = nI T.1 ∧ ∀ i, i < T.1 → aI S 206 i = (nI (T.2 i)).toInt8.toInt32
def aEnd (T : AT) (n : Nat) : AT := (n, T.2)
theorem TOK.fin {T : AT} {n : Nat} (h : TOK T) (hn : n ≤ T.1) : TOK (aEnd T n) := ⟨Nat.le_trans hn h.1, fun i hi => h.2 i (Nat.lt_of_lt_of_le hi hn)⟩
theorem MTx.fin {S : GS} {T : AT} {n : Nat} (h : MTx S T) (hn : n ≤ T.1) : MTx (sI S 0 17 (nI n)) (aEnd T n) := ⟨by rw [fI_sI, up2_at]; rfl, fun i hi => h.2 i (Nat.lt_of_lt_of_le hi hn)⟩
theorem YTx.fin {S : GS} {T : AT} {n : Nat} (h : YTx S T) (hn : n ≤ T.1) : YTx (sI S 205 1 (nI n)) (aEnd T n) := ⟨by rw [fI_sI, up2_at]; rfl, fun i hi => h.2 i (Nat.lt_of_lt_of_le hi hn)⟩
