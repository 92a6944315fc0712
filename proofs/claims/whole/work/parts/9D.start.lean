/-! ===== the law's start ===== -/
theorem ar_p {s : State} {args : Array Value} {ty : FieldType} (h : (Cond.arrayClass ty).before args s = true) : ∃ cA, ArrOfT s cA ty ∧ s.vm.findClass ("[" ++ ty.toString) = some cA := by
  obtain ⟨c, k, comp, h1, h2, h3⟩ := Cond.arrayClass_spec h
  exact ⟨c, fun n z => ⟨fun k h => (by cases h), k, h2, comp, h3⟩, h1⟩
theorem ar_o {s : State} {args : Array Value} {C : String} (h : (Cond.arrayOver (.object C)).before args s = true) : ∃ cA, ArrOfT s cA (.object C) ∧ va_RA s cA (.object C) := by
  obtain ⟨comp, c, k, h1, h2, h3, h4, h5⟩ := Cond.arrayOver_spec h
  exact ⟨c, fun n z => ⟨fun k h => (by cases h), k, h3, comp, h4⟩, k, comp, h3, h4, h1, h5⟩
set_option maxRecDepth 20000 in
theorem w_over : Cond.arrayOver (.object RX7) ∈ lw_tbl ∧ Cond.arrayOver (.object RX8) ∈ lw_tbl ∧ Cond.arrayOver (.object RX3) ∈ lw_tbl := by decide +kernel
theorem gt_sub {w : Cond} (h : w ∈ gt_B) : w ∈ lw_tbl := (List.mem_filter.mp h).1
theorem gKK_start {s : State} {args : Array Value} (hts : ∀ w ∈ lw_tbl, w.before args s = true) : ∃ dC dI tc, gKK dC dI tc s := by
  have h1 : ∀ ci : Nat, ∃ q : ClassId × (Nat → Nat), ci < 12 → u_Kn s (cR ci) (cT ci) (cN ci) q.1 q.2 := by
    intro ci
    by_cases h : ci < 12
    · obtain ⟨a, b, hk⟩ := u_known (C := cR ci) (T := cT ci) (N := cN ci) (n := cN ci) (ws := gt_B) (fun w hw => hts w (gt_sub hw)) (c_in h) (hts _ (gt_sub (c_inst h)))
      exact ⟨(a, b), fun _ => hk⟩
    · exact ⟨(0, fun _ => 0), fun q => absurd q h⟩
  obtain ⟨f, hf⟩ := Classical.axiomOfChoice h1
  obtain ⟨a1, b1, c1⟩ := ar_p (hts _ (gt_sub ac_int))
  obtain ⟨a2, b2, c2⟩ := ar_p (hts _ (gt_sub ac_long))
  obtain ⟨a3, b3, c3⟩ := ar_p (hts _ (gt_sub ac_byte))
  obtain ⟨a4, b4, c4⟩ := ar_p (hts _ (gt_sub ac_boolean))
  obtain ⟨a5, b5, c5⟩ := ar_o (hts _ w_over.1)
  obtain ⟨a6, b6, c6⟩ := ar_o (hts _ w_over.2.1)
  obtain ⟨a7, b7, c7⟩ := ar_o (hts _ w_over.2.2)
  refine ⟨fun ci => (f ci).1, fun ci => (f ci).2, fun k => if k = 21 then a1 else if k = 22 then a2 else if k = 23 then a3 else if k = 24 then a4 else if k = 25 then a5 else if k = 26 then a6 else a7, ⟨fun ci q hq => ?_, fun k q hq => ?_⟩, fun w hw => ?_, va_AO.of (hts _ w_over.1), va_AO.of (hts _ w_over.2.1), va_AO.of (hts _ w_over.2.2)⟩
  · have hci : ci < 12 := by
      rcases Nat.lt_or_ge ci 12 with z | z
      · exact z
      · rw [List.getElem?_eq_none (show vwCl.length ≤ ci from z)] at hq
        cases hq
    rw [c_cl hci] at hq
    cases hq
    exact hf ci hci
  · match k, hq with
    | 0, hq => cases hq; exact ⟨b1, c1⟩
    | 1, hq => cases hq; exact ⟨b2, c2⟩
    | 2, hq => cases hq; exact ⟨b3, c3⟩
    | 3, hq => cases hq; exact ⟨b4, c4⟩
    | 4, hq => cases hq; exact ⟨b5, c5⟩
    | 5, hq => cases hq; exact ⟨b6, c6⟩
    | 6, hq => cases hq; exact ⟨b7, c7⟩
    | k + 7, hq => simp [g_tys] at hq
  · obtain ⟨_, _, _, _, _, _, rfl⟩ := gt_N_form hw
    exact va_Nw.of rfl (hts _ (List.mem_filter.mp hw).1)
/-- the walk of the law's body, in the ghost machine -/
def LawGo : Prop := ∀ (X : CX) (b L : Nat) (xs : Nat → Int32), L ≤ 3072 → En X RL code 4 2048 600000 7302249 → SC X b L xs → LR X b → V X 0 [some (.ref 999), none, none, none] [] S00 0 0
theorem whole_of (hgo : LawGo) {p : Program} {e : Env} {s : State} {m : MethodId} {below : List Frame} {meth : Method} {c : Code} (l : Launch) {b L : Nat} {xs : Nat → Int32} (hL : L ≤ 3072) (C0 : lw_At p s m meth c b L xs) : W p l e room_1 s m #[Value.ref b] below meth c s.heap [] 0 0 (lw_Z below #[Value.ref b] s) (entryFrame m ([Value.ref b] : List Value).toArray 4) := by
  obtain ⟨hx, hb, hr, hml, hown, hts, hX, hbl, hlocks, hgv⟩ := id C0
  obtain ⟨dC, dI, tc, hK⟩ := gKK_start hts
  have hl := lv_entry ([.ref b]) (n := 4) (Nat.le_of_ble_eq_true rfl)
  rw [lg_entry_eq]
  generalize (lg_sl ([.ref b]) ++ List.replicate (4 - (lg_sl ([.ref b])).length) Slot.unset).toArray = ls at hl ⊢
  have hbA : ¬ (fun q : Nat => s.heap.size ≤ q) b := Nat.not_le.mpr hbl
  refine hgo (p, l, e, room_1, s, m, #[Value.ref b], below, meth, c, lw_Z below #[Value.ref b] s, dC, dI, tc, (fun q => s.heap.size ≤ q), (fun g => g = 999), fun _ => b) b L xs hL ⟨hx, hb, hml, hown, fun w hw => hts w (gt_sub hw), hK, fun _ h => h, rfl, rfl, rfl, (show (40 * 2048 : Nat) ≤ 84000 by decide)⟩ ⟨hX, hbl, hbA, rfl, rfl⟩ ⟨rfl, rfl, rfl, hr, hlocks, fun _ h => h⟩ [] (fun _ => b) s.heap [] ls ⟨⟨fun g => ?_, fun g k g' _ h => by cases h⟩, fun g hg => ⟨rfl, ?_⟩, fun k q h => by simp [gws] at h, ⟨fun i j p q h => by simp [gws] at h, fun k q h => by simp [gws] at h⟩, va_S.rf⟩ ?_ oks.nil ⟨hl.1.trans hml.symm, hl.2.1, fun i v hv => ?_⟩
  · constructor
    · intro h; exact absurd h List.not_mem_nil
    · intro h
      exfalso
      by_cases e : g = 999
      · exact h.2 (if_pos e)
      · exact h.1 (if_neg e)
  · have : g = 999 := hg
    rw [this]
    decide
  · intro v hv
    have : v = .ref 999 := by simpa using hv
    rw [this]
    show kd S00 999 ≠ 0
    decide
  · match i, hv with
    | 0, hv =>
      have : v = .ref 999 := by simpa using hv.symm
      rw [this]
      exact hl.2.2 (0, .ref b) (by simp [lv_args])
    | 1, hv => cases hv
    | 2, hv => cases hv
    | 3, hv => cases hv
    | i + 4, hv => simp at hv
