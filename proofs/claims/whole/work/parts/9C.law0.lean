/-! THE CLAIM OUT OF ONE WALK OF THE LAW'S BODY. Your part is whole_start (and what it stands on); all else here is the same for every law, but numbers. -/
def R_law : String := "CocoaYardLaw"
def lw_P (b : Addr) (xs : List Int32) (args : Array Value) (s : State) : Prop := args = #[.ref b] ∧ s.IntsAt b xs ∧ xs.length ≤ 3072 ∧ (Jvm.Cond.and given_1 narrow_1).before args s = true
def lw_Q (_ : Array Value) (s : State) (o : Outcome) (t : State) : Prop := o = .returned (some (.int 1)) ∧ Framed s o t [] 600000 7302249
def lw_Z (below : List Frame) (a : Array Value) (s : State) : State → Prop := fun t => ∃ o, t.status = .running ∧ Ended t below o ∧ lw_Q a s o t
/-- the law's own end, with 1 on the stack, nothing written that was there before, its room as the claim has it -/
theorem lw_ret {p : Program} {l : Launch} {e : Env} {s : State} {m : MethodId} {below : List Frame} {meth : Method} {c : Code} {b : Nat} (hx : p.tables.exec = Jvm.exec) (hb : c.code = code) (hr : meth.sig.returnType = ret) (hlocks : meth.locks = false) {pc : Nat} {H : Heap} {ls : Array Slot} (hdg : decode code pc = .ok (.ireturn, 1)) : W p l e room_1 s m #[Value.ref b] below meth c H [] 600000 7302249 (lw_Z below #[Value.ref b] s) (F0 m pc ls [.int 1]) := by
  intro T hT X
  obtain ⟨fs, hret, hrun, hended, hW, hframe⟩ := X.leave (v := some (.int 1)) (hlocks := hlocks) (fun h => by rw [hr] at h; cases h)
  have hmeth' : T.vm.method? m = some meth := X.method'
  refine ⟨T.setFrames fs, ?_, .returned (some (.int 1)), hrun, hended, rfl, ⟨_, rfl⟩, hW, hframe⟩
  jvm_step X.here [X.here.top, hx, hb, hdg, hmeth', hr, ret, narrow_b1]
  (try refine ⟨rfl, ?_⟩); (try refine ⟨rfl, ?_⟩)
  first | (intro acts; rw [hret _ acts rfl rfl rfl]) | rw [hret _ _ rfl rfl rfl]
  exact Steps.refl _
/-- what holds at the law's entry: the machine, the code, the tables' words (any of lw_tbl by 'hts w (by decide +kernel)'), the script of L ints xs at the cell b, what the Statement gives of the start (any of its parts by flat_of_before) -/
def lw_At (p : Program) (s : State) (m : MethodId) (meth : Method) (c : Code) (b L : Nat) (xs : Nat → Int32) : Prop :=
  p.tables.exec = Jvm.exec ∧ c.code = code ∧ meth.sig.returnType = ret ∧ c.maxLocals = 4 ∧ s.vm.findClass R_law = some m.cls ∧ (∀ w ∈ lw_tbl, w.before #[Value.ref b] s = true) ∧ va_X b L xs s s.heap ∧ b < s.heap.size ∧ meth.locks = false ∧ (Jvm.Cond.and given_1 narrow_1).before #[Value.ref b] s = true
/-! ===== the law: its script, its end ===== -/
def SC (X : CX) (b L : Nat) (xs : Nat → Int32) : Prop := va_X b L xs (x_s X) (x_s X).heap ∧ b < (x_s X).heap.size ∧ ¬ x_A X b ∧ x_D0 X 999 ∧ x_ad0 X 999 = b
section GSC
variable {X : CX} {own : String} {cc : ByteArray} {nL d kc nc pc k n : Nat} {lo : List (Option Value)} {st : List Value} {S : GS}
theorem V_sld {b L j : Nat} {xs : Nat → Int32} {x : Int32} (E : En X own cc nL d kc nc) (hS : SC X b L xs) (hd : decode cc pc = .ok (.iaload, 1)) (hx : x = nI j) (hj : j < L) (hL : L < 2 ^ 31) (h : V X (pc + 1) lo (.int (xs j) :: st) S k n) : V X pc lo (.int x :: .ref 999 :: st) S k n := by
  intro L0 ad H locs ls hM hlo hst hls
  obtain ⟨h1, h2, h3, h4, h5⟩ := hS
  have had : ad 999 = b := (hM.2.1 999 h4).1.trans h5
  obtain ⟨q1, q2⟩ := g_in hx hj hL
  have h9 := va_sld (i := x) (ls := ls) (rest := st.map (gv ad)) (p := x_p X) (l := x_l X) (e := x_e X) (R := x_R X) (m := x_m X) (args := x_a X) (below := x_b X) (meth := x_me X) (c := x_c X) (cells := k) (slots := n) (Q := x_Q X) E.ex E.by h1 h2 h3 hM.2.2.2.2 q1 hd (by rw [q2]; exact h L0 ad H locs ls hM hlo (hst.t.t.c trivial) hls)
  rw [← had] at h9
  exact h9
theorem V_slen {b L : Nat} {xs : Nat → Int32} (E : En X own cc nL d kc nc) (hS : SC X b L xs) (hd : decode cc pc = .ok (.arraylength, 1)) (h : V X (pc + 1) lo (.int (nI L) :: st) S k n) : V X pc lo (.ref 999 :: st) S k n := by
  intro L0 ad H locs ls hM hlo hst hls
  obtain ⟨h1, h2, h3, h4, h5⟩ := hS
  have had : ad 999 = b := (hM.2.1 999 h4).1.trans h5
  have h9 := va_slen (ls := ls) (rest := st.map (gv ad)) (p := x_p X) (l := x_l X) (e := x_e X) (R := x_R X) (m := x_m X) (args := x_a X) (below := x_b X) (meth := x_me X) (c := x_c X) (cells := k) (slots := n) (Q := x_Q X) E.ex E.by h1 h2 h3 hM.2.2.2.2 hd (h L0 ad H locs ls hM hlo (hst.t.c trivial) hls)
  rw [← had] at h9
  exact h9
def LR (X : CX) (b : Nat) : Prop := x_R X = room_1 ∧ x_a X = #[Value.ref b] ∧ x_Q X = lw_Z (x_b X) #[Value.ref b] (x_s X) ∧ (x_me X).sig.returnType = ret ∧ (x_me X).locks = false ∧ ∀ q, x_A X q → (x_s X).heap.size ≤ q
theorem V_law1 {b : Nat} (E : En X own code nL d kc nc) (hR : LR X b) (hd : decode code pc = .ok (.ireturn, 1)) (hk : k ≤ 600000) (hn : n ≤ 7302249) : V X pc lo [.int 1] S k n := by
  intro L0 ad H locs ls hM hlo hst hls
  obtain ⟨h1, h2, h3, h4, h5, h6⟩ := hR
  rw [h1, h2, h3]
  refine va_forget (fun q hq => h6 _ (hM.2.2.2.2.2.2 q hq)) ?_
  refine W.widen hk hn ?_
  exact lw_ret E.ex E.by h4 h5 hd
end GSC
/-- the names at the law's start: the script alone -/
def S00 : GS := (fun g => if g = 999 then 99 else 0, fun _ => 0, fun _ _ => none, fun _ _ => 0, fun _ _ => 0, fun _ _ => 0, fun _ _ => 0)
theorem kd_S00 {g : Nat} (h : g ≠ 999) : kd S00 g = 0 := if_neg h
