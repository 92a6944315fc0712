/-! ===== the ghost machine, 3: rows without the heap ===== -/
section GR
variable {X : CX} {own : String} {cc : ByteArray} {nL d kc nc pc k n : Nat} {lo : List (Option Value)} {st : List Value} {S : GS}
theorem V_iconst {z : Int} {v : Int32} (E : En X own cc nL d kc nc) (hd : decode cc pc = .ok (.iconst z, 1)) (hv : Int32.ofInt z = v) (h : V X (pc + 1) lo (.int v :: st) S k n) : V X pc lo st S k n := by
  intro L ad H locs ls hM hlo hst hls
  exact lv_iconst E.ex E.by hd hv (h L ad H locs ls hM hlo (hst.c trivial) hls)
theorem V_bipush {z : Int} {v : Int32} (E : En X own cc nL d kc nc) (hd : decode cc pc = .ok (.bipush z, 2)) (hv : (Int8.ofInt z).toInt32 = v) (h : V X (pc + 2) lo (.int v :: st) S k n) : V X pc lo st S k n := by
  intro L ad H locs ls hM hlo hst hls
  exact lv_bipush E.ex E.by hd hv (h L ad H locs ls hM hlo (hst.c trivial) hls)
theorem V_sipush {z : Int} {v : Int32} (E : En X own cc nL d kc nc) (hd : decode cc pc = .ok (.sipush z, 3)) (hv : (Int16.ofInt z).toInt32 = v) (h : V X (pc + 3) lo (.int v :: st) S k n) : V X pc lo st S k n := by
  intro L ad H locs ls hM hlo hst hls
  exact lv_sipush E.ex E.by hd hv (h L ad H locs ls hM hlo (hst.c trivial) hls)
theorem V_lconst {z : Fin 2} {v : Int64} (E : En X own cc nL d kc nc) (hd : decode cc pc = .ok (.lconst z, 1)) (hv : Int64.ofNat (z : Nat) = v) (h : V X (pc + 1) lo (.long v :: st) S k n) : V X pc lo st S k n := by
  intro L ad H locs ls hM hlo hst hls
  exact lv_lconst E.ex E.by hd hv (h L ad H locs ls hM hlo (hst.c trivial) hls)
theorem V_ldc {i : Nat} {v : Int32} (E : En X own cc nL d kc nc) (hd : decode cc pc = .ok (.ldc i, 2)) (hw : Cond.constant own i v ∈ gt_B) (h : V X (pc + 2) lo (.int v :: st) S k n) : V X pc lo st S k n := by
  intro L ad H locs ls hM hlo hst hls
  exact lv_ldc E.ex E.by E.ow (E.ts _ hw) hd (h L ad H locs ls hM hlo (hst.c trivial) hls)
theorem V_ldc2 {i : Nat} {v : Int64} (E : En X own cc nL d kc nc) (hd : decode cc pc = .ok (.ldc2_w i, 3)) (hw : Cond.constantLong own i v ∈ gt_B) (h : V X (pc + 3) lo (.long v :: st) S k n) : V X pc lo st S k n := by
  intro L ad H locs ls hM hlo hst hls
  exact lv_ldc2 E.ex E.by E.ow (E.ts _ hw) hd (h L ad H locs ls hM hlo (hst.c trivial) hls)
theorem V_null (E : En X own cc nL d kc nc) (hd : decode cc pc = .ok (.aconst_null, 1)) (h : V X (pc + 1) lo (.null :: st) S k n) : V X pc lo st S k n := by
  intro L ad H locs ls hM hlo hst hls
  exact lv_null E.ex E.by hd (h L ad H locs ls hM hlo (hst.c trivial) hls)
theorem V_iload_n {q : Fin 4} {x : Int32} (E : En X own cc nL d kc nc) (hd : decode cc pc = .ok (.iload_n q, 1)) (hl : lo[(q : Nat)]? = some (some (.int x))) (h : V X (pc + 1) lo (.int x :: st) S k n) : V X pc lo st S k n := by
  intro L ad H locs ls hM hlo hst hls
  exact lv_iload_n E.ex E.by hd rfl (hls.2.2 _ _ hl) (h L ad H locs ls hM hlo (hst.c trivial) hls)
theorem V_iload {i : Nat} {x : Int32} (E : En X own cc nL d kc nc) (hd : decode cc pc = .ok (.iload i, 2)) (hl : lo[i]? = some (some (.int x))) (h : V X (pc + 2) lo (.int x :: st) S k n) : V X pc lo st S k n := by
  intro L ad H locs ls hM hlo hst hls
  exact lv_iload E.ex E.by hd (hls.2.2 _ _ hl) (h L ad H locs ls hM hlo (hst.c trivial) hls)
theorem V_lload_n {q : Fin 4} {x : Int64} (E : En X own cc nL d kc nc) (hd : decode cc pc = .ok (.lload_n q, 1)) (hl : lo[(q : Nat)]? = some (some (.long x))) (h : V X (pc + 1) lo (.long x :: st) S k n) : V X pc lo st S k n := by
  intro L ad H locs ls hM hlo hst hls
  exact lv_lload_n E.ex E.by hd rfl (hls.2.2 _ _ hl) (h L ad H locs ls hM hlo (hst.c trivial) hls)
theorem V_lload {i : Nat} {x : Int64} (E : En X own cc nL d kc nc) (hd : decode cc pc = .ok (.lload i, 2)) (hl : lo[i]? = some (some (.long x))) (h : V X (pc + 2) lo (.long x :: st) S k n) : V X pc lo st S k n := by
  intro L ad H locs ls hM hlo hst hls
  exact lv_lload E.ex E.by hd (hls.2.2 _ _ hl) (h L ad H locs ls hM hlo (hst.c trivial) hls)
theorem V_aload_n {q : Fin 4} {x : Nat} (E : En X own cc nL d kc nc) (hd : decode cc pc = .ok (.aload_n q, 1)) (hl : lo[(q : Nat)]? = some (some (.ref x))) (h : V X (pc + 1) lo (.ref x :: st) S k n) : V X pc lo st S k n := by
  intro L ad H locs ls hM hlo hst hls
  exact lv_aload_n E.ex E.by hd rfl (hls.2.2 _ _ hl) (h L ad H locs ls hM hlo (hst.c (hlo _ (List.mem_of_getElem? hl))) hls)
theorem V_aload {i : Nat} {x : Nat} (E : En X own cc nL d kc nc) (hd : decode cc pc = .ok (.aload i, 2)) (hl : lo[i]? = some (some (.ref x))) (h : V X (pc + 2) lo (.ref x :: st) S k n) : V X pc lo st S k n := by
  intro L ad H locs ls hM hlo hst hls
  exact lv_aload E.ex E.by hd (hls.2.2 _ _ hl) (h L ad H locs ls hM hlo (hst.c (hlo _ (List.mem_of_getElem? hl))) hls)
theorem V_aload_nN {q : Fin 4} (E : En X own cc nL d kc nc) (hd : decode cc pc = .ok (.aload_n q, 1)) (hl : lo[(q : Nat)]? = some (some .null)) (h : V X (pc + 1) lo (.null :: st) S k n) : V X pc lo st S k n := by
  intro L ad H locs ls hM hlo hst hls
  exact lv_aload_nN E.ex E.by hd rfl (hls.2.2 _ _ hl) (h L ad H locs ls hM hlo (hst.c trivial) hls)
theorem V_aloadN {i : Nat} (E : En X own cc nL d kc nc) (hd : decode cc pc = .ok (.aload i, 2)) (hl : lo[i]? = some (some .null)) (h : V X (pc + 2) lo (.null :: st) S k n) : V X pc lo st S k n := by
  intro L ad H locs ls hM hlo hst hls
  exact lv_aloadN E.ex E.by hd (hls.2.2 _ _ hl) (h L ad H locs ls hM hlo (hst.c trivial) hls)
theorem V_iadd {x y : Int32} (E : En X own cc nL d kc nc) (hd : decode cc pc = .ok (.iadd, 1)) (h : V X (pc + 1) lo (.int (x + y) :: st) S k n) : V X pc lo (.int y :: .int x :: st) S k n := by
  intro L ad H locs ls hM hlo hst hls
  exact lv_iadd E.ex E.by hd (h L ad H locs ls hM hlo (hst.t.t.c trivial) hls)
theorem V_isub {x y : Int32} (E : En X own cc nL d kc nc) (hd : decode cc pc = .ok (.isub, 1)) (h : V X (pc + 1) lo (.int (x - y) :: st) S k n) : V X pc lo (.int y :: .int x :: st) S k n := by
  intro L ad H locs ls hM hlo hst hls
  exact lv_isub E.ex E.by hd (h L ad H locs ls hM hlo (hst.t.t.c trivial) hls)
theorem V_imul {x y : Int32} (E : En X own cc nL d kc nc) (hd : decode cc pc = .ok (.imul, 1)) (h : V X (pc + 1) lo (.int (x * y) :: st) S k n) : V X pc lo (.int y :: .int x :: st) S k n := by
  intro L ad H locs ls hM hlo hst hls
  exact lv_imul E.ex E.by hd (h L ad H locs ls hM hlo (hst.t.t.c trivial) hls)
theorem V_iand {x y : Int32} (E : En X own cc nL d kc nc) (hd : decode cc pc = .ok (.iand, 1)) (h : V X (pc + 1) lo (.int (x &&& y) :: st) S k n) : V X pc lo (.int y :: .int x :: st) S k n := by
  intro L ad H locs ls hM hlo hst hls
  exact lv_iand E.ex E.by hd (h L ad H locs ls hM hlo (hst.t.t.c trivial) hls)
theorem V_ishr {x y : Int32} (E : En X own cc nL d kc nc) (hd : decode cc pc = .ok (.ishr, 1)) (h : V X (pc + 1) lo (.int (x >>> (y &&& 31)) :: st) S k n) : V X pc lo (.int y :: .int x :: st) S k n := by
  intro L ad H locs ls hM hlo hst hls
  exact lv_ishr E.ex E.by hd (h L ad H locs ls hM hlo (hst.t.t.c trivial) hls)
theorem V_idiv {x y : Int32} (E : En X own cc nL d kc nc) (hd : decode cc pc = .ok (.idiv, 1)) (hne : ¬ y = 0) (h : V X (pc + 1) lo (.int (x / y) :: st) S k n) : V X pc lo (.int y :: .int x :: st) S k n := by
  intro L ad H locs ls hM hlo hst hls
  exact lv_idiv E.ex E.by hd hne (h L ad H locs ls hM hlo (hst.t.t.c trivial) hls)
theorem V_irem {x y : Int32} (E : En X own cc nL d kc nc) (hd : decode cc pc = .ok (.irem, 1)) (hne : ¬ y = 0) (h : V X (pc + 1) lo (.int (x - x / y * y) :: st) S k n) : V X pc lo (.int y :: .int x :: st) S k n := by
  intro L ad H locs ls hM hlo hst hls
  exact lv_irem E.ex E.by hd hne (h L ad H locs ls hM hlo (hst.t.t.c trivial) hls)
theorem V_ladd {x y : Int64} (E : En X own cc nL d kc nc) (hd : decode cc pc = .ok (.ladd, 1)) (h : V X (pc + 1) lo (.long (x + y) :: st) S k n) : V X pc lo (.long y :: .long x :: st) S k n := by
  intro L ad H locs ls hM hlo hst hls
  exact lv_ladd E.ex E.by hd (h L ad H locs ls hM hlo (hst.t.t.c trivial) hls)
theorem V_lsub {x y : Int64} (E : En X own cc nL d kc nc) (hd : decode cc pc = .ok (.lsub, 1)) (h : V X (pc + 1) lo (.long (x - y) :: st) S k n) : V X pc lo (.long y :: .long x :: st) S k n := by
  intro L ad H locs ls hM hlo hst hls
  exact lv_lsub E.ex E.by hd (h L ad H locs ls hM hlo (hst.t.t.c trivial) hls)
theorem V_lmul {x y : Int64} (E : En X own cc nL d kc nc) (hd : decode cc pc = .ok (.lmul, 1)) (h : V X (pc + 1) lo (.long (x * y) :: st) S k n) : V X pc lo (.long y :: .long x :: st) S k n := by
  intro L ad H locs ls hM hlo hst hls
  exact lv_lmul E.ex E.by hd (h L ad H locs ls hM hlo (hst.t.t.c trivial) hls)
theorem V_ldiv {x y : Int64} (E : En X own cc nL d kc nc) (hd : decode cc pc = .ok (.ldiv, 1)) (hne : ¬ y = 0) (h : V X (pc + 1) lo (.long (x / y) :: st) S k n) : V X pc lo (.long y :: .long x :: st) S k n := by
  intro L ad H locs ls hM hlo hst hls
  exact lv_ldiv E.ex E.by hd hne (h L ad H locs ls hM hlo (hst.t.t.c trivial) hls)
theorem V_lrem {x y : Int64} (E : En X own cc nL d kc nc) (hd : decode cc pc = .ok (.lrem, 1)) (hne : ¬ y = 0) (h : V X (pc + 1) lo (.long (x - x / y * y) :: st) S k n) : V X pc lo (.long y :: .long x :: st) S k n := by
  intro L ad H locs ls hM hlo hst hls
  exact lv_lrem E.ex E.by hd hne (h L ad H locs ls hM hlo (hst.t.t.c trivial) hls)
theorem V_ineg {x : Int32} (E : En X own cc nL d kc nc) (hd : decode cc pc = .ok (.ineg, 1)) (h : V X (pc + 1) lo (.int (-x) :: st) S k n) : V X pc lo (.int x :: st) S k n := by
  intro L ad H locs ls hM hlo hst hls
  exact lv_ineg E.ex E.by hd (h L ad H locs ls hM hlo (hst.t.c trivial) hls)
theorem V_iushr {x y v : Int32} (E : En X own cc nL d kc nc) (hd : decode cc pc = .ok (.iushr, 1)) (hv : (x.toUInt32 >>> (y.toUInt32 &&& Int32.toUInt32 31)).toInt32 = v) (h : V X (pc + 1) lo (.int v :: st) S k n) : V X pc lo (.int y :: .int x :: st) S k n := by
  intro L ad H locs ls hM hlo hst hls
  exact lv_iushr E.ex E.by hd hv (h L ad H locs ls hM hlo (hst.t.t.c trivial) hls)
theorem V_i2l {x : Int32} {v : Int64} (E : En X own cc nL d kc nc) (hd : decode cc pc = .ok (.i2l, 1)) (hv : x.toInt64 = v) (h : V X (pc + 1) lo (.long v :: st) S k n) : V X pc lo (.int x :: st) S k n := by
  intro L ad H locs ls hM hlo hst hls
  exact lv_i2l E.ex E.by hd hv (h L ad H locs ls hM hlo (hst.t.c trivial) hls)
theorem V_l2i {x : Int64} {v : Int32} (E : En X own cc nL d kc nc) (hd : decode cc pc = .ok (.l2i, 1)) (hv : x.toInt32 = v) (h : V X (pc + 1) lo (.int v :: st) S k n) : V X pc lo (.long x :: st) S k n := by
  intro L ad H locs ls hM hlo hst hls
  exact lv_l2i E.ex E.by hd hv (h L ad H locs ls hM hlo (hst.t.c trivial) hls)
theorem V_i2b {x : Int32} {v : Int32} (E : En X own cc nL d kc nc) (hd : decode cc pc = .ok (.i2b, 1)) (hv : x.toInt8.toInt32 = v) (h : V X (pc + 1) lo (.int v :: st) S k n) : V X pc lo (.int x :: st) S k n := by
  intro L ad H locs ls hM hlo hst hls
  exact lv_i2b E.ex E.by hd hv (h L ad H locs ls hM hlo (hst.t.c trivial) hls)
theorem V_lcmp {x y : Int64} (E : En X own cc nL d kc nc) (hd : decode cc pc = .ok (.lcmp, 1)) (h : V X (pc + 1) lo (.int (lg_cmp x y) :: st) S k n) : V X pc lo (.long y :: .long x :: st) S k n := by
  intro L ad H locs ls hM hlo hst hls
  exact W.lcmp E.ex E.by hd (h L ad H locs ls hM hlo (hst.t.t.c trivial) hls)
theorem V_dup {v : Value} (E : En X own cc nL d kc nc) (hd : decode cc pc = .ok (.dup, 1)) (hv : v.category = 1) (h : V X (pc + 1) lo (v :: v :: st) S k n) : V X pc lo (v :: st) S k n := by
  intro L ad H locs ls hM hlo hst hls
  exact lv_dup E.ex E.by hd ((gv_cat ad v).trans hv) (h L ad H locs ls hM hlo (hst.c hst.h) hls)
theorem V_dup2 {v w : Value} (E : En X own cc nL d kc nc) (hd : decode cc pc = .ok (.dup2, 1)) (hv : v.category = 1) (hw : w.category = 1) (h : V X (pc + 1) lo (v :: w :: v :: w :: st) S k n) : V X pc lo (v :: w :: st) S k n := by
  intro L ad H locs ls hM hlo hst hls
  exact lv_dup2_11 E.ex E.by hd ((gv_cat ad v).trans hv) ((gv_cat ad w).trans hw) (h L ad H locs ls hM hlo ((hst.c hst.t.h).c hst.h) hls)
theorem V_dup_x1 {v w : Value} (E : En X own cc nL d kc nc) (hd : decode cc pc = .ok (.dup_x1, 1)) (hv : v.category = 1) (hw : w.category = 1) (h : V X (pc + 1) lo (v :: w :: v :: st) S k n) : V X pc lo (v :: w :: st) S k n := by
  intro L ad H locs ls hM hlo hst hls
  exact lv_dup_x1 E.ex E.by hd ((gv_cat ad v).trans hv) ((gv_cat ad w).trans hw) (h L ad H locs ls hM hlo (((hst.t.t.c hst.h).c hst.t.h).c hst.h) hls)
theorem V_if_eq {x : Int32} {off : Int} {tgt : Nat} (E : En X own cc nL d kc nc) (hd : decode cc pc = .ok (.ifCond .eq off, 3)) (ht : (pc : Int) + off = (tgt : Int)) (h1 : x = 0 → V X tgt lo st S k n) (h2 : ¬ x = 0 → V X (pc + 3) lo st S k n) : V X pc lo (.int x :: st) S k n := by
  intro L ad H locs ls hM hlo hst hls
  exact lv_if_eq E.ex E.by hd ht (fun q => h1 q L ad H locs ls hM hlo hst.t hls) (fun q => h2 q L ad H locs ls hM hlo hst.t hls)
theorem V_icmp_eq {x y : Int32} {off : Int} {tgt : Nat} (E : En X own cc nL d kc nc) (hd : decode cc pc = .ok (.if_icmp .eq off, 3)) (ht : (pc : Int) + off = (tgt : Int)) (h1 : x = y → V X tgt lo st S k n) (h2 : ¬ x = y → V X (pc + 3) lo st S k n) : V X pc lo (.int y :: .int x :: st) S k n := by
  intro L ad H locs ls hM hlo hst hls
  exact lv_icmp_eq E.ex E.by hd ht (fun q => h1 q L ad H locs ls hM hlo hst.t.t hls) (fun q => h2 q L ad H locs ls hM hlo hst.t.t hls)
theorem V_if_ne {x : Int32} {off : Int} {tgt : Nat} (E : En X own cc nL d kc nc) (hd : decode cc pc = .ok (.ifCond .ne off, 3)) (ht : (pc : Int) + off = (tgt : Int)) (h1 : ¬ x = 0 → V X tgt lo st S k n) (h2 : x = 0 → V X (pc + 3) lo st S k n) : V X pc lo (.int x :: st) S k n := by
  intro L ad H locs ls hM hlo hst hls
  exact lv_if_ne E.ex E.by hd ht (fun q => h1 q L ad H locs ls hM hlo hst.t hls) (fun q => h2 q L ad H locs ls hM hlo hst.t hls)
theorem V_icmp_ne {x y : Int32} {off : Int} {tgt : Nat} (E : En X own cc nL d kc nc) (hd : decode cc pc = .ok (.if_icmp .ne off, 3)) (ht : (pc : Int) + off = (tgt : Int)) (h1 : ¬ x = y → V X tgt lo st S k n) (h2 : x = y → V X (pc + 3) lo st S k n) : V X pc lo (.int y :: .int x :: st) S k n := by
  intro L ad H locs ls hM hlo hst hls
  exact lv_icmp_ne E.ex E.by hd ht (fun q => h1 q L ad H locs ls hM hlo hst.t.t hls) (fun q => h2 q L ad H locs ls hM hlo hst.t.t hls)
theorem V_if_lt {x : Int32} {off : Int} {tgt : Nat} (E : En X own cc nL d kc nc) (hd : decode cc pc = .ok (.ifCond .lt off, 3)) (ht : (pc : Int) + off = (tgt : Int)) (h1 : x < 0 → V X tgt lo st S k n) (h2 : ¬ x < 0 → V X (pc + 3) lo st S k n) : V X pc lo (.int x :: st) S k n := by
  intro L ad H locs ls hM hlo hst hls
  exact lv_if_lt E.ex E.by hd ht (fun q => h1 q L ad H locs ls hM hlo hst.t hls) (fun q => h2 q L ad H locs ls hM hlo hst.t hls)
theorem V_icmp_lt {x y : Int32} {off : Int} {tgt : Nat} (E : En X own cc nL d kc nc) (hd : decode cc pc = .ok (.if_icmp .lt off, 3)) (ht : (pc : Int) + off = (tgt : Int)) (h1 : x < y → V X tgt lo st S k n) (h2 : ¬ x < y → V X (pc + 3) lo st S k n) : V X pc lo (.int y :: .int x :: st) S k n := by
  intro L ad H locs ls hM hlo hst hls
  exact lv_icmp_lt E.ex E.by hd ht (fun q => h1 q L ad H locs ls hM hlo hst.t.t hls) (fun q => h2 q L ad H locs ls hM hlo hst.t.t hls)
theorem V_if_ge {x : Int32} {off : Int} {tgt : Nat} (E : En X own cc nL d kc nc) (hd : decode cc pc = .ok (.ifCond .ge off, 3)) (ht : (pc : Int) + off = (tgt : Int)) (h1 : 0 ≤ x → V X tgt lo st S k n) (h2 : ¬ 0 ≤ x → V X (pc + 3) lo st S k n) : V X pc lo (.int x :: st) S k n := by
  intro L ad H locs ls hM hlo hst hls
  exact lv_if_ge E.ex E.by hd ht (fun q => h1 q L ad H locs ls hM hlo hst.t hls) (fun q => h2 q L ad H locs ls hM hlo hst.t hls)
theorem V_icmp_ge {x y : Int32} {off : Int} {tgt : Nat} (E : En X own cc nL d kc nc) (hd : decode cc pc = .ok (.if_icmp .ge off, 3)) (ht : (pc : Int) + off = (tgt : Int)) (h1 : y ≤ x → V X tgt lo st S k n) (h2 : ¬ y ≤ x → V X (pc + 3) lo st S k n) : V X pc lo (.int y :: .int x :: st) S k n := by
  intro L ad H locs ls hM hlo hst hls
  exact lv_icmp_ge E.ex E.by hd ht (fun q => h1 q L ad H locs ls hM hlo hst.t.t hls) (fun q => h2 q L ad H locs ls hM hlo hst.t.t hls)
theorem V_if_gt {x : Int32} {off : Int} {tgt : Nat} (E : En X own cc nL d kc nc) (hd : decode cc pc = .ok (.ifCond .gt off, 3)) (ht : (pc : Int) + off = (tgt : Int)) (h1 : 0 < x → V X tgt lo st S k n) (h2 : ¬ 0 < x → V X (pc + 3) lo st S k n) : V X pc lo (.int x :: st) S k n := by
  intro L ad H locs ls hM hlo hst hls
  exact lv_if_gt E.ex E.by hd ht (fun q => h1 q L ad H locs ls hM hlo hst.t hls) (fun q => h2 q L ad H locs ls hM hlo hst.t hls)
theorem V_icmp_gt {x y : Int32} {off : Int} {tgt : Nat} (E : En X own cc nL d kc nc) (hd : decode cc pc = .ok (.if_icmp .gt off, 3)) (ht : (pc : Int) + off = (tgt : Int)) (h1 : y < x → V X tgt lo st S k n) (h2 : ¬ y < x → V X (pc + 3) lo st S k n) : V X pc lo (.int y :: .int x :: st) S k n := by
  intro L ad H locs ls hM hlo hst hls
  exact lv_icmp_gt E.ex E.by hd ht (fun q => h1 q L ad H locs ls hM hlo hst.t.t hls) (fun q => h2 q L ad H locs ls hM hlo hst.t.t hls)
theorem V_if_le {x : Int32} {off : Int} {tgt : Nat} (E : En X own cc nL d kc nc) (hd : decode cc pc = .ok (.ifCond .le off, 3)) (ht : (pc : Int) + off = (tgt : Int)) (h1 : x ≤ 0 → V X tgt lo st S k n) (h2 : ¬ x ≤ 0 → V X (pc + 3) lo st S k n) : V X pc lo (.int x :: st) S k n := by
  intro L ad H locs ls hM hlo hst hls
  exact lv_if_le E.ex E.by hd ht (fun q => h1 q L ad H locs ls hM hlo hst.t hls) (fun q => h2 q L ad H locs ls hM hlo hst.t hls)
theorem V_icmp_le {x y : Int32} {off : Int} {tgt : Nat} (E : En X own cc nL d kc nc) (hd : decode cc pc = .ok (.if_icmp .le off, 3)) (ht : (pc : Int) + off = (tgt : Int)) (h1 : x ≤ y → V X tgt lo st S k n) (h2 : ¬ x ≤ y → V X (pc + 3) lo st S k n) : V X pc lo (.int y :: .int x :: st) S k n := by
  intro L ad H locs ls hM hlo hst hls
  exact lv_icmp_le E.ex E.by hd ht (fun q => h1 q L ad H locs ls hM hlo hst.t.t hls) (fun q => h2 q L ad H locs ls hM hlo hst.t.t hls)
theorem V_goto {off : Int} {tgt : Nat} (E : En X own cc nL d kc nc) (hd : decode cc pc = .ok (.goto off, 3)) (ht : (pc : Int) + off = (tgt : Int)) (h : V X tgt lo st S k n) : V X pc lo st S k n := by
  intro L ad H locs ls hM hlo hst hls
  exact lv_goto E.ex E.by hd ht (h L ad H locs ls hM hlo hst hls)
theorem V_ifnull {g : Nat} {off : Int} (E : En X own cc nL d kc nc) (hd : decode cc pc = .ok (.ifnull off, 3)) (h : V X (pc + 3) lo st S k n) : V X pc lo (.ref g :: st) S k n := by
  intro L ad H locs ls hM hlo hst hls
  exact lv_ifnull E.ex E.by hd (h L ad H locs ls hM hlo hst.t hls)
theorem V_ifnonnull {g : Nat} {off : Int} {tgt : Nat} (E : En X own cc nL d kc nc) (hd : decode cc pc = .ok (.ifnonnull off, 3)) (ht : (pc : Int) + off = (tgt : Int)) (h : V X tgt lo st S k n) : V X pc lo (.ref g :: st) S k n := by
  intro L ad H locs ls hM hlo hst hls
  exact lv_ifnonnull E.ex E.by hd ht (h L ad H locs ls hM hlo hst.t hls)
theorem V_ifnullN {off : Int} {tgt : Nat} (E : En X own cc nL d kc nc) (hd : decode cc pc = .ok (.ifnull off, 3)) (ht : (pc : Int) + off = (tgt : Int)) (h : V X tgt lo st S k n) : V X pc lo (.null :: st) S k n := by
  intro L ad H locs ls hM hlo hst hls
  exact lv_ifnullN E.ex E.by hd ht (h L ad H locs ls hM hlo hst.t hls)
theorem V_ifnonnullN {off : Int} (E : En X own cc nL d kc nc) (hd : decode cc pc = .ok (.ifnonnull off, 3)) (h : V X (pc + 3) lo st S k n) : V X pc lo (.null :: st) S k n := by
  intro L ad H locs ls hM hlo hst hls
  exact lv_ifnonnullN E.ex E.by hd (h L ad H locs ls hM hlo hst.t hls)
theorem V_tableOut {dflt a b : Int} {offs : Array Int} {len : Nat} {x : Int32} {tgt : Nat} (E : En X own cc nL d kc nc) (hd : decode cc pc = .ok (.tableswitch dflt a b offs, len)) (hx : x.toInt < a ∨ b < x.toInt) (ht : (pc : Int) + dflt = (tgt : Int)) (h : V X tgt lo st S k n) : V X pc lo (.int x :: st) S k n := by
  intro L ad H locs ls hM hlo hst hls
  exact lv_tableOut E.ex E.by hd hx ht (h L ad H locs ls hM hlo hst.t hls)
theorem V_tableIn {dflt a b : Int} {offs : Array Int} {len : Nat} {x : Int32} {off : Int} {tgt : Nat} (E : En X own cc nL d kc nc) (hd : decode cc pc = .ok (.tableswitch dflt a b offs, len)) (h1 : ¬ x.toInt < a) (h2 : ¬ b < x.toInt) (ho : offs[(x.toInt - a).toNat]? = some off) (ht : (pc : Int) + off = (tgt : Int)) (h : V X tgt lo st S k n) : V X pc lo (.int x :: st) S k n := by
  intro L ad H locs ls hM hlo hst hls
  exact lv_tableIn E.ex E.by hd h1 h2 ho ht (h L ad H locs ls hM hlo hst.t hls)
theorem V_lookup {dflt : Int} {ps : Array (Int × Int)} {len : Nat} {x : Int32} {off : Int} {tgt : Nat} (E : En X own cc nL d kc nc) (hd : decode cc pc = .ok (.lookupswitch dflt ps, len)) (hp : (ps.toList.zip (ps.toList.drop 1)).all (fun (a, next) => a.1 < next.1) = true) (ho : Op.lookupswitch.offset ps.toList dflt x.toInt = off) (ht : (pc : Int) + off = (tgt : Int)) (h : V X tgt lo st S k n) : V X pc lo (.int x :: st) S k n := by
  intro L ad H locs ls hM hlo hst hls
  exact lv_lookup E.ex E.by hd hp ho ht (h L ad H locs ls hM hlo hst.t hls)
/-- a value of one slot goes into place i: the place before holds no long -/
def l_ok1 (lo : List (Option Value)) (i : Nat) : Bool := match i with
  | 0 => true
  | j + 1 => match lo[j]? with
    | some (some v) => v.category != 2
    | _ => true
def l_al (ad : Nat → Nat) (lo : List (Option Value)) : List (Nat × Value) := (List.range lo.length).filterMap (fun i => match lo[i]? with | some (some v) => some (i, gv ad v) | _ => none)
theorem l_al_mem {ad : Nat → Nat} {lo : List (Option Value)} {i : Nat} {v : Value} (h : lo[i]? = some (some v)) : (i, gv ad v) ∈ l_al ad lo := by
  refine List.mem_filterMap.mpr ⟨i, List.mem_range.mpr (List.getElem?_eq_some_iff.mp h).1, ?_⟩
  simp [h]
theorem l_al_has {nL : Nat} {ls : Array Slot} {ad : Nat → Nat} {lo : List (Option Value)} (h : gls nL ls ad lo) : lv_has ls nL (l_al ad lo) := by
  refine ⟨h.1, h.2.1, fun q hq => ?_⟩
  obtain ⟨i, -, hi⟩ := List.mem_filterMap.mp hq
  cases hv : lo[i]? with
  | none => simp [hv] at hi
  | some o =>
    cases o with
    | none => simp [hv] at hi
    | some v =>
      simp [hv] at hi
      rw [← hi]
      exact h.2.2 i v hv
theorem gls.set1 {nL : Nat} {ls' : Array Slot} {ad : Nat → Nat} {lo : List (Option Value)} {i : Nat} {v : Value} (hq : l_ok1 lo i = true) (h : lv_has ls' nL ((i, gv ad v) :: (l_al ad lo).filter (fun q => !(q.1 == i) && !(q.1 + 1 == i && q.2.category == 2)))) : gls nL ls' ad (lo.set i (some v)) := by
  refine ⟨h.1, h.2.1, fun j w hw => ?_⟩
  by_cases e : i = j
  · subst e
    have hl : i < lo.length := by
      have := (List.getElem?_eq_some_iff.mp hw).1
      simpa using this
    rw [List.getElem?_set_self hl] at hw
    cases hw
    exact h.2.2 (i, gv ad v) List.mem_cons_self
  · rw [List.getElem?_set_ne e] at hw
    refine h.2.2 (j, gv ad w) (List.mem_cons_of_mem _ (List.mem_filter.mpr ⟨l_al_mem hw, ?_⟩))
    have h2 : ¬ (j + 1 = i ∧ w.category = 2) := by
      rintro ⟨e1, e2⟩
      subst e1
      simp [l_ok1, hw, e2] at hq
    have h1 : ¬ j = i := fun q => e q.symm
    simp only [gv_cat, Bool.and_eq_true, Bool.not_eq_true', beq_eq_false_iff_ne, ne_eq, Bool.and_eq_false_iff]
    refine ⟨h1, ?_⟩
    by_cases e1 : j + 1 = i
    · exact Or.inr (fun q => h2 ⟨e1, q⟩)
    · exact Or.inl e1
theorem gls.set2 {nL : Nat} {ls' : Array Slot} {ad : Nat → Nat} {lo : List (Option Value)} {i : Nat} {v : Value} (hq : l_ok1 lo i = true) (h : lv_has ls' nL ((i, gv ad v) :: (l_al ad lo).filter (fun q => !(q.1 == i) && (!(q.1 == i + 1) && !(q.1 + 1 == i && q.2.category == 2))))) : gls nL ls' ad ((lo.set i (some v)).set (i + 1) none) := by
  refine ⟨h.1, h.2.1, fun j w hw => ?_⟩
  by_cases e2 : i + 1 = j
  · subst e2
    rw [List.getElem?_set] at hw
    simp at hw
  rw [List.getElem?_set_ne e2] at hw
  by_cases e : i = j
  · subst e
    have hl : i < lo.length := by
      have := (List.getElem?_eq_some_iff.mp hw).1
      simpa using this
    rw [List.getElem?_set_self hl] at hw
    cases hw
    exact h.2.2 (i, gv ad v) List.mem_cons_self
  · rw [List.getElem?_set_ne e] at hw
    refine h.2.2 (j, gv ad w) (List.mem_cons_of_mem _ (List.mem_filter.mpr ⟨l_al_mem hw, ?_⟩))
    have h2 : ¬ (j + 1 = i ∧ w.category = 2) := by
      rintro ⟨e1, e3⟩
      subst e1
      simp [l_ok1, hw, e3] at hq
    have h1 : ¬ j = i := fun q => e q.symm
    have h3 : ¬ j = i + 1 := fun q => e2 q.symm
    simp only [gv_cat, Bool.and_eq_true, Bool.not_eq_true', beq_eq_false_iff_ne, ne_eq, Bool.and_eq_false_iff]
    refine ⟨h1, h3, ?_⟩
    by_cases e1 : j + 1 = i
    · exact Or.inr (fun q => h2 ⟨e1, q⟩)
    · exact Or.inl e1
theorem V_istore_n {q : Fin 4} {x : Int32} (E : En X own cc nL d kc nc) (hd : decode cc pc = .ok (.istore_n q, 1)) (hn : (q : Nat) < nL) (hq : l_ok1 lo q = true) (h : V X (pc + 1) (lo.set q (some (.int x))) st S k n) : V X pc lo (.int x :: st) S k n := by
  intro L ad H locs ls hM hlo hst hls
  exact lv_istore_n E.ex E.by hd rfl (l_al_has hls) (by rw [E.ml]; exact hn) rfl (fun ls' hl' => h L ad H locs ls' hM (hlo.set trivial) hst.t (gls.set1 (v := .int x) hq hl'))
theorem V_istore {i : Nat} {x : Int32} (E : En X own cc nL d kc nc) (hd : decode cc pc = .ok (.istore i, 2)) (hn : (i : Nat) < nL) (hq : l_ok1 lo i = true) (h : V X (pc + 2) (lo.set i (some (.int x))) st S k n) : V X pc lo (.int x :: st) S k n := by
  intro L ad H locs ls hM hlo hst hls
  exact lv_istore E.ex E.by hd (l_al_has hls) (by rw [E.ml]; exact hn) rfl (fun ls' hl' => h L ad H locs ls' hM (hlo.set trivial) hst.t (gls.set1 (v := .int x) hq hl'))
theorem V_lstore_n {q : Fin 4} {x : Int64} (E : En X own cc nL d kc nc) (hd : decode cc pc = .ok (.lstore_n q, 1)) (hn : (q : Nat) + 1 < nL) (hq : l_ok1 lo q = true) (h : V X (pc + 1) ((lo.set q (some (.long x))).set (q + 1) none) st S k n) : V X pc lo (.long x :: st) S k n := by
  intro L ad H locs ls hM hlo hst hls
  exact lv_lstore_n E.ex E.by hd rfl (l_al_has hls) (by rw [E.ml]; exact hn) rfl (fun ls' hl' => h L ad H locs ls' hM ((okl.set (v := .long x) hlo trivial).setN) hst.t (gls.set2 (v := .long x) hq hl'))
theorem V_lstore {i : Nat} {x : Int64} (E : En X own cc nL d kc nc) (hd : decode cc pc = .ok (.lstore i, 2)) (hn : (i : Nat) + 1 < nL) (hq : l_ok1 lo i = true) (h : V X (pc + 2) ((lo.set i (some (.long x))).set (i + 1) none) st S k n) : V X pc lo (.long x :: st) S k n := by
  intro L ad H locs ls hM hlo hst hls
  exact lv_lstore E.ex E.by hd (l_al_has hls) (by rw [E.ml]; exact hn) rfl (fun ls' hl' => h L ad H locs ls' hM ((okl.set (v := .long x) hlo trivial).setN) hst.t (gls.set2 (v := .long x) hq hl'))
theorem V_astore_n {q : Fin 4} {x : Nat} (E : En X own cc nL d kc nc) (hd : decode cc pc = .ok (.astore_n q, 1)) (hn : (q : Nat) < nL) (hq : l_ok1 lo q = true) (h : V X (pc + 1) (lo.set q (some (.ref x))) st S k n) : V X pc lo (.ref x :: st) S k n := by
  intro L ad H locs ls hM hlo hst hls
  exact lv_astore_n E.ex E.by hd rfl (l_al_has hls) (by rw [E.ml]; exact hn) rfl (fun ls' hl' => h L ad H locs ls' hM (hlo.set hst.h) hst.t (gls.set1 (v := .ref x) hq hl'))
theorem V_astore {i : Nat} {x : Nat} (E : En X own cc nL d kc nc) (hd : decode cc pc = .ok (.astore i, 2)) (hn : (i : Nat) < nL) (hq : l_ok1 lo i = true) (h : V X (pc + 2) (lo.set i (some (.ref x))) st S k n) : V X pc lo (.ref x :: st) S k n := by
  intro L ad H locs ls hM hlo hst hls
  exact lv_astore E.ex E.by hd (l_al_has hls) (by rw [E.ml]; exact hn) rfl (fun ls' hl' => h L ad H locs ls' hM (hlo.set hst.h) hst.t (gls.set1 (v := .ref x) hq hl'))
theorem V_astore_nN {q : Fin 4} (E : En X own cc nL d kc nc) (hd : decode cc pc = .ok (.astore_n q, 1)) (hn : (q : Nat) < nL) (hq : l_ok1 lo q = true) (h : V X (pc + 1) (lo.set q (some (.null))) st S k n) : V X pc lo (.null :: st) S k n := by
  intro L ad H locs ls hM hlo hst hls
  exact lv_astore_nN E.ex E.by hd rfl (l_al_has hls) (by rw [E.ml]; exact hn) rfl (fun ls' hl' => h L ad H locs ls' hM (hlo.set trivial) hst.t (gls.set1 (v := .null) hq hl'))
theorem V_astoreN {i : Nat} (E : En X own cc nL d kc nc) (hd : decode cc pc = .ok (.astore i, 2)) (hn : (i : Nat) < nL) (hq : l_ok1 lo i = true) (h : V X (pc + 2) (lo.set i (some (.null))) st S k n) : V X pc lo (.null :: st) S k n := by
  intro L ad H locs ls hM hlo hst hls
  exact lv_astoreN E.ex E.by hd (l_al_has hls) (by rw [E.ml]; exact hn) rfl (fun ls' hl' => h L ad H locs ls' hM (hlo.set trivial) hst.t (gls.set1 (v := .null) hq hl'))
theorem V_iinc {i : Nat} {z : Int} {x v : Int32} (E : En X own cc nL d kc nc) (hd : decode cc pc = .ok (.iinc i z, 3)) (hl : lo[i]? = some (some (.int x))) (hv : x + Int32.ofInt z = v) (hn : i < nL) (hq : l_ok1 lo i = true) (h : V X (pc + 3) (lo.set i (some (.int v))) st S k n) : V X pc lo st S k n := by
  intro L ad H locs ls hM hlo hst hls
  obtain ⟨j, hj⟩ := List.getElem?_of_mem (l_al_mem (ad := ad) hl)
  exact lv_iinc E.ex E.by hd (l_al_has hls) hj hv (by rw [E.ml]; exact hn) rfl (fun ls' hl' => h L ad H locs ls' hM (hlo.set trivial) hst (gls.set1 (v := .int v) hq hl'))
/-- names for what stands on the stack -/
theorem V_topi {x : Int32} (h : ∀ y : Int32, y = x → V X pc lo (.int y :: st) S k n) : V X pc lo (.int x :: st) S k n := h x rfl
theorem V_topl {x : Int64} (h : ∀ y : Int64, y = x → V X pc lo (.long y :: st) S k n) : V X pc lo (.long x :: st) S k n := h x rfl
theorem V_wide {k' n' : Nat} (hk : k ≤ k') (hn : n ≤ n') (h : V X pc lo st S k' n') : V X pc lo st S k n := by
  intro L ad H locs ls hM hlo hst hls
  exact W.widen hk hn (h L ad H locs ls hM hlo hst hls)
/-- fewer locals are known -/
theorem V_less {lo' : List (Option Value)} (hl : ∀ (i : Nat) (v : Value), lo'[i]? = some (some v) → lo[i]? = some (some v)) (h : V X pc lo' st S k n) : V X pc lo st S k n := by
  intro L ad H locs ls hM hlo hst hls
  refine h L ad H locs ls hM (fun v hv => ?_) hst ⟨hls.1, hls.2.1, fun i v hv => hls.2.2 i v (hl i v hv)⟩
  obtain ⟨i, hi⟩ := List.getElem?_of_mem hv
  exact hlo v (List.mem_of_getElem? (hl i v hi))
/-- the ends -/
theorem V_iret {post : Option Value → GS → Prop} {ty : FieldType} {v : Int32} (E : En X own cc nL d kc nc) (R : Rt X (some ty) post) (hd : decode cc pc = .ok (.ireturn, 1)) (hv : narrow ty (.int v) = .int v) (hk : k ≤ kc) (hn : n ≤ nc) (hp : post (some (.int v)) S) : V X pc lo [.int v] S k n := by
  intro L ad H locs ls hM hlo hst hls
  obtain ⟨h1, h2, hP, hD, hS⟩ := hM
  refine W.widen (k := (x_R X).cells) (n := (x_R X).slots) (by rw [E.ce]; exact hk) (by rw [E.sl]; exact hn) ?_
  rw [R.2.2]
  exact W.zret E.ex E.by R.1 hv (fun t ht hW => ⟨⟨some (.int v), S, L, ad, rfl, hp, h1, hst, h2, by rw [ht]; exact hP, hD⟩, hS.F ht⟩) hS.2.2 hd R.2.1
theorem V_lret {post : Option Value → GS → Prop} {v : Int64} (E : En X own cc nL d kc nc) (R : Rt X (some .long) post) (hd : decode cc pc = .ok (.lreturn, 1)) (hk : k ≤ kc) (hn : n ≤ nc) (hp : post (some (.long v)) S) : V X pc lo [.long v] S k n := by
  intro L ad H locs ls hM hlo hst hls
  obtain ⟨h1, h2, hP, hD, hS⟩ := hM
  refine W.widen (k := (x_R X).cells) (n := (x_R X).slots) (by rw [E.ce]; exact hk) (by rw [E.sl]; exact hn) ?_
  rw [R.2.2]
  exact W.lret E.ex E.by R.1 (fun t ht hW => ⟨⟨some (.long v), S, L, ad, rfl, hp, h1, hst, h2, by rw [ht]; exact hP, hD⟩, hS.F ht⟩) hS.2.2 hd R.2.1
theorem V_vret {post : Option Value → GS → Prop} (E : En X own cc nL d kc nc) (R : Rt X none post) (hd : decode cc pc = .ok (.return_, 1)) (hk : k ≤ kc) (hn : n ≤ nc) (hp : post none S) : V X pc lo [] S k n := by
  intro L ad H locs ls hM hlo hst hls
  obtain ⟨h1, h2, hP, hD, hS⟩ := hM
  refine W.widen (k := (x_R X).cells) (n := (x_R X).slots) (by rw [E.ce]; exact hk) (by rw [E.sl]; exact hn) ?_
  rw [R.2.2]
  exact W.vret E.ex E.by R.1 (fun t ht hW => ⟨⟨none, S, L, ad, rfl, hp, h1, oks.nil, h2, by rw [ht]; exact hP, hD⟩, hS.F ht⟩) hS.2.2 hd R.2.1
theorem V_aret {post : Option Value → GS → Prop} {rt : FieldType} {r : Option Nat} (E : En X own cc nL d kc nc) (R : Rt X (some rt) post) (hrt : (∃ n, rt = .object n) ∨ ∃ t, rt = .array t) (hd : decode cc pc = .ok (.areturn, 1)) (hk : k ≤ kc) (hn : n ≤ nc) (hp : post (some (va_rf r)) S) : V X pc lo [va_rf r] S k n := by
  intro L ad H locs ls hM hlo hst hls
  obtain ⟨h1, h2, hP, hD, hS⟩ := hM
  refine W.widen (k := (x_R X).cells) (n := (x_R X).slots) (by rw [E.ce]; exact hk) (by rw [E.sl]; exact hn) ?_
  rw [R.2.2]
  refine W.aret (v := gv ad (va_rf r)) E.ex E.by R.1 hrt ?_ (fun t ht hW => ⟨⟨some (va_rf r), S, L, ad, rfl, hp, h1, hst, h2, by rw [ht]; exact hP, hD⟩, hS.F ht⟩) hS.2.2 hd R.2.1
  cases r with
  | none => exact Or.inl rfl
  | some g => exact Or.inr ⟨ad g, rfl⟩
end GR
