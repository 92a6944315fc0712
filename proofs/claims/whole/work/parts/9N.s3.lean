/-! ===== the law: the calls on the text ===== -/
section
variable {X : CX} {b N i k n : Nat} {xs : Nat → Int32} {S : GS}
theorem lc_feed (E : En X RL cL_law 4 2048 600000 7302249) (hS : SC X b N xs) (hN : N ≤ 3072) (hi : i + 6 ≤ N) (ih : LN X i) (h : LI i S k n) : V X 445 [some (.ref 999), some (.ref 200), some (.ref 0), some (.int (nI i))] [] S k n := by
  obtain ⟨A, T, B, J, L, Q, td, bo, pd, hM, hY, hO, ht, hk, hn⟩ := h
  have hen := hO.en
  have hrm := gn_room (show en L ≤ 102400 by omega)
  have hTn := hO.2.1.1
  have hRn := hO.2.2.2.2.1.1
  refine V_aload_n E dL_law_445 rfl ?_
  refine V_aload_n E dL_law_446 rfl ?_
  refine V_iload_n E dL_law_447 rfl ?_
  refine V_iconst (v := 1) E dL_law_448 (by decide) ?_
  refine V_iadd E dL_law_449 ?_
  refine V_sld (j := (i + 1)) E hS dL_law_450 (ni_add (a := i) (b := 1) (@rfl _ (nI (i))) (rfl : (1 : Int32) = nI 1)) (by omega) (by omega) ?_
  refine V_aload_n E dL_law_451 rfl ?_
  refine V_iload_n E dL_law_452 rfl ?_
  refine V_iconst (v := 2) E dL_law_453 (by decide) ?_
  refine V_iadd E dL_law_454 ?_
  refine V_sld (j := (i + 2)) E hS dL_law_455 (ni_add (a := i) (b := 2) (@rfl _ (nI (i))) (rfl : (2 : Int32) = nI 2)) (by omega) (by omega) ?_
  refine V_aload_n E dL_law_456 rfl ?_
  refine V_iload_n E dL_law_457 rfl ?_
  refine V_iconst (v := 3) E dL_law_458 (by decide) ?_
  refine V_iadd E dL_law_459 ?_
  refine V_sld (j := (i + 3)) E hS dL_law_460 (ni_add (a := i) (b := 3) (@rfl _ (nI (i))) (rfl : (3 : Int32) = nI 3)) (by omega) (by omega) ?_
  refine V_aload_n E dL_law_461 rfl ?_
  refine V_iload_n E dL_law_462 rfl ?_
  refine V_iconst (v := 4) E dL_law_463 (by decide) ?_
  refine V_iadd E dL_law_464 ?_
  refine V_sld (j := (i + 4)) E hS dL_law_465 (ni_add (a := i) (b := 4) (@rfl _ (nI (i))) (rfl : (4 : Int32) = nI 4)) (by omega) (by omega) ?_
  refine V_aload_n E dL_law_466 rfl ?_
  refine V_iload_n E dL_law_467 rfl ?_
  refine V_iconst (v := 5) E dL_law_468 (by decide) ?_
  refine V_iadd E dL_law_469 ?_
  refine V_sld (j := (i + 5)) E hS dL_law_470 (ni_add (a := i) (b := 5) (@rfl _ (nI (i))) (rfl : (5 : Int32) = nI 5)) (by omega) (by omega) ?_
  refine V_callV E (cy_feed (x_l X) 0 S T hO.2.1 hY.1 hY.2.2.1 (xs (i + 1)) (xs (i + 2)) (xs (i + 3)) (xs (i + 4)) (xs (i + 5))) ml_L_47 mv_X10_feed (hY.1.k 200 11 rfl (by decide)) dL_law_471 rfl (by simp [Value.category]) (by omega) (by omega) (by omega) (fun r S2 hp => ?_)
  rcases hp with ⟨hP, rfl, f2, hS2, hf2⟩ | ⟨hP, rfl, hS2⟩
  · have hx2 := YTx.of (S := S) hf2
    rw [← hS2] at hx2
    obtain ⟨hY2, fY⟩ := sy_txt (S2 := S2) hY hO (by rw [hS2]; exact f_tst) (by rw [hS2]; exact hY.1) hx2
    have hM2 := hM.fr fY
    refine V_aload_n E dL_law_474 rfl ?_
    refine V_aload_n E dL_law_475 rfl ?_
    refine V_iload_n E dL_law_476 rfl ?_
    refine V_iconst (v := 1) E dL_law_477 (by decide) ?_
    refine V_iadd E dL_law_478 ?_
    refine V_sld (j := (i + 1)) E hS dL_law_479 (ni_add (a := i) (b := 1) (@rfl _ (nI (i))) (rfl : (1 : Int32) = nI 1)) (by omega) (by omega) ?_
    refine V_aload_n E dL_law_480 rfl ?_
    refine V_iload_n E dL_law_481 rfl ?_
    refine V_iconst (v := 2) E dL_law_482 (by decide) ?_
    refine V_iadd E dL_law_483 ?_
    refine V_sld (j := (i + 2)) E hS dL_law_484 (ni_add (a := i) (b := 2) (@rfl _ (nI (i))) (rfl : (2 : Int32) = nI 2)) (by omega) (by omega) ?_
    refine V_aload_n E dL_law_485 rfl ?_
    refine V_iload_n E dL_law_486 rfl ?_
    refine V_iconst (v := 3) E dL_law_487 (by decide) ?_
    refine V_iadd E dL_law_488 ?_
    refine V_sld (j := (i + 3)) E hS dL_law_489 (ni_add (a := i) (b := 3) (@rfl _ (nI (i))) (rfl : (3 : Int32) = nI 3)) (by omega) (by omega) ?_
    refine V_aload_n E dL_law_490 rfl ?_
    refine V_iload_n E dL_law_491 rfl ?_
    refine V_iconst (v := 4) E dL_law_492 (by decide) ?_
    refine V_iadd E dL_law_493 ?_
    refine V_sld (j := (i + 4)) E hS dL_law_494 (ni_add (a := i) (b := 4) (@rfl _ (nI (i))) (rfl : (4 : Int32) = nI 4)) (by omega) (by omega) ?_
    refine V_aload_n E dL_law_495 rfl ?_
    refine V_iload_n E dL_law_496 rfl ?_
    refine V_iconst (v := 5) E dL_law_497 (by decide) ?_
    refine V_iadd E dL_law_498 ?_
    refine V_sld (j := (i + 5)) E hS dL_law_499 (ni_add (a := i) (b := 5) (@rfl _ (nI (i))) (rfl : (5 : Int32) = nI 5)) (by omega) (by omega) ?_
    refine V_callV E (cm_feed (x_l X) 0 _ T hO.2.1 hM2.1 hM2.2.2.1 (xs (i + 1)) (xs (i + 2)) (xs (i + 3)) (xs (i + 4)) (xs (i + 5))) ml_L_51 mv_X11_feed hM2.1.o dL_law_500 rfl (by simp [Value.category]) (by omega) (by omega) (by omega) (fun r S3 hp => ?_)
    rcases hp with ⟨-, rfl, f3, hS3, hf3⟩ | ⟨hP3, -, -⟩
    · have hx3 := MTx.of (S := S2) hf3
      rw [← hS3] at hx3
      obtain ⟨hM3, fM⟩ := st_txt (S2 := S3) hM2 (by rw [hS3]; exact f_tsm) hx3
      have hO3 := so_txt hO (TOK.feed hO.2.1 (fby_lt _ _ _ _ _) hP)
      have hY3 := hY2.fr hO3.1.1 hO3.2.2.1.1 fM
      refine V_icmp_eq (tgt := 1008) E dL_law_503 (by decide) (fun _ => ?_) (fun hx => absurd hx (fun q => q rfl))
      exact ih _ _ _ ⟨_, _, _, _, _, _, _, _, _, hM3, hY3, hO3, by omega, by omega, by omega⟩
    · exact absurd hP hP3
  · obtain rfl := hS2.symm
    have hM2 := hM
    have hY2 := hY
    refine V_aload_n E dL_law_474 rfl ?_
    refine V_aload_n E dL_law_475 rfl ?_
    refine V_iload_n E dL_law_476 rfl ?_
    refine V_iconst (v := 1) E dL_law_477 (by decide) ?_
    refine V_iadd E dL_law_478 ?_
    refine V_sld (j := (i + 1)) E hS dL_law_479 (ni_add (a := i) (b := 1) (@rfl _ (nI (i))) (rfl : (1 : Int32) = nI 1)) (by omega) (by omega) ?_
    refine V_aload_n E dL_law_480 rfl ?_
    refine V_iload_n E dL_law_481 rfl ?_
    refine V_iconst (v := 2) E dL_law_482 (by decide) ?_
    refine V_iadd E dL_law_483 ?_
    refine V_sld (j := (i + 2)) E hS dL_law_484 (ni_add (a := i) (b := 2) (@rfl _ (nI (i))) (rfl : (2 : Int32) = nI 2)) (by omega) (by omega) ?_
    refine V_aload_n E dL_law_485 rfl ?_
    refine V_iload_n E dL_law_486 rfl ?_
    refine V_iconst (v := 3) E dL_law_487 (by decide) ?_
    refine V_iadd E dL_law_488 ?_
    refine V_sld (j := (i + 3)) E hS dL_law_489 (ni_add (a := i) (b := 3) (@rfl _ (nI (i))) (rfl : (3 : Int32) = nI 3)) (by omega) (by omega) ?_
    refine V_aload_n E dL_law_490 rfl ?_
    refine V_iload_n E dL_law_491 rfl ?_
    refine V_iconst (v := 4) E dL_law_492 (by decide) ?_
    refine V_iadd E dL_law_493 ?_
    refine V_sld (j := (i + 4)) E hS dL_law_494 (ni_add (a := i) (b := 4) (@rfl _ (nI (i))) (rfl : (4 : Int32) = nI 4)) (by omega) (by omega) ?_
    refine V_aload_n E dL_law_495 rfl ?_
    refine V_iload_n E dL_law_496 rfl ?_
    refine V_iconst (v := 5) E dL_law_497 (by decide) ?_
    refine V_iadd E dL_law_498 ?_
    refine V_sld (j := (i + 5)) E hS dL_law_499 (ni_add (a := i) (b := 5) (@rfl _ (nI (i))) (rfl : (5 : Int32) = nI 5)) (by omega) (by omega) ?_
    refine V_callV E (cm_feed (x_l X) 0 _ T hO.2.1 hM2.1 hM2.2.2.1 (xs (i + 1)) (xs (i + 2)) (xs (i + 3)) (xs (i + 4)) (xs (i + 5))) ml_L_51 mv_X11_feed hM2.1.o dL_law_500 rfl (by simp [Value.category]) (by omega) (by omega) (by omega) (fun r S3 hp => ?_)
    rcases hp with ⟨hP3, -, -⟩ | ⟨-, rfl, hS3⟩
    · exact absurd hP3 hP
    · obtain rfl := hS3.symm
      have hM3 := hM2
      have hY3 := hY2
      have hO3 := hO
      refine V_icmp_eq (tgt := 1008) E dL_law_503 (by decide) (fun _ => ?_) (fun hx => absurd hx (fun q => q rfl))
      exact ih _ _ _ ⟨_, _, _, _, _, _, _, _, _, hM3, hY3, hO3, by omega, by omega, by omega⟩

theorem lc_vote (E : En X RL cL_law 4 2048 600000 7302249) (hS : SC X b N xs) (hN : N ≤ 3072) (hi : i + 6 ≤ N) (ih : LN X i) (h : LI i S k n) : V X 508 [some (.ref 999), some (.ref 200), some (.ref 0), some (.int (nI i))] [] S k n := by
  obtain ⟨A, T, B, J, L, Q, td, bo, pd, hM, hY, hO, ht, hk, hn⟩ := h
  have hen := hO.en
  have hrm := gn_room (show en L ≤ 102400 by omega)
  have hTn := hO.2.1.1
  have hRn := hO.2.2.2.2.1.1
  refine V_aload_n E dL_law_508 rfl ?_
  refine V_aload_n E dL_law_509 rfl ?_
  refine V_iload_n E dL_law_510 rfl ?_
  refine V_iconst (v := 1) E dL_law_511 (by decide) ?_
  refine V_iadd E dL_law_512 ?_
  refine V_sld (j := (i + 1)) E hS dL_law_513 (ni_add (a := i) (b := 1) (@rfl _ (nI (i))) (rfl : (1 : Int32) = nI 1)) (by omega) (by omega) ?_
  refine V_callV E (cy_vote (x_l X) 0 S T hO.2.1 hY.1 hY.2.2.1 B hO.2.2.1 hY.2.2.2.1 (xs (i + 1))) ml_L_52 mv_X10_vote (hY.1.k 200 11 rfl (by decide)) dL_law_514 rfl (by simp [Value.category]) (by omega) (by omega) (by omega) (fun r S2 hp => ?_)
  rcases hp with ⟨hP, rfl, hS2⟩ | ⟨hP, rfl, hS2⟩
  · have hxx := wi_x hP.1.1 (Int.le_refl 0)
    obtain ⟨hY2, fY⟩ := sy_vote (x := tn (xs (i + 1))) hY hO hP.2
    rw [← hxx, ← hS2] at hY2 fY
    have hM2 := hM.fr fY
    refine V_aload_n E dL_law_517 rfl ?_
    refine V_aload_n E dL_law_518 rfl ?_
    refine V_iload_n E dL_law_519 rfl ?_
    refine V_iconst (v := 1) E dL_law_520 (by decide) ?_
    refine V_iadd E dL_law_521 ?_
    refine V_sld (j := (i + 1)) E hS dL_law_522 (ni_add (a := i) (b := 1) (@rfl _ (nI (i))) (rfl : (1 : Int32) = nI 1)) (by omega) (by omega) ?_
    refine V_callV E (cm_vote (x_l X) 0 _ T hO.2.1 hM2.1 hM2.2.2.1 B hO.2.2.1 hM2.2.2.2.1 (xs (i + 1))) ml_L_55 mv_X11_vote hM2.1.o dL_law_523 rfl (by simp [Value.category]) (by omega) (by omega) (by omega) (fun r S3 hp => ?_)
    rcases hp with ⟨-, rfl, a3, w3, o3, q3, f3, c3, hS3, hc3, hv3⟩ | ⟨hP3, -, -⟩
    · obtain ⟨hM3, fM⟩ := st_vote (a := a3) (w := w3) (o := o3) (x := tn (xs (i + 1))) hM2 hc3 hv3
      rw [← hxx, ← hS3] at hM3 fM
      have hO3 := so_vote hO hP.2 (wi_le (m := 10000) hP.1.1)
      have hY3 := hY2.fr hO3.1.1 hO3.2.2.1.1 fM
      refine V_icmp_eq (tgt := 1008) E dL_law_526 (by decide) (fun _ => ?_) (fun hx => absurd hx (fun q => q rfl))
      exact ih _ _ _ ⟨_, _, _, _, _, _, _, _, _, hM3, hY3, hO3, by omega, by omega, by omega⟩
    · exact absurd hP hP3
  · obtain rfl := hS2.symm
    have hM2 := hM
    have hY2 := hY
    refine V_aload_n E dL_law_517 rfl ?_
    refine V_aload_n E dL_law_518 rfl ?_
    refine V_iload_n E dL_law_519 rfl ?_
    refine V_iconst (v := 1) E dL_law_520 (by decide) ?_
    refine V_iadd E dL_law_521 ?_
    refine V_sld (j := (i + 1)) E hS dL_law_522 (ni_add (a := i) (b := 1) (@rfl _ (nI (i))) (rfl : (1 : Int32) = nI 1)) (by omega) (by omega) ?_
    refine V_callV E (cm_vote (x_l X) 0 _ T hO.2.1 hM2.1 hM2.2.2.1 B hO.2.2.1 hM2.2.2.2.1 (xs (i + 1))) ml_L_55 mv_X11_vote hM2.1.o dL_law_523 rfl (by simp [Value.category]) (by omega) (by omega) (by omega) (fun r S3 hp => ?_)
    rcases hp with ⟨hP3, -, -⟩ | ⟨-, rfl, hS3⟩
    · exact absurd hP3 hP
    · obtain ⟨hM3, fM⟩ := st_par0 hM2 hS3
      have hO3 := hO
      have hY3 := hY2.fr hO3.1.1 hO3.2.2.1.1 fM
      refine V_icmp_eq (tgt := 1008) E dL_law_526 (by decide) (fun _ => ?_) (fun hx => absurd hx (fun q => q rfl))
      exact ih _ _ _ ⟨_, _, _, _, _, _, _, _, _, hM3, hY3, hO3, by omega, by omega, by omega⟩

theorem lc_fault (E : En X RL cL_law 4 2048 600000 7302249) (hS : SC X b N xs) (hN : N ≤ 3072) (hi : i + 6 ≤ N) (ih : LN X i) (h : LI i S k n) : V X 531 [some (.ref 999), some (.ref 200), some (.ref 0), some (.int (nI i))] [] S k n := by
  obtain ⟨A, T, B, J, L, Q, td, bo, pd, hM, hY, hO, ht, hk, hn⟩ := h
  have hen := hO.en
  have hrm := gn_room (show en L ≤ 102400 by omega)
  have hTn := hO.2.1.1
  have hRn := hO.2.2.2.2.1.1
  refine V_aload_n E dL_law_531 rfl ?_
  refine V_callV E (cy_fault (x_l X) 0 S T hO.2.1 hY.1 hY.2.2.1) ml_L_56 mv_X10_fault (hY.1.k 200 11 rfl (by decide)) dL_law_532 rfl (by simp [Value.category]) (by omega) (by omega) (by omega) (fun r S2 hp => ?_)
  rcases hp with ⟨rfl, hS2⟩
  · obtain rfl := hS2.symm
    have hM2 := hM
    have hY2 := hY
    refine V_aload_n E dL_law_535 rfl ?_
    refine V_callV E (cm_fault (x_l X) 0 _ T hO.2.1 hM2.1 hM2.2.2.1) ml_L_60 mv_X11_fault hM2.1.o dL_law_536 rfl (by simp [Value.category]) (by omega) (by omega) (by omega) (fun r S3 hp => ?_)
    rcases hp with ⟨rfl, a3, w3, o3, q3, f3, hS3, -⟩
    · obtain ⟨hM3, fM⟩ := st_par (S2 := S3) hM2 (by rw [hS3]; exact f_pst)
      have hO3 := hO
      have hY3 := hY2.fr hO3.1.1 hO3.2.2.1.1 fM
      refine V_icmp_eq (tgt := 1008) E dL_law_539 (by decide) (fun _ => ?_) (fun hx => absurd hx (fun q => q rfl))
      exact ih _ _ _ ⟨_, _, _, _, _, _, _, _, _, hM3, hY3, hO3, by omega, by omega, by omega⟩

theorem lc_end (E : En X RL cL_law 4 2048 600000 7302249) (hS : SC X b N xs) (hN : N ≤ 3072) (hi : i + 6 ≤ N) (ih : LN X i) (h : LI i S k n) : V X 544 [some (.ref 999), some (.ref 200), some (.ref 0), some (.int (nI i))] [] S k n := by
  obtain ⟨A, T, B, J, L, Q, td, bo, pd, hM, hY, hO, ht, hk, hn⟩ := h
  have hen := hO.en
  have hrm := gn_room (show en L ≤ 102400 by omega)
  have hTn := hO.2.1.1
  have hRn := hO.2.2.2.2.1.1
  refine V_aload_n E dL_law_544 rfl ?_
  refine V_aload_n E dL_law_545 rfl ?_
  refine V_iload_n E dL_law_546 rfl ?_
  refine V_iconst (v := 1) E dL_law_547 (by decide) ?_
  refine V_iadd E dL_law_548 ?_
  refine V_sld (j := (i + 1)) E hS dL_law_549 (ni_add (a := i) (b := 1) (@rfl _ (nI (i))) (rfl : (1 : Int32) = nI 1)) (by omega) (by omega) ?_
  refine V_callV E (cy_end (x_l X) 0 S T hO.2.1 hY.1 hY.2.2.1 (xs (i + 1))) ml_L_61 mv_X10_end (hY.1.k 200 11 rfl (by decide)) dL_law_550 rfl (by simp [Value.category]) (by omega) (by omega) (by omega) (fun r S2 hp => ?_)
  rcases hp with ⟨hP, rfl, hS2⟩ | ⟨hP, rfl, hS2⟩
  · have hxx := wi_x hP (Int.le_refl 0)
    have hle := wi_le (m := T.1) hP
    have hx2 := hY.2.2.1.fin hle
    rw [← hxx, ← hS2] at hx2
    obtain ⟨hY2, fY⟩ := sy_txt (S2 := S2) hY hO (by rw [hS2]; exact YSm.I (Or.inl rfl)) (by rw [hS2]; exact hY.1) hx2
    have hM2 := hM.fr fY
    refine V_aload_n E dL_law_553 rfl ?_
    refine V_aload_n E dL_law_554 rfl ?_
    refine V_iload_n E dL_law_555 rfl ?_
    refine V_iconst (v := 1) E dL_law_556 (by decide) ?_
    refine V_iadd E dL_law_557 ?_
    refine V_sld (j := (i + 1)) E hS dL_law_558 (ni_add (a := i) (b := 1) (@rfl _ (nI (i))) (rfl : (1 : Int32) = nI 1)) (by omega) (by omega) ?_
    refine V_callV E (cm_end (x_l X) 0 _ T hO.2.1 hM2.1 hM2.2.2.1 (xs (i + 1))) ml_L_64 mv_X11_end hM2.1.o dL_law_559 rfl (by simp [Value.category]) (by omega) (by omega) (by omega) (fun r S3 hp => ?_)
    rcases hp with ⟨-, rfl, hS3⟩ | ⟨hP3, -, -⟩
    · have hx3 := hM2.2.2.1.fin hle
      rw [← hxx, ← hS3] at hx3
      obtain ⟨hM3, fM⟩ := st_txt (S2 := S3) hM2 (by rw [hS3]; exact MKf.I (by decide)) hx3
      have hO3 := so_txt hO (hO.2.1.fin hle)
      have hY3 := hY2.fr hO3.1.1 hO3.2.2.1.1 fM
      refine V_icmp_eq (tgt := 1008) E dL_law_562 (by decide) (fun _ => ?_) (fun hx => absurd hx (fun q => q rfl))
      exact ih _ _ _ ⟨_, _, _, _, _, _, _, _, _, hM3, hY3, hO3, by omega, by omega, by omega⟩
    · exact absurd hP hP3
  · obtain rfl := hS2.symm
    have hM2 := hM
    have hY2 := hY
    refine V_aload_n E dL_law_553 rfl ?_
    refine V_aload_n E dL_law_554 rfl ?_
    refine V_iload_n E dL_law_555 rfl ?_
    refine V_iconst (v := 1) E dL_law_556 (by decide) ?_
    refine V_iadd E dL_law_557 ?_
    refine V_sld (j := (i + 1)) E hS dL_law_558 (ni_add (a := i) (b := 1) (@rfl _ (nI (i))) (rfl : (1 : Int32) = nI 1)) (by omega) (by omega) ?_
    refine V_callV E (cm_end (x_l X) 0 _ T hO.2.1 hM2.1 hM2.2.2.1 (xs (i + 1))) ml_L_64 mv_X11_end hM2.1.o dL_law_559 rfl (by simp [Value.category]) (by omega) (by omega) (by omega) (fun r S3 hp => ?_)
    rcases hp with ⟨hP3, -, -⟩ | ⟨-, rfl, hS3⟩
    · exact absurd hP3 hP
    · obtain rfl := hS3.symm
      have hM3 := hM2
      have hY3 := hY2
      have hO3 := hO
      refine V_icmp_eq (tgt := 1008) E dL_law_562 (by decide) (fun _ => ?_) (fun hx => absurd hx (fun q => q rfl))
      exact ih _ _ _ ⟨_, _, _, _, _, _, _, _, _, hM3, hY3, hO3, by omega, by omega, by omega⟩

end
