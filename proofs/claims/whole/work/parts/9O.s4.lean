/-! ===== the law: unvote, premium ===== -/
section
variable {X : CX} {b N i k n : Nat} {xs : Nat → Int32} {S : GS}
theorem lc_unvote (E : En X RL cL_law 4 2048 600000 7302249) (hS : SC X b N xs) (hN : N ≤ 3072) (hi : i + 6 ≤ N) (ih : LN X i) (h : LI i S k n) : V X 567 [some (.ref 999), some (.ref 200), some (.ref 0), some (.int (nI i))] [] S k n := by
  obtain ⟨A, T, B, J, L, Q, td, bo, pd, hM, hY, hO, ht, hk, hn⟩ := h
  have hen := hO.en
  have hrm := gn_room (show en L ≤ 102400 by omega)
  have hTn := hO.2.1.1
  have hRn := hO.2.2.2.2.1.1
  by_cases hP : wi_ (xs (i + 1)) 0 ((bn B : Int) - 1) ∧ bG B (tn (xs (i + 1))) = 0
  · have hv := wi_lt hP.1
    have hg1 := gcn_lt hO.2.2.1 hv hP.2
    have hg2 := hO.2.2.2.2.2
    have hen2 : en L + 2000 < 102400 := by omega
    have hu := ufd_en (A := A) (B := aUnv B (tn (xs (i + 1)))) (v := tn (xs (i + 1))) (td := td) (L := L) (R := Q) (rn Q)
    have hrm2 := gn_room (show en (ufd A (aUnv B (tn (xs (i + 1)))) (tn (xs (i + 1))) td L Q (rn Q)).1 ≤ 102400 by omega)
    have m1 := mK_mono hu.1
    have m2 := yK_mono hu.1
    have m3 := mN_mono hu.1
    have m4 := yN_mono hu.1
    refine V_aload_n E dL_law_567 rfl ?_
    refine V_aload_n E dL_law_568 rfl ?_
    refine V_iload_n E dL_law_569 rfl ?_
    refine V_iconst (v := 1) E dL_law_570 (by decide) ?_
    refine V_iadd E dL_law_571 ?_
    refine V_sld (j := (i + 1)) E hS dL_law_572 (ni_add (a := i) (b := 1) (@rfl _ (nI (i))) (rfl : (1 : Int32) = nI 1)) (by omega) (by omega) ?_
    refine V_callV E (cy_unvote (x_l X) 0 S A td hO.1 hY.2.1 B hO.2.2.1 hY.1 hY.2.2.2.1 L hY.2.2.2.2.2.1 hen2 Q hY.2.2.2.2.2.2.1 hO.2.2.2.2.1 td hY.2.2.2.2.2.2.2.1 (xs (i + 1))) ml_L_65 mv_X10_unvote (hY.1.k 200 11 rfl (by decide)) dL_law_573 rfl (by simp [Value.category]) (by omega) (by omega) (by omega) (fun r S2 hp => ?_)
    rcases hp with ⟨-, rfl, hL2, hR2, hf2, hj2⟩ | ⟨hP2, -, -⟩
    · obtain ⟨hY1, fY1⟩ := sy_unv0 hY hO hv
      obtain ⟨hY2, fY2⟩ := YI.prm (pd2 := pd) hY1 (so_unv1 hO hv hP.2) hf2 hL2 hR2 (by rw [hj2]; exact hY.2.2.2.2.2.2.2.2.2)
      have fY := fY1.trans fY2
      have hM2 := hM.fr fY
      refine V_aload_n E dL_law_576 rfl ?_
      refine V_aload_n E dL_law_577 rfl ?_
      refine V_iload_n E dL_law_578 rfl ?_
      refine V_iconst (v := 1) E dL_law_579 (by decide) ?_
      refine V_iadd E dL_law_580 ?_
      refine V_sld (j := (i + 1)) E hS dL_law_581 (ni_add (a := i) (b := 1) (@rfl _ (nI (i))) (rfl : (1 : Int32) = nI 1)) (by omega) (by omega) ?_
      refine V_callV E (cm_unvote (x_l X) 0 _ A td hO.1 hM2.1 B hO.2.2.1 hM2.2.2.2.1 L hM2.2.2.2.2.2.1 hen2 Q hM2.2.2.2.2.2.2.1 hO.2.2.2.2.1 td hM2.2.2.2.2.2.2.2.1 (xs (i + 1))) ml_L_68 mv_X11_unvote hM2.1.o dL_law_582 rfl (by simp [Value.category]) (by omega) (by omega) (by omega) (fun r S3 hp => ?_)
      rcases hp with ⟨-, rfl, hL3, hR3, hf3, hj3⟩ | ⟨hP3, -, -⟩
      · obtain ⟨hM1, fM1⟩ := st_unv0 (v := tn (xs (i + 1))) hM2
        obtain ⟨hM3, fM3⟩ := MI.prm (pd2 := pd) hM1 hf3 hL3 hR3 (by rw [hj3]; exact hM2.2.2.2.2.2.2.2.2.2)
        have fM := fM1.trans fM3
        have hO3 := so_unv hO hv hP.2
        have hY3 := hY2.fr hO3.1.1 hO3.2.2.1.1 fM
        refine V_icmp_eq (tgt := 1008) E dL_law_585 (by decide) (fun _ => ?_) (fun hx => absurd hx (fun q => q rfl))
        exact ih _ _ _ ⟨_, _, _, _, _, _, _, _, _, hM3, hY3, hO3, by omega, by omega, by omega⟩
      · exact absurd hP hP3
    · exact absurd hP hP2
  · refine V_aload_n E dL_law_567 rfl ?_
    refine V_aload_n E dL_law_568 rfl ?_
    refine V_iload_n E dL_law_569 rfl ?_
    refine V_iconst (v := 1) E dL_law_570 (by decide) ?_
    refine V_iadd E dL_law_571 ?_
    refine V_sld (j := (i + 1)) E hS dL_law_572 (ni_add (a := i) (b := 1) (@rfl _ (nI (i))) (rfl : (1 : Int32) = nI 1)) (by omega) (by omega) ?_
    refine V_callV E (cy_unvote0 (x_l X) 0 S A td hO.1 hY.2.1 B hO.2.2.1 hY.1 hY.2.2.2.1 Q hY.2.2.2.2.2.2.1 hO.2.2.2.2.1 td hY.2.2.2.2.2.2.2.1 (xs (i + 1)) hP) ml_L_65 mv_X10_unvote (hY.1.k 200 11 rfl (by decide)) dL_law_573 rfl (by simp [Value.category]) (by omega) (by omega) (by omega) (fun r S2 hp => ?_)
    rcases hp with ⟨rfl, hS2⟩
    · obtain rfl := hS2.symm
      have hM2 := hM
      have hY2 := hY
      refine V_aload_n E dL_law_576 rfl ?_
      refine V_aload_n E dL_law_577 rfl ?_
      refine V_iload_n E dL_law_578 rfl ?_
      refine V_iconst (v := 1) E dL_law_579 (by decide) ?_
      refine V_iadd E dL_law_580 ?_
      refine V_sld (j := (i + 1)) E hS dL_law_581 (ni_add (a := i) (b := 1) (@rfl _ (nI (i))) (rfl : (1 : Int32) = nI 1)) (by omega) (by omega) ?_
      refine V_callV E (cm_unvote0 (x_l X) 0 _ A td hO.1 hM2.1 B hO.2.2.1 hM2.2.2.2.1 Q hM2.2.2.2.2.2.2.1 hO.2.2.2.2.1 td hM2.2.2.2.2.2.2.2.1 (xs (i + 1)) hP) ml_L_68 mv_X11_unvote hM2.1.o dL_law_582 rfl (by simp [Value.category]) (by omega) (by omega) (by omega) (fun r S3 hp => ?_)
      rcases hp with ⟨rfl, hS3⟩
      · obtain rfl := hS3.symm
        have hM3 := hM2
        have hY3 := hY2
        have hO3 := hO
        refine V_icmp_eq (tgt := 1008) E dL_law_585 (by decide) (fun _ => ?_) (fun hx => absurd hx (fun q => q rfl))
        exact ih _ _ _ ⟨_, _, _, _, _, _, _, _, _, hM3, hY3, hO3, by omega, by omega, by omega⟩

theorem lc_premium (E : En X RL cL_law 4 2048 600000 7302249) (hS : SC X b N xs) (hN : N ≤ 3072) (hi : i + 6 ≤ N) (ih : LN X i) (h : LI i S k n) : V X 590 [some (.ref 999), some (.ref 200), some (.ref 0), some (.int (nI i))] [] S k n := by
  obtain ⟨A, T, B, J, L, Q, td, bo, pd, hM, hY, hO, ht, hk, hn⟩ := h
  have hen := hO.en
  have hrm := gn_room (show en L ≤ 102400 by omega)
  have hTn := hO.2.1.1
  have hRn := hO.2.2.2.2.1.1
  by_cases hP : pPrm A Q (xs (i + 1)) (xs (i + 2))
  · have hs := wi_lt hP.1.1.1
    have hc0 := (hO.1.2.2.1 (tn (xs (i + 1))) hs).2.2.2.2.2.2.2.2.2.1 hP.1.2
    have hc1 := wi_1 (a := 1) hP.2.1
    have hu := lfd_le (g := gmN A (tn (xs (i + 1)))) (sh := shr A B (tn (xs (i + 1))) (vG A (tn (xs (i + 1)))) (inF B td) (tn (xs (i + 2)))) (h := fun _ => 0) (fi := 1) (td := td) (x := rn Q) (L := L) 20
    have hrm2 := gn_room (show en (lfd (gmN A (tn (xs (i + 1)))) (shr A B (tn (xs (i + 1))) (vG A (tn (xs (i + 1)))) (inF B td) (tn (xs (i + 2)))) (fun _ => 0) 1 td (rn Q) L 20) ≤ 102400 by omega)
    have m1 := mK_mono hu.1
    have m2 := yK_mono hu.1
    have m3 := mN_mono hu.1
    have m4 := yN_mono hu.1
    refine V_aload_n E dL_law_590 rfl ?_
    refine V_aload_n E dL_law_591 rfl ?_
    refine V_iload_n E dL_law_592 rfl ?_
    refine V_iconst (v := 1) E dL_law_593 (by decide) ?_
    refine V_iadd E dL_law_594 ?_
    refine V_sld (j := (i + 1)) E hS dL_law_595 (ni_add (a := i) (b := 1) (@rfl _ (nI (i))) (rfl : (1 : Int32) = nI 1)) (by omega) (by omega) ?_
    refine V_aload_n E dL_law_596 rfl ?_
    refine V_iload_n E dL_law_597 rfl ?_
    refine V_iconst (v := 2) E dL_law_598 (by decide) ?_
    refine V_iadd E dL_law_599 ?_
    refine V_sld (j := (i + 2)) E hS dL_law_600 (ni_add (a := i) (b := 2) (@rfl _ (nI (i))) (rfl : (2 : Int32) = nI 2)) (by omega) (by omega) ?_
    refine V_callV E (cy_premium (x_l X) 0 S A td hO.1 hY.2.1 B hO.2.2.1 hY.1 hY.2.2.2.1 L hY.2.2.2.2.2.1 (by omega) Q hY.2.2.2.2.2.2.1 hRn td (by omega) pd hY.2.2.2.2.2.2.2.2.2 hY.2.2.2.2.2.2.2.1 (xs (i + 1)) (xs (i + 2))) ml_L_69 mv_X10_premium (hY.1.k 200 11 rfl (by decide)) dL_law_601 rfl (by simp [Value.category]) (by omega) (by omega) (by omega) (fun r S2 hp => ?_)
    rcases hp with ⟨-, rfl, hL2, hR2, hj2, hf2⟩ | ⟨hP2, -, -⟩
    · obtain ⟨hY2, fY⟩ := YI.prm (pd2 := pd + tn (xs (i + 2))) hY hO hf2 hL2 hR2 hj2
      have hM2 := hM.fr fY
      refine V_aload_n E dL_law_604 rfl ?_
      refine V_aload_n E dL_law_605 rfl ?_
      refine V_iload_n E dL_law_606 rfl ?_
      refine V_iconst (v := 1) E dL_law_607 (by decide) ?_
      refine V_iadd E dL_law_608 ?_
      refine V_sld (j := (i + 1)) E hS dL_law_609 (ni_add (a := i) (b := 1) (@rfl _ (nI (i))) (rfl : (1 : Int32) = nI 1)) (by omega) (by omega) ?_
      refine V_aload_n E dL_law_610 rfl ?_
      refine V_iload_n E dL_law_611 rfl ?_
      refine V_iconst (v := 2) E dL_law_612 (by decide) ?_
      refine V_iadd E dL_law_613 ?_
      refine V_sld (j := (i + 2)) E hS dL_law_614 (ni_add (a := i) (b := 2) (@rfl _ (nI (i))) (rfl : (2 : Int32) = nI 2)) (by omega) (by omega) ?_
      refine V_callV E (cm_premium (x_l X) 0 _ A td hO.1 hM2.1 hM2.2.1 B hO.2.2.1 hM2.2.2.2.1 L hM2.2.2.2.2.2.1 (by omega) Q hM2.2.2.2.2.2.2.1 hRn td (by omega) hM2.2.2.2.2.2.2.2.1 pd hM2.2.2.2.2.2.2.2.2.2 (xs (i + 1)) (xs (i + 2))) ml_L_73 mv_X11_premium hM2.1.o dL_law_615 rfl (by simp [Value.category]) (by omega) (by omega) (by omega) (fun r S3 hp => ?_)
      rcases hp with ⟨-, rfl, hL3, hR3, hj3, hf3⟩ | ⟨hP3, -, -⟩
      · obtain ⟨hM3, fM⟩ := MI.prm (pd2 := pd + tn (xs (i + 2))) hM2 hf3 hL3 hR3 hj3
        have hO3 := so_prm (L2 := lfd (gmN A (tn (xs (i + 1)))) (shr A B (tn (xs (i + 1))) (vG A (tn (xs (i + 1)))) (inF B td) (tn (xs (i + 2)))) (fun _ => 0) 1 td (rn Q) L 20) (c := tn (xs (i + 2))) hO hs hc0 (by omega) (by omega) hP.2.2 hu.2
        have hY3 := hY2.fr hO3.1.1 hO3.2.2.1.1 fM
        refine V_icmp_eq (tgt := 1008) E dL_law_618 (by decide) (fun _ => ?_) (fun hx => absurd hx (fun q => q rfl))
        exact ih _ _ _ ⟨_, _, _, _, _, _, _, _, _, hM3, hY3, hO3, by omega, by omega, by omega⟩
      · exact absurd hP hP3
    · exact absurd hP hP2
  · refine V_aload_n E dL_law_590 rfl ?_
    refine V_aload_n E dL_law_591 rfl ?_
    refine V_iload_n E dL_law_592 rfl ?_
    refine V_iconst (v := 1) E dL_law_593 (by decide) ?_
    refine V_iadd E dL_law_594 ?_
    refine V_sld (j := (i + 1)) E hS dL_law_595 (ni_add (a := i) (b := 1) (@rfl _ (nI (i))) (rfl : (1 : Int32) = nI 1)) (by omega) (by omega) ?_
    refine V_aload_n E dL_law_596 rfl ?_
    refine V_iload_n E dL_law_597 rfl ?_
    refine V_iconst (v := 2) E dL_law_598 (by decide) ?_
    refine V_iadd E dL_law_599 ?_
    refine V_sld (j := (i + 2)) E hS dL_law_600 (ni_add (a := i) (b := 2) (@rfl _ (nI (i))) (rfl : (2 : Int32) = nI 2)) (by omega) (by omega) ?_
    refine V_callV E (cy_premium0 (x_l X) 0 S A td hO.1 hY.2.1 B hO.2.2.1 hY.1 hY.2.2.2.1 Q hY.2.2.2.2.2.2.1 hRn td (by omega) pd hY.2.2.2.2.2.2.2.2.2 hY.2.2.2.2.2.2.2.1 (xs (i + 1)) (xs (i + 2)) hP) ml_L_69 mv_X10_premium (hY.1.k 200 11 rfl (by decide)) dL_law_601 rfl (by simp [Value.category]) (by omega) (by omega) (by omega) (fun r S2 hp => ?_)
    rcases hp with ⟨rfl, hS2⟩
    · obtain rfl := hS2.symm
      have hM2 := hM
      have hY2 := hY
      refine V_aload_n E dL_law_604 rfl ?_
      refine V_aload_n E dL_law_605 rfl ?_
      refine V_iload_n E dL_law_606 rfl ?_
      refine V_iconst (v := 1) E dL_law_607 (by decide) ?_
      refine V_iadd E dL_law_608 ?_
      refine V_sld (j := (i + 1)) E hS dL_law_609 (ni_add (a := i) (b := 1) (@rfl _ (nI (i))) (rfl : (1 : Int32) = nI 1)) (by omega) (by omega) ?_
      refine V_aload_n E dL_law_610 rfl ?_
      refine V_iload_n E dL_law_611 rfl ?_
      refine V_iconst (v := 2) E dL_law_612 (by decide) ?_
      refine V_iadd E dL_law_613 ?_
      refine V_sld (j := (i + 2)) E hS dL_law_614 (ni_add (a := i) (b := 2) (@rfl _ (nI (i))) (rfl : (2 : Int32) = nI 2)) (by omega) (by omega) ?_
      refine V_callV E (cm_premium0 (x_l X) 0 _ A td hO.1 hM2.1 hM2.2.1 B hO.2.2.1 hM2.2.2.2.1 Q hM2.2.2.2.2.2.2.1 hRn td (by omega) hM2.2.2.2.2.2.2.2.1 pd hM2.2.2.2.2.2.2.2.2.2 (xs (i + 1)) (xs (i + 2)) hP) ml_L_73 mv_X11_premium hM2.1.o dL_law_615 rfl (by simp [Value.category]) (by omega) (by omega) (by omega) (fun r S3 hp => ?_)
      rcases hp with ⟨rfl, hS3⟩
      · obtain rfl := hS3.symm
        have hM3 := hM2
        have hY3 := hY2
        have hO3 := hO
        refine V_icmp_eq (tgt := 1008) E dL_law_618 (by decide) (fun _ => ?_) (fun hx => absurd hx (fun q => q rfl))
        exact ih _ _ _ ⟨_, _, _, _, _, _, _, _, _, hM3, hY3, hO3, by omega, by omega, by omega⟩

end
