/-! ===== the law: asking ===== -/
section
variable {X : CX} {b N i k n : Nat} {xs : Nat → Int32} {S : GS}
theorem lc_part (E : En X RL cL_law 4 2048 600000 7302249) (hS : SC X b N xs) (hN : N ≤ 3072) (hi : i + 6 ≤ N) (ih : LN X i) (h : LI i S k n) : V X 623 [some (.ref 999), some (.ref 200), some (.ref 0), some (.int (nI i))] [] S k n := by
  obtain ⟨A, T, B, J, L, Q, td, bo, pd, hM, hY, hO, ht, hk, hn⟩ := h
  have hen := hO.en
  have hrm := gn_room (show en L ≤ 102400 by omega)
  have hTn := hO.2.1.1
  have hRn := hO.2.2.2.2.1.1
  refine V_aload_n E dL_law_623 rfl ?_
  refine V_aload_n E dL_law_624 rfl ?_
  refine V_iload_n E dL_law_625 rfl ?_
  refine V_iconst (v := 1) E dL_law_626 (by decide) ?_
  refine V_iadd E dL_law_627 ?_
  refine V_sld (j := (i + 1)) E hS dL_law_628 (ni_add (a := i) (b := 1) (@rfl _ (nI (i))) (rfl : (1 : Int32) = nI 1)) (by omega) (by omega) ?_
  refine V_aload_n E dL_law_629 rfl ?_
  refine V_iload_n E dL_law_630 rfl ?_
  refine V_iconst (v := 2) E dL_law_631 (by decide) ?_
  refine V_iadd E dL_law_632 ?_
  refine V_sld (j := (i + 2)) E hS dL_law_633 (ni_add (a := i) (b := 2) (@rfl _ (nI (i))) (rfl : (2 : Int32) = nI 2)) (by omega) (by omega) ?_
  refine V_callV E (cy_part (x_l X) 0 S A td hO.1 hY.1 hY.2.1 (xs (i + 1)) (xs (i + 2))) ml_L_74 mv_X10_part (hY.1.k 200 11 rfl (by decide)) dL_law_634 rfl (by simp [Value.category]) (by omega) (by omega) (by omega) (fun r S2 hp => ?_)
  rcases hp with ⟨hP, rfl, hS2⟩ | ⟨hP, rfl, hS2⟩
  · obtain rfl := hS2.symm
    have hM2 := hM
    have hY2 := hY
    refine V_aload_n E dL_law_637 rfl ?_
    refine V_aload_n E dL_law_638 rfl ?_
    refine V_iload_n E dL_law_639 rfl ?_
    refine V_iconst (v := 1) E dL_law_640 (by decide) ?_
    refine V_iadd E dL_law_641 ?_
    refine V_sld (j := (i + 1)) E hS dL_law_642 (ni_add (a := i) (b := 1) (@rfl _ (nI (i))) (rfl : (1 : Int32) = nI 1)) (by omega) (by omega) ?_
    refine V_aload_n E dL_law_643 rfl ?_
    refine V_iload_n E dL_law_644 rfl ?_
    refine V_iconst (v := 2) E dL_law_645 (by decide) ?_
    refine V_iadd E dL_law_646 ?_
    refine V_sld (j := (i + 2)) E hS dL_law_647 (ni_add (a := i) (b := 2) (@rfl _ (nI (i))) (rfl : (2 : Int32) = nI 2)) (by omega) (by omega) ?_
    refine V_callV E (cm_part (x_l X) 0 _ A td hO.1 hM2.1 hM2.2.1 (xs (i + 1)) (xs (i + 2))) ml_L_77 mv_X11_part hM2.1.o dL_law_648 rfl (by simp [Value.category]) (by omega) (by omega) (by omega) (fun r S3 hp => ?_)
    rcases hp with ⟨-, rfl, hS3⟩ | ⟨hP3, -, -⟩
    · obtain rfl := hS3.symm
      have hM3 := hM2
      have hY3 := hY2
      have hO3 := hO
      refine V_icmp_eq (tgt := 1008) E dL_law_651 (by decide) (fun _ => ?_) (fun hx => absurd hx (fun q => q rfl))
      exact ih _ _ _ ⟨_, _, _, _, _, _, _, _, _, hM3, hY3, hO3, by omega, by omega, by omega⟩
    · exact absurd hP hP3
  · obtain rfl := hS2.symm
    have hM2 := hM
    have hY2 := hY
    refine V_aload_n E dL_law_637 rfl ?_
    refine V_aload_n E dL_law_638 rfl ?_
    refine V_iload_n E dL_law_639 rfl ?_
    refine V_iconst (v := 1) E dL_law_640 (by decide) ?_
    refine V_iadd E dL_law_641 ?_
    refine V_sld (j := (i + 1)) E hS dL_law_642 (ni_add (a := i) (b := 1) (@rfl _ (nI (i))) (rfl : (1 : Int32) = nI 1)) (by omega) (by omega) ?_
    refine V_aload_n E dL_law_643 rfl ?_
    refine V_iload_n E dL_law_644 rfl ?_
    refine V_iconst (v := 2) E dL_law_645 (by decide) ?_
    refine V_iadd E dL_law_646 ?_
    refine V_sld (j := (i + 2)) E hS dL_law_647 (ni_add (a := i) (b := 2) (@rfl _ (nI (i))) (rfl : (2 : Int32) = nI 2)) (by omega) (by omega) ?_
    refine V_callV E (cm_part (x_l X) 0 _ A td hO.1 hM2.1 hM2.2.1 (xs (i + 1)) (xs (i + 2))) ml_L_77 mv_X11_part hM2.1.o dL_law_648 rfl (by simp [Value.category]) (by omega) (by omega) (by omega) (fun r S3 hp => ?_)
    rcases hp with ⟨hP3, -, -⟩ | ⟨-, rfl, hS3⟩
    · exact absurd hP3 hP
    · obtain rfl := hS3.symm
      have hM3 := hM2
      have hY3 := hY2
      have hO3 := hO
      refine V_icmp_eq (tgt := 1008) E dL_law_651 (by decide) (fun _ => ?_) (fun hx => absurd hx (fun q => q rfl))
      exact ih _ _ _ ⟨_, _, _, _, _, _, _, _, _, hM3, hY3, hO3, by omega, by omega, by omega⟩

theorem lc_told (E : En X RL cL_law 4 2048 600000 7302249) (hS : SC X b N xs) (hN : N ≤ 3072) (hi : i + 6 ≤ N) (ih : LN X i) (h : LI i S k n) : V X 656 [some (.ref 999), some (.ref 200), some (.ref 0), some (.int (nI i))] [] S k n := by
  obtain ⟨A, T, B, J, L, Q, td, bo, pd, hM, hY, hO, ht, hk, hn⟩ := h
  have hen := hO.en
  have hrm := gn_room (show en L ≤ 102400 by omega)
  have hTn := hO.2.1.1
  have hRn := hO.2.2.2.2.1.1
  refine V_aload_n E dL_law_656 rfl ?_
  refine V_aload_n E dL_law_657 rfl ?_
  refine V_iload_n E dL_law_658 rfl ?_
  refine V_iconst (v := 1) E dL_law_659 (by decide) ?_
  refine V_iadd E dL_law_660 ?_
  refine V_sld (j := (i + 1)) E hS dL_law_661 (ni_add (a := i) (b := 1) (@rfl _ (nI (i))) (rfl : (1 : Int32) = nI 1)) (by omega) (by omega) ?_
  refine V_aload_n E dL_law_662 rfl ?_
  refine V_iload_n E dL_law_663 rfl ?_
  refine V_iconst (v := 2) E dL_law_664 (by decide) ?_
  refine V_iadd E dL_law_665 ?_
  refine V_sld (j := (i + 2)) E hS dL_law_666 (ni_add (a := i) (b := 2) (@rfl _ (nI (i))) (rfl : (2 : Int32) = nI 2)) (by omega) (by omega) ?_
  refine V_callV E (cy_told (x_l X) 0 S A td hO.1 hY.1 hY.2.1 (xs (i + 1)) (xs (i + 2))) ml_L_78 mv_X10_told (hY.1.k 200 11 rfl (by decide)) dL_law_667 rfl (by simp [Value.category]) (by omega) (by omega) (by omega) (fun r S2 hp => ?_)
  rcases hp with ⟨hP, hPb, rfl, hS2⟩ | ⟨hP, rfl, hS2⟩
  · obtain rfl := hS2.symm
    have hM2 := hM
    have hY2 := hY
    refine V_aload_n E dL_law_670 rfl ?_
    refine V_aload_n E dL_law_671 rfl ?_
    refine V_iload_n E dL_law_672 rfl ?_
    refine V_iconst (v := 1) E dL_law_673 (by decide) ?_
    refine V_iadd E dL_law_674 ?_
    refine V_sld (j := (i + 1)) E hS dL_law_675 (ni_add (a := i) (b := 1) (@rfl _ (nI (i))) (rfl : (1 : Int32) = nI 1)) (by omega) (by omega) ?_
    refine V_aload_n E dL_law_676 rfl ?_
    refine V_iload_n E dL_law_677 rfl ?_
    refine V_iconst (v := 2) E dL_law_678 (by decide) ?_
    refine V_iadd E dL_law_679 ?_
    refine V_sld (j := (i + 2)) E hS dL_law_680 (ni_add (a := i) (b := 2) (@rfl _ (nI (i))) (rfl : (2 : Int32) = nI 2)) (by omega) (by omega) ?_
    refine V_callV E (cm_told (x_l X) 0 _ A td hO.1 hM2.1 hM2.2.1 (xs (i + 1)) (xs (i + 2))) ml_L_81 mv_X11_told hM2.1.o dL_law_681 rfl (by simp [Value.category]) (by omega) (by omega) (by omega) (fun r S3 hp => ?_)
    rcases hp with ⟨-, -, rfl, hS3⟩ | ⟨hP3, -, -⟩
    · obtain rfl := hS3.symm
      have hM3 := hM2
      have hY3 := hY2
      have hO3 := hO
      refine V_icmp_eq (tgt := 1008) E dL_law_684 (by decide) (fun _ => ?_) (fun hx => absurd hx (fun q => q rfl))
      exact ih _ _ _ ⟨_, _, _, _, _, _, _, _, _, hM3, hY3, hO3, by omega, by omega, by omega⟩
    · exact absurd ⟨hP, hPb⟩ hP3
  · obtain rfl := hS2.symm
    have hM2 := hM
    have hY2 := hY
    refine V_aload_n E dL_law_670 rfl ?_
    refine V_aload_n E dL_law_671 rfl ?_
    refine V_iload_n E dL_law_672 rfl ?_
    refine V_iconst (v := 1) E dL_law_673 (by decide) ?_
    refine V_iadd E dL_law_674 ?_
    refine V_sld (j := (i + 1)) E hS dL_law_675 (ni_add (a := i) (b := 1) (@rfl _ (nI (i))) (rfl : (1 : Int32) = nI 1)) (by omega) (by omega) ?_
    refine V_aload_n E dL_law_676 rfl ?_
    refine V_iload_n E dL_law_677 rfl ?_
    refine V_iconst (v := 2) E dL_law_678 (by decide) ?_
    refine V_iadd E dL_law_679 ?_
    refine V_sld (j := (i + 2)) E hS dL_law_680 (ni_add (a := i) (b := 2) (@rfl _ (nI (i))) (rfl : (2 : Int32) = nI 2)) (by omega) (by omega) ?_
    refine V_callV E (cm_told (x_l X) 0 _ A td hO.1 hM2.1 hM2.2.1 (xs (i + 1)) (xs (i + 2))) ml_L_81 mv_X11_told hM2.1.o dL_law_681 rfl (by simp [Value.category]) (by omega) (by omega) (by omega) (fun r S3 hp => ?_)
    rcases hp with ⟨hP3, hP4, -, -⟩ | ⟨-, rfl, hS3⟩
    · exact absurd ⟨hP3, hP4⟩ hP
    · obtain rfl := hS3.symm
      have hM3 := hM2
      have hY3 := hY2
      have hO3 := hO
      refine V_icmp_eq (tgt := 1008) E dL_law_684 (by decide) (fun _ => ?_) (fun hx => absurd hx (fun q => q rfl))
      exact ih _ _ _ ⟨_, _, _, _, _, _, _, _, _, hM3, hY3, hO3, by omega, by omega, by omega⟩

theorem lc_coins (E : En X RL cL_law 4 2048 600000 7302249) (hS : SC X b N xs) (hN : N ≤ 3072) (hi : i + 6 ≤ N) (ih : LN X i) (h : LI i S k n) : V X 689 [some (.ref 999), some (.ref 200), some (.ref 0), some (.int (nI i))] [] S k n := by
  obtain ⟨A, T, B, J, L, Q, td, bo, pd, hM, hY, hO, ht, hk, hn⟩ := h
  have hen := hO.en
  have hrm := gn_room (show en L ≤ 102400 by omega)
  have hTn := hO.2.1.1
  have hRn := hO.2.2.2.2.1.1
  refine V_aload_n E dL_law_689 rfl ?_
  refine V_aload_n E dL_law_690 rfl ?_
  refine V_iload_n E dL_law_691 rfl ?_
  refine V_iconst (v := 1) E dL_law_692 (by decide) ?_
  refine V_iadd E dL_law_693 ?_
  refine V_sld (j := (i + 1)) E hS dL_law_694 (ni_add (a := i) (b := 1) (@rfl _ (nI (i))) (rfl : (1 : Int32) = nI 1)) (by omega) (by omega) ?_
  refine V_callV E (cy_coins (x_l X) 0 S hY.1 L hY.2.2.2.2.2.1 (xs (i + 1))) ml_L_82 mv_X10_coins (hY.1.k 200 11 rfl (by decide)) dL_law_695 rfl (by simp [Value.category]) (by omega) (by omega) (by omega) (fun r S2 hp => ?_)
  rcases hp with ⟨hP, rfl, hS2⟩ | ⟨hP, rfl, hS2⟩
  · obtain rfl := hS2.symm
    have hM2 := hM
    have hY2 := hY
    refine V_aload_n E dL_law_698 rfl ?_
    refine V_aload_n E dL_law_699 rfl ?_
    refine V_iload_n E dL_law_700 rfl ?_
    refine V_iconst (v := 1) E dL_law_701 (by decide) ?_
    refine V_iadd E dL_law_702 ?_
    refine V_sld (j := (i + 1)) E hS dL_law_703 (ni_add (a := i) (b := 1) (@rfl _ (nI (i))) (rfl : (1 : Int32) = nI 1)) (by omega) (by omega) ?_
    refine V_callV E (cm_coins (x_l X) 0 _ hM2.1 L hM2.2.2.2.2.2.1 (xs (i + 1))) ml_L_85 mv_X11_coins hM2.1.o dL_law_704 rfl (by simp [Value.category]) (by omega) (by omega) (by omega) (fun r S3 hp => ?_)
    rcases hp with ⟨-, rfl, hS3⟩ | ⟨hP3, -, -⟩
    · obtain rfl := hS3.symm
      have hM3 := hM2
      have hY3 := hY2
      have hO3 := hO
      refine V_icmp_eq (tgt := 1008) E dL_law_707 (by decide) (fun _ => ?_) (fun hx => absurd hx (fun q => q rfl))
      exact ih _ _ _ ⟨_, _, _, _, _, _, _, _, _, hM3, hY3, hO3, by omega, by omega, by omega⟩
    · exact absurd hP hP3
  · obtain rfl := hS2.symm
    have hM2 := hM
    have hY2 := hY
    refine V_aload_n E dL_law_698 rfl ?_
    refine V_aload_n E dL_law_699 rfl ?_
    refine V_iload_n E dL_law_700 rfl ?_
    refine V_iconst (v := 1) E dL_law_701 (by decide) ?_
    refine V_iadd E dL_law_702 ?_
    refine V_sld (j := (i + 1)) E hS dL_law_703 (ni_add (a := i) (b := 1) (@rfl _ (nI (i))) (rfl : (1 : Int32) = nI 1)) (by omega) (by omega) ?_
    refine V_callV E (cm_coins (x_l X) 0 _ hM2.1 L hM2.2.2.2.2.2.1 (xs (i + 1))) ml_L_85 mv_X11_coins hM2.1.o dL_law_704 rfl (by simp [Value.category]) (by omega) (by omega) (by omega) (fun r S3 hp => ?_)
    rcases hp with ⟨hP3, -, -⟩ | ⟨-, rfl, hS3⟩
    · exact absurd hP3 hP
    · obtain rfl := hS3.symm
      have hM3 := hM2
      have hY3 := hY2
      have hO3 := hO
      refine V_icmp_eq (tgt := 1008) E dL_law_707 (by decide) (fun _ => ?_) (fun hx => absurd hx (fun q => q rfl))
      exact ih _ _ _ ⟨_, _, _, _, _, _, _, _, _, hM3, hY3, hO3, by omega, by omega, by omega⟩

theorem lc_entry (E : En X RL cL_law 4 2048 600000 7302249) (hS : SC X b N xs) (hN : N ≤ 3072) (hi : i + 6 ≤ N) (ih : LN X i) (h : LI i S k n) : V X 712 [some (.ref 999), some (.ref 200), some (.ref 0), some (.int (nI i))] [] S k n := by
  obtain ⟨A, T, B, J, L, Q, td, bo, pd, hM, hY, hO, ht, hk, hn⟩ := h
  have hen := hO.en
  have hrm := gn_room (show en L ≤ 102400 by omega)
  have hTn := hO.2.1.1
  have hRn := hO.2.2.2.2.1.1
  refine V_aload_n E dL_law_712 rfl ?_
  refine V_aload_n E dL_law_713 rfl ?_
  refine V_iload_n E dL_law_714 rfl ?_
  refine V_iconst (v := 1) E dL_law_715 (by decide) ?_
  refine V_iadd E dL_law_716 ?_
  refine V_sld (j := (i + 1)) E hS dL_law_717 (ni_add (a := i) (b := 1) (@rfl _ (nI (i))) (rfl : (1 : Int32) = nI 1)) (by omega) (by omega) ?_
  refine V_aload_n E dL_law_718 rfl ?_
  refine V_iload_n E dL_law_719 rfl ?_
  refine V_iconst (v := 2) E dL_law_720 (by decide) ?_
  refine V_iadd E dL_law_721 ?_
  refine V_sld (j := (i + 2)) E hS dL_law_722 (ni_add (a := i) (b := 2) (@rfl _ (nI (i))) (rfl : (2 : Int32) = nI 2)) (by omega) (by omega) ?_
  refine V_callV E (cy_entry (x_l X) 0 S hY.1 L hY.2.2.2.2.2.1 (by omega) (xs (i + 1)) (xs (i + 2))) ml_L_86 mv_X10_entry (hY.1.k 200 11 rfl (by decide)) dL_law_723 rfl (by simp [Value.category]) (by omega) (by omega) (by omega) (fun r S2 hp => ?_)
  rcases hp with ⟨hP, rfl, hS2⟩ | ⟨hP, rfl, hS2⟩
  · obtain rfl := hS2.symm
    have hM2 := hM
    have hY2 := hY
    refine V_aload_n E dL_law_726 rfl ?_
    refine V_aload_n E dL_law_727 rfl ?_
    refine V_iload_n E dL_law_728 rfl ?_
    refine V_iconst (v := 1) E dL_law_729 (by decide) ?_
    refine V_iadd E dL_law_730 ?_
    refine V_sld (j := (i + 1)) E hS dL_law_731 (ni_add (a := i) (b := 1) (@rfl _ (nI (i))) (rfl : (1 : Int32) = nI 1)) (by omega) (by omega) ?_
    refine V_aload_n E dL_law_732 rfl ?_
    refine V_iload_n E dL_law_733 rfl ?_
    refine V_iconst (v := 2) E dL_law_734 (by decide) ?_
    refine V_iadd E dL_law_735 ?_
    refine V_sld (j := (i + 2)) E hS dL_law_736 (ni_add (a := i) (b := 2) (@rfl _ (nI (i))) (rfl : (2 : Int32) = nI 2)) (by omega) (by omega) ?_
    refine V_callV E (cm_entry (x_l X) 0 _ hM2.1 L hM2.2.2.2.2.2.1 (by omega) (xs (i + 1)) (xs (i + 2))) ml_L_89 mv_X11_entry hM2.1.o dL_law_737 rfl (by simp [Value.category]) (by omega) (by omega) (by omega) (fun r S3 hp => ?_)
    rcases hp with ⟨-, rfl, hS3⟩ | ⟨hP3, -, -⟩
    · obtain rfl := hS3.symm
      have hM3 := hM2
      have hY3 := hY2
      have hO3 := hO
      refine V_icmp_eq (tgt := 1008) E dL_law_740 (by decide) (fun _ => ?_) (fun hx => absurd hx (fun q => q rfl))
      exact ih _ _ _ ⟨_, _, _, _, _, _, _, _, _, hM3, hY3, hO3, by omega, by omega, by omega⟩
    · exact absurd hP hP3
  · obtain rfl := hS2.symm
    have hM2 := hM
    have hY2 := hY
    refine V_aload_n E dL_law_726 rfl ?_
    refine V_aload_n E dL_law_727 rfl ?_
    refine V_iload_n E dL_law_728 rfl ?_
    refine V_iconst (v := 1) E dL_law_729 (by decide) ?_
    refine V_iadd E dL_law_730 ?_
    refine V_sld (j := (i + 1)) E hS dL_law_731 (ni_add (a := i) (b := 1) (@rfl _ (nI (i))) (rfl : (1 : Int32) = nI 1)) (by omega) (by omega) ?_
    refine V_aload_n E dL_law_732 rfl ?_
    refine V_iload_n E dL_law_733 rfl ?_
    refine V_iconst (v := 2) E dL_law_734 (by decide) ?_
    refine V_iadd E dL_law_735 ?_
    refine V_sld (j := (i + 2)) E hS dL_law_736 (ni_add (a := i) (b := 2) (@rfl _ (nI (i))) (rfl : (2 : Int32) = nI 2)) (by omega) (by omega) ?_
    refine V_callV E (cm_entry (x_l X) 0 _ hM2.1 L hM2.2.2.2.2.2.1 (by omega) (xs (i + 1)) (xs (i + 2))) ml_L_89 mv_X11_entry hM2.1.o dL_law_737 rfl (by simp [Value.category]) (by omega) (by omega) (by omega) (fun r S3 hp => ?_)
    rcases hp with ⟨hP3, -, -⟩ | ⟨-, rfl, hS3⟩
    · exact absurd hP3 hP
    · obtain rfl := hS3.symm
      have hM3 := hM2
      have hY3 := hY2
      have hO3 := hO
      refine V_icmp_eq (tgt := 1008) E dL_law_740 (by decide) (fun _ => ?_) (fun hx => absurd hx (fun q => q rfl))
      exact ih _ _ _ ⟨_, _, _, _, _, _, _, _, _, hM3, hY3, hO3, by omega, by omega, by omega⟩

theorem lc_worth (E : En X RL cL_law 4 2048 600000 7302249) (hS : SC X b N xs) (hN : N ≤ 3072) (hi : i + 6 ≤ N) (ih : LN X i) (h : LI i S k n) : V X 745 [some (.ref 999), some (.ref 200), some (.ref 0), some (.int (nI i))] [] S k n := by
  obtain ⟨A, T, B, J, L, Q, td, bo, pd, hM, hY, hO, ht, hk, hn⟩ := h
  have hen := hO.en
  have hrm := gn_room (show en L ≤ 102400 by omega)
  have hTn := hO.2.1.1
  have hRn := hO.2.2.2.2.1.1
  refine V_aload_n E dL_law_745 rfl ?_
  refine V_aload_n E dL_law_746 rfl ?_
  refine V_iload_n E dL_law_747 rfl ?_
  refine V_iconst (v := 1) E dL_law_748 (by decide) ?_
  refine V_iadd E dL_law_749 ?_
  refine V_sld (j := (i + 1)) E hS dL_law_750 (ni_add (a := i) (b := 1) (@rfl _ (nI (i))) (rfl : (1 : Int32) = nI 1)) (by omega) (by omega) ?_
  refine V_aload_n E dL_law_751 rfl ?_
  refine V_iload_n E dL_law_752 rfl ?_
  refine V_iconst (v := 2) E dL_law_753 (by decide) ?_
  refine V_iadd E dL_law_754 ?_
  refine V_sld (j := (i + 2)) E hS dL_law_755 (ni_add (a := i) (b := 2) (@rfl _ (nI (i))) (rfl : (2 : Int32) = nI 2)) (by omega) (by omega) ?_
  refine V_aload_n E dL_law_756 rfl ?_
  refine V_iload_n E dL_law_757 rfl ?_
  refine V_iconst (v := 3) E dL_law_758 (by decide) ?_
  refine V_iadd E dL_law_759 ?_
  refine V_sld (j := (i + 3)) E hS dL_law_760 (ni_add (a := i) (b := 3) (@rfl _ (nI (i))) (rfl : (3 : Int32) = nI 3)) (by omega) (by omega) ?_
  refine V_callV E (cy_worth (x_l X) 0 S A td hO.1 hY.2.1 B hO.2.2.1 hY.1 hY.2.2.2.1 (xs (i + 1)) (xs (i + 2)) (xs (i + 3))) ml_L_90 mv_X10_worth (hY.1.k 200 11 rfl (by decide)) dL_law_761 rfl (by simp [Value.category]) (by omega) (by omega) (by omega) (fun r S2 hp => ?_)
  rcases hp with ⟨hP, rfl, hf2⟩ | ⟨hP, rfl, hS2⟩
  · obtain ⟨hY2, fY⟩ := sy_rck hY hO hf2
    have hM2 := hM.fr fY
    refine V_aload_n E dL_law_764 rfl ?_
    refine V_aload_n E dL_law_765 rfl ?_
    refine V_iload_n E dL_law_766 rfl ?_
    refine V_iconst (v := 1) E dL_law_767 (by decide) ?_
    refine V_iadd E dL_law_768 ?_
    refine V_sld (j := (i + 1)) E hS dL_law_769 (ni_add (a := i) (b := 1) (@rfl _ (nI (i))) (rfl : (1 : Int32) = nI 1)) (by omega) (by omega) ?_
    refine V_aload_n E dL_law_770 rfl ?_
    refine V_iload_n E dL_law_771 rfl ?_
    refine V_iconst (v := 2) E dL_law_772 (by decide) ?_
    refine V_iadd E dL_law_773 ?_
    refine V_sld (j := (i + 2)) E hS dL_law_774 (ni_add (a := i) (b := 2) (@rfl _ (nI (i))) (rfl : (2 : Int32) = nI 2)) (by omega) (by omega) ?_
    refine V_aload_n E dL_law_775 rfl ?_
    refine V_iload_n E dL_law_776 rfl ?_
    refine V_iconst (v := 3) E dL_law_777 (by decide) ?_
    refine V_iadd E dL_law_778 ?_
    refine V_sld (j := (i + 3)) E hS dL_law_779 (ni_add (a := i) (b := 3) (@rfl _ (nI (i))) (rfl : (3 : Int32) = nI 3)) (by omega) (by omega) ?_
    refine V_callV E (cm_worth (x_l X) 0 _ A td hO.1 hM2.1 hM2.2.1 B hO.2.2.1 hM2.2.2.2.1 (xs (i + 1)) (xs (i + 2)) (xs (i + 3))) ml_L_94 mv_X11_worth hM2.1.o dL_law_780 rfl (by simp [Value.category]) (by omega) (by omega) (by omega) (fun r S3 hp => ?_)
    rcases hp with ⟨-, rfl, f3, hS3⟩ | ⟨hP3, -, -⟩
    · obtain ⟨hM3, fM⟩ := st_par (S2 := S3) hM2 (by rw [hS3]; exact f_pile)
      have hO3 := hO
      have hY3 := hY2.fr hO3.1.1 hO3.2.2.1.1 fM
      refine V_lcmp E dL_law_783 ?_
      refine V_if_eq (tgt := 1008) E dL_law_784 (by decide) (fun _ => ?_) (fun hx => absurd hx (fun q => q (lg_cmp_self _)))
      exact ih _ _ _ ⟨_, _, _, _, _, _, _, _, _, hM3, hY3, hO3, by omega, by omega, by omega⟩
    · exact absurd hP hP3
  · obtain rfl := hS2.symm
    have hM2 := hM
    have hY2 := hY
    refine V_aload_n E dL_law_764 rfl ?_
    refine V_aload_n E dL_law_765 rfl ?_
    refine V_iload_n E dL_law_766 rfl ?_
    refine V_iconst (v := 1) E dL_law_767 (by decide) ?_
    refine V_iadd E dL_law_768 ?_
    refine V_sld (j := (i + 1)) E hS dL_law_769 (ni_add (a := i) (b := 1) (@rfl _ (nI (i))) (rfl : (1 : Int32) = nI 1)) (by omega) (by omega) ?_
    refine V_aload_n E dL_law_770 rfl ?_
    refine V_iload_n E dL_law_771 rfl ?_
    refine V_iconst (v := 2) E dL_law_772 (by decide) ?_
    refine V_iadd E dL_law_773 ?_
    refine V_sld (j := (i + 2)) E hS dL_law_774 (ni_add (a := i) (b := 2) (@rfl _ (nI (i))) (rfl : (2 : Int32) = nI 2)) (by omega) (by omega) ?_
    refine V_aload_n E dL_law_775 rfl ?_
    refine V_iload_n E dL_law_776 rfl ?_
    refine V_iconst (v := 3) E dL_law_777 (by decide) ?_
    refine V_iadd E dL_law_778 ?_
    refine V_sld (j := (i + 3)) E hS dL_law_779 (ni_add (a := i) (b := 3) (@rfl _ (nI (i))) (rfl : (3 : Int32) = nI 3)) (by omega) (by omega) ?_
    refine V_callV E (cm_worth (x_l X) 0 _ A td hO.1 hM2.1 hM2.2.1 B hO.2.2.1 hM2.2.2.2.1 (xs (i + 1)) (xs (i + 2)) (xs (i + 3))) ml_L_94 mv_X11_worth hM2.1.o dL_law_780 rfl (by simp [Value.category]) (by omega) (by omega) (by omega) (fun r S3 hp => ?_)
    rcases hp with ⟨hP3, -, -⟩ | ⟨-, rfl, hS3⟩
    · exact absurd hP3 hP
    · obtain rfl := hS3.symm
      have hM3 := hM2
      have hY3 := hY2
      have hO3 := hO
      refine V_lcmp E dL_law_783 ?_
      refine V_if_eq (tgt := 1008) E dL_law_784 (by decide) (fun _ => ?_) (fun hx => absurd hx (fun q => q (lg_cmp_self _)))
      exact ih _ _ _ ⟨_, _, _, _, _, _, _, _, _, hM3, hY3, hO3, by omega, by omega, by omega⟩

theorem lc_force (E : En X RL cL_law 4 2048 600000 7302249) (hS : SC X b N xs) (hN : N ≤ 3072) (hi : i + 6 ≤ N) (ih : LN X i) (h : LI i S k n) : V X 789 [some (.ref 999), some (.ref 200), some (.ref 0), some (.int (nI i))] [] S k n := by
  obtain ⟨A, T, B, J, L, Q, td, bo, pd, hM, hY, hO, ht, hk, hn⟩ := h
  have hen := hO.en
  have hrm := gn_room (show en L ≤ 102400 by omega)
  have hTn := hO.2.1.1
  have hRn := hO.2.2.2.2.1.1
  refine V_aload_n E dL_law_789 rfl ?_
  refine V_aload_n E dL_law_790 rfl ?_
  refine V_iload_n E dL_law_791 rfl ?_
  refine V_iconst (v := 1) E dL_law_792 (by decide) ?_
  refine V_iadd E dL_law_793 ?_
  refine V_sld (j := (i + 1)) E hS dL_law_794 (ni_add (a := i) (b := 1) (@rfl _ (nI (i))) (rfl : (1 : Int32) = nI 1)) (by omega) (by omega) ?_
  refine V_callV E (cy_force (x_l X) 0 S B hO.2.2.1 hY.1 hY.2.2.2.1 (xs (i + 1))) ml_L_95 mv_X10_force (hY.1.k 200 11 rfl (by decide)) dL_law_795 rfl (by simp [Value.category]) (by omega) (by omega) (by omega) (fun r S2 hp => ?_)
  rcases hp with ⟨hP, rfl, hS2⟩ | ⟨hP, rfl, hS2⟩
  · obtain rfl := hS2.symm
    have hM2 := hM
    have hY2 := hY
    refine V_aload_n E dL_law_798 rfl ?_
    refine V_aload_n E dL_law_799 rfl ?_
    refine V_iload_n E dL_law_800 rfl ?_
    refine V_iconst (v := 1) E dL_law_801 (by decide) ?_
    refine V_iadd E dL_law_802 ?_
    refine V_sld (j := (i + 1)) E hS dL_law_803 (ni_add (a := i) (b := 1) (@rfl _ (nI (i))) (rfl : (1 : Int32) = nI 1)) (by omega) (by omega) ?_
    refine V_callV E (cm_force (x_l X) 0 _ B hO.2.2.1 hM2.1 hM2.2.2.2.1 (xs (i + 1))) ml_L_98 mv_X11_force hM2.1.o dL_law_804 rfl (by simp [Value.category]) (by omega) (by omega) (by omega) (fun r S3 hp => ?_)
    rcases hp with ⟨-, rfl, hS3⟩ | ⟨hP3, -, -⟩
    · obtain rfl := hS3.symm
      have hM3 := hM2
      have hY3 := hY2
      have hO3 := hO
      refine V_icmp_eq (tgt := 1008) E dL_law_807 (by decide) (fun _ => ?_) (fun hx => absurd hx (fun q => q rfl))
      exact ih _ _ _ ⟨_, _, _, _, _, _, _, _, _, hM3, hY3, hO3, by omega, by omega, by omega⟩
    · exact absurd hP hP3
  · obtain rfl := hS2.symm
    have hM2 := hM
    have hY2 := hY
    refine V_aload_n E dL_law_798 rfl ?_
    refine V_aload_n E dL_law_799 rfl ?_
    refine V_iload_n E dL_law_800 rfl ?_
    refine V_iconst (v := 1) E dL_law_801 (by decide) ?_
    refine V_iadd E dL_law_802 ?_
    refine V_sld (j := (i + 1)) E hS dL_law_803 (ni_add (a := i) (b := 1) (@rfl _ (nI (i))) (rfl : (1 : Int32) = nI 1)) (by omega) (by omega) ?_
    refine V_callV E (cm_force (x_l X) 0 _ B hO.2.2.1 hM2.1 hM2.2.2.2.1 (xs (i + 1))) ml_L_98 mv_X11_force hM2.1.o dL_law_804 rfl (by simp [Value.category]) (by omega) (by omega) (by omega) (fun r S3 hp => ?_)
    rcases hp with ⟨hP3, -, -⟩ | ⟨-, rfl, hS3⟩
    · exact absurd hP3 hP
    · obtain rfl := hS3.symm
      have hM3 := hM2
      have hY3 := hY2
      have hO3 := hO
      refine V_icmp_eq (tgt := 1008) E dL_law_807 (by decide) (fun _ => ?_) (fun hx => absurd hx (fun q => q rfl))
      exact ih _ _ _ ⟨_, _, _, _, _, _, _, _, _, hM3, hY3, hO3, by omega, by omega, by omega⟩

theorem lc_voted (E : En X RL cL_law 4 2048 600000 7302249) (hS : SC X b N xs) (hN : N ≤ 3072) (hi : i + 6 ≤ N) (ih : LN X i) (h : LI i S k n) : V X 812 [some (.ref 999), some (.ref 200), some (.ref 0), some (.int (nI i))] [] S k n := by
  obtain ⟨A, T, B, J, L, Q, td, bo, pd, hM, hY, hO, ht, hk, hn⟩ := h
  have hen := hO.en
  have hrm := gn_room (show en L ≤ 102400 by omega)
  have hTn := hO.2.1.1
  have hRn := hO.2.2.2.2.1.1
  refine V_aload_n E dL_law_812 rfl ?_
  refine V_aload_n E dL_law_813 rfl ?_
  refine V_iload_n E dL_law_814 rfl ?_
  refine V_iconst (v := 1) E dL_law_815 (by decide) ?_
  refine V_iadd E dL_law_816 ?_
  refine V_sld (j := (i + 1)) E hS dL_law_817 (ni_add (a := i) (b := 1) (@rfl _ (nI (i))) (rfl : (1 : Int32) = nI 1)) (by omega) (by omega) ?_
  refine V_aload_n E dL_law_818 rfl ?_
  refine V_iload_n E dL_law_819 rfl ?_
  refine V_iconst (v := 2) E dL_law_820 (by decide) ?_
  refine V_iadd E dL_law_821 ?_
  refine V_sld (j := (i + 2)) E hS dL_law_822 (ni_add (a := i) (b := 2) (@rfl _ (nI (i))) (rfl : (2 : Int32) = nI 2)) (by omega) (by omega) ?_
  refine V_callV E (cy_voted (x_l X) 0 S A td B hO.2.2.1 Q hO.2.2.2.2.1 hY.1 hY.2.2.2.1 hY.2.2.2.2.2.2.1 (xs (i + 1)) (xs (i + 2))) ml_L_99 mv_X10_voted (hY.1.k 200 11 rfl (by decide)) dL_law_823 rfl (by simp [Value.category]) (by omega) (by omega) (by omega) (fun r S2 hp => ?_)
  rcases hp with ⟨hP, rfl, hS2⟩ | ⟨hP, rfl, hS2⟩
  · obtain rfl := hS2.symm
    have hM2 := hM
    have hY2 := hY
    refine V_aload_n E dL_law_826 rfl ?_
    refine V_aload_n E dL_law_827 rfl ?_
    refine V_iload_n E dL_law_828 rfl ?_
    refine V_iconst (v := 1) E dL_law_829 (by decide) ?_
    refine V_iadd E dL_law_830 ?_
    refine V_sld (j := (i + 1)) E hS dL_law_831 (ni_add (a := i) (b := 1) (@rfl _ (nI (i))) (rfl : (1 : Int32) = nI 1)) (by omega) (by omega) ?_
    refine V_aload_n E dL_law_832 rfl ?_
    refine V_iload_n E dL_law_833 rfl ?_
    refine V_iconst (v := 2) E dL_law_834 (by decide) ?_
    refine V_iadd E dL_law_835 ?_
    refine V_sld (j := (i + 2)) E hS dL_law_836 (ni_add (a := i) (b := 2) (@rfl _ (nI (i))) (rfl : (2 : Int32) = nI 2)) (by omega) (by omega) ?_
    refine V_callV E (cm_voted (x_l X) 0 _ A td B hO.2.2.1 Q hO.2.2.2.2.1 hM2.1 hM2.2.2.2.1 hM2.2.2.2.2.2.2.1 (xs (i + 1)) (xs (i + 2))) ml_L_102 mv_X11_voted hM2.1.o dL_law_837 rfl (by simp [Value.category]) (by omega) (by omega) (by omega) (fun r S3 hp => ?_)
    rcases hp with ⟨-, rfl, hS3⟩ | ⟨hP3, -, -⟩
    · obtain rfl := hS3.symm
      have hM3 := hM2
      have hY3 := hY2
      have hO3 := hO
      refine V_icmp_eq (tgt := 1008) E dL_law_840 (by decide) (fun _ => ?_) (fun hx => absurd hx (fun q => q rfl))
      exact ih _ _ _ ⟨_, _, _, _, _, _, _, _, _, hM3, hY3, hO3, by omega, by omega, by omega⟩
    · exact absurd hP hP3
  · obtain rfl := hS2.symm
    have hM2 := hM
    have hY2 := hY
    refine V_aload_n E dL_law_826 rfl ?_
    refine V_aload_n E dL_law_827 rfl ?_
    refine V_iload_n E dL_law_828 rfl ?_
    refine V_iconst (v := 1) E dL_law_829 (by decide) ?_
    refine V_iadd E dL_law_830 ?_
    refine V_sld (j := (i + 1)) E hS dL_law_831 (ni_add (a := i) (b := 1) (@rfl _ (nI (i))) (rfl : (1 : Int32) = nI 1)) (by omega) (by omega) ?_
    refine V_aload_n E dL_law_832 rfl ?_
    refine V_iload_n E dL_law_833 rfl ?_
    refine V_iconst (v := 2) E dL_law_834 (by decide) ?_
    refine V_iadd E dL_law_835 ?_
    refine V_sld (j := (i + 2)) E hS dL_law_836 (ni_add (a := i) (b := 2) (@rfl _ (nI (i))) (rfl : (2 : Int32) = nI 2)) (by omega) (by omega) ?_
    refine V_callV E (cm_voted (x_l X) 0 _ A td B hO.2.2.1 Q hO.2.2.2.2.1 hM2.1 hM2.2.2.2.1 hM2.2.2.2.2.2.2.1 (xs (i + 1)) (xs (i + 2))) ml_L_102 mv_X11_voted hM2.1.o dL_law_837 rfl (by simp [Value.category]) (by omega) (by omega) (by omega) (fun r S3 hp => ?_)
    rcases hp with ⟨hP3, -, -⟩ | ⟨-, rfl, hS3⟩
    · exact absurd hP3 hP
    · obtain rfl := hS3.symm
      have hM3 := hM2
      have hY3 := hY2
      have hO3 := hO
      refine V_icmp_eq (tgt := 1008) E dL_law_840 (by decide) (fun _ => ?_) (fun hx => absurd hx (fun q => q rfl))
      exact ih _ _ _ ⟨_, _, _, _, _, _, _, _, _, hM3, hY3, hO3, by omega, by omega, by omega⟩

theorem lc_count (E : En X RL cL_law 4 2048 600000 7302249) (hS : SC X b N xs) (hN : N ≤ 3072) (hi : i + 6 ≤ N) (ih : LN X i) (h : LI i S k n) : V X 984 [some (.ref 999), some (.ref 200), some (.ref 0), some (.int (nI i))] [] S k n := by
  obtain ⟨A, T, B, J, L, Q, td, bo, pd, hM, hY, hO, ht, hk, hn⟩ := h
  have hen := hO.en
  have hrm := gn_room (show en L ≤ 102400 by omega)
  have hTn := hO.2.1.1
  have hRn := hO.2.2.2.2.1.1
  refine V_aload_n E dL_law_984 rfl ?_
  refine V_aload_n E dL_law_985 rfl ?_
  refine V_iload_n E dL_law_986 rfl ?_
  refine V_iconst (v := 1) E dL_law_987 (by decide) ?_
  refine V_iadd E dL_law_988 ?_
  refine V_sld (j := (i + 1)) E hS dL_law_989 (ni_add (a := i) (b := 1) (@rfl _ (nI (i))) (rfl : (1 : Int32) = nI 1)) (by omega) (by omega) ?_
  refine V_callV E (cy_count (x_l X) 0 S td A td hO.1 B hO.2.2.1 Q hRn L (by omega) bo J hO.2.2.2.1.1 T hTn pd (by omega) hY.1 hY.2.1 hY.2.2.2.1 hY.2.2.2.2.2.2.1 hY.2.2.2.2.2.1 hY.2.2.2.2.1 hY.2.2.1 hY.2.2.2.2.2.2.2.1 hY.2.2.2.2.2.2.2.2.1 hY.2.2.2.2.2.2.2.2.2 (xs (i + 1))) ml_L_125 mv_X10_count (hY.1.k 200 11 rfl (by decide)) dL_law_990 rfl (by simp [Value.category]) (by omega) (by omega) (by omega) (fun r S2 hp => ?_)
  rcases hp with ⟨hP, rfl, hS2⟩ | ⟨hP, rfl, hS2⟩
  · obtain rfl := hS2.symm
    have hM2 := hM
    have hY2 := hY
    refine V_aload_n E dL_law_993 rfl ?_
    refine V_aload_n E dL_law_994 rfl ?_
    refine V_iload_n E dL_law_995 rfl ?_
    refine V_iconst (v := 1) E dL_law_996 (by decide) ?_
    refine V_iadd E dL_law_997 ?_
    refine V_sld (j := (i + 1)) E hS dL_law_998 (ni_add (a := i) (b := 1) (@rfl _ (nI (i))) (rfl : (1 : Int32) = nI 1)) (by omega) (by omega) ?_
    refine V_callV E (cm_count (x_l X) 0 _ td A td hO.1 B hO.2.2.1 Q hRn L (by omega) bo J hO.2.2.2.1.1 T hTn pd (by omega) hM2.1 hM2.2.1 hM2.2.2.2.1 hM2.2.2.2.2.2.2.1 hM2.2.2.2.2.2.1 hM2.2.2.2.2.1 hM2.2.2.1 hM2.2.2.2.2.2.2.2.1 hM2.2.2.2.2.2.2.2.2.1 hM2.2.2.2.2.2.2.2.2.2 (xs (i + 1))) ml_L_129 mv_X11_count hM2.1.o dL_law_999 rfl (by simp [Value.category]) (by omega) (by omega) (by omega) (fun r S3 hp => ?_)
    rcases hp with ⟨-, rfl, hS3⟩ | ⟨hP3, -, -⟩
    · obtain rfl := hS3.symm
      have hM3 := hM2
      have hY3 := hY2
      have hO3 := hO
      refine V_lcmp E dL_law_1002 ?_
      refine V_if_eq (tgt := 1008) E dL_law_1003 (by decide) (fun _ => ?_) (fun hx => absurd hx (fun q => q (lg_cmp_self _)))
      exact ih _ _ _ ⟨_, _, _, _, _, _, _, _, _, hM3, hY3, hO3, by omega, by omega, by omega⟩
    · exact absurd hP hP3
  · obtain rfl := hS2.symm
    have hM2 := hM
    have hY2 := hY
    refine V_aload_n E dL_law_993 rfl ?_
    refine V_aload_n E dL_law_994 rfl ?_
    refine V_iload_n E dL_law_995 rfl ?_
    refine V_iconst (v := 1) E dL_law_996 (by decide) ?_
    refine V_iadd E dL_law_997 ?_
    refine V_sld (j := (i + 1)) E hS dL_law_998 (ni_add (a := i) (b := 1) (@rfl _ (nI (i))) (rfl : (1 : Int32) = nI 1)) (by omega) (by omega) ?_
    refine V_callV E (cm_count (x_l X) 0 _ td A td hO.1 B hO.2.2.1 Q hRn L (by omega) bo J hO.2.2.2.1.1 T hTn pd (by omega) hM2.1 hM2.2.1 hM2.2.2.2.1 hM2.2.2.2.2.2.2.1 hM2.2.2.2.2.2.1 hM2.2.2.2.2.1 hM2.2.2.1 hM2.2.2.2.2.2.2.2.1 hM2.2.2.2.2.2.2.2.2.1 hM2.2.2.2.2.2.2.2.2.2 (xs (i + 1))) ml_L_129 mv_X11_count hM2.1.o dL_law_999 rfl (by simp [Value.category]) (by omega) (by omega) (by omega) (fun r S3 hp => ?_)
    rcases hp with ⟨hP3, -, -⟩ | ⟨-, rfl, hS3⟩
    · exact absurd hP3 hP
    · obtain rfl := hS3.symm
      have hM3 := hM2
      have hY3 := hY2
      have hO3 := hO
      refine V_lcmp E dL_law_1002 ?_
      refine V_if_eq (tgt := 1008) E dL_law_1003 (by decide) (fun _ => ?_) (fun hx => absurd hx (fun q => q (lg_cmp_self _)))
      exact ih _ _ _ ⟨_, _, _, _, _, _, _, _, _, hM3, hY3, hO3, by omega, by omega, by omega⟩

end
