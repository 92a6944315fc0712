/-! ===== the law: the plan ===== -/
section
variable {X : CX} {b N i k n : Nat} {xs : Nat → Int32} {S : GS}
theorem lc_job (E : En X RL cL_law 4 2048 600000 7302249) (hS : SC X b N xs) (hN : N ≤ 3072) (hi : i + 6 ≤ N) (ih : LN X i) (h : LI i S k n) : V X 845 [some (.ref 999), some (.ref 200), some (.ref 0), some (.int (nI i))] [] S k n := by
  obtain ⟨A, T, B, J, L, Q, td, bo, pd, hM, hY, hO, ht, hk, hn⟩ := h
  have hen := hO.en
  have hrm := gn_room (show en L ≤ 102400 by omega)
  have hTn := hO.2.1.1
  have hRn := hO.2.2.2.2.1.1
  refine V_aload_n E dL_law_845 rfl ?_
  refine V_aload_n E dL_law_846 rfl ?_
  refine V_iload_n E dL_law_847 rfl ?_
  refine V_iconst (v := 1) E dL_law_848 (by decide) ?_
  refine V_iadd E dL_law_849 ?_
  refine V_sld (j := (i + 1)) E hS dL_law_850 (ni_add (a := i) (b := 1) (@rfl _ (nI (i))) (rfl : (1 : Int32) = nI 1)) (by omega) (by omega) ?_
  refine V_aload_n E dL_law_851 rfl ?_
  refine V_iload_n E dL_law_852 rfl ?_
  refine V_iconst (v := 2) E dL_law_853 (by decide) ?_
  refine V_iadd E dL_law_854 ?_
  refine V_sld (j := (i + 2)) E hS dL_law_855 (ni_add (a := i) (b := 2) (@rfl _ (nI (i))) (rfl : (2 : Int32) = nI 2)) (by omega) (by omega) ?_
  refine V_callV E (cy_job (x_l X) 0 S J hO.2.2.2.1 hY.1 hY.2.2.2.2.1 (xs (i + 1)) (xs (i + 2))) ml_L_103 mv_X10_job (hY.1.k 200 11 rfl (by decide)) dL_law_856 rfl (by simp [Value.category]) (by omega) (by omega) (by omega) (fun r S2 hp => ?_)
  rcases hp with ⟨hP, rfl, hS2⟩ | ⟨hP, rfl, hS2⟩
  · have h1 := wi_x hP.1.1 (Int.le_refl 0)
    have h2 := wi_x hP.1.2.1 (Int.le_refl 0)
    have hj2 := hY.2.2.2.2.1.job (f := tn (xs (i + 1))) (l := tn (xs (i + 2)))
    rw [← h1, ← h2, ← hS2] at hj2
    obtain ⟨hY2, fY⟩ := sy_plan (S2 := S2) hY hO (by rw [hS2]; exact f_yJob) (by rw [hS2]; exact hY.1) hj2
    have hM2 := hM.fr fY
    refine V_aload_n E dL_law_859 rfl ?_
    refine V_aload_n E dL_law_860 rfl ?_
    refine V_iload_n E dL_law_861 rfl ?_
    refine V_iconst (v := 1) E dL_law_862 (by decide) ?_
    refine V_iadd E dL_law_863 ?_
    refine V_sld (j := (i + 1)) E hS dL_law_864 (ni_add (a := i) (b := 1) (@rfl _ (nI (i))) (rfl : (1 : Int32) = nI 1)) (by omega) (by omega) ?_
    refine V_aload_n E dL_law_865 rfl ?_
    refine V_iload_n E dL_law_866 rfl ?_
    refine V_iconst (v := 2) E dL_law_867 (by decide) ?_
    refine V_iadd E dL_law_868 ?_
    refine V_sld (j := (i + 2)) E hS dL_law_869 (ni_add (a := i) (b := 2) (@rfl _ (nI (i))) (rfl : (2 : Int32) = nI 2)) (by omega) (by omega) ?_
    refine V_callV E (cm_job (x_l X) 0 _ J hO.2.2.2.1 hM2.1 hM2.2.2.2.2.1 (xs (i + 1)) (xs (i + 2))) ml_L_106 mv_X11_job hM2.1.o dL_law_870 rfl (by simp [Value.category]) (by omega) (by omega) (by omega) (fun r S3 hp => ?_)
    rcases hp with ⟨-, rfl, hS3⟩ | ⟨hP3, -, -⟩
    · have hj3 := hM2.2.2.2.2.1.job (f := tn (xs (i + 1))) (l := tn (xs (i + 2)))
      rw [← h1, ← h2, ← hS3] at hj3
      obtain ⟨hM3, fM⟩ := st_plan (S2 := S3) hM2 (by rw [hS3]; exact f_mJob) hj3
      have hO3 := so_plan hO (hO.2.2.2.1.job hP.1.2.2 (wi_lt (m := 60) hP.1.2.1) hP.2)
      have hY3 := hY2.fr hO3.1.1 hO3.2.2.1.1 fM
      refine V_icmp_eq (tgt := 1008) E dL_law_873 (by decide) (fun _ => ?_) (fun hx => absurd hx (fun q => q rfl))
      exact ih _ _ _ ⟨_, _, _, _, _, _, _, _, _, hM3, hY3, hO3, by omega, by omega, by omega⟩
    · exact absurd hP hP3
  · obtain rfl := hS2.symm
    have hM2 := hM
    have hY2 := hY
    refine V_aload_n E dL_law_859 rfl ?_
    refine V_aload_n E dL_law_860 rfl ?_
    refine V_iload_n E dL_law_861 rfl ?_
    refine V_iconst (v := 1) E dL_law_862 (by decide) ?_
    refine V_iadd E dL_law_863 ?_
    refine V_sld (j := (i + 1)) E hS dL_law_864 (ni_add (a := i) (b := 1) (@rfl _ (nI (i))) (rfl : (1 : Int32) = nI 1)) (by omega) (by omega) ?_
    refine V_aload_n E dL_law_865 rfl ?_
    refine V_iload_n E dL_law_866 rfl ?_
    refine V_iconst (v := 2) E dL_law_867 (by decide) ?_
    refine V_iadd E dL_law_868 ?_
    refine V_sld (j := (i + 2)) E hS dL_law_869 (ni_add (a := i) (b := 2) (@rfl _ (nI (i))) (rfl : (2 : Int32) = nI 2)) (by omega) (by omega) ?_
    refine V_callV E (cm_job (x_l X) 0 _ J hO.2.2.2.1 hM2.1 hM2.2.2.2.2.1 (xs (i + 1)) (xs (i + 2))) ml_L_106 mv_X11_job hM2.1.o dL_law_870 rfl (by simp [Value.category]) (by omega) (by omega) (by omega) (fun r S3 hp => ?_)
    rcases hp with ⟨hP3, -, -⟩ | ⟨-, rfl, hS3⟩
    · exact absurd hP3 hP
    · obtain rfl := hS3.symm
      have hM3 := hM2
      have hY3 := hY2
      have hO3 := hO
      refine V_icmp_eq (tgt := 1008) E dL_law_873 (by decide) (fun _ => ?_) (fun hx => absurd hx (fun q => q rfl))
      exact ih _ _ _ ⟨_, _, _, _, _, _, _, _, _, hM3, hY3, hO3, by omega, by omega, by omega⟩

theorem lc_places (E : En X RL cL_law 4 2048 600000 7302249) (hS : SC X b N xs) (hN : N ≤ 3072) (hi : i + 6 ≤ N) (ih : LN X i) (h : LI i S k n) : V X 878 [some (.ref 999), some (.ref 200), some (.ref 0), some (.int (nI i))] [] S k n := by
  obtain ⟨A, T, B, J, L, Q, td, bo, pd, hM, hY, hO, ht, hk, hn⟩ := h
  have hen := hO.en
  have hrm := gn_room (show en L ≤ 102400 by omega)
  have hTn := hO.2.1.1
  have hRn := hO.2.2.2.2.1.1
  refine V_aload_n E dL_law_878 rfl ?_
  refine V_aload_n E dL_law_879 rfl ?_
  refine V_iload_n E dL_law_880 rfl ?_
  refine V_iconst (v := 1) E dL_law_881 (by decide) ?_
  refine V_iadd E dL_law_882 ?_
  refine V_sld (j := (i + 1)) E hS dL_law_883 (ni_add (a := i) (b := 1) (@rfl _ (nI (i))) (rfl : (1 : Int32) = nI 1)) (by omega) (by omega) ?_
  refine V_aload_n E dL_law_884 rfl ?_
  refine V_iload_n E dL_law_885 rfl ?_
  refine V_iconst (v := 2) E dL_law_886 (by decide) ?_
  refine V_iadd E dL_law_887 ?_
  refine V_sld (j := (i + 2)) E hS dL_law_888 (ni_add (a := i) (b := 2) (@rfl _ (nI (i))) (rfl : (2 : Int32) = nI 2)) (by omega) (by omega) ?_
  refine V_callV E (cy_places (x_l X) 0 S J hO.2.2.2.1 hY.1 hY.2.2.2.2.1 (xs (i + 1)) (xs (i + 2))) ml_L_107 mv_X10_places (hY.1.k 200 11 rfl (by decide)) dL_law_889 rfl (by simp [Value.category]) (by omega) (by omega) (by omega) (fun r S2 hp => ?_)
  rcases hp with ⟨hP, rfl, hS2⟩ | ⟨hP, rfl, hS2⟩
  · have h2 := wi_x hP.2 (Int.le_refl 0)
    have hj2 := hY.2.2.2.2.1.places (x := tn (xs (i + 1))) (n := tn (xs (i + 2)))
    rw [← h2, ← hS2] at hj2
    obtain ⟨hY2, fY⟩ := sy_plan (S2 := S2) hY hO (by rw [hS2]; exact YSm.A (by omega)) (by rw [hS2]; exact hY.1) hj2
    have hM2 := hM.fr fY
    refine V_aload_n E dL_law_892 rfl ?_
    refine V_aload_n E dL_law_893 rfl ?_
    refine V_iload_n E dL_law_894 rfl ?_
    refine V_iconst (v := 1) E dL_law_895 (by decide) ?_
    refine V_iadd E dL_law_896 ?_
    refine V_sld (j := (i + 1)) E hS dL_law_897 (ni_add (a := i) (b := 1) (@rfl _ (nI (i))) (rfl : (1 : Int32) = nI 1)) (by omega) (by omega) ?_
    refine V_aload_n E dL_law_898 rfl ?_
    refine V_iload_n E dL_law_899 rfl ?_
    refine V_iconst (v := 2) E dL_law_900 (by decide) ?_
    refine V_iadd E dL_law_901 ?_
    refine V_sld (j := (i + 2)) E hS dL_law_902 (ni_add (a := i) (b := 2) (@rfl _ (nI (i))) (rfl : (2 : Int32) = nI 2)) (by omega) (by omega) ?_
    refine V_callV E (cm_places (x_l X) 0 _ J hO.2.2.2.1 hM2.1 hM2.2.2.2.2.1 (xs (i + 1)) (xs (i + 2))) ml_L_111 mv_X11_places hM2.1.o dL_law_903 rfl (by simp [Value.category]) (by omega) (by omega) (by omega) (fun r S3 hp => ?_)
    rcases hp with ⟨-, rfl, hS3⟩ | ⟨hP3, -, -⟩
    · have hj3 := hM2.2.2.2.2.1.places (x := tn (xs (i + 1))) (n := tn (xs (i + 2)))
      rw [← h2, ← hS3] at hj3
      obtain ⟨hM3, fM⟩ := st_plan (S2 := S3) hM2 (by rw [hS3]; exact MKf.A (by decide)) hj3
      have hO3 := so_plan hO (hO.2.2.2.1.places (x := tn (xs (i + 1))) (wi_le (m := 9) hP.2))
      have hY3 := hY2.fr hO3.1.1 hO3.2.2.1.1 fM
      refine V_icmp_eq (tgt := 1008) E dL_law_906 (by decide) (fun _ => ?_) (fun hx => absurd hx (fun q => q rfl))
      exact ih _ _ _ ⟨_, _, _, _, _, _, _, _, _, hM3, hY3, hO3, by omega, by omega, by omega⟩
    · exact absurd hP hP3
  · obtain rfl := hS2.symm
    have hM2 := hM
    have hY2 := hY
    refine V_aload_n E dL_law_892 rfl ?_
    refine V_aload_n E dL_law_893 rfl ?_
    refine V_iload_n E dL_law_894 rfl ?_
    refine V_iconst (v := 1) E dL_law_895 (by decide) ?_
    refine V_iadd E dL_law_896 ?_
    refine V_sld (j := (i + 1)) E hS dL_law_897 (ni_add (a := i) (b := 1) (@rfl _ (nI (i))) (rfl : (1 : Int32) = nI 1)) (by omega) (by omega) ?_
    refine V_aload_n E dL_law_898 rfl ?_
    refine V_iload_n E dL_law_899 rfl ?_
    refine V_iconst (v := 2) E dL_law_900 (by decide) ?_
    refine V_iadd E dL_law_901 ?_
    refine V_sld (j := (i + 2)) E hS dL_law_902 (ni_add (a := i) (b := 2) (@rfl _ (nI (i))) (rfl : (2 : Int32) = nI 2)) (by omega) (by omega) ?_
    refine V_callV E (cm_places (x_l X) 0 _ J hO.2.2.2.1 hM2.1 hM2.2.2.2.2.1 (xs (i + 1)) (xs (i + 2))) ml_L_111 mv_X11_places hM2.1.o dL_law_903 rfl (by simp [Value.category]) (by omega) (by omega) (by omega) (fun r S3 hp => ?_)
    rcases hp with ⟨hP3, -, -⟩ | ⟨-, rfl, hS3⟩
    · exact absurd hP3 hP
    · obtain rfl := hS3.symm
      have hM3 := hM2
      have hY3 := hY2
      have hO3 := hO
      refine V_icmp_eq (tgt := 1008) E dL_law_906 (by decide) (fun _ => ?_) (fun hx => absurd hx (fun q => q rfl))
      exact ih _ _ _ ⟨_, _, _, _, _, _, _, _, _, hM3, hY3, hO3, by omega, by omega, by omega⟩

theorem lc_planned (E : En X RL cL_law 4 2048 600000 7302249) (hS : SC X b N xs) (hN : N ≤ 3072) (hi : i + 6 ≤ N) (ih : LN X i) (h : LI i S k n) : V X 911 [some (.ref 999), some (.ref 200), some (.ref 0), some (.int (nI i))] [] S k n := by
  obtain ⟨A, T, B, J, L, Q, td, bo, pd, hM, hY, hO, ht, hk, hn⟩ := h
  have hen := hO.en
  have hrm := gn_room (show en L ≤ 102400 by omega)
  have hTn := hO.2.1.1
  have hRn := hO.2.2.2.2.1.1
  refine V_aload_n E dL_law_911 rfl ?_
  refine V_aload_n E dL_law_912 rfl ?_
  refine V_iload_n E dL_law_913 rfl ?_
  refine V_iconst (v := 1) E dL_law_914 (by decide) ?_
  refine V_iadd E dL_law_915 ?_
  refine V_sld (j := (i + 1)) E hS dL_law_916 (ni_add (a := i) (b := 1) (@rfl _ (nI (i))) (rfl : (1 : Int32) = nI 1)) (by omega) (by omega) ?_
  refine V_callV E (cy_planned (x_l X) 0 S J hO.2.2.2.1 hY.1 hY.2.2.2.2.1 (xs (i + 1))) ml_L_112 mv_X10_planned (hY.1.k 200 11 rfl (by decide)) dL_law_917 rfl (by simp [Value.category]) (by omega) (by omega) (by omega) (fun r S2 hp => ?_)
  rcases hp with ⟨⟨f2, hS2⟩, ⟨hP, rfl⟩ | ⟨hP, rfl⟩⟩
  · obtain ⟨hY2, fY⟩ := sy_plan (S2 := S2) (J2 := J) hY hO (by rw [hS2]; exact YSm.rA (by omega)) (by rw [hS2]; exact hY.1) (by rw [hS2]; exact ypl_r (by omega) hY.2.2.2.2.1)
    have hM2 := hM.fr fY
    refine V_aload_n E dL_law_920 rfl ?_
    refine V_aload_n E dL_law_921 rfl ?_
    refine V_iload_n E dL_law_922 rfl ?_
    refine V_iconst (v := 1) E dL_law_923 (by decide) ?_
    refine V_iadd E dL_law_924 ?_
    refine V_sld (j := (i + 1)) E hS dL_law_925 (ni_add (a := i) (b := 1) (@rfl _ (nI (i))) (rfl : (1 : Int32) = nI 1)) (by omega) (by omega) ?_
    refine V_callV E (cm_planned (x_l X) 0 _ J hO.2.2.2.1 hM2.1 hM2.2.2.2.2.1 (xs (i + 1))) ml_L_115 mv_X11_planned hM2.1.o dL_law_926 rfl (by simp [Value.category]) (by omega) (by omega) (by omega) (fun r S3 hp => ?_)
    rcases hp with ⟨⟨f3, hS3⟩, ⟨hP3, rfl⟩ | ⟨hP3, rfl⟩⟩
    · obtain ⟨hM3, fM⟩ := st_plan (S2 := S3) (J2 := J) hM2 (by rw [hS3]; exact MKf.r (by decide)) (by rw [hS3]; exact mpl_r hM2.2.2.2.2.1)
      have hO3 := hO
      have hY3 := hY2.fr hO3.1.1 hO3.2.2.1.1 fM
      refine V_icmp_eq (tgt := 1008) E dL_law_929 (by decide) (fun _ => ?_) (fun hx => absurd hx (fun q => q rfl))
      exact ih _ _ _ ⟨_, _, _, _, _, _, _, _, _, hM3, hY3, hO3, by omega, by omega, by omega⟩
    · exact absurd hP hP3
  · obtain ⟨hY2, fY⟩ := sy_plan (S2 := S2) (J2 := J) hY hO (by rw [hS2]; exact YSm.rA (by omega)) (by rw [hS2]; exact hY.1) (by rw [hS2]; exact ypl_r (by omega) hY.2.2.2.2.1)
    have hM2 := hM.fr fY
    refine V_aload_n E dL_law_920 rfl ?_
    refine V_aload_n E dL_law_921 rfl ?_
    refine V_iload_n E dL_law_922 rfl ?_
    refine V_iconst (v := 1) E dL_law_923 (by decide) ?_
    refine V_iadd E dL_law_924 ?_
    refine V_sld (j := (i + 1)) E hS dL_law_925 (ni_add (a := i) (b := 1) (@rfl _ (nI (i))) (rfl : (1 : Int32) = nI 1)) (by omega) (by omega) ?_
    refine V_callV E (cm_planned (x_l X) 0 _ J hO.2.2.2.1 hM2.1 hM2.2.2.2.2.1 (xs (i + 1))) ml_L_115 mv_X11_planned hM2.1.o dL_law_926 rfl (by simp [Value.category]) (by omega) (by omega) (by omega) (fun r S3 hp => ?_)
    rcases hp with ⟨⟨f3, hS3⟩, ⟨hP3, rfl⟩ | ⟨hP3, rfl⟩⟩
    · exact absurd hP3 hP
    · obtain ⟨hM3, fM⟩ := st_plan (S2 := S3) (J2 := J) hM2 (by rw [hS3]; exact MKf.r (by decide)) (by rw [hS3]; exact mpl_r hM2.2.2.2.2.1)
      have hO3 := hO
      have hY3 := hY2.fr hO3.1.1 hO3.2.2.1.1 fM
      refine V_icmp_eq (tgt := 1008) E dL_law_929 (by decide) (fun _ => ?_) (fun hx => absurd hx (fun q => q rfl))
      exact ih _ _ _ ⟨_, _, _, _, _, _, _, _, _, hM3, hY3, hO3, by omega, by omega, by omega⟩

theorem lc_row (E : En X RL cL_law 4 2048 600000 7302249) (hS : SC X b N xs) (hN : N ≤ 3072) (hi : i + 6 ≤ N) (ih : LN X i) (h : LI i S k n) : V X 934 [some (.ref 999), some (.ref 200), some (.ref 0), some (.int (nI i))] [] S k n := by
  obtain ⟨A, T, B, J, L, Q, td, bo, pd, hM, hY, hO, ht, hk, hn⟩ := h
  have hen := hO.en
  have hrm := gn_room (show en L ≤ 102400 by omega)
  have hTn := hO.2.1.1
  have hRn := hO.2.2.2.2.1.1
  by_cases hb0 : xs (i + 1) = 0
  · refine V_aload_n E dL_law_934 rfl ?_
    refine V_aload_n E dL_law_935 rfl ?_
    refine V_iload_n E dL_law_936 rfl ?_
    refine V_iconst (v := 1) E dL_law_937 (by decide) ?_
    refine V_iadd E dL_law_938 ?_
    refine V_sld (j := (i + 1)) E hS dL_law_939 (ni_add (a := i) (b := 1) (@rfl _ (nI (i))) (rfl : (1 : Int32) = nI 1)) (by omega) (by omega) ?_
    refine V_if_eq (tgt := 947) E dL_law_940 (by decide) (fun _ => ?_) (fun hx => absurd hx (fun q => q hb0))
    refine V_iconst (v := 0) E dL_law_947 (by decide) ?_
    refine V_cvi (y := nI (0)) (rfl : (0 : Int32) = nI 0) ?_
    refine V_callV E (cy_row (x_l X) 0 S J hO.2.2.2.1 hY.1 hY.2.2.2.2.1 0 (by decide)) ml_L_116 mv_X10_row (hY.1.k 200 11 rfl (by decide)) dL_law_948 rfl (by simp [Value.category]) (by omega) (by omega) (by omega) (fun r S2 hp => ?_)
    rcases hp with ⟨rfl, f2, hS2⟩
    · obtain ⟨hY2, fY⟩ := sy_plan (S2 := S2) (J2 := J) hY hO (by rw [hS2]; exact YSm.rA (by omega)) (by rw [hS2]; exact hY.1) (by rw [hS2]; exact ypl_r (by omega) hY.2.2.2.2.1)
      have hM2 := hM.fr fY
      refine V_aload_n E dL_law_951 rfl ?_
      refine V_aload_n E dL_law_952 rfl ?_
      refine V_iload_n E dL_law_953 rfl ?_
      refine V_iconst (v := 1) E dL_law_954 (by decide) ?_
      refine V_iadd E dL_law_955 ?_
      refine V_sld (j := (i + 1)) E hS dL_law_956 (ni_add (a := i) (b := 1) (@rfl _ (nI (i))) (rfl : (1 : Int32) = nI 1)) (by omega) (by omega) ?_
      refine V_if_eq (tgt := 964) E dL_law_957 (by decide) (fun _ => ?_) (fun hx => absurd hx (fun q => q hb0))
      refine V_iconst (v := 0) E dL_law_964 (by decide) ?_
      refine V_cvi (y := nI (0)) (rfl : (0 : Int32) = nI 0) ?_
      refine V_callV E (cm_row (x_l X) 0 _ J hO.2.2.2.1 hM2.1 hM2.2.2.2.2.1 0 (by decide)) ml_L_120 mv_X11_row hM2.1.o dL_law_965 rfl (by simp [Value.category]) (by omega) (by omega) (by omega) (fun r S3 hp => ?_)
      rcases hp with ⟨⟨f3, hS3⟩, ⟨hP3, rfl⟩ | ⟨hP3, rfl⟩⟩
      · obtain ⟨hM3, fM⟩ := st_plan (S2 := S3) (J2 := J) hM2 (by rw [hS3]; exact MKf.r (by decide)) (by rw [hS3]; exact mpl_r hM2.2.2.2.2.1)
        have hO3 := hO
        have hY3 := hY2.fr hO3.1.1 hO3.2.2.1.1 fM
        refine V_icmp_eq (tgt := 1008) E dL_law_968 (by decide) (fun _ => ?_) (fun hx => absurd hx (fun q => q (row_same hP3)))
        exact ih _ _ _ ⟨_, _, _, _, _, _, _, _, _, hM3, hY3, hO3, by omega, by omega, by omega⟩
      · obtain ⟨hM3, fM⟩ := st_plan (S2 := S3) (J2 := J) hM2 (by rw [hS3]; exact MKf.r (by decide)) (by rw [hS3]; exact mpl_r hM2.2.2.2.2.1)
        have hO3 := hO
        have hY3 := hY2.fr hO3.1.1 hO3.2.2.1.1 fM
        refine V_icmp_eq (tgt := 1008) E dL_law_968 (by decide) (fun _ => ?_) (fun hx => absurd hx (fun q => q rfl))
        exact ih _ _ _ ⟨_, _, _, _, _, _, _, _, _, hM3, hY3, hO3, by omega, by omega, by omega⟩
  · refine V_aload_n E dL_law_934 rfl ?_
    refine V_aload_n E dL_law_935 rfl ?_
    refine V_iload_n E dL_law_936 rfl ?_
    refine V_iconst (v := 1) E dL_law_937 (by decide) ?_
    refine V_iadd E dL_law_938 ?_
    refine V_sld (j := (i + 1)) E hS dL_law_939 (ni_add (a := i) (b := 1) (@rfl _ (nI (i))) (rfl : (1 : Int32) = nI 1)) (by omega) (by omega) ?_
    refine V_if_eq (tgt := 947) E dL_law_940 (by decide) (fun hx => absurd hx hb0) (fun _ => ?_)
    refine V_iconst (v := 1) E dL_law_943 (by decide) ?_
    refine V_goto (tgt := 948) E dL_law_944 (by decide) ?_
    refine V_cvi (y := nI (1)) (rfl : (1 : Int32) = nI 1) ?_
    refine V_callV E (cy_row (x_l X) 0 S J hO.2.2.2.1 hY.1 hY.2.2.2.2.1 1 (by decide)) ml_L_116 mv_X10_row (hY.1.k 200 11 rfl (by decide)) dL_law_948 rfl (by simp [Value.category]) (by omega) (by omega) (by omega) (fun r S2 hp => ?_)
    rcases hp with ⟨rfl, f2, hS2⟩
    · obtain ⟨hY2, fY⟩ := sy_plan (S2 := S2) (J2 := J) hY hO (by rw [hS2]; exact YSm.rA (by omega)) (by rw [hS2]; exact hY.1) (by rw [hS2]; exact ypl_r (by omega) hY.2.2.2.2.1)
      have hM2 := hM.fr fY
      refine V_aload_n E dL_law_951 rfl ?_
      refine V_aload_n E dL_law_952 rfl ?_
      refine V_iload_n E dL_law_953 rfl ?_
      refine V_iconst (v := 1) E dL_law_954 (by decide) ?_
      refine V_iadd E dL_law_955 ?_
      refine V_sld (j := (i + 1)) E hS dL_law_956 (ni_add (a := i) (b := 1) (@rfl _ (nI (i))) (rfl : (1 : Int32) = nI 1)) (by omega) (by omega) ?_
      refine V_if_eq (tgt := 964) E dL_law_957 (by decide) (fun hx => absurd hx hb0) (fun _ => ?_)
      refine V_iconst (v := 1) E dL_law_960 (by decide) ?_
      refine V_goto (tgt := 965) E dL_law_961 (by decide) ?_
      refine V_cvi (y := nI (1)) (rfl : (1 : Int32) = nI 1) ?_
      refine V_callV E (cm_row (x_l X) 0 _ J hO.2.2.2.1 hM2.1 hM2.2.2.2.2.1 1 (by decide)) ml_L_120 mv_X11_row hM2.1.o dL_law_965 rfl (by simp [Value.category]) (by omega) (by omega) (by omega) (fun r S3 hp => ?_)
      rcases hp with ⟨⟨f3, hS3⟩, ⟨hP3, rfl⟩ | ⟨hP3, rfl⟩⟩
      · obtain ⟨hM3, fM⟩ := st_plan (S2 := S3) (J2 := J) hM2 (by rw [hS3]; exact MKf.r (by decide)) (by rw [hS3]; exact mpl_r hM2.2.2.2.2.1)
        have hO3 := hO
        have hY3 := hY2.fr hO3.1.1 hO3.2.2.1.1 fM
        refine V_icmp_eq (tgt := 1008) E dL_law_968 (by decide) (fun _ => ?_) (fun hx => absurd hx (fun q => q (row_same hP3)))
        exact ih _ _ _ ⟨_, _, _, _, _, _, _, _, _, hM3, hY3, hO3, by omega, by omega, by omega⟩
      · obtain ⟨hM3, fM⟩ := st_plan (S2 := S3) (J2 := J) hM2 (by rw [hS3]; exact MKf.r (by decide)) (by rw [hS3]; exact mpl_r hM2.2.2.2.2.1)
        have hO3 := hO
        have hY3 := hY2.fr hO3.1.1 hO3.2.2.1.1 fM
        refine V_icmp_eq (tgt := 1008) E dL_law_968 (by decide) (fun _ => ?_) (fun hx => absurd hx (fun q => q rfl))
        exact ih _ _ _ ⟨_, _, _, _, _, _, _, _, _, hM3, hY3, hO3, by omega, by omega, by omega⟩

theorem lc_clear (E : En X RL cL_law 4 2048 600000 7302249) (hS : SC X b N xs) (hN : N ≤ 3072) (hi : i + 6 ≤ N) (ih : LN X i) (h : LI i S k n) : V X 973 [some (.ref 999), some (.ref 200), some (.ref 0), some (.int (nI i))] [] S k n := by
  obtain ⟨A, T, B, J, L, Q, td, bo, pd, hM, hY, hO, ht, hk, hn⟩ := h
  have hen := hO.en
  have hrm := gn_room (show en L ≤ 102400 by omega)
  have hTn := hO.2.1.1
  have hRn := hO.2.2.2.2.1.1
  refine V_aload_n E dL_law_973 rfl ?_
  refine V_callV E (cy_clear (x_l X) 0 S hY.1) ml_L_121 mv_X10_clear (hY.1.k 200 11 rfl (by decide)) dL_law_974 rfl (by simp [Value.category]) (by omega) (by omega) (by omega) (fun r S2 hp => ?_)
  rcases hp with ⟨rfl, hS2⟩
  · have hj2 := hY.2.2.2.2.1.clear
    rw [← hS2] at hj2
    obtain ⟨hY2, fY⟩ := sy_plan (S2 := S2) hY hO (by rw [hS2]; exact YSm.I (by omega)) (by rw [hS2]; exact hY.1) hj2
    have hM2 := hM.fr fY
    refine V_aload_n E dL_law_977 rfl ?_
    refine V_callV E (cm_clear (x_l X) 0 _ hM2.1) ml_L_124 mv_X11_clear hM2.1.o dL_law_978 rfl (by simp [Value.category]) (by omega) (by omega) (by omega) (fun r S3 hp => ?_)
    rcases hp with ⟨rfl, hS3⟩
    · have hj3 := hM2.2.2.2.2.1.clear
      rw [← hS3] at hj3
      obtain ⟨hM3, fM⟩ := st_plan (S2 := S3) hM2 (by rw [hS3]; exact MKf.I (by decide)) hj3
      have hO3 := so_plan hO hO.2.2.2.1.clear
      have hY3 := hY2.fr hO3.1.1 hO3.2.2.1.1 fM
      refine V_goto (tgt := 1008) E dL_law_981 (by decide) ?_
      exact ih _ _ _ ⟨_, _, _, _, _, _, _, _, _, hM3, hY3, hO3, by omega, by omega, by omega⟩

end
