/-! ===== the law's loop ===== -/
section
variable {X : CX} {b N i k n : Nat} {xs : Nat → Int32} {S : GS}
theorem LI.up (h : LI i S k n) : LI (i + 6) S k n := by
  obtain ⟨A, T, B, J, L, Q, td, bo, pd, hM, hY, hO, ht, hk, hn⟩ := h
  exact ⟨A, T, B, J, L, Q, td, bo, pd, hM, hY, hO, by omega, by omega, by omega⟩
theorem LI.room (h : LI i S k n) (hi : i ≤ 3072) : k ≤ 600000 ∧ n ≤ 7302249 := by
  obtain ⟨A, T, B, J, L, Q, td, bo, pd, hM, hY, hO, ht, hk, hn⟩ := h
  have hen := hO.en
  have hrm := gn_room (show en L ≤ 102400 by omega)
  omega
theorem and31 (z : Int32) : ∃ c, c < 32 ∧ z &&& 31 = nI c := ⟨z.toBitVec.toNat % 32, Nat.mod_lt _ (by decide), pk_and z 5 (by decide)⟩
theorem lw_gt (hN : N ≤ 3072) (hi : i ≤ 3072) : (nI N - 6 < nI i) ↔ N < i + 6 := by
  rw [fa_lt, nI_toInt (by omega), show (nI N - 6).toInt = (N : Int) - 6 from pk_sub_toInt (a := N) (b := 6) (by omega) (by omega)]
  omega
theorem lw_head (E : En X RL cL_law 4 2048 600000 7302249) (hS : SC X b N xs) (hR : LR X b) (hN : N ≤ 3072) (hi : i ≤ N) (h : LI i S k n) (go : i + 6 ≤ N → V X 27 [some (.ref 999), some (.ref 200), some (.ref 0), some (.int (nI i))] [] S k n) : V X 18 [some (.ref 999), some (.ref 200), some (.ref 0), some (.int (nI i))] [] S k n := by
  refine V_iload_n E dL_law_18 rfl ?_
  refine V_aload_n E dL_law_19 rfl ?_
  refine V_slen E hS dL_law_20 ?_
  refine V_bipush (v := 6) E dL_law_21 (by decide) ?_
  refine V_isub E dL_law_23 ?_
  have hr := h.room (by omega)
  refine V_icmp_gt (tgt := 1014) E dL_law_24 (by decide) (fun _ => ?_) (fun hx => ?_)
  · refine V_iconst (v := 1) E dL_law_1014 (by decide) ?_
    exact V_law1 E hR dL_law_1015 hr.1 hr.2
  · rw [lw_gt hN (by omega)] at hx
    exact go (by omega)
theorem lw_body (E : En X RL cL_law 4 2048 600000 7302249) (hS : SC X b N xs) (hN : N ≤ 3072) (hi : i + 6 ≤ N) (ih : LN X i) (h : LI i S k n) : V X 27 [some (.ref 999), some (.ref 200), some (.ref 0), some (.int (nI i))] [] S k n := by
  refine V_aload_n E dL_law_27 rfl ?_
  refine V_iload_n E dL_law_28 rfl ?_
  refine V_sld (j := i) E hS dL_law_29 (@rfl _ (nI (i))) (by omega) (by omega) ?_
  refine V_bipush (v := 31) E dL_law_30 (by decide) ?_
  refine V_iand E dL_law_32 ?_
  obtain ⟨c, hc, he⟩ := and31 (xs i)
  refine V_cvi he ?_
  rcases (show c = 0 ∨ c = 1 ∨ c = 2 ∨ c = 3 ∨ c = 4 ∨ c = 5 ∨ c = 6 ∨ c = 7 ∨ c = 8 ∨ c = 9 ∨ c = 10 ∨ c = 11 ∨ c = 12 ∨ c = 13 ∨ c = 14 ∨ c = 15 ∨ c = 16 ∨ c = 17 ∨ c = 18 ∨ c = 19 ∨ c = 20 ∨ c = 21 ∨ c = 22 ∨ c = 23 ∨ c = 24 ∨ c = 25 ∨ 26 ≤ c by omega) with rfl | rfl | rfl | rfl | rfl | rfl | rfl | rfl | rfl | rfl | rfl | rfl | rfl | rfl | rfl | rfl | rfl | rfl | rfl | rfl | rfl | rfl | rfl | rfl | rfl | rfl | hc2
  · exact V_tableIn (off := 119) (tgt := 152) E dL_law_33 (by decide) (by decide) (by decide) (by decide) (lc_vessel E hS hN hi ih h)
  · exact V_tableIn (off := 142) (tgt := 175) E dL_law_33 (by decide) (by decide) (by decide) (by decide) (lc_buy E hS hN hi ih h)
  · exact V_tableIn (off := 195) (tgt := 228) E dL_law_33 (by decide) (by decide) (by decide) (by decide) (lc_move E hS hN hi ih h)
  · exact V_tableIn (off := 238) (tgt := 271) E dL_law_33 (by decide) (by decide) (by decide) (by decide) (lc_turn E hS hN hi ih h)
  · exact V_tableIn (off := 261) (tgt := 294) E dL_law_33 (by decide) (by decide) (by decide) (by decide) (lc_cover E hS hN hi ih h)
  · exact V_tableIn (off := 310) (tgt := 343) E dL_law_33 (by decide) (by decide) (by decide) (by decide) (lc_day E hS hN hi ih h)
  · exact V_tableIn (off := 359) (tgt := 392) E dL_law_33 (by decide) (by decide) (by decide) (by decide) (lc_cut E hS hN hi ih h)
  · exact V_tableIn (off := 412) (tgt := 445) E dL_law_33 (by decide) (by decide) (by decide) (by decide) (lc_feed E hS hN hi ih h)
  · exact V_tableIn (off := 475) (tgt := 508) E dL_law_33 (by decide) (by decide) (by decide) (by decide) (lc_vote E hS hN hi ih h)
  · exact V_tableIn (off := 498) (tgt := 531) E dL_law_33 (by decide) (by decide) (by decide) (by decide) (lc_fault E hS hN hi ih h)
  · exact V_tableIn (off := 511) (tgt := 544) E dL_law_33 (by decide) (by decide) (by decide) (by decide) (lc_end E hS hN hi ih h)
  · exact V_tableIn (off := 534) (tgt := 567) E dL_law_33 (by decide) (by decide) (by decide) (by decide) (lc_unvote E hS hN hi ih h)
  · exact V_tableIn (off := 557) (tgt := 590) E dL_law_33 (by decide) (by decide) (by decide) (by decide) (lc_premium E hS hN hi ih h)
  · exact V_tableIn (off := 590) (tgt := 623) E dL_law_33 (by decide) (by decide) (by decide) (by decide) (lc_part E hS hN hi ih h)
  · exact V_tableIn (off := 623) (tgt := 656) E dL_law_33 (by decide) (by decide) (by decide) (by decide) (lc_told E hS hN hi ih h)
  · exact V_tableIn (off := 656) (tgt := 689) E dL_law_33 (by decide) (by decide) (by decide) (by decide) (lc_coins E hS hN hi ih h)
  · exact V_tableIn (off := 679) (tgt := 712) E dL_law_33 (by decide) (by decide) (by decide) (by decide) (lc_entry E hS hN hi ih h)
  · exact V_tableIn (off := 712) (tgt := 745) E dL_law_33 (by decide) (by decide) (by decide) (by decide) (lc_worth E hS hN hi ih h)
  · exact V_tableIn (off := 756) (tgt := 789) E dL_law_33 (by decide) (by decide) (by decide) (by decide) (lc_force E hS hN hi ih h)
  · exact V_tableIn (off := 779) (tgt := 812) E dL_law_33 (by decide) (by decide) (by decide) (by decide) (lc_voted E hS hN hi ih h)
  · exact V_tableIn (off := 812) (tgt := 845) E dL_law_33 (by decide) (by decide) (by decide) (by decide) (lc_job E hS hN hi ih h)
  · exact V_tableIn (off := 845) (tgt := 878) E dL_law_33 (by decide) (by decide) (by decide) (by decide) (lc_places E hS hN hi ih h)
  · exact V_tableIn (off := 878) (tgt := 911) E dL_law_33 (by decide) (by decide) (by decide) (by decide) (lc_planned E hS hN hi ih h)
  · exact V_tableIn (off := 901) (tgt := 934) E dL_law_33 (by decide) (by decide) (by decide) (by decide) (lc_row E hS hN hi ih h)
  · exact V_tableIn (off := 940) (tgt := 973) E dL_law_33 (by decide) (by decide) (by decide) (by decide) (lc_clear E hS hN hi ih h)
  · exact V_tableIn (off := 951) (tgt := 984) E dL_law_33 (by decide) (by decide) (by decide) (by decide) (lc_count E hS hN hi ih h)
  · exact V_tableOut (tgt := 1008) E dL_law_33 (Or.inr (by rw [nI_toInt (by omega)]; omega)) (by decide) (ih _ _ _ h.up)
theorem lw_next (E : En X RL cL_law 4 2048 600000 7302249) (go : ∀ S2 k2 n2, LI (i + 6) S2 k2 n2 → V X 18 [some (.ref 999), some (.ref 200), some (.ref 0), some (.int (nI (i + 6)))] [] S2 k2 n2) : LN X i := by
  intro S2 k2 n2 h2
  refine V_iinc (v := nI (i + 6)) E dL_law_1008 rfl (ni_inc (a := i) (z := 6) (@rfl _ (nI (i)))) (by decide) rfl ?_
  refine V_goto (tgt := 18) E dL_law_1011 (by decide) ?_
  exact go _ _ _ h2
theorem lw_loop (E : En X RL cL_law 4 2048 600000 7302249) (hS : SC X b N xs) (hR : LR X b) (hN : N ≤ 3072) : ∀ m i S k n, N ≤ i + 6 * m → i ≤ N → LI i S k n → V X 18 [some (.ref 999), some (.ref 200), some (.ref 0), some (.int (nI i))] [] S k n := by
  intro m
  induction m with
  | zero => exact fun i S k n h1 h2 h => lw_head E hS hR hN h2 h (fun q => absurd q (by omega))
  | succ m ih => exact fun i S k n h1 h2 h => lw_head E hS hR hN h2 h (fun q => lw_body E hS hN q (lw_next E (fun S2 k2 n2 h3 => ih (i + 6) S2 k2 n2 (by omega) q h3)) h)
end
theorem fr_S0 : ∀ g, 1 ≤ g → g < 200 → kd (yNew (sN S00 200 11 0)) g = 0 := fun g h1 h2 => ((yNew_sm _).kd (by unfold DN; omega)).trans ((sN_kd (by omega)).trans (kd_S00 (by omega)))
theorem fr_S1 : kd (yNew (sN S00 200 11 0)) 0 = 0 := ((yNew_sm _).kd (by unfold DN; omega)).trans ((sN_kd (by omega)).trans (kd_S00 (by omega)))
theorem k_S1 : kd (sN (yNew (sN S00 200 11 0)) 0 12 0) 0 = 11 + 1 := va_up_self (kd (yNew (sN S00 200 11 0))) 0 12
theorem LI00 {k n : Nat} (hk : k ≤ 100) (hn : n ≤ 40000) : LI 0 (mNew (sN (yNew (sN S00 200 11 0)) 0 12 0)) k n :=
  ⟨A00, T00, B00, J00, L00, Q00, 0, 0, 0, MI00 _ fr_S0, (YI00 S00 (fun g _ h => kd_S00 h)).fr (Nat.zero_le _) (Nat.zero_le _) ((YSm.N (by unfold dMo; omega)).trans ((mNew_sm _).mono (fun g hg => by unfold DM0 at hg; unfold dMo; omega))), OI00, Nat.le_refl _, by omega, by omega⟩
theorem lw_go : LawGo := by
  intro X b N xs hL E hS hR
  refine V_newN (N := 9) (200) E (by decide) cl_L_7 dL_law_0 (kd_S00 (by decide)) rfl (by decide) (by decide) ?_
  refine V_dup E dL_law_3 rfl ?_
  refine V_callI E (cy_new (x_l X) 0 (sN S00 200 11 0) rfl rfl rfl rfl rfl rfl rfl rfl rfl rfl rfl rfl rfl rfl rfl rfl rfl rfl rfl rfl rfl rfl rfl rfl rfl rfl rfl) ml_L_9 mi_X10_init dL_law_4 rfl (by simp [Value.category]) (by omega) (by decide) (by decide) (fun r S2 hp => ?_)
  obtain ⟨rfl, hS2⟩ := hp
  obtain rfl := hS2.symm
  refine V_astore_n E dL_law_7 (by decide) rfl ?_
  refine V_newN (N := 46) (0) E (by decide) cl_L_10 dL_law_8 fr_S1 rfl (by decide) (by decide) ?_
  refine V_dup E dL_law_11 rfl ?_
  refine V_callI E (cm_init0 (x_l X) 0 (sN (yNew (sN S00 200 11 0)) 0 12 0) k_S1 (fun g h1 h2 => (sN_kd (by omega)).trans (fr_S0 g h1 h2))) ml_L_12 mi_X11_init dL_law_12 rfl (by simp [Value.category]) (by omega) (by decide) (by decide) (fun r S2 hp => ?_)
  obtain ⟨rfl, hS2⟩ := hp
  obtain rfl := hS2.symm
  refine V_astore_n E dL_law_15 (by decide) rfl ?_
  refine V_iconst (v := 0) E dL_law_16 (by decide) ?_
  refine V_istore_n E dL_law_17 (by decide) rfl ?_
  exact lw_loop E hS hR hL 512 0 _ _ _ (by omega) (by omega) (LI00 (by decide) (by decide))
