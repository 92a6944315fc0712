/-! ===== the law: the calls on vessels ===== -/
section
variable {X : CX} {b N i k n : Nat} {xs : Nat → Int32} {S : GS}
theorem lc_vessel (E : En X RL cL_law 4 2048 600000 7302249) (hS : SC X b N xs) (hN : N ≤ 3072) (hi : i + 6 ≤ N) (ih : LN X i) (h : LI i S k n) : V X 152 [some (.ref 999), some (.ref 200), some (.ref 0), some (.int (nI i))] [] S k n := by
  obtain ⟨A, T, B, J, L, Q, td, bo, pd, hM, hY, hO, ht, hk, hn⟩ := h
  have hen := hO.en
  have hrm := gn_room (show en L ≤ 102400 by omega)
  refine V_aload_n E dL_law_152 rfl ?_
  refine V_aload_n E dL_law_153 rfl ?_
  refine V_iload_n E dL_law_154 rfl ?_
  refine V_iconst (v := 1) E dL_law_155 (by decide) ?_
  refine V_iadd E dL_law_156 ?_
  refine V_sld (j := (i + 1)) E hS dL_law_157 (ni_add (a := i) (b := 1) (@rfl _ (nI (i))) (rfl : (1 : Int32) = nI 1)) (by omega) (by omega) ?_
  refine V_callV E (cy_vessel (x_l X) 0 S A td hO.1 hY.1 hY.2.1 (xs (i + 1))) ml_L_13 mv_X10_vessel (hY.1.k 200 11 rfl (by decide)) dL_law_158 rfl (by simp [Value.category]) (by omega) (by omega) (by omega) (fun r S2 hp => ?_)
  rcases hp with ⟨hP, rfl, hS2⟩ | ⟨hP, rfl, hS2⟩
  · obtain ⟨hY2, fY⟩ := sy_vessel hY hO hP
    rw [← hS2] at hY2 fY
    have hM2 := hM.fr fY
    refine V_aload_n E dL_law_161 rfl ?_
    refine V_aload_n E dL_law_162 rfl ?_
    refine V_iload_n E dL_law_163 rfl ?_
    refine V_iconst (v := 1) E dL_law_164 (by decide) ?_
    refine V_iadd E dL_law_165 ?_
    refine V_sld (j := (i + 1)) E hS dL_law_166 (ni_add (a := i) (b := 1) (@rfl _ (nI (i))) (rfl : (1 : Int32) = nI 1)) (by omega) (by omega) ?_
    refine V_callV E (cm_vessel (x_l X) 0 _ A td hO.1 hM2.1 hM2.2.1 (xs (i + 1))) ml_L_17 mv_X11_vessel hM2.1.o dL_law_167 rfl (by simp [Value.category]) (by omega) (by omega) (by omega) (fun r S3 hp => ?_)
    rcases hp with ⟨-, rfl, hS3⟩ | ⟨hP3, -, -⟩
    · obtain ⟨hM3, fM⟩ := st_vessel hM2 hO hP
      rw [← hS3] at hM3 fM
      have hO3 := so_vessel hO hP
      have hY3 := hY2.fr hO3.1.1 hO3.2.2.1.1 fM
      refine V_icmp_eq (tgt := 1008) E dL_law_170 (by decide) (fun _ => ?_) (fun hx => absurd hx (fun q => q rfl))
      exact ih _ _ _ ⟨_, _, _, _, _, _, _, _, _, hM3, hY3, hO3, by omega, by omega, by omega⟩
    · exact absurd hP hP3
  · obtain rfl := hS2.symm
    have hM2 := hM
    have hY2 := hY
    refine V_aload_n E dL_law_161 rfl ?_
    refine V_aload_n E dL_law_162 rfl ?_
    refine V_iload_n E dL_law_163 rfl ?_
    refine V_iconst (v := 1) E dL_law_164 (by decide) ?_
    refine V_iadd E dL_law_165 ?_
    refine V_sld (j := (i + 1)) E hS dL_law_166 (ni_add (a := i) (b := 1) (@rfl _ (nI (i))) (rfl : (1 : Int32) = nI 1)) (by omega) (by omega) ?_
    refine V_callV E (cm_vessel (x_l X) 0 _ A td hO.1 hM2.1 hM2.2.1 (xs (i + 1))) ml_L_17 mv_X11_vessel hM2.1.o dL_law_167 rfl (by simp [Value.category]) (by omega) (by omega) (by omega) (fun r S3 hp => ?_)
    rcases hp with ⟨hP3, -, -⟩ | ⟨-, rfl, hS3⟩
    · exact absurd hP3 hP
    · obtain rfl := hS3.symm
      have hM3 := hM2
      have hY3 := hY2
      have hO3 := hO
      refine V_icmp_eq (tgt := 1008) E dL_law_170 (by decide) (fun _ => ?_) (fun hx => absurd hx (fun q => q rfl))
      exact ih _ _ _ ⟨_, _, _, _, _, _, _, _, _, hM3, hY3, hO3, by omega, by omega, by omega⟩

theorem lc_buy (E : En X RL cL_law 4 2048 600000 7302249) (hS : SC X b N xs) (hN : N ≤ 3072) (hi : i + 6 ≤ N) (ih : LN X i) (h : LI i S k n) : V X 175 [some (.ref 999), some (.ref 200), some (.ref 0), some (.int (nI i))] [] S k n := by
  obtain ⟨A, T, B, J, L, Q, td, bo, pd, hM, hY, hO, ht, hk, hn⟩ := h
  have hen := hO.en
  have hrm := gn_room (show en L ≤ 102400 by omega)
  refine V_aload_n E dL_law_175 rfl ?_
  refine V_aload_n E dL_law_176 rfl ?_
  refine V_iload_n E dL_law_177 rfl ?_
  refine V_iconst (v := 1) E dL_law_178 (by decide) ?_
  refine V_iadd E dL_law_179 ?_
  refine V_sld (j := (i + 1)) E hS dL_law_180 (ni_add (a := i) (b := 1) (@rfl _ (nI (i))) (rfl : (1 : Int32) = nI 1)) (by omega) (by omega) ?_
  refine V_aload_n E dL_law_181 rfl ?_
  refine V_iload_n E dL_law_182 rfl ?_
  refine V_iconst (v := 2) E dL_law_183 (by decide) ?_
  refine V_iadd E dL_law_184 ?_
  refine V_sld (j := (i + 2)) E hS dL_law_185 (ni_add (a := i) (b := 2) (@rfl _ (nI (i))) (rfl : (2 : Int32) = nI 2)) (by omega) (by omega) ?_
  refine V_aload_n E dL_law_186 rfl ?_
  refine V_iload_n E dL_law_187 rfl ?_
  refine V_iconst (v := 3) E dL_law_188 (by decide) ?_
  refine V_iadd E dL_law_189 ?_
  refine V_sld (j := (i + 3)) E hS dL_law_190 (ni_add (a := i) (b := 3) (@rfl _ (nI (i))) (rfl : (3 : Int32) = nI 3)) (by omega) (by omega) ?_
  refine V_aload_n E dL_law_191 rfl ?_
  refine V_iload_n E dL_law_192 rfl ?_
  refine V_iconst (v := 4) E dL_law_193 (by decide) ?_
  refine V_iadd E dL_law_194 ?_
  refine V_sld (j := (i + 4)) E hS dL_law_195 (ni_add (a := i) (b := 4) (@rfl _ (nI (i))) (rfl : (4 : Int32) = nI 4)) (by omega) (by omega) ?_
  refine V_callV E (cy_buy (x_l X) 0 S A td hO.1 hY.1 hY.2.1 (xs (i + 1)) (xs (i + 2)) (xs (i + 3)) (xs (i + 4))) ml_L_18 mv_X10_buy (hY.1.k 200 11 rfl (by decide)) dL_law_196 rfl (by simp [Value.category]) (by omega) (by omega) (by omega) (fun r S2 hp => ?_)
  rcases hp with ⟨hP, rfl, hS2⟩ | ⟨hP, rfl, hS2⟩
  · have hv := wi_lt hP.1.1
    have hp : tn (xs (i + 2)) < 60 := wi_lt (m := 60) hP.2.1
    have hg := div_g (g := tn (xs (i + 3))) (wi_le (m := 900) hP.2.2.2.1)
    obtain ⟨hY2, fY⟩ := sy_buy hY hO hv hp
    rw [← hS2] at hY2 fY
    have hM2 := hM.fr fY
    refine V_aload_n E dL_law_199 rfl ?_
    refine V_aload_n E dL_law_200 rfl ?_
    refine V_iload_n E dL_law_201 rfl ?_
    refine V_iconst (v := 1) E dL_law_202 (by decide) ?_
    refine V_iadd E dL_law_203 ?_
    refine V_sld (j := (i + 1)) E hS dL_law_204 (ni_add (a := i) (b := 1) (@rfl _ (nI (i))) (rfl : (1 : Int32) = nI 1)) (by omega) (by omega) ?_
    refine V_aload_n E dL_law_205 rfl ?_
    refine V_iload_n E dL_law_206 rfl ?_
    refine V_iconst (v := 2) E dL_law_207 (by decide) ?_
    refine V_iadd E dL_law_208 ?_
    refine V_sld (j := (i + 2)) E hS dL_law_209 (ni_add (a := i) (b := 2) (@rfl _ (nI (i))) (rfl : (2 : Int32) = nI 2)) (by omega) (by omega) ?_
    refine V_aload_n E dL_law_210 rfl ?_
    refine V_iload_n E dL_law_211 rfl ?_
    refine V_iconst (v := 3) E dL_law_212 (by decide) ?_
    refine V_iadd E dL_law_213 ?_
    refine V_sld (j := (i + 3)) E hS dL_law_214 (ni_add (a := i) (b := 3) (@rfl _ (nI (i))) (rfl : (3 : Int32) = nI 3)) (by omega) (by omega) ?_
    refine V_aload_n E dL_law_215 rfl ?_
    refine V_iload_n E dL_law_216 rfl ?_
    refine V_iconst (v := 4) E dL_law_217 (by decide) ?_
    refine V_iadd E dL_law_218 ?_
    refine V_sld (j := (i + 4)) E hS dL_law_219 (ni_add (a := i) (b := 4) (@rfl _ (nI (i))) (rfl : (4 : Int32) = nI 4)) (by omega) (by omega) ?_
    refine V_callV E (cm_buy (x_l X) 0 _ A td hO.1 hM2.1 hM2.2.1 (xs (i + 1)) (xs (i + 2)) (xs (i + 3)) (xs (i + 4))) ml_L_22 mv_X11_buy hM2.1.o dL_law_220 rfl (by simp [Value.category]) (by omega) (by omega) (by omega) (fun r S3 hp => ?_)
    rcases hp with ⟨-, rfl, hS3⟩ | ⟨hP3, -, -⟩
    · obtain ⟨hM3, fM⟩ := st_buy hM2 hO hP.1.2 hp
      rw [← hS3] at hM3 fM
      have hO3 := so_buy hO hv hP.1.2 hp hg hP.2.2.2.2
      have hY3 := hY2.fr hO3.1.1 hO3.2.2.1.1 fM
      refine V_icmp_eq (tgt := 1008) E dL_law_223 (by decide) (fun _ => ?_) (fun hx => absurd hx (fun q => q rfl))
      exact ih _ _ _ ⟨_, _, _, _, _, _, _, _, _, hM3, hY3, hO3, by omega, by omega, by omega⟩
    · exact absurd hP hP3
  · obtain rfl := hS2.symm
    have hM2 := hM
    have hY2 := hY
    refine V_aload_n E dL_law_199 rfl ?_
    refine V_aload_n E dL_law_200 rfl ?_
    refine V_iload_n E dL_law_201 rfl ?_
    refine V_iconst (v := 1) E dL_law_202 (by decide) ?_
    refine V_iadd E dL_law_203 ?_
    refine V_sld (j := (i + 1)) E hS dL_law_204 (ni_add (a := i) (b := 1) (@rfl _ (nI (i))) (rfl : (1 : Int32) = nI 1)) (by omega) (by omega) ?_
    refine V_aload_n E dL_law_205 rfl ?_
    refine V_iload_n E dL_law_206 rfl ?_
    refine V_iconst (v := 2) E dL_law_207 (by decide) ?_
    refine V_iadd E dL_law_208 ?_
    refine V_sld (j := (i + 2)) E hS dL_law_209 (ni_add (a := i) (b := 2) (@rfl _ (nI (i))) (rfl : (2 : Int32) = nI 2)) (by omega) (by omega) ?_
    refine V_aload_n E dL_law_210 rfl ?_
    refine V_iload_n E dL_law_211 rfl ?_
    refine V_iconst (v := 3) E dL_law_212 (by decide) ?_
    refine V_iadd E dL_law_213 ?_
    refine V_sld (j := (i + 3)) E hS dL_law_214 (ni_add (a := i) (b := 3) (@rfl _ (nI (i))) (rfl : (3 : Int32) = nI 3)) (by omega) (by omega) ?_
    refine V_aload_n E dL_law_215 rfl ?_
    refine V_iload_n E dL_law_216 rfl ?_
    refine V_iconst (v := 4) E dL_law_217 (by decide) ?_
    refine V_iadd E dL_law_218 ?_
    refine V_sld (j := (i + 4)) E hS dL_law_219 (ni_add (a := i) (b := 4) (@rfl _ (nI (i))) (rfl : (4 : Int32) = nI 4)) (by omega) (by omega) ?_
    refine V_callV E (cm_buy (x_l X) 0 _ A td hO.1 hM2.1 hM2.2.1 (xs (i + 1)) (xs (i + 2)) (xs (i + 3)) (xs (i + 4))) ml_L_22 mv_X11_buy hM2.1.o dL_law_220 rfl (by simp [Value.category]) (by omega) (by omega) (by omega) (fun r S3 hp => ?_)
    rcases hp with ⟨hP3, -, -⟩ | ⟨-, rfl, hS3⟩
    · exact absurd hP3 hP
    · obtain rfl := hS3.symm
      have hM3 := hM2
      have hY3 := hY2
      have hO3 := hO
      refine V_icmp_eq (tgt := 1008) E dL_law_223 (by decide) (fun _ => ?_) (fun hx => absurd hx (fun q => q rfl))
      exact ih _ _ _ ⟨_, _, _, _, _, _, _, _, _, hM3, hY3, hO3, by omega, by omega, by omega⟩

theorem lc_move (E : En X RL cL_law 4 2048 600000 7302249) (hS : SC X b N xs) (hN : N ≤ 3072) (hi : i + 6 ≤ N) (ih : LN X i) (h : LI i S k n) : V X 228 [some (.ref 999), some (.ref 200), some (.ref 0), some (.int (nI i))] [] S k n := by
  obtain ⟨A, T, B, J, L, Q, td, bo, pd, hM, hY, hO, ht, hk, hn⟩ := h
  have hen := hO.en
  have hrm := gn_room (show en L ≤ 102400 by omega)
  refine V_aload_n E dL_law_228 rfl ?_
  refine V_aload_n E dL_law_229 rfl ?_
  refine V_iload_n E dL_law_230 rfl ?_
  refine V_iconst (v := 1) E dL_law_231 (by decide) ?_
  refine V_iadd E dL_law_232 ?_
  refine V_sld (j := (i + 1)) E hS dL_law_233 (ni_add (a := i) (b := 1) (@rfl _ (nI (i))) (rfl : (1 : Int32) = nI 1)) (by omega) (by omega) ?_
  refine V_aload_n E dL_law_234 rfl ?_
  refine V_iload_n E dL_law_235 rfl ?_
  refine V_iconst (v := 2) E dL_law_236 (by decide) ?_
  refine V_iadd E dL_law_237 ?_
  refine V_sld (j := (i + 2)) E hS dL_law_238 (ni_add (a := i) (b := 2) (@rfl _ (nI (i))) (rfl : (2 : Int32) = nI 2)) (by omega) (by omega) ?_
  refine V_aload_n E dL_law_239 rfl ?_
  refine V_iload_n E dL_law_240 rfl ?_
  refine V_iconst (v := 3) E dL_law_241 (by decide) ?_
  refine V_iadd E dL_law_242 ?_
  refine V_sld (j := (i + 3)) E hS dL_law_243 (ni_add (a := i) (b := 3) (@rfl _ (nI (i))) (rfl : (3 : Int32) = nI 3)) (by omega) (by omega) ?_
  refine V_callV E (cy_move (x_l X) 0 S A td hO.1 hY.1 hY.2.1 (xs (i + 1)) (xs (i + 2)) (xs (i + 3))) ml_L_23 mv_X10_move (hY.1.k 200 11 rfl (by decide)) dL_law_244 rfl (by simp [Value.category]) (by omega) (by omega) (by omega) (fun r S2 hp => ?_)
  rcases hp with ⟨hP, rfl, hS2, hS2b⟩ | ⟨hP, rfl, hS2⟩
  · have hv := wi_lt hP.1.1.1
    have hu := wi_lt hP.1.1.2.1
    have hg := wi_1 (a := 1) hP.2.1
    obtain ⟨hY2, fY⟩ := sy_move hY hO hv hu hS2 hS2b
    have hM2 := hM.fr fY
    refine V_aload_n E dL_law_247 rfl ?_
    refine V_aload_n E dL_law_248 rfl ?_
    refine V_iload_n E dL_law_249 rfl ?_
    refine V_iconst (v := 1) E dL_law_250 (by decide) ?_
    refine V_iadd E dL_law_251 ?_
    refine V_sld (j := (i + 1)) E hS dL_law_252 (ni_add (a := i) (b := 1) (@rfl _ (nI (i))) (rfl : (1 : Int32) = nI 1)) (by omega) (by omega) ?_
    refine V_aload_n E dL_law_253 rfl ?_
    refine V_iload_n E dL_law_254 rfl ?_
    refine V_iconst (v := 2) E dL_law_255 (by decide) ?_
    refine V_iadd E dL_law_256 ?_
    refine V_sld (j := (i + 2)) E hS dL_law_257 (ni_add (a := i) (b := 2) (@rfl _ (nI (i))) (rfl : (2 : Int32) = nI 2)) (by omega) (by omega) ?_
    refine V_aload_n E dL_law_258 rfl ?_
    refine V_iload_n E dL_law_259 rfl ?_
    refine V_iconst (v := 3) E dL_law_260 (by decide) ?_
    refine V_iadd E dL_law_261 ?_
    refine V_sld (j := (i + 3)) E hS dL_law_262 (ni_add (a := i) (b := 3) (@rfl _ (nI (i))) (rfl : (3 : Int32) = nI 3)) (by omega) (by omega) ?_
    refine V_callV E (cm_move (x_l X) 0 _ A td hO.1 hM2.1 hM2.2.1 (xs (i + 1)) (xs (i + 2)) (xs (i + 3))) ml_L_27 mv_X11_move hM2.1.o dL_law_263 rfl (by simp [Value.category]) (by omega) (by omega) (by omega) (fun r S3 hp => ?_)
    rcases hp with ⟨-, rfl, hS3, hS3b⟩ | ⟨hP3, -, -⟩
    · obtain ⟨hM3, fM⟩ := st_move hM2 hO hP.1.2.1.1 (fun q => (hP.1.2.2 q).2) hS3 hS3b
      have hO3 := so_move hO hv hu hP.1.1.2.2 (by omega) (by omega) hP.2.2 hP.1.2.1.1 hP.1.2.2
      have hY3 := hY2.fr hO3.1.1 hO3.2.2.1.1 fM
      refine V_icmp_eq (tgt := 1008) E dL_law_266 (by decide) (fun _ => ?_) (fun hx => absurd hx (fun q => q rfl))
      exact ih _ _ _ ⟨_, _, _, _, _, _, _, _, _, hM3, hY3, hO3, by omega, by omega, by omega⟩
    · exact absurd hP hP3
  · obtain rfl := hS2.symm
    have hM2 := hM
    have hY2 := hY
    refine V_aload_n E dL_law_247 rfl ?_
    refine V_aload_n E dL_law_248 rfl ?_
    refine V_iload_n E dL_law_249 rfl ?_
    refine V_iconst (v := 1) E dL_law_250 (by decide) ?_
    refine V_iadd E dL_law_251 ?_
    refine V_sld (j := (i + 1)) E hS dL_law_252 (ni_add (a := i) (b := 1) (@rfl _ (nI (i))) (rfl : (1 : Int32) = nI 1)) (by omega) (by omega) ?_
    refine V_aload_n E dL_law_253 rfl ?_
    refine V_iload_n E dL_law_254 rfl ?_
    refine V_iconst (v := 2) E dL_law_255 (by decide) ?_
    refine V_iadd E dL_law_256 ?_
    refine V_sld (j := (i + 2)) E hS dL_law_257 (ni_add (a := i) (b := 2) (@rfl _ (nI (i))) (rfl : (2 : Int32) = nI 2)) (by omega) (by omega) ?_
    refine V_aload_n E dL_law_258 rfl ?_
    refine V_iload_n E dL_law_259 rfl ?_
    refine V_iconst (v := 3) E dL_law_260 (by decide) ?_
    refine V_iadd E dL_law_261 ?_
    refine V_sld (j := (i + 3)) E hS dL_law_262 (ni_add (a := i) (b := 3) (@rfl _ (nI (i))) (rfl : (3 : Int32) = nI 3)) (by omega) (by omega) ?_
    refine V_callV E (cm_move (x_l X) 0 _ A td hO.1 hM2.1 hM2.2.1 (xs (i + 1)) (xs (i + 2)) (xs (i + 3))) ml_L_27 mv_X11_move hM2.1.o dL_law_263 rfl (by simp [Value.category]) (by omega) (by omega) (by omega) (fun r S3 hp => ?_)
    rcases hp with ⟨hP3, -, -⟩ | ⟨-, rfl, hS3⟩
    · exact absurd hP3 hP
    · obtain rfl := hS3.symm
      have hM3 := hM2
      have hY3 := hY2
      have hO3 := hO
      refine V_icmp_eq (tgt := 1008) E dL_law_266 (by decide) (fun _ => ?_) (fun hx => absurd hx (fun q => q rfl))
      exact ih _ _ _ ⟨_, _, _, _, _, _, _, _, _, hM3, hY3, hO3, by omega, by omega, by omega⟩

theorem lc_turn (E : En X RL cL_law 4 2048 600000 7302249) (hS : SC X b N xs) (hN : N ≤ 3072) (hi : i + 6 ≤ N) (ih : LN X i) (h : LI i S k n) : V X 271 [some (.ref 999), some (.ref 200), some (.ref 0), some (.int (nI i))] [] S k n := by
  obtain ⟨A, T, B, J, L, Q, td, bo, pd, hM, hY, hO, ht, hk, hn⟩ := h
  have hen := hO.en
  have hrm := gn_room (show en L ≤ 102400 by omega)
  refine V_aload_n E dL_law_271 rfl ?_
  refine V_aload_n E dL_law_272 rfl ?_
  refine V_iload_n E dL_law_273 rfl ?_
  refine V_iconst (v := 1) E dL_law_274 (by decide) ?_
  refine V_iadd E dL_law_275 ?_
  refine V_sld (j := (i + 1)) E hS dL_law_276 (ni_add (a := i) (b := 1) (@rfl _ (nI (i))) (rfl : (1 : Int32) = nI 1)) (by omega) (by omega) ?_
  refine V_callV E (cy_turn (x_l X) 0 S A td hO.1 hY.1 hY.2.1 (xs (i + 1))) ml_L_28 mv_X10_turn (hY.1.k 200 11 rfl (by decide)) dL_law_277 rfl (by simp [Value.category]) (by omega) (by omega) (by omega) (fun r S2 hp => ?_)
  rcases hp with ⟨hP, rfl, hS2⟩ | ⟨hP, rfl, hS2⟩
  · have hv := wi_lt hP.1.1
    obtain ⟨hY2, fY⟩ := sy_mark (c := 1) hY hO hv
    rw [← hS2] at hY2 fY
    have hM2 := hM.fr fY
    refine V_aload_n E dL_law_280 rfl ?_
    refine V_aload_n E dL_law_281 rfl ?_
    refine V_iload_n E dL_law_282 rfl ?_
    refine V_iconst (v := 1) E dL_law_283 (by decide) ?_
    refine V_iadd E dL_law_284 ?_
    refine V_sld (j := (i + 1)) E hS dL_law_285 (ni_add (a := i) (b := 1) (@rfl _ (nI (i))) (rfl : (1 : Int32) = nI 1)) (by omega) (by omega) ?_
    refine V_callV E (cm_turn (x_l X) 0 _ A td hO.1 hM2.1 hM2.2.1 (xs (i + 1))) ml_L_32 mv_X11_turn hM2.1.o dL_law_286 rfl (by simp [Value.category]) (by omega) (by omega) (by omega) (fun r S3 hp => ?_)
    rcases hp with ⟨-, rfl, hS3⟩ | ⟨hP3, -, -⟩
    · obtain ⟨hM3, fM⟩ := st_mark (v := (tn (xs (i + 1)))) (c := 1) hM2
      rw [← hS3] at hM3 fM
      have hO3 := so_mark hO hv (Nat.le_refl 1)
      have hY3 := hY2.fr hO3.1.1 hO3.2.2.1.1 fM
      refine V_icmp_eq (tgt := 1008) E dL_law_289 (by decide) (fun _ => ?_) (fun hx => absurd hx (fun q => q rfl))
      exact ih _ _ _ ⟨_, _, _, _, _, _, _, _, _, hM3, hY3, hO3, by omega, by omega, by omega⟩
    · exact absurd hP hP3
  · obtain rfl := hS2.symm
    have hM2 := hM
    have hY2 := hY
    refine V_aload_n E dL_law_280 rfl ?_
    refine V_aload_n E dL_law_281 rfl ?_
    refine V_iload_n E dL_law_282 rfl ?_
    refine V_iconst (v := 1) E dL_law_283 (by decide) ?_
    refine V_iadd E dL_law_284 ?_
    refine V_sld (j := (i + 1)) E hS dL_law_285 (ni_add (a := i) (b := 1) (@rfl _ (nI (i))) (rfl : (1 : Int32) = nI 1)) (by omega) (by omega) ?_
    refine V_callV E (cm_turn (x_l X) 0 _ A td hO.1 hM2.1 hM2.2.1 (xs (i + 1))) ml_L_32 mv_X11_turn hM2.1.o dL_law_286 rfl (by simp [Value.category]) (by omega) (by omega) (by omega) (fun r S3 hp => ?_)
    rcases hp with ⟨hP3, -, -⟩ | ⟨-, rfl, hS3⟩
    · exact absurd hP3 hP
    · obtain rfl := hS3.symm
      have hM3 := hM2
      have hY3 := hY2
      have hO3 := hO
      refine V_icmp_eq (tgt := 1008) E dL_law_289 (by decide) (fun _ => ?_) (fun hx => absurd hx (fun q => q rfl))
      exact ih _ _ _ ⟨_, _, _, _, _, _, _, _, _, hM3, hY3, hO3, by omega, by omega, by omega⟩

theorem lc_cover (E : En X RL cL_law 4 2048 600000 7302249) (hS : SC X b N xs) (hN : N ≤ 3072) (hi : i + 6 ≤ N) (ih : LN X i) (h : LI i S k n) : V X 294 [some (.ref 999), some (.ref 200), some (.ref 0), some (.int (nI i))] [] S k n := by
  obtain ⟨A, T, B, J, L, Q, td, bo, pd, hM, hY, hO, ht, hk, hn⟩ := h
  have hen := hO.en
  have hrm := gn_room (show en L ≤ 102400 by omega)
  by_cases hb0 : xs (i + 2) = 0
  · refine V_aload_n E dL_law_294 rfl ?_
    refine V_aload_n E dL_law_295 rfl ?_
    refine V_iload_n E dL_law_296 rfl ?_
    refine V_iconst (v := 1) E dL_law_297 (by decide) ?_
    refine V_iadd E dL_law_298 ?_
    refine V_sld (j := (i + 1)) E hS dL_law_299 (ni_add (a := i) (b := 1) (@rfl _ (nI (i))) (rfl : (1 : Int32) = nI 1)) (by omega) (by omega) ?_
    refine V_aload_n E dL_law_300 rfl ?_
    refine V_iload_n E dL_law_301 rfl ?_
    refine V_iconst (v := 2) E dL_law_302 (by decide) ?_
    refine V_iadd E dL_law_303 ?_
    refine V_sld (j := (i + 2)) E hS dL_law_304 (ni_add (a := i) (b := 2) (@rfl _ (nI (i))) (rfl : (2 : Int32) = nI 2)) (by omega) (by omega) ?_
    refine V_if_eq (tgt := 312) E dL_law_305 (by decide) (fun _ => ?_) (fun hx => absurd hx (fun q => q hb0))
    refine V_iconst (v := 0) E dL_law_312 (by decide) ?_
    refine V_cvi (y := nI (0)) (rfl : (0 : Int32) = nI 0) ?_
    refine V_callV E (cy_cover (x_l X) 0 S A td hO.1 hY.1 hY.2.1 (xs (i + 1)) 0 (by decide)) ml_L_33 mv_X10_cover (hY.1.k 200 11 rfl (by decide)) dL_law_313 rfl (by simp [Value.category]) (by omega) (by omega) (by omega) (fun r S2 hp => ?_)
    rcases hp with ⟨hP, rfl, hS2⟩ | ⟨hP, rfl, hS2⟩
    · have hv := wi_lt hP.1.1
      obtain ⟨hY2, fY⟩ := sy_mark (c := 0) hY hO hv
      rw [← hS2] at hY2 fY
      have hM2 := hM.fr fY
      refine V_aload_n E dL_law_316 rfl ?_
      refine V_aload_n E dL_law_317 rfl ?_
      refine V_iload_n E dL_law_318 rfl ?_
      refine V_iconst (v := 1) E dL_law_319 (by decide) ?_
      refine V_iadd E dL_law_320 ?_
      refine V_sld (j := (i + 1)) E hS dL_law_321 (ni_add (a := i) (b := 1) (@rfl _ (nI (i))) (rfl : (1 : Int32) = nI 1)) (by omega) (by omega) ?_
      refine V_aload_n E dL_law_322 rfl ?_
      refine V_iload_n E dL_law_323 rfl ?_
      refine V_iconst (v := 2) E dL_law_324 (by decide) ?_
      refine V_iadd E dL_law_325 ?_
      refine V_sld (j := (i + 2)) E hS dL_law_326 (ni_add (a := i) (b := 2) (@rfl _ (nI (i))) (rfl : (2 : Int32) = nI 2)) (by omega) (by omega) ?_
      refine V_if_eq (tgt := 334) E dL_law_327 (by decide) (fun _ => ?_) (fun hx => absurd hx (fun q => q hb0))
      refine V_iconst (v := 0) E dL_law_334 (by decide) ?_
      refine V_cvi (y := nI (0)) (rfl : (0 : Int32) = nI 0) ?_
      refine V_callV E (cm_cover (x_l X) 0 _ A td hO.1 hM2.1 hM2.2.1 (xs (i + 1)) 0 (by decide)) ml_L_37 mv_X11_cover hM2.1.o dL_law_335 rfl (by simp [Value.category]) (by omega) (by omega) (by omega) (fun r S3 hp => ?_)
      rcases hp with ⟨-, rfl, hS3⟩ | ⟨hP3, -, -⟩
      · obtain ⟨hM3, fM⟩ := st_mark (v := (tn (xs (i + 1)))) (c := 0) hM2
        rw [← hS3] at hM3 fM
        have hO3 := so_mark hO hv (show 0 ≤ 1 by decide)
        have hY3 := hY2.fr hO3.1.1 hO3.2.2.1.1 fM
        refine V_icmp_eq (tgt := 1008) E dL_law_338 (by decide) (fun _ => ?_) (fun hx => absurd hx (fun q => q rfl))
        exact ih _ _ _ ⟨_, _, _, _, _, _, _, _, _, hM3, hY3, hO3, by omega, by omega, by omega⟩
      · exact absurd hP hP3
    · obtain rfl := hS2.symm
      have hM2 := hM
      have hY2 := hY
      refine V_aload_n E dL_law_316 rfl ?_
      refine V_aload_n E dL_law_317 rfl ?_
      refine V_iload_n E dL_law_318 rfl ?_
      refine V_iconst (v := 1) E dL_law_319 (by decide) ?_
      refine V_iadd E dL_law_320 ?_
      refine V_sld (j := (i + 1)) E hS dL_law_321 (ni_add (a := i) (b := 1) (@rfl _ (nI (i))) (rfl : (1 : Int32) = nI 1)) (by omega) (by omega) ?_
      refine V_aload_n E dL_law_322 rfl ?_
      refine V_iload_n E dL_law_323 rfl ?_
      refine V_iconst (v := 2) E dL_law_324 (by decide) ?_
      refine V_iadd E dL_law_325 ?_
      refine V_sld (j := (i + 2)) E hS dL_law_326 (ni_add (a := i) (b := 2) (@rfl _ (nI (i))) (rfl : (2 : Int32) = nI 2)) (by omega) (by omega) ?_
      refine V_if_eq (tgt := 334) E dL_law_327 (by decide) (fun _ => ?_) (fun hx => absurd hx (fun q => q hb0))
      refine V_iconst (v := 0) E dL_law_334 (by decide) ?_
      refine V_cvi (y := nI (0)) (rfl : (0 : Int32) = nI 0) ?_
      refine V_callV E (cm_cover (x_l X) 0 _ A td hO.1 hM2.1 hM2.2.1 (xs (i + 1)) 0 (by decide)) ml_L_37 mv_X11_cover hM2.1.o dL_law_335 rfl (by simp [Value.category]) (by omega) (by omega) (by omega) (fun r S3 hp => ?_)
      rcases hp with ⟨hP3, -, -⟩ | ⟨-, rfl, hS3⟩
      · exact absurd hP3 hP
      · obtain rfl := hS3.symm
        have hM3 := hM2
        have hY3 := hY2
        have hO3 := hO
        refine V_icmp_eq (tgt := 1008) E dL_law_338 (by decide) (fun _ => ?_) (fun hx => absurd hx (fun q => q rfl))
        exact ih _ _ _ ⟨_, _, _, _, _, _, _, _, _, hM3, hY3, hO3, by omega, by omega, by omega⟩
  · refine V_aload_n E dL_law_294 rfl ?_
    refine V_aload_n E dL_law_295 rfl ?_
    refine V_iload_n E dL_law_296 rfl ?_
    refine V_iconst (v := 1) E dL_law_297 (by decide) ?_
    refine V_iadd E dL_law_298 ?_
    refine V_sld (j := (i + 1)) E hS dL_law_299 (ni_add (a := i) (b := 1) (@rfl _ (nI (i))) (rfl : (1 : Int32) = nI 1)) (by omega) (by omega) ?_
    refine V_aload_n E dL_law_300 rfl ?_
    refine V_iload_n E dL_law_301 rfl ?_
    refine V_iconst (v := 2) E dL_law_302 (by decide) ?_
    refine V_iadd E dL_law_303 ?_
    refine V_sld (j := (i + 2)) E hS dL_law_304 (ni_add (a := i) (b := 2) (@rfl _ (nI (i))) (rfl : (2 : Int32) = nI 2)) (by omega) (by omega) ?_
    refine V_if_eq (tgt := 312) E dL_law_305 (by decide) (fun hx => absurd hx hb0) (fun _ => ?_)
    refine V_iconst (v := 1) E dL_law_308 (by decide) ?_
    refine V_goto (tgt := 313) E dL_law_309 (by decide) ?_
    refine V_cvi (y := nI (1)) (rfl : (1 : Int32) = nI 1) ?_
    refine V_callV E (cy_cover (x_l X) 0 S A td hO.1 hY.1 hY.2.1 (xs (i + 1)) 1 (by decide)) ml_L_33 mv_X10_cover (hY.1.k 200 11 rfl (by decide)) dL_law_313 rfl (by simp [Value.category]) (by omega) (by omega) (by omega) (fun r S2 hp => ?_)
    rcases hp with ⟨hP, rfl, hS2⟩ | ⟨hP, rfl, hS2⟩
    · have hv := wi_lt hP.1.1
      obtain ⟨hY2, fY⟩ := sy_mark (c := 1) hY hO hv
      rw [← hS2] at hY2 fY
      have hM2 := hM.fr fY
      refine V_aload_n E dL_law_316 rfl ?_
      refine V_aload_n E dL_law_317 rfl ?_
      refine V_iload_n E dL_law_318 rfl ?_
      refine V_iconst (v := 1) E dL_law_319 (by decide) ?_
      refine V_iadd E dL_law_320 ?_
      refine V_sld (j := (i + 1)) E hS dL_law_321 (ni_add (a := i) (b := 1) (@rfl _ (nI (i))) (rfl : (1 : Int32) = nI 1)) (by omega) (by omega) ?_
      refine V_aload_n E dL_law_322 rfl ?_
      refine V_iload_n E dL_law_323 rfl ?_
      refine V_iconst (v := 2) E dL_law_324 (by decide) ?_
      refine V_iadd E dL_law_325 ?_
      refine V_sld (j := (i + 2)) E hS dL_law_326 (ni_add (a := i) (b := 2) (@rfl _ (nI (i))) (rfl : (2 : Int32) = nI 2)) (by omega) (by omega) ?_
      refine V_if_eq (tgt := 334) E dL_law_327 (by decide) (fun hx => absurd hx hb0) (fun _ => ?_)
      refine V_iconst (v := 1) E dL_law_330 (by decide) ?_
      refine V_goto (tgt := 335) E dL_law_331 (by decide) ?_
      refine V_cvi (y := nI (1)) (rfl : (1 : Int32) = nI 1) ?_
      refine V_callV E (cm_cover (x_l X) 0 _ A td hO.1 hM2.1 hM2.2.1 (xs (i + 1)) 1 (by decide)) ml_L_37 mv_X11_cover hM2.1.o dL_law_335 rfl (by simp [Value.category]) (by omega) (by omega) (by omega) (fun r S3 hp => ?_)
      rcases hp with ⟨-, rfl, hS3⟩ | ⟨hP3, -, -⟩
      · obtain ⟨hM3, fM⟩ := st_mark (v := (tn (xs (i + 1)))) (c := 1) hM2
        rw [← hS3] at hM3 fM
        have hO3 := so_mark hO hv (show 1 ≤ 1 by decide)
        have hY3 := hY2.fr hO3.1.1 hO3.2.2.1.1 fM
        refine V_icmp_eq (tgt := 1008) E dL_law_338 (by decide) (fun _ => ?_) (fun hx => absurd hx (fun q => q rfl))
        exact ih _ _ _ ⟨_, _, _, _, _, _, _, _, _, hM3, hY3, hO3, by omega, by omega, by omega⟩
      · exact absurd hP hP3
    · obtain rfl := hS2.symm
      have hM2 := hM
      have hY2 := hY
      refine V_aload_n E dL_law_316 rfl ?_
      refine V_aload_n E dL_law_317 rfl ?_
      refine V_iload_n E dL_law_318 rfl ?_
      refine V_iconst (v := 1) E dL_law_319 (by decide) ?_
      refine V_iadd E dL_law_320 ?_
      refine V_sld (j := (i + 1)) E hS dL_law_321 (ni_add (a := i) (b := 1) (@rfl _ (nI (i))) (rfl : (1 : Int32) = nI 1)) (by omega) (by omega) ?_
      refine V_aload_n E dL_law_322 rfl ?_
      refine V_iload_n E dL_law_323 rfl ?_
      refine V_iconst (v := 2) E dL_law_324 (by decide) ?_
      refine V_iadd E dL_law_325 ?_
      refine V_sld (j := (i + 2)) E hS dL_law_326 (ni_add (a := i) (b := 2) (@rfl _ (nI (i))) (rfl : (2 : Int32) = nI 2)) (by omega) (by omega) ?_
      refine V_if_eq (tgt := 334) E dL_law_327 (by decide) (fun hx => absurd hx hb0) (fun _ => ?_)
      refine V_iconst (v := 1) E dL_law_330 (by decide) ?_
      refine V_goto (tgt := 335) E dL_law_331 (by decide) ?_
      refine V_cvi (y := nI (1)) (rfl : (1 : Int32) = nI 1) ?_
      refine V_callV E (cm_cover (x_l X) 0 _ A td hO.1 hM2.1 hM2.2.1 (xs (i + 1)) 1 (by decide)) ml_L_37 mv_X11_cover hM2.1.o dL_law_335 rfl (by simp [Value.category]) (by omega) (by omega) (by omega) (fun r S3 hp => ?_)
      rcases hp with ⟨hP3, -, -⟩ | ⟨-, rfl, hS3⟩
      · exact absurd hP3 hP
      · obtain rfl := hS3.symm
        have hM3 := hM2
        have hY3 := hY2
        have hO3 := hO
        refine V_icmp_eq (tgt := 1008) E dL_law_338 (by decide) (fun _ => ?_) (fun hx => absurd hx (fun q => q rfl))
        exact ih _ _ _ ⟨_, _, _, _, _, _, _, _, _, hM3, hY3, hO3, by omega, by omega, by omega⟩

theorem lc_day (E : En X RL cL_law 4 2048 600000 7302249) (hS : SC X b N xs) (hN : N ≤ 3072) (hi : i + 6 ≤ N) (ih : LN X i) (h : LI i S k n) : V X 343 [some (.ref 999), some (.ref 200), some (.ref 0), some (.int (nI i))] [] S k n := by
  obtain ⟨A, T, B, J, L, Q, td, bo, pd, hM, hY, hO, ht, hk, hn⟩ := h
  have hen := hO.en
  have hrm := gn_room (show en L ≤ 102400 by omega)
  by_cases hb0 : xs (i + 2) = 0
  · refine V_aload_n E dL_law_343 rfl ?_
    refine V_aload_n E dL_law_344 rfl ?_
    refine V_iload_n E dL_law_345 rfl ?_
    refine V_iconst (v := 1) E dL_law_346 (by decide) ?_
    refine V_iadd E dL_law_347 ?_
    refine V_sld (j := (i + 1)) E hS dL_law_348 (ni_add (a := i) (b := 1) (@rfl _ (nI (i))) (rfl : (1 : Int32) = nI 1)) (by omega) (by omega) ?_
    refine V_aload_n E dL_law_349 rfl ?_
    refine V_iload_n E dL_law_350 rfl ?_
    refine V_iconst (v := 2) E dL_law_351 (by decide) ?_
    refine V_iadd E dL_law_352 ?_
    refine V_sld (j := (i + 2)) E hS dL_law_353 (ni_add (a := i) (b := 2) (@rfl _ (nI (i))) (rfl : (2 : Int32) = nI 2)) (by omega) (by omega) ?_
    refine V_if_eq (tgt := 361) E dL_law_354 (by decide) (fun _ => ?_) (fun hx => absurd hx (fun q => q hb0))
    refine V_iconst (v := 0) E dL_law_361 (by decide) ?_
    refine V_cvi (y := nI (0)) (rfl : (0 : Int32) = nI 0) ?_
    refine V_callV E (cy_day (x_l X) 0 S A td hO.1 hY.1 hY.2.1 (by omega) td hY.2.2.2.2.2.2.2.1 (xs (i + 1)) 0 (by decide)) ml_L_38 mv_X10_day (hY.1.k 200 11 rfl (by decide)) dL_law_362 rfl (by simp [Value.category]) (by omega) (by omega) (by omega) (fun r S2 hp => ?_)
    rcases hp with ⟨hP, rfl, S9, hS2, hS2b, hS2c⟩ | ⟨hP, rfl, hS2⟩
    · obtain ⟨hY2, fY⟩ := sy_day hY hO hS2b hS2c
      rw [← hS2] at hY2 fY
      have hM2 := hM.fr fY
      refine V_aload_n E dL_law_365 rfl ?_
      refine V_aload_n E dL_law_366 rfl ?_
      refine V_iload_n E dL_law_367 rfl ?_
      refine V_iconst (v := 1) E dL_law_368 (by decide) ?_
      refine V_iadd E dL_law_369 ?_
      refine V_sld (j := (i + 1)) E hS dL_law_370 (ni_add (a := i) (b := 1) (@rfl _ (nI (i))) (rfl : (1 : Int32) = nI 1)) (by omega) (by omega) ?_
      refine V_aload_n E dL_law_371 rfl ?_
      refine V_iload_n E dL_law_372 rfl ?_
      refine V_iconst (v := 2) E dL_law_373 (by decide) ?_
      refine V_iadd E dL_law_374 ?_
      refine V_sld (j := (i + 2)) E hS dL_law_375 (ni_add (a := i) (b := 2) (@rfl _ (nI (i))) (rfl : (2 : Int32) = nI 2)) (by omega) (by omega) ?_
      refine V_if_eq (tgt := 383) E dL_law_376 (by decide) (fun _ => ?_) (fun hx => absurd hx (fun q => q hb0))
      refine V_iconst (v := 0) E dL_law_383 (by decide) ?_
      refine V_cvi (y := nI (0)) (rfl : (0 : Int32) = nI 0) ?_
      refine V_callV E (cm_day (x_l X) 0 _ A td hO.1 hM2.1 hM2.2.1 (by omega) td hM2.2.2.2.2.2.2.2.1 (xs (i + 1)) 0 (by decide)) ml_L_42 mv_X11_day hM2.1.o dL_law_384 rfl (by simp [Value.category]) (by omega) (by omega) (by omega) (fun r S3 hp => ?_)
      rcases hp with ⟨-, rfl, f, g, h, hS3, hS3b⟩ | ⟨hP3, -, -⟩
      · rw [hS3] at hS3b
        obtain ⟨hM3, fM⟩ := st_day hM2 hS3b
        rw [← hS3] at hM3 fM
        have hO3 := so_day (su := (tn (xs (i + 1)))) (ra := 0) hO (show td + 1 ≤ 600 by omega)
        have hY3 := hY2.fr hO3.1.1 hO3.2.2.1.1 fM
        refine V_icmp_eq (tgt := 1008) E dL_law_387 (by decide) (fun _ => ?_) (fun hx => absurd hx (fun q => q rfl))
        exact ih _ _ _ ⟨_, _, _, _, _, _, _, _, _, hM3, hY3, hO3, by omega, by omega, by omega⟩
      · exact absurd hP hP3
    · obtain rfl := hS2.symm
      have hM2 := hM
      have hY2 := hY
      refine V_aload_n E dL_law_365 rfl ?_
      refine V_aload_n E dL_law_366 rfl ?_
      refine V_iload_n E dL_law_367 rfl ?_
      refine V_iconst (v := 1) E dL_law_368 (by decide) ?_
      refine V_iadd E dL_law_369 ?_
      refine V_sld (j := (i + 1)) E hS dL_law_370 (ni_add (a := i) (b := 1) (@rfl _ (nI (i))) (rfl : (1 : Int32) = nI 1)) (by omega) (by omega) ?_
      refine V_aload_n E dL_law_371 rfl ?_
      refine V_iload_n E dL_law_372 rfl ?_
      refine V_iconst (v := 2) E dL_law_373 (by decide) ?_
      refine V_iadd E dL_law_374 ?_
      refine V_sld (j := (i + 2)) E hS dL_law_375 (ni_add (a := i) (b := 2) (@rfl _ (nI (i))) (rfl : (2 : Int32) = nI 2)) (by omega) (by omega) ?_
      refine V_if_eq (tgt := 383) E dL_law_376 (by decide) (fun _ => ?_) (fun hx => absurd hx (fun q => q hb0))
      refine V_iconst (v := 0) E dL_law_383 (by decide) ?_
      refine V_cvi (y := nI (0)) (rfl : (0 : Int32) = nI 0) ?_
      refine V_callV E (cm_day (x_l X) 0 _ A td hO.1 hM2.1 hM2.2.1 (by omega) td hM2.2.2.2.2.2.2.2.1 (xs (i + 1)) 0 (by decide)) ml_L_42 mv_X11_day hM2.1.o dL_law_384 rfl (by simp [Value.category]) (by omega) (by omega) (by omega) (fun r S3 hp => ?_)
      rcases hp with ⟨hP3, -, -⟩ | ⟨-, rfl, hS3⟩
      · exact absurd hP3 hP
      · obtain rfl := hS3.symm
        have hM3 := hM2
        have hY3 := hY2
        have hO3 := hO
        refine V_icmp_eq (tgt := 1008) E dL_law_387 (by decide) (fun _ => ?_) (fun hx => absurd hx (fun q => q rfl))
        exact ih _ _ _ ⟨_, _, _, _, _, _, _, _, _, hM3, hY3, hO3, by omega, by omega, by omega⟩
  · refine V_aload_n E dL_law_343 rfl ?_
    refine V_aload_n E dL_law_344 rfl ?_
    refine V_iload_n E dL_law_345 rfl ?_
    refine V_iconst (v := 1) E dL_law_346 (by decide) ?_
    refine V_iadd E dL_law_347 ?_
    refine V_sld (j := (i + 1)) E hS dL_law_348 (ni_add (a := i) (b := 1) (@rfl _ (nI (i))) (rfl : (1 : Int32) = nI 1)) (by omega) (by omega) ?_
    refine V_aload_n E dL_law_349 rfl ?_
    refine V_iload_n E dL_law_350 rfl ?_
    refine V_iconst (v := 2) E dL_law_351 (by decide) ?_
    refine V_iadd E dL_law_352 ?_
    refine V_sld (j := (i + 2)) E hS dL_law_353 (ni_add (a := i) (b := 2) (@rfl _ (nI (i))) (rfl : (2 : Int32) = nI 2)) (by omega) (by omega) ?_
    refine V_if_eq (tgt := 361) E dL_law_354 (by decide) (fun hx => absurd hx hb0) (fun _ => ?_)
    refine V_iconst (v := 1) E dL_law_357 (by decide) ?_
    refine V_goto (tgt := 362) E dL_law_358 (by decide) ?_
    refine V_cvi (y := nI (1)) (rfl : (1 : Int32) = nI 1) ?_
    refine V_callV E (cy_day (x_l X) 0 S A td hO.1 hY.1 hY.2.1 (by omega) td hY.2.2.2.2.2.2.2.1 (xs (i + 1)) 1 (by decide)) ml_L_38 mv_X10_day (hY.1.k 200 11 rfl (by decide)) dL_law_362 rfl (by simp [Value.category]) (by omega) (by omega) (by omega) (fun r S2 hp => ?_)
    rcases hp with ⟨hP, rfl, S9, hS2, hS2b, hS2c⟩ | ⟨hP, rfl, hS2⟩
    · obtain ⟨hY2, fY⟩ := sy_day hY hO hS2b hS2c
      rw [← hS2] at hY2 fY
      have hM2 := hM.fr fY
      refine V_aload_n E dL_law_365 rfl ?_
      refine V_aload_n E dL_law_366 rfl ?_
      refine V_iload_n E dL_law_367 rfl ?_
      refine V_iconst (v := 1) E dL_law_368 (by decide) ?_
      refine V_iadd E dL_law_369 ?_
      refine V_sld (j := (i + 1)) E hS dL_law_370 (ni_add (a := i) (b := 1) (@rfl _ (nI (i))) (rfl : (1 : Int32) = nI 1)) (by omega) (by omega) ?_
      refine V_aload_n E dL_law_371 rfl ?_
      refine V_iload_n E dL_law_372 rfl ?_
      refine V_iconst (v := 2) E dL_law_373 (by decide) ?_
      refine V_iadd E dL_law_374 ?_
      refine V_sld (j := (i + 2)) E hS dL_law_375 (ni_add (a := i) (b := 2) (@rfl _ (nI (i))) (rfl : (2 : Int32) = nI 2)) (by omega) (by omega) ?_
      refine V_if_eq (tgt := 383) E dL_law_376 (by decide) (fun hx => absurd hx hb0) (fun _ => ?_)
      refine V_iconst (v := 1) E dL_law_379 (by decide) ?_
      refine V_goto (tgt := 384) E dL_law_380 (by decide) ?_
      refine V_cvi (y := nI (1)) (rfl : (1 : Int32) = nI 1) ?_
      refine V_callV E (cm_day (x_l X) 0 _ A td hO.1 hM2.1 hM2.2.1 (by omega) td hM2.2.2.2.2.2.2.2.1 (xs (i + 1)) 1 (by decide)) ml_L_42 mv_X11_day hM2.1.o dL_law_384 rfl (by simp [Value.category]) (by omega) (by omega) (by omega) (fun r S3 hp => ?_)
      rcases hp with ⟨-, rfl, f, g, h, hS3, hS3b⟩ | ⟨hP3, -, -⟩
      · rw [hS3] at hS3b
        obtain ⟨hM3, fM⟩ := st_day hM2 hS3b
        rw [← hS3] at hM3 fM
        have hO3 := so_day (su := (tn (xs (i + 1)))) (ra := 1) hO (show td + 1 ≤ 600 by omega)
        have hY3 := hY2.fr hO3.1.1 hO3.2.2.1.1 fM
        refine V_icmp_eq (tgt := 1008) E dL_law_387 (by decide) (fun _ => ?_) (fun hx => absurd hx (fun q => q rfl))
        exact ih _ _ _ ⟨_, _, _, _, _, _, _, _, _, hM3, hY3, hO3, by omega, by omega, by omega⟩
      · exact absurd hP hP3
    · obtain rfl := hS2.symm
      have hM2 := hM
      have hY2 := hY
      refine V_aload_n E dL_law_365 rfl ?_
      refine V_aload_n E dL_law_366 rfl ?_
      refine V_iload_n E dL_law_367 rfl ?_
      refine V_iconst (v := 1) E dL_law_368 (by decide) ?_
      refine V_iadd E dL_law_369 ?_
      refine V_sld (j := (i + 1)) E hS dL_law_370 (ni_add (a := i) (b := 1) (@rfl _ (nI (i))) (rfl : (1 : Int32) = nI 1)) (by omega) (by omega) ?_
      refine V_aload_n E dL_law_371 rfl ?_
      refine V_iload_n E dL_law_372 rfl ?_
      refine V_iconst (v := 2) E dL_law_373 (by decide) ?_
      refine V_iadd E dL_law_374 ?_
      refine V_sld (j := (i + 2)) E hS dL_law_375 (ni_add (a := i) (b := 2) (@rfl _ (nI (i))) (rfl : (2 : Int32) = nI 2)) (by omega) (by omega) ?_
      refine V_if_eq (tgt := 383) E dL_law_376 (by decide) (fun hx => absurd hx hb0) (fun _ => ?_)
      refine V_iconst (v := 1) E dL_law_379 (by decide) ?_
      refine V_goto (tgt := 384) E dL_law_380 (by decide) ?_
      refine V_cvi (y := nI (1)) (rfl : (1 : Int32) = nI 1) ?_
      refine V_callV E (cm_day (x_l X) 0 _ A td hO.1 hM2.1 hM2.2.1 (by omega) td hM2.2.2.2.2.2.2.2.1 (xs (i + 1)) 1 (by decide)) ml_L_42 mv_X11_day hM2.1.o dL_law_384 rfl (by simp [Value.category]) (by omega) (by omega) (by omega) (fun r S3 hp => ?_)
      rcases hp with ⟨hP3, -, -⟩ | ⟨-, rfl, hS3⟩
      · exact absurd hP3 hP
      · obtain rfl := hS3.symm
        have hM3 := hM2
        have hY3 := hY2
        have hO3 := hO
        refine V_icmp_eq (tgt := 1008) E dL_law_387 (by decide) (fun _ => ?_) (fun hx => absurd hx (fun q => q rfl))
        exact ih _ _ _ ⟨_, _, _, _, _, _, _, _, _, hM3, hY3, hO3, by omega, by omega, by omega⟩

theorem lc_cut (E : En X RL cL_law 4 2048 600000 7302249) (hS : SC X b N xs) (hN : N ≤ 3072) (hi : i + 6 ≤ N) (ih : LN X i) (h : LI i S k n) : V X 392 [some (.ref 999), some (.ref 200), some (.ref 0), some (.int (nI i))] [] S k n := by
  obtain ⟨A, T, B, J, L, Q, td, bo, pd, hM, hY, hO, ht, hk, hn⟩ := h
  have hen := hO.en
  have hrm := gn_room (show en L ≤ 102400 by omega)
  refine V_aload_n E dL_law_392 rfl ?_
  refine V_aload_n E dL_law_393 rfl ?_
  refine V_iload_n E dL_law_394 rfl ?_
  refine V_iconst (v := 1) E dL_law_395 (by decide) ?_
  refine V_iadd E dL_law_396 ?_
  refine V_sld (j := (i + 1)) E hS dL_law_397 (ni_add (a := i) (b := 1) (@rfl _ (nI (i))) (rfl : (1 : Int32) = nI 1)) (by omega) (by omega) ?_
  refine V_aload_n E dL_law_398 rfl ?_
  refine V_iload_n E dL_law_399 rfl ?_
  refine V_iconst (v := 2) E dL_law_400 (by decide) ?_
  refine V_iadd E dL_law_401 ?_
  refine V_sld (j := (i + 2)) E hS dL_law_402 (ni_add (a := i) (b := 2) (@rfl _ (nI (i))) (rfl : (2 : Int32) = nI 2)) (by omega) (by omega) ?_
  refine V_aload_n E dL_law_403 rfl ?_
  refine V_iload_n E dL_law_404 rfl ?_
  refine V_iconst (v := 3) E dL_law_405 (by decide) ?_
  refine V_iadd E dL_law_406 ?_
  refine V_sld (j := (i + 3)) E hS dL_law_407 (ni_add (a := i) (b := 3) (@rfl _ (nI (i))) (rfl : (3 : Int32) = nI 3)) (by omega) (by omega) ?_
  refine V_aload_n E dL_law_408 rfl ?_
  refine V_iload_n E dL_law_409 rfl ?_
  refine V_iconst (v := 4) E dL_law_410 (by decide) ?_
  refine V_iadd E dL_law_411 ?_
  refine V_sld (j := (i + 4)) E hS dL_law_412 (ni_add (a := i) (b := 4) (@rfl _ (nI (i))) (rfl : (4 : Int32) = nI 4)) (by omega) (by omega) ?_
  refine V_callV E (cy_cut (x_l X) 0 S A td hO.1 hY.1 hY.2.1 (xs (i + 1)) (xs (i + 2)) (xs (i + 3)) (xs (i + 4))) ml_L_43 mv_X10_cut (hY.1.k 200 11 rfl (by decide)) dL_law_413 rfl (by simp [Value.category]) (by omega) (by omega) (by omega) (fun r S2 hp => ?_)
  rcases hp with ⟨hP, rfl, hS2⟩ | ⟨hP, rfl, hS2⟩
  · have hv := wi_lt hP.1.1
    obtain ⟨hY2, fY⟩ := sy_cut hY hO hv
    rw [← hS2] at hY2 fY
    have hM2 := hM.fr fY
    refine V_aload_n E dL_law_416 rfl ?_
    refine V_aload_n E dL_law_417 rfl ?_
    refine V_iload_n E dL_law_418 rfl ?_
    refine V_iconst (v := 1) E dL_law_419 (by decide) ?_
    refine V_iadd E dL_law_420 ?_
    refine V_sld (j := (i + 1)) E hS dL_law_421 (ni_add (a := i) (b := 1) (@rfl _ (nI (i))) (rfl : (1 : Int32) = nI 1)) (by omega) (by omega) ?_
    refine V_aload_n E dL_law_422 rfl ?_
    refine V_iload_n E dL_law_423 rfl ?_
    refine V_iconst (v := 2) E dL_law_424 (by decide) ?_
    refine V_iadd E dL_law_425 ?_
    refine V_sld (j := (i + 2)) E hS dL_law_426 (ni_add (a := i) (b := 2) (@rfl _ (nI (i))) (rfl : (2 : Int32) = nI 2)) (by omega) (by omega) ?_
    refine V_aload_n E dL_law_427 rfl ?_
    refine V_iload_n E dL_law_428 rfl ?_
    refine V_iconst (v := 3) E dL_law_429 (by decide) ?_
    refine V_iadd E dL_law_430 ?_
    refine V_sld (j := (i + 3)) E hS dL_law_431 (ni_add (a := i) (b := 3) (@rfl _ (nI (i))) (rfl : (3 : Int32) = nI 3)) (by omega) (by omega) ?_
    refine V_aload_n E dL_law_432 rfl ?_
    refine V_iload_n E dL_law_433 rfl ?_
    refine V_iconst (v := 4) E dL_law_434 (by decide) ?_
    refine V_iadd E dL_law_435 ?_
    refine V_sld (j := (i + 4)) E hS dL_law_436 (ni_add (a := i) (b := 4) (@rfl _ (nI (i))) (rfl : (4 : Int32) = nI 4)) (by omega) (by omega) ?_
    refine V_callV E (cm_cut (x_l X) 0 _ A td hO.1 hM2.1 hM2.2.1 (xs (i + 1)) (xs (i + 2)) (xs (i + 3)) (xs (i + 4))) ml_L_46 mv_X11_cut hM2.1.o dL_law_437 rfl (by simp [Value.category]) (by omega) (by omega) (by omega) (fun r S3 hp => ?_)
    rcases hp with ⟨-, rfl, hS3⟩ | ⟨hP3, -, -⟩
    · obtain ⟨hM3, fM⟩ := st_cut hM2
      rw [← hS3] at hM3 fM
      have hO3 := so_cut hO hv hP.1.2 hP.2.1 (by rcases hP.2.2.2 with z | z <;> omega) (gCut_in A (tn (xs (i + 1))) (tn (xs (i + 2))) (tn (xs (i + 3))) (tn (xs (i + 4))))
      have hY3 := hY2.fr hO3.1.1 hO3.2.2.1.1 fM
      refine V_icmp_eq (tgt := 1008) E dL_law_440 (by decide) (fun _ => ?_) (fun hx => absurd hx (fun q => q rfl))
      exact ih _ _ _ ⟨_, _, _, _, _, _, _, _, _, hM3, hY3, hO3, by omega, by omega, by omega⟩
    · exact absurd hP hP3
  · obtain rfl := hS2.symm
    have hM2 := hM
    have hY2 := hY
    refine V_aload_n E dL_law_416 rfl ?_
    refine V_aload_n E dL_law_417 rfl ?_
    refine V_iload_n E dL_law_418 rfl ?_
    refine V_iconst (v := 1) E dL_law_419 (by decide) ?_
    refine V_iadd E dL_law_420 ?_
    refine V_sld (j := (i + 1)) E hS dL_law_421 (ni_add (a := i) (b := 1) (@rfl _ (nI (i))) (rfl : (1 : Int32) = nI 1)) (by omega) (by omega) ?_
    refine V_aload_n E dL_law_422 rfl ?_
    refine V_iload_n E dL_law_423 rfl ?_
    refine V_iconst (v := 2) E dL_law_424 (by decide) ?_
    refine V_iadd E dL_law_425 ?_
    refine V_sld (j := (i + 2)) E hS dL_law_426 (ni_add (a := i) (b := 2) (@rfl _ (nI (i))) (rfl : (2 : Int32) = nI 2)) (by omega) (by omega) ?_
    refine V_aload_n E dL_law_427 rfl ?_
    refine V_iload_n E dL_law_428 rfl ?_
    refine V_iconst (v := 3) E dL_law_429 (by decide) ?_
    refine V_iadd E dL_law_430 ?_
    refine V_sld (j := (i + 3)) E hS dL_law_431 (ni_add (a := i) (b := 3) (@rfl _ (nI (i))) (rfl : (3 : Int32) = nI 3)) (by omega) (by omega) ?_
    refine V_aload_n E dL_law_432 rfl ?_
    refine V_iload_n E dL_law_433 rfl ?_
    refine V_iconst (v := 4) E dL_law_434 (by decide) ?_
    refine V_iadd E dL_law_435 ?_
    refine V_sld (j := (i + 4)) E hS dL_law_436 (ni_add (a := i) (b := 4) (@rfl _ (nI (i))) (rfl : (4 : Int32) = nI 4)) (by omega) (by omega) ?_
    refine V_callV E (cm_cut (x_l X) 0 _ A td hO.1 hM2.1 hM2.2.1 (xs (i + 1)) (xs (i + 2)) (xs (i + 3)) (xs (i + 4))) ml_L_46 mv_X11_cut hM2.1.o dL_law_437 rfl (by simp [Value.category]) (by omega) (by omega) (by omega) (fun r S3 hp => ?_)
    rcases hp with ⟨hP3, -, -⟩ | ⟨-, rfl, hS3⟩
    · exact absurd hP3 hP
    · obtain rfl := hS3.symm
      have hM3 := hM2
      have hY3 := hY2
      have hO3 := hO
      refine V_icmp_eq (tgt := 1008) E dL_law_440 (by decide) (fun _ => ?_) (fun hx => absurd hx (fun q => q rfl))
      exact ih _ _ _ ⟨_, _, _, _, _, _, _, _, _, hM3, hY3, hO3, by omega, by omega, by omega⟩

end
