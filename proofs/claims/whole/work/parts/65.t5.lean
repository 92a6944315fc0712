theorem cm_factor (l : Launch) (d o : Nat) (ho : o ≤ 8) (hE : o < 8 → CExp l (d + 1) (o + 1)) (S : GS) (T : AT) (i q : Nat) (f : Nat → Int32) (hT : TOK T) (hM : MOK S) (hX : MTx S T) (hi : i ≤ T.1) (hq : q ≤ 2 * i) : GC l (d + 2) yX11_factor cX11_factor 2 none [.ref 0] (pst S i (-1) o q f) (PF1 S T i o q f) (0) (0) := by
  refine GC.ofV (by decide) (Nat.le_of_ble_eq_true rfl) (fun X hl E R hnm => ?_)
  subst hl
  have E : En X RX11 cX11_factor 2 (d + 2) (0) (0) := E
  have R : Rt X none (PF1 S T i o q f) := R
  have hn := hT.1
  have z48 : ((48 : Int32)).toInt = 48 := rfl
  have z57 : ((57 : Int32)).toInt = 57 := rfl
  have z103 : ((103 : Int32)).toInt = 103 := rfl
  have z113 : ((113 : Int32)).toInt = 113 := rfl
  have z112 : ((112 : Int32)).toInt = 112 := rfl
  have z40 : ((40 : Int32)).toInt = 40 := rfl
  have z41 : ((41 : Int32)).toInt = 41 := rfl
  refine V_aload_n E dX11_factor_0 rfl ?_
  refine V_callV E (cm_look (x_l X) d S T hT hM hX i (by omega) (-1) o q f) ml_X11_178 mv_X11_look hM.o dX11_factor_1 rfl (by simp [Value.category]) (by omega) (by omega) (by omega) (fun r S2 hp => ?_)
  obtain ⟨j, sj, rfl, rfl⟩ := hp
  have vj := lk_v hT sj.2.1
  have lj := sj.1
  have uj := sj.2.1
  refine V_istore_n E dX11_factor_4 (by decide) rfl ?_
  have J24 : ¬ (48 ≤ (lkv T j).toInt ∧ (lkv T j).toInt ≤ 57) → V X 24 [some (.ref (0)), some (.int ((lkv T j)))] [] (pst S j (-1) o q f) 0 0 := by
    intro nd
    refine V_iload_n E dX11_factor_24 rfl ?_
    refine V_bipush (v := 103) E dX11_factor_25 (by decide) ?_
    refine V_icmp_eq (tgt := 42) E dX11_factor_27 (by decide) (fun h27 => ?_) (fun h27 => ?_)
    · have b27 : j < T.1 ∧ T.2 j = 103 := by have h := h27; rw [fa_eq, z103] at h; rcases vj with v | v; exact ⟨v.1, by omega⟩; omega
      refine V_aload_n E dX11_factor_42 rfl ?_
      refine V_iload_n E dX11_factor_43 rfl ?_
      refine V_bipush (v := 103) E dX11_factor_44 (by decide) ?_
      refine V_icmp_ne (tgt := 53) E dX11_factor_46 (by decide) (fun hx => absurd hx (fun z => z h27)) (fun _ => ?_)
      refine V_iconst (v := 1) E dX11_factor_49 (by decide) ?_
      refine V_goto (tgt := 64) E dX11_factor_50 (by decide) ?_
      refine V_callV E (cm_say (x_l X) d S hM j (-1) o q f (1) (by omega)) ml_X11_185 mv_X11_say hM.o dX11_factor_64 rfl (by simp [Value.category]) (by omega) (by omega) (by omega) (fun r S2 hp => ?_)
      obtain ⟨rfl, rfl⟩ := hp
      refine V_aload_n E dX11_factor_67 rfl ?_
      refine V_dup E dX11_factor_68 rfl ?_
      refine V_getI E fl_X11_169 dX11_factor_69 rfl hM.o ?_
      refine V_iconst (v := 1) E dX11_factor_72 (by decide) ?_
      refine V_iadd E dX11_factor_73 ?_
      refine V_cvi (y := nI ((j + 1))) (ni_add (a := j) (b := 1) (pst_a S j (-1) o (q + 1) (va_up f q (1))) (rfl : (1 : Int32) = nI 1)) ?_
      refine V_putI E fl_X11_169 dX11_factor_74 rfl hM.o ⟨rfl, rfl⟩ rfl ?_
      refine V_cvS (pst_sa S j (-1) o (q + 1) (va_up f q (1)) ((j + 1))) ?_
      refine V_goto (tgt := 167) E dX11_factor_77 (by decide) ?_
      exact V_vret E R dX11_factor_167 (Nat.le_refl _) (Nat.le_refl _) ⟨rfl, Or.inl ⟨j + 1, q + 1, _, rfl, POk.pre sj (POk.var b27.1 b27.2 (Or.inl ⟨rfl, rfl⟩) o q f)⟩⟩
    · have n27 : ¬ (lkv T j).toInt = 103 := fun e => h27 (by rw [fa_eq, z103]; exact e)
      refine V_iload_n E dX11_factor_30 rfl ?_
      refine V_bipush (v := 113) E dX11_factor_31 (by decide) ?_
      refine V_icmp_eq (tgt := 42) E dX11_factor_33 (by decide) (fun h33 => ?_) (fun h33 => ?_)
      · have b33 : j < T.1 ∧ T.2 j = 113 := by have h := h33; rw [fa_eq, z113] at h; rcases vj with v | v; exact ⟨v.1, by omega⟩; omega
        refine V_aload_n E dX11_factor_42 rfl ?_
        refine V_iload_n E dX11_factor_43 rfl ?_
        refine V_bipush (v := 103) E dX11_factor_44 (by decide) ?_
        refine V_icmp_ne (tgt := 53) E dX11_factor_46 (by decide) (fun _ => ?_) (fun hx => absurd hx h27)
        refine V_iload_n E dX11_factor_53 rfl ?_
        refine V_bipush (v := 113) E dX11_factor_54 (by decide) ?_
        refine V_icmp_ne (tgt := 63) E dX11_factor_56 (by decide) (fun hx => absurd hx (fun z => z h33)) (fun _ => ?_)
        refine V_iconst (v := 2) E dX11_factor_59 (by decide) ?_
        refine V_goto (tgt := 64) E dX11_factor_60 (by decide) ?_
        refine V_callV E (cm_say (x_l X) d S hM j (-1) o q f (2) (by omega)) ml_X11_185 mv_X11_say hM.o dX11_factor_64 rfl (by simp [Value.category]) (by omega) (by omega) (by omega) (fun r S2 hp => ?_)
        obtain ⟨rfl, rfl⟩ := hp
        refine V_aload_n E dX11_factor_67 rfl ?_
        refine V_dup E dX11_factor_68 rfl ?_
        refine V_getI E fl_X11_169 dX11_factor_69 rfl hM.o ?_
        refine V_iconst (v := 1) E dX11_factor_72 (by decide) ?_
        refine V_iadd E dX11_factor_73 ?_
        refine V_cvi (y := nI ((j + 1))) (ni_add (a := j) (b := 1) (pst_a S j (-1) o (q + 1) (va_up f q (2))) (rfl : (1 : Int32) = nI 1)) ?_
        refine V_putI E fl_X11_169 dX11_factor_74 rfl hM.o ⟨rfl, rfl⟩ rfl ?_
        refine V_cvS (pst_sa S j (-1) o (q + 1) (va_up f q (2)) ((j + 1))) ?_
        refine V_goto (tgt := 167) E dX11_factor_77 (by decide) ?_
        exact V_vret E R dX11_factor_167 (Nat.le_refl _) (Nat.le_refl _) ⟨rfl, Or.inl ⟨j + 1, q + 1, _, rfl, POk.pre sj (POk.var b33.1 b33.2 (Or.inr (Or.inl ⟨rfl, rfl⟩)) o q f)⟩⟩
      · have n33 : ¬ (lkv T j).toInt = 113 := fun e => h33 (by rw [fa_eq, z113]; exact e)
        refine V_iload_n E dX11_factor_36 rfl ?_
        refine V_bipush (v := 112) E dX11_factor_37 (by decide) ?_
        refine V_icmp_ne (tgt := 80) E dX11_factor_39 (by decide) (fun h39 => ?_) (fun h39 => ?_)
        · have n39 : ¬ (lkv T j).toInt = 112 := fun e => h39 (by rw [fa_eq, z112]; exact e)
          refine V_iload_n E dX11_factor_80 rfl ?_
          refine V_bipush (v := 40) E dX11_factor_81 (by decide) ?_
          refine V_icmp_ne (tgt := 163) E dX11_factor_83 (by decide) (fun h83 => ?_) (fun h83 => ?_)
          · have n83 : ¬ (lkv T j).toInt = 40 := fun e => h83 (by rw [fa_eq, z40]; exact e)
            have pb : PBad T j j j o q q := PBad.here uj (fun e => ⟨fun z => by have z1 := z.1; have z2 := z.2; omega, sj.2.2.2 e, by intro z; rcases z with z | z | z | z <;> omega⟩) q
            refine V_aload_n E dX11_factor_163 rfl ?_
            refine V_callV E (cm_fail (x_l X) d S hM j o q f) ml_X11_195 mv_X11_fail hM.o dX11_factor_164 rfl (by simp [Value.category]) (by omega) (by omega) (by omega) (fun r S2 hp => ?_)
            obtain ⟨rfl, rfl⟩ := hp
            exact V_vret E R dX11_factor_167 (Nat.le_refl _) (Nat.le_refl _) ⟨rfl, Or.inr ⟨j, j, q, f, rfl, PBad.pre sj pb⟩⟩
          · have b83 : j < T.1 ∧ T.2 j = 40 := by have h := h83; rw [fa_eq, z40] at h; rcases vj with v | v; exact ⟨v.1, by omega⟩; omega
            refine V_aload_n E dX11_factor_86 rfl ?_
            refine V_getI E fl_X11_189 dX11_factor_87 rfl hM.o ?_
            refine V_bipush (v := 8) E dX11_factor_90 (by decide) ?_
            refine V_icmp_ge (tgt := 163) E dX11_factor_92 (by decide) (fun h92 => ?_) (fun h92 => ?_)
            · rw [pst_o] at h92
              have g92 := (nI_leI (a := 8) (b := o) (by omega) (by omega)).mp h92
              have pb : PBad T j j j o q q := PBad.here uj (fun e => ⟨fun z => by have z1 := z.1; have z2 := z.2; omega, sj.2.2.2 e, by intro z; rcases z with z | z | z | z <;> omega⟩) q
              refine V_aload_n E dX11_factor_163 rfl ?_
              refine V_callV E (cm_fail (x_l X) d S hM j o q f) ml_X11_195 mv_X11_fail hM.o dX11_factor_164 rfl (by simp [Value.category]) (by omega) (by omega) (by omega) (fun r S2 hp => ?_)
              obtain ⟨rfl, rfl⟩ := hp
              exact V_vret E R dX11_factor_167 (Nat.le_refl _) (Nat.le_refl _) ⟨rfl, Or.inr ⟨j, j, q, f, rfl, PBad.pre sj pb⟩⟩
            · rw [pst_o] at h92
              have g92 : o < 8 := Nat.lt_of_not_le (fun z => h92 ((nI_leI (a := 8) (b := o) (by omega) (by omega)).mpr z))
              refine V_aload_n E dX11_factor_95 rfl ?_
              refine V_dup E dX11_factor_96 rfl ?_
              refine V_getI E fl_X11_189 dX11_factor_97 rfl hM.o ?_
              refine V_iconst (v := 1) E dX11_factor_100 (by decide) ?_
              refine V_iadd E dX11_factor_101 ?_
              refine V_cvi (y := nI ((o + 1))) (ni_add (a := o) (b := 1) (pst_o S j (-1) o q f) (rfl : (1 : Int32) = nI 1)) ?_
              refine V_putI E fl_X11_189 dX11_factor_102 rfl hM.o ⟨rfl, rfl⟩ rfl ?_
              refine V_cvS (pst_so S j (-1) o q f ((o + 1))) ?_
              refine V_aload_n E dX11_factor_105 rfl ?_
              refine V_dup E dX11_factor_106 rfl ?_
              refine V_getI E fl_X11_169 dX11_factor_107 rfl hM.o ?_
              refine V_iconst (v := 1) E dX11_factor_110 (by decide) ?_
              refine V_iadd E dX11_factor_111 ?_
              refine V_cvi (y := nI ((j + 1))) (ni_add (a := j) (b := 1) (pst_a S j (-1) ((o + 1)) q f) (rfl : (1 : Int32) = nI 1)) ?_
              refine V_putI E fl_X11_169 dX11_factor_112 rfl hM.o ⟨rfl, rfl⟩ rfl ?_
              refine V_cvS (pst_sa S j (-1) ((o + 1)) q f ((j + 1))) ?_
              refine V_aload_n E dX11_factor_115 rfl ?_
              refine V_callV E (hE g92 S T (j + 1) q f hT hM hX (by omega) (by omega)) ml_X11_192 mv_X11_expression hM.o dX11_factor_116 rfl (by simp [Value.category]) (by omega) (by omega) (by omega) (fun r S2 hp => ?_)
              rcases hp with ⟨rfl, ⟨e, q2, f2, rfl, k, kn⟩ | ⟨a, w, q2, f2, rfl, k⟩⟩
              · have ke := k.2.1
                refine V_aload_n E dX11_factor_119 rfl ?_
                refine V_getI E fl_X11_172 dX11_factor_120 rfl hM.o ?_
                refine V_iconst (v := -1) E dX11_factor_123 (by decide) ?_
                refine V_icmp_ne (tgt := 140) E dX11_factor_124 (by decide) (fun hx => absurd hx (fun z => z (pst_w S e (-1) (o + 1) q2 f2))) (fun _ => ?_)
                refine V_aload_n E dX11_factor_127 rfl ?_
                refine V_callV E (cm_look (x_l X) d S T hT hM hX e (by omega) (-1) (o + 1) q2 f2) ml_X11_178 mv_X11_look hM.o dX11_factor_128 rfl (by simp [Value.category]) (by omega) (by omega) (by omega) (fun r S2 hp => ?_)
                obtain ⟨e2, se2, rfl, rfl⟩ := hp
                obtain rfl : e2 = e := se2.same (fun z => (kn z).1)
                have ve := lk_v hT ke
                refine V_bipush (v := 41) E dX11_factor_131 (by decide) ?_
                refine V_icmp_eq (tgt := 140) E dX11_factor_133 (by decide) (fun h133 => ?_) (fun h133 => ?_)
                · have b133 : e2 < T.1 ∧ T.2 e2 = 41 := by have h := h133; rw [fa_eq, z41] at h; rcases ve with v | v; exact ⟨v.1, by omega⟩; omega
                  refine V_aload_n E dX11_factor_140 rfl ?_
                  refine V_dup E dX11_factor_141 rfl ?_
                  refine V_getI E fl_X11_169 dX11_factor_142 rfl hM.o ?_
                  refine V_iconst (v := 1) E dX11_factor_145 (by decide) ?_
                  refine V_iadd E dX11_factor_146 ?_
                  refine V_cvi (y := nI ((e2 + 1))) (ni_add (a := e2) (b := 1) (pst_a S e2 (-1) (o + 1) q2 f2) (rfl : (1 : Int32) = nI 1)) ?_
                  refine V_putI E fl_X11_169 dX11_factor_147 rfl hM.o ⟨rfl, rfl⟩ rfl ?_
                  refine V_cvS (pst_sa S e2 (-1) (o + 1) q2 f2 ((e2 + 1))) ?_
                  refine V_aload_n E dX11_factor_150 rfl ?_
                  refine V_dup E dX11_factor_151 rfl ?_
                  refine V_getI E fl_X11_189 dX11_factor_152 rfl hM.o ?_
                  refine V_iconst (v := 1) E dX11_factor_155 (by decide) ?_
                  refine V_isub E dX11_factor_156 ?_
                  refine V_cvi (y := nI (o)) (ni_sub (a := (o + 1)) (b := 1) (pst_o S ((e2 + 1)) (-1) (o + 1) q2 f2) (rfl : (1 : Int32) = nI 1) (by omega)) ?_
                  refine V_putI E fl_X11_189 dX11_factor_157 rfl hM.o ⟨rfl, rfl⟩ rfl ?_
                  refine V_cvS (pst_so S ((e2 + 1)) (-1) (o + 1) q2 f2 (o)) ?_
                  refine V_goto (tgt := 167) E dX11_factor_160 (by decide) ?_
                  exact V_vret E R dX11_factor_167 (Nat.le_refl _) (Nat.le_refl _) ⟨rfl, Or.inl ⟨e2 + 1, q2, f2, rfl, POk.pre sj (POk.paren b83.1 b83.2 g92 k b133.1 b133.2)⟩⟩
                · have n133 : e2 < T.1 → T.2 e2 ≠ 41 := fun e z => h133 (by rw [lk_1 e, z]; rfl)
                  refine V_aload_n E dX11_factor_136 rfl ?_
                  refine V_callV E (cm_fail (x_l X) d S hM e2 (o + 1) q2 f2) ml_X11_195 mv_X11_fail hM.o dX11_factor_137 rfl (by simp [Value.category]) (by omega) (by omega) (by omega) (fun r S2 hp => ?_)
                  obtain ⟨rfl, rfl⟩ := hp
                  refine V_aload_n E dX11_factor_140 rfl ?_
                  refine V_dup E dX11_factor_141 rfl ?_
                  refine V_getI E fl_X11_169 dX11_factor_142 rfl hM.o ?_
                  refine V_iconst (v := 1) E dX11_factor_145 (by decide) ?_
                  refine V_iadd E dX11_factor_146 ?_
                  refine V_cvi (y := nI ((e2 + 1))) (ni_add (a := e2) (b := 1) (pst_a S e2 (nI e2) (o + 1) q2 f2) (rfl : (1 : Int32) = nI 1)) ?_
                  refine V_putI E fl_X11_169 dX11_factor_147 rfl hM.o ⟨rfl, rfl⟩ rfl ?_
                  refine V_cvS (pst_sa S e2 (nI e2) (o + 1) q2 f2 ((e2 + 1))) ?_
                  refine V_aload_n E dX11_factor_150 rfl ?_
                  refine V_dup E dX11_factor_151 rfl ?_
                  refine V_getI E fl_X11_189 dX11_factor_152 rfl hM.o ?_
                  refine V_iconst (v := 1) E dX11_factor_155 (by decide) ?_
                  refine V_isub E dX11_factor_156 ?_
                  refine V_cvi (y := nI (o)) (ni_sub (a := (o + 1)) (b := 1) (pst_o S ((e2 + 1)) (nI e2) (o + 1) q2 f2) (rfl : (1 : Int32) = nI 1) (by omega)) ?_
                  refine V_putI E fl_X11_189 dX11_factor_157 rfl hM.o ⟨rfl, rfl⟩ rfl ?_
                  refine V_cvS (pst_so S ((e2 + 1)) (nI e2) (o + 1) q2 f2 (o)) ?_
                  refine V_goto (tgt := 167) E dX11_factor_160 (by decide) ?_
                  exact V_vret E R dX11_factor_167 (Nat.le_refl _) (Nat.le_refl _) ⟨rfl, Or.inr ⟨e2 + 1, e2, q2, f2, rfl, PBad.pre sj (PBad.par2 b83.1 b83.2 g92 k kn n133)⟩⟩
              · have kw := k.2.1
                refine V_aload_n E dX11_factor_119 rfl ?_
                refine V_getI E fl_X11_172 dX11_factor_120 rfl hM.o ?_
                refine V_iconst (v := -1) E dX11_factor_123 (by decide) ?_
                refine V_icmp_ne (tgt := 140) E dX11_factor_124 (by decide) (fun _ => ?_) (fun hx => absurd hx (by rw [pst_w]; exact nIm1 (by omega)))
                refine V_aload_n E dX11_factor_140 rfl ?_
                refine V_dup E dX11_factor_141 rfl ?_
                refine V_getI E fl_X11_169 dX11_factor_142 rfl hM.o ?_
                refine V_iconst (v := 1) E dX11_factor_145 (by decide) ?_
                refine V_iadd E dX11_factor_146 ?_
                refine V_cvi (y := nI ((a + 1))) (ni_add (a := a) (b := 1) (pst_a S a (nI w) (o + 1) q2 f2) (rfl : (1 : Int32) = nI 1)) ?_
                refine V_putI E fl_X11_169 dX11_factor_147 rfl hM.o ⟨rfl, rfl⟩ rfl ?_
                refine V_cvS (pst_sa S a (nI w) (o + 1) q2 f2 ((a + 1))) ?_
                refine V_aload_n E dX11_factor_150 rfl ?_
                refine V_dup E dX11_factor_151 rfl ?_
                refine V_getI E fl_X11_189 dX11_factor_152 rfl hM.o ?_
                refine V_iconst (v := 1) E dX11_factor_155 (by decide) ?_
                refine V_isub E dX11_factor_156 ?_
                refine V_cvi (y := nI (o)) (ni_sub (a := (o + 1)) (b := 1) (pst_o S ((a + 1)) (nI w) (o + 1) q2 f2) (rfl : (1 : Int32) = nI 1) (by omega)) ?_
                refine V_putI E fl_X11_189 dX11_factor_157 rfl hM.o ⟨rfl, rfl⟩ rfl ?_
                refine V_cvS (pst_so S ((a + 1)) (nI w) (o + 1) q2 f2 (o)) ?_
                refine V_goto (tgt := 167) E dX11_factor_160 (by decide) ?_
                exact V_vret E R dX11_factor_167 (Nat.le_refl _) (Nat.le_refl _) ⟨rfl, Or.inr ⟨a + 1, w, q2, f2, rfl, PBad.pre sj (PBad.par1 b83.1 b83.2 g92 k)⟩⟩
        · have b39 : j < T.1 ∧ T.2 j = 112 := by have h := h39; rw [fa_eq, z112] at h; rcases vj with v | v; exact ⟨v.1, by omega⟩; omega
          refine V_aload_n E dX11_factor_42 rfl ?_
          refine V_iload_n E dX11_factor_43 rfl ?_
          refine V_bipush (v := 103) E dX11_factor_44 (by decide) ?_
          refine V_icmp_ne (tgt := 53) E dX11_factor_46 (by decide) (fun _ => ?_) (fun hx => absurd hx h27)
          refine V_iload_n E dX11_factor_53 rfl ?_
          refine V_bipush (v := 113) E dX11_factor_54 (by decide) ?_
          refine V_icmp_ne (tgt := 63) E dX11_factor_56 (by decide) (fun _ => ?_) (fun hx => absurd hx h33)
          refine V_iconst (v := 3) E dX11_factor_63 (by decide) ?_
          refine V_callV E (cm_say (x_l X) d S hM j (-1) o q f (3) (by omega)) ml_X11_185 mv_X11_say hM.o dX11_factor_64 rfl (by simp [Value.category]) (by omega) (by omega) (by omega) (fun r S2 hp => ?_)
          obtain ⟨rfl, rfl⟩ := hp
          refine V_aload_n E dX11_factor_67 rfl ?_
          refine V_dup E dX11_factor_68 rfl ?_
          refine V_getI E fl_X11_169 dX11_factor_69 rfl hM.o ?_
          refine V_iconst (v := 1) E dX11_factor_72 (by decide) ?_
          refine V_iadd E dX11_factor_73 ?_
          refine V_cvi (y := nI ((j + 1))) (ni_add (a := j) (b := 1) (pst_a S j (-1) o (q + 1) (va_up f q (3))) (rfl : (1 : Int32) = nI 1)) ?_
          refine V_putI E fl_X11_169 dX11_factor_74 rfl hM.o ⟨rfl, rfl⟩ rfl ?_
          refine V_cvS (pst_sa S j (-1) o (q + 1) (va_up f q (3)) ((j + 1))) ?_
          refine V_goto (tgt := 167) E dX11_factor_77 (by decide) ?_
          exact V_vret E R dX11_factor_167 (Nat.le_refl _) (Nat.le_refl _) ⟨rfl, Or.inl ⟨j + 1, q + 1, _, rfl, POk.pre sj (POk.var b39.1 b39.2 (Or.inr (Or.inr ⟨rfl, rfl⟩)) o q f)⟩⟩
  refine V_iload_n E dX11_factor_5 rfl ?_
  refine V_bipush (v := 48) E dX11_factor_6 (by decide) ?_
  refine V_icmp_lt (tgt := 24) E dX11_factor_8 (by decide) (fun h8 => J24 (by rw [fa_lt, z48] at h8; omega)) (fun h8 => ?_)
  refine V_iload_n E dX11_factor_11 rfl ?_
  refine V_bipush (v := 57) E dX11_factor_12 (by decide) ?_
  refine V_icmp_gt (tgt := 24) E dX11_factor_14 (by decide) (fun h14 => J24 (by rw [fa_lt, z57] at h14; omega)) (fun h14 => ?_)
  rw [fa_lt, z48] at h8
  rw [fa_lt, z57] at h14
  have dj : j < T.1 ∧ dg (T.2 j) := by rcases vj with v | v; exact ⟨v.1, by omega, by omega⟩; omega
  refine V_aload_n E dX11_factor_17 rfl ?_
  refine V_callV E (cm_number (x_l X) d S T hT hM hX j o q f dj.1 dj.2 (by omega) ho) ml_X11_182 mv_X11_number hM.o dX11_factor_18 rfl (by simp [Value.category]) (by omega) (by omega) (by omega) (fun r S2 hp => ?_)
  obtain ⟨rfl, hq2⟩ := hp
  refine V_goto (tgt := 167) E dX11_factor_21 (by decide) ?_
  exact V_vret E R dX11_factor_167 (Nat.le_refl _) (Nat.le_refl _) (PF1_pre sj ⟨rfl, hq2⟩)

theorem cm_term (l : Launch) (d o : Nat) (ho : o ≤ 8) (hF : CFac l (d + 1) o) (S : GS) (T : AT) (i q : Nat) (f : Nat → Int32) (hT : TOK T) (hM : MOK S) (hX : MTx S T) (hi : i ≤ T.1) (hq : q ≤ 2 * i) : GC l (d + 2) yX11_term cX11_term 1 none [.ref 0] (pst S i (-1) o q f) (PT1 S T i o q f) (0) (0) := by
  refine GC.ofV (by decide) (Nat.le_of_ble_eq_true rfl) (fun X hl E R hnm => ?_)
  subst hl
  have E : En X RX11 cX11_term 1 (d + 2) (0) (0) := E
  have R : Rt X none (PT1 S T i o q f) := R
  have hn := hT.1
  have z42 : ((42 : Int32)).toInt = 42 := rfl
  have bad : ∀ a w q2 f2, PBad T i a w o q q2 → V X 4 [some (.ref 0)] [] (pst S a (nI w) o q2 f2) 0 0 := by
    intro a w q2 f2 k
    have kw := k.2.1
    refine V_aload_n E dX11_term_4 rfl ?_
    refine V_getI E fl_X11_172 dX11_term_5 rfl hM.o ?_
    refine V_iconst (v := -1) E dX11_term_8 (by decide) ?_
    refine V_icmp_ne (tgt := 44) E dX11_term_9 (by decide) (fun _ => ?_) (fun hx => absurd hx (by rw [pst_w]; exact nIm1 (by omega)))
    exact V_vret E R dX11_term_44 (Nat.le_refl _) (Nat.le_refl _) ⟨rfl, Or.inr ⟨a, w, q2, f2, rfl, k⟩⟩
  have loop : ∀ m p q2 f2, T.1 - p < m → POk T i p o q q2 f f2 → V X 4 [some (.ref 0)] [] (pst S p (-1) o q2 f2) 0 0 := by
    intro m
    induction m with
    | zero => intro p q2 f2 hp; exact absurd hp (Nat.not_lt_zero _)
    | succ m ih =>
      intro p q2 f2 hp k
      have kp := k.2.1
      refine V_aload_n E dX11_term_4 rfl ?_
      refine V_getI E fl_X11_172 dX11_term_5 rfl hM.o ?_
      refine V_iconst (v := -1) E dX11_term_8 (by decide) ?_
      refine V_icmp_ne (tgt := 44) E dX11_term_9 (by decide) (fun hx => absurd hx (fun z => z (pst_w S p (-1) o q2 f2))) (fun _ => ?_)
      refine V_aload_n E dX11_term_12 rfl ?_
      refine V_callV E (cm_look (x_l X) d S T hT hM hX p (by omega) (-1) o q2 f2) ml_X11_178 mv_X11_look hM.o dX11_term_13 rfl (by simp [Value.category]) (by omega) (by omega) (by omega) (fun r S2 hp => ?_)
      obtain ⟨j, sj, rfl, rfl⟩ := hp
      have k2 := POk.sp k sj
      have vj := lk_v hT sj.2.1
      have lj := sj.1
      have uj := sj.2.1
      have k3 := k2.2.2.1
      refine V_bipush (v := 42) E dX11_term_16 (by decide) ?_
      refine V_icmp_ne (tgt := 44) E dX11_term_18 (by decide) (fun h18 => ?_) (fun h18 => ?_)
      · exact V_vret E R dX11_term_44 (Nat.le_refl _) (Nat.le_refl _) ⟨rfl, Or.inl ⟨j, q2, f2, rfl, k2, fun e => ⟨sj.2.2.2 e, fun z => h18 (by rw [lk_1 e, z]; rfl)⟩⟩⟩
      · have b18 : j < T.1 ∧ T.2 j = 42 := by have h := h18; rw [fa_eq, z42] at h; rcases vj with v | v; exact ⟨v.1, by omega⟩; omega
        have b18a := b18.1
        refine V_aload_n E dX11_term_21 rfl ?_
        refine V_dup E dX11_term_22 rfl ?_
        refine V_getI E fl_X11_169 dX11_term_23 rfl hM.o ?_
        refine V_iconst (v := 1) E dX11_term_26 (by decide) ?_
        refine V_iadd E dX11_term_27 ?_
        refine V_cvi (y := nI ((j + 1))) (ni_add (a := j) (b := 1) (pst_a S j (-1) o q2 f2) (rfl : (1 : Int32) = nI 1)) ?_
        refine V_putI E fl_X11_169 dX11_term_28 rfl hM.o ⟨rfl, rfl⟩ rfl ?_
        refine V_cvS (pst_sa S j (-1) o q2 f2 ((j + 1))) ?_
        refine V_aload_n E dX11_term_31 rfl ?_
        refine V_callV E (hF S T (j + 1) q2 f2 hT hM hX (by omega) (by omega)) ml_X11_198 mv_X11_factor hM.o dX11_term_32 rfl (by simp [Value.category]) (by omega) (by omega) (by omega) (fun r S2 hp => ?_)
        rcases hp with ⟨rfl, ⟨e, q3, f3, rfl, k4⟩ | ⟨a, w, q3, f3, rfl, k4⟩⟩
        · have k5 := k4.2.2.1
          have k6 := k4.2.1
          have k7 := k4.1
          refine V_aload_n E dX11_term_35 rfl ?_
          refine V_bipush (v := 6) E dX11_term_36 (by decide) ?_
          refine V_callV E (cm_say (x_l X) d S hM e (-1) o q3 f3 (6) (by omega)) ml_X11_185 mv_X11_say hM.o dX11_term_38 rfl (by simp [Value.category]) (by omega) (by omega) (by omega) (fun r S2 hp => ?_)
          obtain ⟨rfl, rfl⟩ := hp
          refine V_goto (tgt := 4) E dX11_term_41 (by decide) ?_
          exact ih e (q3 + 1) _ (by omega) (POk.mul k2 b18.1 b18.2 k4)
        · have k5 := k4.2.2.2.2
          have k6 := k4.2.2.2.1
          refine V_aload_n E dX11_term_35 rfl ?_
          refine V_bipush (v := 6) E dX11_term_36 (by decide) ?_
          refine V_callV E (cm_say (x_l X) d S hM a (nI w) o q3 f3 (6) (by omega)) ml_X11_185 mv_X11_say hM.o dX11_term_38 rfl (by simp [Value.category]) (by omega) (by omega) (by omega) (fun r S2 hp => ?_)
          obtain ⟨rfl, rfl⟩ := hp
          refine V_goto (tgt := 4) E dX11_term_41 (by decide) ?_
          exact bad a w (q3 + 1) _ (PBad.mul k2 b18.1 b18.2 k4)
  refine V_aload_n E dX11_term_0 rfl ?_
  refine V_callV E (hF S T i q f hT hM hX hi hq) ml_X11_198 mv_X11_factor hM.o dX11_term_1 rfl (by simp [Value.category]) (by omega) (by omega) (by omega) (fun r S2 hp => ?_)
  rcases hp with ⟨rfl, ⟨e, q3, f3, rfl, k4⟩ | ⟨a, w, q3, f3, rfl, k4⟩⟩
  · have k5 := k4.2.2.1
    have k6 := k4.2.1
    have k7 := k4.1
    exact loop _ e q3 f3 (Nat.lt_succ_self _) k4
  · have k5 := k4.2.2.2.2
    have k6 := k4.2.2.2.1
    exact bad a w q3 f3 k4

theorem cm_expression (l : Launch) (d o : Nat) (ho : o ≤ 8) (hF : CTer l (d + 1) o) (S : GS) (T : AT) (i q : Nat) (f : Nat → Int32) (hT : TOK T) (hM : MOK S) (hX : MTx S T) (hi : i ≤ T.1) (hq : q ≤ 2 * i) : GC l (d + 2) yX11_expression cX11_expression 2 none [.ref 0] (pst S i (-1) o q f) (PX1 S T i o q f) (0) (0) := by
  refine GC.ofV (by decide) (Nat.le_of_ble_eq_true rfl) (fun X hl E R hnm => ?_)
  subst hl
  have E : En X RX11 cX11_expression 2 (d + 2) (0) (0) := E
  have R : Rt X none (PX1 S T i o q f) := R
  have hn := hT.1
  have z43 : ((43 : Int32)).toInt = 43 := rfl
  have z45 : ((45 : Int32)).toInt = 45 := rfl
  have bad : ∀ a w q2 f2, PBad T i a w o q q2 → V X 4 [some (.ref 0), none] [] (pst S a (nI w) o q2 f2) 0 0 := by
    intro a w q2 f2 k
    have kw := k.2.1
    refine V_aload_n E dX11_expression_4 rfl ?_
    refine V_getI E fl_X11_172 dX11_expression_5 rfl hM.o ?_
    refine V_iconst (v := -1) E dX11_expression_8 (by decide) ?_
    refine V_icmp_ne (tgt := 72) E dX11_expression_9 (by decide) (fun _ => ?_) (fun hx => absurd hx (by rw [pst_w]; exact nIm1 (by omega)))
    exact V_vret E R dX11_expression_72 (Nat.le_refl _) (Nat.le_refl _) ⟨rfl, Or.inr ⟨a, w, q2, f2, rfl, k⟩⟩
  have loop : ∀ m p q2 f2, T.1 - p < m → PXk T i p o q q2 f f2 → (p < T.1 → T.2 p ≠ 32 ∧ T.2 p ≠ 42) → V X 4 [some (.ref 0), none] [] (pst S p (-1) o q2 f2) 0 0 := by
    intro m
    induction m with
    | zero => intro p q2 f2 hp; exact absurd hp (Nat.not_lt_zero _)
    | succ m ih =>
      intro p q2 f2 hp k kn
      have kp := k.2.1
      have k3 := k.2.2.1
      have vj := lk_v hT kp
      refine V_aload_n E dX11_expression_4 rfl ?_
      refine V_getI E fl_X11_172 dX11_expression_5 rfl hM.o ?_
      refine V_iconst (v := -1) E dX11_expression_8 (by decide) ?_
      refine V_icmp_ne (tgt := 72) E dX11_expression_9 (by decide) (fun hx => absurd hx (fun z => z (pst_w S p (-1) o q2 f2))) (fun _ => ?_)
      refine V_aload_n E dX11_expression_12 rfl ?_
      refine V_callV E (cm_look (x_l X) d S T hT hM hX p (by omega) (-1) o q2 f2) ml_X11_178 mv_X11_look hM.o dX11_expression_13 rfl (by simp [Value.category]) (by omega) (by omega) (by omega) (fun r S2 hp => ?_)
      obtain ⟨j, sj, rfl, rfl⟩ := hp
      obtain rfl : j = p := sj.same (fun z => (kn z).1)
      refine V_bipush (v := 43) E dX11_expression_16 (by decide) ?_
      refine V_icmp_eq (tgt := 30) E dX11_expression_18 (by decide) (fun h18 => ?_) (fun h18 => ?_)
      · have b18 : j < T.1 ∧ T.2 j = 43 := by have h := h18; rw [fa_eq, z43] at h; rcases vj with v | v; exact ⟨v.1, by omega⟩; omega
        have bj := b18.1
        refine V_aload_n E dX11_expression_30 rfl ?_
        refine V_getR E fl_X11_42 dX11_expression_31 rfl hM.o (hM.r 16 (by decide)) ?_
        refine V_aload_n E dX11_expression_34 rfl ?_
        refine V_getI E fl_X11_169 dX11_expression_35 rfl hM.o ?_
        refine V_ia (j := j) E dX11_expression_38 (hM.k 16 21 rfl (by decide)) (pst_a S j (-1) o q2 f2) (hM.l 16 220 rfl (by decide)) (by omega) (by decide) ?_
        refine V_cvi (y := nI ((T.2 (j)))) (pst_t S j (-1) o q2 f2 hX (i := j) (by omega)) ?_
        refine V_istore_n E dX11_expression_39 (by decide) rfl ?_
        refine V_aload_n E dX11_expression_40 rfl ?_
        refine V_dup E dX11_expression_41 rfl ?_
        refine V_getI E fl_X11_169 dX11_expression_42 rfl hM.o ?_
        refine V_iconst (v := 1) E dX11_expression_45 (by decide) ?_
        refine V_iadd E dX11_expression_46 ?_
        refine V_cvi (y := nI ((j + 1))) (ni_add (a := j) (b := 1) (pst_a S j (-1) o q2 f2) (rfl : (1 : Int32) = nI 1)) ?_
        refine V_putI E fl_X11_169 dX11_expression_47 rfl hM.o ⟨rfl, rfl⟩ rfl ?_
        refine V_cvS (pst_sa S j (-1) o q2 f2 ((j + 1))) ?_
        refine V_aload_n E dX11_expression_50 rfl ?_
        refine V_callV E (hF S T (j + 1) q2 f2 hT hM hX (by omega) (by omega)) ml_X11_201 mv_X11_term hM.o dX11_expression_51 rfl (by simp [Value.category]) (by omega) (by omega) (by omega) (fun r S2 hp => ?_)
        rcases hp with ⟨rfl, ⟨e, q3, f3, rfl, k4, kn4⟩ | ⟨a, w, q3, f3, rfl, k4⟩⟩
        · have k5 := k4.2.2.1
          have k6 := k4.2.1
          have k7 := k4.1
          refine V_aload_n E dX11_expression_54 rfl ?_
          refine V_iload_n E dX11_expression_55 rfl ?_
          refine V_bipush (v := 43) E dX11_expression_56 (by decide) ?_
          refine V_icmp_ne (tgt := 65) E dX11_expression_58 (by decide) (fun hx => absurd hx (fun z => z (by rw [b18.2]; rfl))) (fun _ => ?_)
          refine V_iconst (v := 4) E dX11_expression_61 (by decide) ?_
          refine V_goto (tgt := 66) E dX11_expression_62 (by decide) ?_
          refine V_callV E (cm_say (x_l X) d S hM e (-1) o q3 f3 (4) (by omega)) ml_X11_185 mv_X11_say hM.o dX11_expression_66 rfl (by simp [Value.category]) (by omega) (by omega) (by omega) (fun r S2 hp => ?_)
          obtain ⟨rfl, rfl⟩ := hp
          refine V_goto (tgt := 4) E dX11_expression_69 (by decide) ?_
          refine V_lo (lo' := [some (.ref (0)), none]) (And.intro rfl True.intro) ?_
          exact ih e (q3 + 1) _ (by omega) (PXk.add k b18.1 b18.2 (Or.inl ⟨rfl, rfl⟩) k4) kn4
        · have k5 := k4.2.2.2.2
          have k6 := k4.2.2.2.1
          refine V_aload_n E dX11_expression_54 rfl ?_
          refine V_iload_n E dX11_expression_55 rfl ?_
          refine V_bipush (v := 43) E dX11_expression_56 (by decide) ?_
          refine V_icmp_ne (tgt := 65) E dX11_expression_58 (by decide) (fun hx => absurd hx (fun z => z (by rw [b18.2]; rfl))) (fun _ => ?_)
          refine V_iconst (v := 4) E dX11_expression_61 (by decide) ?_
          refine V_goto (tgt := 66) E dX11_expression_62 (by decide) ?_
          refine V_callV E (cm_say (x_l X) d S hM a (nI w) o q3 f3 (4) (by omega)) ml_X11_185 mv_X11_say hM.o dX11_expression_66 rfl (by simp [Value.category]) (by omega) (by omega) (by omega) (fun r S2 hp => ?_)
          obtain ⟨rfl, rfl⟩ := hp
          refine V_goto (tgt := 4) E dX11_expression_69 (by decide) ?_
          refine V_lo (lo' := [some (.ref (0)), none]) (And.intro rfl True.intro) ?_
          exact bad a w (q3 + 1) _ (PBad.add k b18.1 (Or.inl b18.2) k4)
      · refine V_aload_n E dX11_expression_21 rfl ?_
        refine V_callV E (cm_look (x_l X) d S T hT hM hX j (by omega) (-1) o q2 f2) ml_X11_178 mv_X11_look hM.o dX11_expression_22 rfl (by simp [Value.category]) (by omega) (by omega) (by omega) (fun r S2 hp => ?_)
        obtain ⟨j2, sj2, rfl, rfl⟩ := hp
        obtain rfl : j2 = j := sj2.same (fun z => (kn z).1)
        refine V_bipush (v := 45) E dX11_expression_25 (by decide) ?_
        refine V_icmp_ne (tgt := 72) E dX11_expression_27 (by decide) (fun h27 => ?_) (fun h27 => ?_)
        · exact V_vret E R dX11_expression_72 (Nat.le_refl _) (Nat.le_refl _) ⟨rfl, Or.inl ⟨j2, q2, f2, rfl, k, fun e => ⟨(kn e).1, fun z => by rcases z with z | z | z; exact h18 (by rw [lk_1 e, z]; rfl); exact h27 (by rw [lk_1 e, z]; rfl); exact (kn e).2 z⟩⟩⟩
        · have b27 : j2 < T.1 ∧ T.2 j2 = 45 := by have h := h27; rw [fa_eq, z45] at h; rcases vj with v | v; exact ⟨v.1, by omega⟩; omega
          have bj := b27.1
          refine V_aload_n E dX11_expression_30 rfl ?_
          refine V_getR E fl_X11_42 dX11_expression_31 rfl hM.o (hM.r 16 (by decide)) ?_
          refine V_aload_n E dX11_expression_34 rfl ?_
          refine V_getI E fl_X11_169 dX11_expression_35 rfl hM.o ?_
          refine V_ia (j := j2) E dX11_expression_38 (hM.k 16 21 rfl (by decide)) (pst_a S j2 (-1) o q2 f2) (hM.l 16 220 rfl (by decide)) (by omega) (by decide) ?_
          refine V_cvi (y := nI ((T.2 (j2)))) (pst_t S j2 (-1) o q2 f2 hX (i := j2) (by omega)) ?_
          refine V_istore_n E dX11_expression_39 (by decide) rfl ?_
          refine V_aload_n E dX11_expression_40 rfl ?_
          refine V_dup E dX11_expression_41 rfl ?_
          refine V_getI E fl_X11_169 dX11_expression_42 rfl hM.o ?_
          refine V_iconst (v := 1) E dX11_expression_45 (by decide) ?_
          refine V_iadd E dX11_expression_46 ?_
          refine V_cvi (y := nI ((j2 + 1))) (ni_add (a := j2) (b := 1) (pst_a S j2 (-1) o q2 f2) (rfl : (1 : Int32) = nI 1)) ?_
          refine V_putI E fl_X11_169 dX11_expression_47 rfl hM.o ⟨rfl, rfl⟩ rfl ?_
          refine V_cvS (pst_sa S j2 (-1) o q2 f2 ((j2 + 1))) ?_
          refine V_aload_n E dX11_expression_50 rfl ?_
          refine V_callV E (hF S T (j2 + 1) q2 f2 hT hM hX (by omega) (by omega)) ml_X11_201 mv_X11_term hM.o dX11_expression_51 rfl (by simp [Value.category]) (by omega) (by omega) (by omega) (fun r S2 hp => ?_)
          rcases hp with ⟨rfl, ⟨e, q3, f3, rfl, k4, kn4⟩ | ⟨a, w, q3, f3, rfl, k4⟩⟩
          · have k5 := k4.2.2.1
            have k6 := k4.2.1
            have k7 := k4.1
            refine V_aload_n E dX11_expression_54 rfl ?_
            refine V_iload_n E dX11_expression_55 rfl ?_
            refine V_bipush (v := 43) E dX11_expression_56 (by decide) ?_
            refine V_icmp_ne (tgt := 65) E dX11_expression_58 (by decide) (fun _ => ?_) (fun hx => absurd hx (by rw [b27.2]; decide))
            refine V_iconst (v := 5) E dX11_expression_65 (by decide) ?_
            refine V_callV E (cm_say (x_l X) d S hM e (-1) o q3 f3 (5) (by omega)) ml_X11_185 mv_X11_say hM.o dX11_expression_66 rfl (by simp [Value.category]) (by omega) (by omega) (by omega) (fun r S2 hp => ?_)
            obtain ⟨rfl, rfl⟩ := hp
            refine V_goto (tgt := 4) E dX11_expression_69 (by decide) ?_
            refine V_lo (lo' := [some (.ref (0)), none]) (And.intro rfl True.intro) ?_
            exact ih e (q3 + 1) _ (by omega) (PXk.add k b27.1 b27.2 (Or.inr ⟨rfl, rfl⟩) k4) kn4
          · have k5 := k4.2.2.2.2
            have k6 := k4.2.2.2.1
            refine V_aload_n E dX11_expression_54 rfl ?_
            refine V_iload_n E dX11_expression_55 rfl ?_
            refine V_bipush (v := 43) E dX11_expression_56 (by decide) ?_
            refine V_icmp_ne (tgt := 65) E dX11_expression_58 (by decide) (fun _ => ?_) (fun hx => absurd hx (by rw [b27.2]; decide))
            refine V_iconst (v := 5) E dX11_expression_65 (by decide) ?_
            refine V_callV E (cm_say (x_l X) d S hM a (nI w) o q3 f3 (5) (by omega)) ml_X11_185 mv_X11_say hM.o dX11_expression_66 rfl (by simp [Value.category]) (by omega) (by omega) (by omega) (fun r S2 hp => ?_)
            obtain ⟨rfl, rfl⟩ := hp
            refine V_goto (tgt := 4) E dX11_expression_69 (by decide) ?_
            refine V_lo (lo' := [some (.ref (0)), none]) (And.intro rfl True.intro) ?_
            exact bad a w (q3 + 1) _ (PBad.add k b27.1 (Or.inr b27.2) k4)
  refine V_aload_n E dX11_expression_0 rfl ?_
  refine V_callV E (hF S T i q f hT hM hX hi hq) ml_X11_201 mv_X11_term hM.o dX11_expression_1 rfl (by simp [Value.category]) (by omega) (by omega) (by omega) (fun r S2 hp => ?_)
  rcases hp with ⟨rfl, ⟨e, q3, f3, rfl, k4, kn4⟩ | ⟨a, w, q3, f3, rfl, k4⟩⟩
  · have k5 := k4.2.2.1
    have k6 := k4.2.1
    have k7 := k4.1
    exact loop _ e q3 f3 (Nat.lt_succ_self _) (PXk.of k4) kn4
  · have k5 := k4.2.2.2.2
    have k6 := k4.2.2.2.1
    exact bad a w q3 f3 k4

theorem cm_fault0 (l : Launch) (d : Nat) (hE : CExp l (d + 1) 0) (S : GS) (T : AT) (hT : TOK T) (hM : MOK S) (hX : MTx S T) : GC l (d + 2) yX11_fault cX11_fault 1 (some FieldType.int) [.ref 0] S (fun r S2 => r = some (.int (an (FR T 0 1 0 0))) ∧ ∃ a w o q f2, S2 = pst S a w o q f2 ∧ (FR T 0 1 0 0 = none → q ≤ 420 ∧ ∀ f3, (∀ k, k < q → f3 k = f2 k) → PMv T f3)) (0) (0) := by
  refine GC.ofV (by decide) (Nat.le_of_ble_eq_true rfl) (fun X hl E R hnm => ?_)
  subst hl
  have E : En X RX11 cX11_fault 1 (d + 2) (0) (0) := E
  have R : Rt X (some FieldType.int) (fun r S2 => r = some (.int (an (FR T 0 1 0 0))) ∧ ∃ a w o q f2, S2 = pst S a w o q f2 ∧ (FR T 0 1 0 0 = none → q ≤ 420 ∧ ∀ f3, (∀ k, k < q → f3 k = f2 k) → PMv T f3)) := R
  have hn := hT.1
  have zm : ((-1 : Int32)).toInt = -1 := rfl
  refine V_aload_n E dX11_fault_0 rfl ?_
  refine V_iconst (v := 0) E dX11_fault_1 (by decide) ?_
  refine V_putI E fl_X11_169 dX11_fault_2 rfl hM.o ⟨rfl, rfl⟩ rfl ?_
  refine V_aload_n E dX11_fault_5 rfl ?_
  refine V_iconst (v := -1) E dX11_fault_6 (by decide) ?_
  refine V_putI E fl_X11_172 dX11_fault_7 rfl hM.o ⟨rfl, rfl⟩ rfl ?_
  refine V_aload_n E dX11_fault_10 rfl ?_
  refine V_iconst (v := 0) E dX11_fault_11 (by decide) ?_
  refine V_putI E fl_X11_189 dX11_fault_12 rfl hM.o ⟨rfl, rfl⟩ rfl ?_
  refine V_aload_n E dX11_fault_15 rfl ?_
  refine V_iconst (v := 0) E dX11_fault_16 (by decide) ?_
  refine V_putI E fl_X11_175 dX11_fault_17 rfl hM.o ⟨rfl, rfl⟩ rfl ?_
  refine V_cvS (S' := pst S 0 (-1) 0 0 (aI S 26)) (pst_in S (-1)) ?_
  refine V_aload_n E dX11_fault_20 rfl ?_
  refine V_callV E (hE S T 0 0 (aI S 26) hT hM hX (by omega) (by omega)) ml_X11_192 mv_X11_expression hM.o dX11_fault_21 rfl (by simp [Value.category]) (by omega) (by omega) (by omega) (fun r S2 hp => ?_)
  rcases hp with ⟨rfl, ⟨e, q2, f2, rfl, k, kn⟩ | ⟨a, w, q2, f2, rfl, k⟩⟩
  · have ke := k.2.1
    have kq := k.2.2.1
    have ve := lk_v hT ke
    refine V_aload_n E dX11_fault_24 rfl ?_
    refine V_getI E fl_X11_172 dX11_fault_25 rfl hM.o ?_
    refine V_iconst (v := -1) E dX11_fault_28 (by decide) ?_
    refine V_icmp_ne (tgt := 44) E dX11_fault_29 (by decide) (fun hx => absurd hx (fun z => z (pst_w S e (-1) 0 q2 f2))) (fun _ => ?_)
    refine V_aload_n E dX11_fault_32 rfl ?_
    refine V_callV E (cm_look (x_l X) d S T hT hM hX e (by omega) (-1) 0 q2 f2) ml_X11_178 mv_X11_look hM.o dX11_fault_33 rfl (by simp [Value.category]) (by omega) (by omega) (by omega) (fun r S2 hp => ?_)
    obtain ⟨e2, se2, rfl, rfl⟩ := hp
    obtain rfl : e2 = e := se2.same (fun z => (kn z).1)
    refine V_iconst (v := -1) E dX11_fault_36 (by decide) ?_
    refine V_icmp_eq (tgt := 44) E dX11_fault_37 (by decide) (fun h37 => ?_) (fun h37 => ?_)
    · have g37 : e2 = T.1 := by rw [fa_eq, zm] at h37; rcases ve with v | v <;> omega
      refine V_aload_n E dX11_fault_44 rfl ?_
      refine V_bipush (v := 7) E dX11_fault_45 (by decide) ?_
      refine V_callV E (cm_say (x_l X) d S hM e2 (-1) 0 q2 f2 (7) (by omega)) ml_X11_185 mv_X11_say hM.o dX11_fault_47 rfl (by simp [Value.category]) (by omega) (by omega) (by omega) (fun r S2 hp => ?_)
      obtain ⟨rfl, rfl⟩ := hp
      refine V_aload_n E dX11_fault_50 rfl ?_
      refine V_getI E fl_X11_172 dX11_fault_51 rfl hM.o ?_
      exact V_iret E R dX11_fault_54 rfl (Nat.le_refl _) (Nat.le_refl _) ⟨congrArg (fun z => some (Value.int z)) ((pst_w S e2 (-1) 0 (q2 + 1) (va_up f2 q2 (7))).trans (congrArg an (PXk.fin (g37 ▸ k)).1).symm), e2, (-1), 0, (q2 + 1), (va_up f2 q2 (7)), rfl, fun _ => ⟨by omega, fun f3 hf3 => (PXk.fin (g37 ▸ k)).2 f3 (fun z hz => (hf3 z (by omega)).trans (sy_l hz)) ((hf3 q2 (by omega)).trans (va_up_self _ _ _)) (by omega)⟩⟩
    · have g37 : e2 < T.1 := by rcases ve with v | v; exact v.1; exact absurd (by rw [fa_eq, zm]; exact v.2) h37
      refine V_aload_n E dX11_fault_40 rfl ?_
      refine V_callV E (cm_fail (x_l X) d S hM e2 0 q2 f2) ml_X11_195 mv_X11_fail hM.o dX11_fault_41 rfl (by simp [Value.category]) (by omega) (by omega) (by omega) (fun r S2 hp => ?_)
      obtain ⟨rfl, rfl⟩ := hp
      refine V_aload_n E dX11_fault_44 rfl ?_
      refine V_bipush (v := 7) E dX11_fault_45 (by decide) ?_
      refine V_callV E (cm_say (x_l X) d S hM e2 (nI e2) 0 q2 f2 (7) (by omega)) ml_X11_185 mv_X11_say hM.o dX11_fault_47 rfl (by simp [Value.category]) (by omega) (by omega) (by omega) (fun r S2 hp => ?_)
      obtain ⟨rfl, rfl⟩ := hp
      refine V_aload_n E dX11_fault_50 rfl ?_
      refine V_getI E fl_X11_172 dX11_fault_51 rfl hM.o ?_
      exact V_iret E R dX11_fault_54 rfl (Nat.le_refl _) (Nat.le_refl _) ⟨congrArg (fun z => some (Value.int z)) ((pst_w S e2 (nI e2) 0 (q2 + 1) (va_up f2 q2 (7))).trans (congrArg an (PXk.stop k g37 (kn g37))).symm), e2, (nI e2), 0, (q2 + 1), (va_up f2 q2 (7)), rfl, fun z => absurd ((PXk.stop k g37 (kn g37)).symm.trans z) (by simp)⟩
  · have kw := k.2.1
    have ka := k.2.2.2.1
    have kq := k.2.2.2.2
    refine V_aload_n E dX11_fault_24 rfl ?_
    refine V_getI E fl_X11_172 dX11_fault_25 rfl hM.o ?_
    refine V_iconst (v := -1) E dX11_fault_28 (by decide) ?_
    refine V_icmp_ne (tgt := 44) E dX11_fault_29 (by decide) (fun _ => ?_) (fun hx => absurd hx (by rw [pst_w]; exact nIm1 (by omega)))
    refine V_aload_n E dX11_fault_44 rfl ?_
    refine V_bipush (v := 7) E dX11_fault_45 (by decide) ?_
    refine V_callV E (cm_say (x_l X) d S hM a (nI w) 0 q2 f2 (7) (by omega)) ml_X11_185 mv_X11_say hM.o dX11_fault_47 rfl (by simp [Value.category]) (by omega) (by omega) (by omega) (fun r S2 hp => ?_)
    obtain ⟨rfl, rfl⟩ := hp
    refine V_aload_n E dX11_fault_50 rfl ?_
    refine V_getI E fl_X11_172 dX11_fault_51 rfl hM.o ?_
    exact V_iret E R dX11_fault_54 rfl (Nat.le_refl _) (Nat.le_refl _) ⟨congrArg (fun z => some (Value.int z)) ((pst_w S a (nI w) 0 (q2 + 1) (va_up f2 q2 (7))).trans (congrArg an k.1).symm), a, (nI w), 0, (q2 + 1), (va_up f2 q2 (7)), rfl, fun z => absurd (k.1.symm.trans z) (by simp)⟩

theorem cm_fac (l : Launch) (d : Nat) : ∀ e o, o + e = 8 → CFac l (d + 2 + 3 * e) o := by
  intro e
  induction e with
  | zero => exact fun o ho S T i q f hT hM hX hi hq => cm_factor l d o (by omega) (fun z => by omega) S T i q f hT hM hX hi hq
  | succ e ih =>
    intro o ho S T i q f hT hM hX hi hq
    have h2 : CTer l (d + 1 + 3 * e + 2) (o + 1) := fun S T i q f hT hM hX hi hq => cm_term l (d + 1 + 3 * e) (o + 1) (by omega) (by have := ih (o + 1) (by omega); rw [show d + 1 + 3 * e + 1 = d + 2 + 3 * e by omega]; exact this) S T i q f hT hM hX hi hq
    have h3 : CExp l (d + 2 + 3 * e + 2) (o + 1) := fun S T i q f hT hM hX hi hq => cm_expression l (d + 2 + 3 * e) (o + 1) (by omega) (by rw [show d + 2 + 3 * e + 1 = d + 1 + 3 * e + 2 by omega]; exact h2) S T i q f hT hM hX hi hq
    have h4 := cm_factor l (d + 3 + 3 * e) o (by omega) (fun _ => by rw [show d + 3 + 3 * e + 1 = d + 2 + 3 * e + 2 by omega]; exact h3) S T i q f hT hM hX hi hq
    rw [show d + 2 + 3 * (e + 1) = d + 3 + 3 * e + 2 by omega]
    exact h4
theorem cm_fault (l : Launch) (d : Nat) (S : GS) (T : AT) (hT : TOK T) (hM : MOK S) (hX : MTx S T) : GC l (d + 29) yX11_fault cX11_fault 1 (some FieldType.int) [.ref 0] S (fun r S2 => r = some (.int (an (FR T 0 1 0 0))) ∧ ∃ a w o q f2, S2 = pst S a w o q f2 ∧ (FR T 0 1 0 0 = none → q ≤ 420 ∧ ∀ f3, (∀ k, k < q → f3 k = f2 k) → PMv T f3)) 0 0 := by
  have h1 : CFac l (d + 26) 0 := cm_fac l d 8 0 rfl
  have h2 : CTer l (d + 27) 0 := fun S T i q f hT hM hX hi hq => cm_term l (d + 25) 0 (by omega) h1 S T i q f hT hM hX hi hq
  have h3 : CExp l (d + 28) 0 := fun S T i q f hT hM hX hi hq => cm_expression l (d + 26) 0 (by omega) h2 S T i q f hT hM hX hi hq
  have h4 := cm_fault0 l (d + 27) h3 S T hT hM hX
  exact h4
