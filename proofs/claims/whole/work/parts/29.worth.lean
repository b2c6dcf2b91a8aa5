theorem zsL_up (gl : zm_J) (q : Nat) (t : Nat → Int64) (j : Nat) (v : Int64) : zsL (va_up gl q t) q j v = va_up gl q (vp_updL t j v) := by unfold zsL; rw [va_up_self, bx_uu]
theorem zup_idL (gl : zm_J) (q : Nat) : va_up gl q (gl q) = gl := funext fun j => by
  unfold va_up
  by_cases h : j = q
  · rw [if_pos h, h]
  · rw [if_neg h]
def fWst (kd vl : Nat → Int32) (fa : Nat → Int64) : Nat → Nat → Nat → (Nat → Int64) → Int64 × (Nat → Int64)
  | 0, _, _, s => (s 0, s)
  | m + 1, k, top, s =>
    if kd k = nI 3 then fWst kd vl fa m (k + 1) (top + 1) (vp_updL s top (vl k).toInt64)
    else if kd k = nI 4 then fWst kd vl fa m (k + 1) (top + 1) (vp_updL s top (fa (zi (vl k))))
    else if top < 1 then (zERR, s)
    else if top < 2 ∧ fTwo (kd k) then (zERR, s)
    else if kd k = nI 10 then fWst kd vl fa m (k + 1) top (vp_updL s (top - 1) (zbL (lg_cmp (s (top - 1)) 0 = 0)))
    else if kd k = nI 22 then fWst kd vl fa m (k + 1) top (vp_updL s (top - 1) (-(s (top - 1))))
    else if 0 < lg_cmp (fJoin (zi (kd k)) (s (top - 1 - 1)) (s (top - 1))) 1000000000000 then (zERR, s)
    else if lg_cmp (fJoin (zi (kd k)) (s (top - 1 - 1)) (s (top - 1))) (-1000000000000) < 0 then (zERR, s)
    else fWst kd vl fa m (k + 1) (top - 1) (vp_updL s (top - 1 - 1) (fJoin (zi (kd k)) (s (top - 1 - 1)) (s (top - 1))))
def fWor (gi : zm_I) (gl : zm_J) (l : Nat) : Int64 × (Nat → Int64) :=
  if gi 39 l = gi 40 l then ((zm_wl.getD l 0).toInt64, gl 41) else fWst (gi 37) (gi 38) (gl 74) (zi (gi 40 l) - zi (gi 39 l)) (zi (gi 39 l)) 0 (gl 41)
/-- a line's code can be gone through -/
def zLaw (gi : zm_I) : Prop := ∀ l, l < 5 → ∃ s0 s1, gi 39 l = nI s0 ∧ gi 40 l = nI s1 ∧ s0 ≤ s1 ∧ s1 ≤ 64 ∧ ∀ k, s0 ≤ k → k < s1 → zx (gi 37 k) 23 ∧ (zi (gi 37 k) = 3 ∨ zi (gi 37 k) = 4 ∨ 8 ≤ zi (gi 37 k)) ∧ (zi (gi 37 k) = 4 → zx (gi 38 k) 11)
theorem zn_m {a : Nat} (h : 1 ≤ a) : nI a + Int32.ofInt (-1) = nI (a - 1) := by rw [zn_dec, pk_sub h]
theorem ct_worth (g : zm_G) (gi : zm_I) (gl : zm_J) (r : Nat) {l : Nat} (hl : l < 5) (hL : zLaw gi)  : zC_l g yX4_worth mX4_worth 2 [.ref 36, .int (nI l), .ref 74] zSH gi gl (zRT r) (fun z gi' gl' gr' => z = (fWor gi gl l).1 ∧ gi' = gi ∧ gl' = va_up gl 41 (fWor gi gl l).2 ∧ gr' = zRT r) := by
  obtain ⟨s0, s1, hs0, hs1, h01, h64, hk⟩ := hL l hl
  refine zC_l_of [some (.ref 36), some (.int (nI l)), some (.ref 74), none, none, none, none, none] (by decide) rfl rfl (Nat.le_of_ble_eq_true rfl) (fun x => ?_)
  refine zA_aload_0 dX4_worth_0 ?_
  refine zA_getR sh_36 fX4_20 dX4_worth_1 rfl (rt_36_2 _) ?_
  refine zA_iload_1 dX4_worth_4 ?_
  refine zA_iald (v := (nI s0)) l sh_39 dX4_worth_5 rfl (by omega) (by decide) hs0 ?_
  refine zA_aload_0 dX4_worth_6 ?_
  refine zA_getR sh_36 fX4_23 dX4_worth_7 rfl (rt_36_3 _) ?_
  refine zA_iload_1 dX4_worth_10 ?_
  refine zA_iald (v := (nI s1)) l sh_40 dX4_worth_11 rfl (by omega) (by decide) hs1 ?_
  refine zA_icmp_neN 22 dX4_worth_12 (by decide) (by omega) (by omega) (fun h => ?_) (fun h => ?_)
  · have hW : fWor gi gl l = fWst (gi 37) (gi 38) (gl 74) (s1 - s0) s0 0 (gl 41) := by
      have e : ¬ gi 39 l = gi 40 l := by rw [hs0, hs1]; exact fun z => h ((nI_eq (by omega) (by omega)).mp z)
      unfold fWor
      rw [if_neg e, hs0, hs1, zi_nI (by omega), zi_nI (by omega)]
    refine zA_iconst (nI 0) dX4_worth_22 ic_0 ?_
    refine zA_istore_3 dX4_worth_23 rfl ?_
    refine zA_aload_0 dX4_worth_24 ?_
    refine zA_getR sh_36 fX4_20 dX4_worth_25 rfl (rt_36_2 _) ?_
    refine zA_iload_1 dX4_worth_28 ?_
    refine zA_iald (v := (nI s0)) l sh_39 dX4_worth_29 rfl (by omega) (by decide) hs0 ?_
    refine zA_istore_4 dX4_worth_30 rfl ?_
    have key : ∀ (m k top : Nat) (s : Nat → Int64) (l5 l6 l7 : Option Value), k + m = s1 → s0 ≤ k → top + s0 ≤ k → fWst (gi 37) (gi 38) (gl 74) m k top s = fWor gi gl l → zB_l x g mX4_worth 2 zSH (fun z gi' gl' gr' => z = (fWor gi gl l).1 ∧ gi' = gi ∧ gl' = va_up gl 41 (fWor gi gl l).2 ∧ gr' = zRT r) 32 [some (.ref 36), some (.int (nI l)), some (.ref 74), some (.int (nI top)), some (.int (nI k)), l5, l6, l7] [] gi (va_up gl 41 s) (zRT r) := by
      intro m
      induction m with
      | zero =>
        intro k top s l5 l6 l7 hkm hk0 htop hF
        refine zA_iload_4 dX4_worth_32 ?_
        refine zA_aload_0 dX4_worth_34 ?_
        refine zA_getR sh_36 fX4_23 dX4_worth_35 rfl (rt_36_3 _) ?_
        refine zA_iload_1 dX4_worth_38 ?_
        refine zA_iald (v := (nI s1)) l sh_40 dX4_worth_39 rfl (by omega) (by decide) hs1 ?_
        refine zA_icmp_geN 249 dX4_worth_40 (by decide) (by omega) (by omega) (fun h9 => ?_) (fun h9 => ?_)
        · refine zA_aload_0 dX4_worth_249 ?_
          refine zA_getR sh_36 fX4_26 dX4_worth_250 rfl (rt_36_4 _) ?_
          refine zA_iconst (nI 0) dX4_worth_253 ic_0 ?_
          refine zA_lald (v := (s 0)) 0 sh_41 dX4_worth_254 rfl (by decide) (by decide) (by rw [va_up_self]) ?_
          exact zB_lret rfl dX4_worth_255 (⟨by rw [← hF]; rfl, rfl, by rw [← hF]; rfl, rfl⟩)
        · exact absurd h9 (by omega)
      | succ m ih =>
        intro k top s l5 l6 l7 hkm hk0 htop hF
        obtain ⟨hx1, hx2, hx3⟩ := hk k (by omega) (by omega)
        have hx4 := hx1.2
        refine zA_iload_4 dX4_worth_32 ?_
        refine zA_aload_0 dX4_worth_34 ?_
        refine zA_getR sh_36 fX4_23 dX4_worth_35 rfl (rt_36_3 _) ?_
        refine zA_iload_1 dX4_worth_38 ?_
        refine zA_iald (v := (nI s1)) l sh_40 dX4_worth_39 rfl (by omega) (by decide) hs1 ?_
        refine zA_icmp_geN 249 dX4_worth_40 (by decide) (by omega) (by omega) (fun h9 => ?_) (fun h9 => ?_)
        · exact absurd h9 (by omega)
        · have hkd : gi 37 k = nI (zi (gi 37 k)) := hx1.1
          generalize hq : zi (gi 37 k) = q at *
          refine zA_aload_0 dX4_worth_43 ?_
          refine zA_getR sh_36 fX4_13 dX4_worth_44 rfl (rt_36_0 _) ?_
          refine zA_iload_4 dX4_worth_47 ?_
          refine zA_iald (v := (nI q)) k sh_37 dX4_worth_49 rfl (by omega) (by decide) hkd ?_
          refine zA_istore_5 dX4_worth_50 rfl ?_
          refine zA_iload_5 dX4_worth_52 ?_
          refine zA_iconst (nI 3) dX4_worth_54 ic_3 ?_
          refine zA_icmp_eqN 64 dX4_worth_55 (by decide) (by omega) (by omega) (fun q3 => ?_) (fun q3 => ?_)
          · refine zA_aload_0 dX4_worth_64 ?_
            refine zA_getR sh_36 fX4_26 dX4_worth_65 rfl (rt_36_4 _) ?_
            refine zA_iload_3 dX4_worth_68 ?_
            refine zA_iload_5 dX4_worth_69 ?_
            refine zA_iconst (nI 3) dX4_worth_71 ic_3 ?_
            refine zA_icmp_neN 86 dX4_worth_72 (by decide) (by omega) (by omega) (fun q3b => ?_) (fun q3b => ?_)
            · exact absurd q3 q3b
            · refine zA_aload_0 dX4_worth_75 ?_
              refine zA_getR sh_36 fX4_17 dX4_worth_76 rfl (rt_36_1 _) ?_
              refine zA_iload_4 dX4_worth_79 ?_
              refine zA_iald (v := (gi 38 k)) k sh_38 dX4_worth_81 rfl (by omega) (by decide) rfl ?_
              refine zA_i2l dX4_worth_82 ?_
              refine zA_goto 95 dX4_worth_83 (by decide) ?_
              refine zS_last top sh_41 dX4_worth_95 rfl (by omega) (by decide) ?_
              refine zA_iinc_3 (v := nI (top + 1)) dX4_worth_96 (zn_inc _) rfl ?_
              refine zA_goto 243 dX4_worth_99 (by decide) ?_
              refine zA_iinc_4 (v := nI (k + 1)) dX4_worth_243 (zn_inc _) rfl ?_
              refine zA_goto 32 dX4_worth_246 (by decide) ?_
              rw [zsL_up]
              refine ih (k + 1) (top + 1) (vp_updL s top (gi 38 k).toInt64) _ _ _ (by omega) (by omega) (by omega) ?_
              rw [← hF]
              conv => rhs; unfold fWst
              rw [if_pos (by rw [hkd, q3])]
          · refine zA_iload_5 dX4_worth_58 ?_
            refine zA_iconst (nI 4) dX4_worth_60 ic_4 ?_
            refine zA_icmp_neN 102 dX4_worth_61 (by decide) (by omega) (by omega) (fun q4 => ?_) (fun q4 => ?_)
            · have hq8 : 8 ≤ q := by omega
              refine zA_iload_3 dX4_worth_102 ?_
              refine zA_iconst (nI 1) dX4_worth_103 ic_1 ?_
              refine zA_icmp_ltN 120 dX4_worth_104 (by decide) (by omega) (by omega) (fun ht => ?_) (fun ht => ?_)
              · have hE : fWor gi gl l = (zERR, s) := by
                  rw [← hF]
                  conv => lhs; unfold fWst
                  rw [if_neg (by rw [hkd]; exact fun z => q3 ((nI_eq (by omega) (by omega)).mp z)), if_neg (by rw [hkd]; exact fun z => q4 ((nI_eq (by omega) (by omega)).mp z)), if_pos ht]
                refine zA_ldc2 kX4_64 dX4_worth_120 ?_
                exact zB_lret rfl dX4_worth_123 (⟨by rw [hE]; rfl, rfl, by rw [hE], rfl⟩)
              · refine zA_iload_3 dX4_worth_107 ?_
                refine zA_iconst (nI 2) dX4_worth_108 ic_2 ?_
                refine zA_icmp_geN 124 dX4_worth_109 (by decide) (by omega) (by omega) (fun ht2 => ?_) (fun ht2 => ?_)
                · have hP : ¬ (top < 2 ∧ fTwo (gi 37 k)) := fun z => absurd z.1 (by omega)
                  refine zA_iload_5 dX4_worth_124 ?_
                  refine zA_bipush (nI 10) dX4_worth_126 bc_10 ?_
                  refine zA_icmp_neN 160 dX4_worth_128 (by decide) (by omega) (by omega) (fun q10 => ?_) (fun q10 => ?_)
                  · refine zA_iload_5 dX4_worth_160 ?_
                    refine zA_bipush (nI 22) dX4_worth_162 bc_22 ?_
                    refine zA_icmp_neN 187 dX4_worth_164 (by decide) (by omega) (by omega) (fun q22 => ?_) (fun q22 => ?_)
                    · have htop2 : 2 ≤ top := by
                        rcases Nat.lt_or_ge top 2 with z | z
                        · exact absurd ⟨z, by rw [hkd]; exact ⟨fun y => absurd ((nI_ltI (by omega) (by omega)).mp y) (by omega), fun y => absurd ((nI_ltI (by omega) (by omega)).mp y) (by omega), fun y => q10 ((nI_eq (by omega) (by omega)).mp y)⟩⟩ hP
                        · exact z
                      refine zA_iinc_3 (v := (nI (top - 1))) dX4_worth_187 (zn_m (by omega)) rfl ?_
                      refine zA_iload_5 dX4_worth_190 ?_
                      refine zA_aload_0 dX4_worth_192 ?_
                      refine zA_getR sh_36 fX4_26 dX4_worth_193 rfl (rt_36_4 _) ?_
                      refine zA_iload_3 dX4_worth_196 ?_
                      refine zA_iconst (nI 1) dX4_worth_197 ic_1 ?_
                      refine zA_isubN dX4_worth_198 (by omega) ?_
                      refine zA_lald (v := (s (top - 1 - 1))) ((top - 1) - 1) sh_41 dX4_worth_199 rfl (by omega) (by decide) (by rw [va_up_self]) ?_
                      refine zA_aload_0 dX4_worth_200 ?_
                      refine zA_getR sh_36 fX4_26 dX4_worth_201 rfl (rt_36_4 _) ?_
                      refine zA_iload_3 dX4_worth_204 ?_
                      refine zA_lald (v := (s (top - 1))) (top - 1) sh_41 dX4_worth_205 rfl (by omega) (by decide) (by rw [va_up_self]) ?_
                      refine zA_cSl (ct_joined g _ _ _ (k := q) (by omega) _ _) calX4_joined stX4_joined lX4_66 dX4_worth_206 (by decide) (by simp [Value.category]) rfl (Nat.le_refl _) (Nat.le_refl _) (fun zz gi' gl' gr' ⟨hz, e1, e2, e3⟩ => ?_)
                      rw [hz, e1, e2, e3]
                      clear hz e1 e2 e3
                      refine zA_lstore_6 dX4_worth_209 rfl ?_
                      refine zA_lload_6 dX4_worth_211 ?_
                      refine zA_ldc2 kX4_70 dX4_worth_213 ?_
                      refine zA_lcmp dX4_worth_216 ?_
                      refine zA_if_gt 229 dX4_worth_217 (by decide) (fun hg => ?_) (fun hg => ?_)
                      · have hE : fWor gi gl l = (zERR, s) := by
                          rw [← hF]
                          conv => lhs; unfold fWst
                          rw [if_neg (by rw [hkd]; exact fun z => q3 ((nI_eq (by omega) (by omega)).mp z)), if_neg (by rw [hkd]; exact fun z => q4 ((nI_eq (by omega) (by omega)).mp z)), if_neg (Nat.not_lt.mpr ht), if_neg hP, if_neg (by rw [hkd]; exact fun z => q10 ((nI_eq (by omega) (by omega)).mp z)), if_neg (by rw [hkd]; exact fun z => q22 ((nI_eq (by omega) (by omega)).mp z)), hq, if_pos hg]
                        refine zA_ldc2 kX4_64 dX4_worth_229 ?_
                        exact zB_lret rfl dX4_worth_232 (⟨by rw [hE]; rfl, rfl, by rw [hE], rfl⟩)
                      · refine zA_lload_6 dX4_worth_220 ?_
                        refine zA_ldc2 kX4_72 dX4_worth_222 ?_
                        refine zA_lcmp dX4_worth_225 ?_
                        refine zA_if_ge 233 dX4_worth_226 (by decide) (fun hm => ?_) (fun hm => ?_)
                        · refine zA_aload_0 dX4_worth_233 ?_
                          refine zA_getR sh_36 fX4_26 dX4_worth_234 rfl (rt_36_4 _) ?_
                          refine zA_iload_3 dX4_worth_237 ?_
                          refine zA_iconst (nI 1) dX4_worth_238 ic_1 ?_
                          refine zA_isubN dX4_worth_239 (by omega) ?_
                          refine zA_lload_6 dX4_worth_240 ?_
                          refine zS_last ((top - 1) - 1) sh_41 dX4_worth_242 rfl (by omega) (by decide) ?_
                          refine zA_iinc_4 (v := nI (k + 1)) dX4_worth_243 (zn_inc _) rfl ?_
                          refine zA_goto 32 dX4_worth_246 (by decide) ?_
                          rw [zsL_up]
                          refine ih (k + 1) (top - 1) (vp_updL s (top - 1 - 1) (fJoin q (s (top - 1 - 1)) (s (top - 1)))) _ _ _ (by omega) (by omega) (by omega) ?_
                          rw [← hF]
                          conv => rhs; unfold fWst
                          rw [if_neg (by rw [hkd]; exact fun z => q3 ((nI_eq (by omega) (by omega)).mp z)), if_neg (by rw [hkd]; exact fun z => q4 ((nI_eq (by omega) (by omega)).mp z)), if_neg (Nat.not_lt.mpr ht), if_neg hP, if_neg (by rw [hkd]; exact fun z => q10 ((nI_eq (by omega) (by omega)).mp z)), if_neg (by rw [hkd]; exact fun z => q22 ((nI_eq (by omega) (by omega)).mp z)), hq, if_neg hg, if_neg (Int32.not_lt.mpr hm)]
                        · have hE : fWor gi gl l = (zERR, s) := by
                            rw [← hF]
                            conv => lhs; unfold fWst
                            rw [if_neg (by rw [hkd]; exact fun z => q3 ((nI_eq (by omega) (by omega)).mp z)), if_neg (by rw [hkd]; exact fun z => q4 ((nI_eq (by omega) (by omega)).mp z)), if_neg (Nat.not_lt.mpr ht), if_neg hP, if_neg (by rw [hkd]; exact fun z => q10 ((nI_eq (by omega) (by omega)).mp z)), if_neg (by rw [hkd]; exact fun z => q22 ((nI_eq (by omega) (by omega)).mp z)), hq, if_neg hg, if_pos (Int32.not_le.mp hm)]
                          refine zA_ldc2 kX4_64 dX4_worth_229 ?_
                          exact zB_lret rfl dX4_worth_232 (⟨by rw [hE]; rfl, rfl, by rw [hE], rfl⟩)
                    · refine zA_aload_0 dX4_worth_167 ?_
                      refine zA_getR sh_36 fX4_26 dX4_worth_168 rfl (rt_36_4 _) ?_
                      refine zA_iload_3 dX4_worth_171 ?_
                      refine zA_iconst (nI 1) dX4_worth_172 ic_1 ?_
                      refine zA_isubN dX4_worth_173 (by omega) ?_
                      refine zA_aload_0 dX4_worth_174 ?_
                      refine zA_getR sh_36 fX4_26 dX4_worth_175 rfl (rt_36_4 _) ?_
                      refine zA_iload_3 dX4_worth_178 ?_
                      refine zA_iconst (nI 1) dX4_worth_179 ic_1 ?_
                      refine zA_isubN dX4_worth_180 (by omega) ?_
                      refine zA_lald (v := (s (top - 1))) (top - 1) sh_41 dX4_worth_181 rfl (by omega) (by decide) (by rw [va_up_self]) ?_
                      refine zA_lneg dX4_worth_182 ?_
                      refine zS_last (top - 1) sh_41 dX4_worth_183 rfl (by omega) (by decide) ?_
                      refine zA_goto 243 dX4_worth_184 (by decide) ?_
                      refine zA_iinc_4 (v := nI (k + 1)) dX4_worth_243 (zn_inc _) rfl ?_
                      refine zA_goto 32 dX4_worth_246 (by decide) ?_
                      rw [zsL_up]
                      refine ih (k + 1) (top) (vp_updL s (top - 1) (-(s (top - 1)))) _ _ _ (by omega) (by omega) (by omega) ?_
                      rw [← hF]
                      conv => rhs; unfold fWst
                      rw [if_neg (by rw [hkd]; exact fun z => q3 ((nI_eq (by omega) (by omega)).mp z)), if_neg (by rw [hkd]; exact fun z => q4 ((nI_eq (by omega) (by omega)).mp z)), if_neg (Nat.not_lt.mpr ht), if_neg hP, if_neg (by rw [hkd]; exact fun z => q10 ((nI_eq (by omega) (by omega)).mp z)), if_pos (by rw [hkd, q22])]
                  · refine zA_aload_0 dX4_worth_131 ?_
                    refine zA_getR sh_36 fX4_26 dX4_worth_132 rfl (rt_36_4 _) ?_
                    refine zA_iload_3 dX4_worth_135 ?_
                    refine zA_iconst (nI 1) dX4_worth_136 ic_1 ?_
                    refine zA_isubN dX4_worth_137 (by omega) ?_
                    refine zA_aload_0 dX4_worth_138 ?_
                    refine zA_getR sh_36 fX4_26 dX4_worth_139 rfl (rt_36_4 _) ?_
                    refine zA_iload_3 dX4_worth_142 ?_
                    refine zA_iconst (nI 1) dX4_worth_143 ic_1 ?_
                    refine zA_isubN dX4_worth_144 (by omega) ?_
                    refine zA_lald (v := (s (top - 1))) (top - 1) sh_41 dX4_worth_145 rfl (by omega) (by decide) (by rw [va_up_self]) ?_
                    refine zA_lconst 0 dX4_worth_146 (by decide) ?_
                    refine zA_lcmp dX4_worth_147 ?_
                    refine zA_if_ne 155 dX4_worth_148 (by decide) (fun hc => ?_) (fun hc => ?_)
                    · refine zA_lconst 0 dX4_worth_155 (by decide) ?_
                      refine zS_last (top - 1) sh_41 dX4_worth_156 rfl (by omega) (by decide) ?_
                      refine zA_goto 243 dX4_worth_157 (by decide) ?_
                      refine zA_iinc_4 (v := nI (k + 1)) dX4_worth_243 (zn_inc _) rfl ?_
                      refine zA_goto 32 dX4_worth_246 (by decide) ?_
                      rw [zsL_up]
                      refine ih (k + 1) top (vp_updL s (top - 1) 0) _ _ _ (by omega) (by omega) (by omega) ?_
                      rw [← hF]
                      conv => rhs; unfold fWst
                      rw [if_neg (by rw [hkd]; exact fun z => q3 ((nI_eq (by omega) (by omega)).mp z)), if_neg (by rw [hkd]; exact fun z => q4 ((nI_eq (by omega) (by omega)).mp z)), if_neg (Nat.not_lt.mpr ht), if_neg hP, if_pos (by rw [hkd, q10]), zbL_f hc]
                    · refine zA_lconst 1 dX4_worth_151 (by decide) ?_
                      refine zA_goto 156 dX4_worth_152 (by decide) ?_
                      refine zS_last (top - 1) sh_41 dX4_worth_156 rfl (by omega) (by decide) ?_
                      refine zA_goto 243 dX4_worth_157 (by decide) ?_
                      refine zA_iinc_4 (v := nI (k + 1)) dX4_worth_243 (zn_inc _) rfl ?_
                      refine zA_goto 32 dX4_worth_246 (by decide) ?_
                      rw [zsL_up]
                      refine ih (k + 1) top (vp_updL s (top - 1) 1) _ _ _ (by omega) (by omega) (by omega) ?_
                      rw [← hF]
                      conv => rhs; unfold fWst
                      rw [if_neg (by rw [hkd]; exact fun z => q3 ((nI_eq (by omega) (by omega)).mp z)), if_neg (by rw [hkd]; exact fun z => q4 ((nI_eq (by omega) (by omega)).mp z)), if_neg (Nat.not_lt.mpr ht), if_neg hP, if_pos (by rw [hkd, q10]), zbL_t hc]
                · refine zA_iload_5 dX4_worth_112 ?_
                  refine zA_cSi (ct_joinsTwo g _ _ _ (nI q)) calX2_joinsTwo stX2_joinsTwo lX4_60 dX4_worth_114 (by decide) (by simp [Value.category]) rfl (Nat.le_refl _) (Nat.le_refl _) (fun zz gi' gl' gr' ⟨hz, e1, e2, e3⟩ => ?_)
                  rw [hz, e1, e2, e3]
                  clear hz e1 e2 e3
                  refine zA_if_eqB 124 dX4_worth_117 (by decide) (fun hj => ?_) (fun hj => ?_)
                  · have hP : ¬ (top < 2 ∧ fTwo (gi 37 k)) := fun z => hj (by rw [← hkd]; exact z.2)
                    refine zA_iload_5 dX4_worth_124 ?_
                    refine zA_bipush (nI 10) dX4_worth_126 bc_10 ?_
                    refine zA_icmp_neN 160 dX4_worth_128 (by decide) (by omega) (by omega) (fun q10 => ?_) (fun q10 => ?_)
                    · refine zA_iload_5 dX4_worth_160 ?_
                      refine zA_bipush (nI 22) dX4_worth_162 bc_22 ?_
                      refine zA_icmp_neN 187 dX4_worth_164 (by decide) (by omega) (by omega) (fun q22 => ?_) (fun q22 => ?_)
                      · have htop2 : 2 ≤ top := by
                          rcases Nat.lt_or_ge top 2 with z | z
                          · exact absurd ⟨z, by rw [hkd]; exact ⟨fun y => absurd ((nI_ltI (by omega) (by omega)).mp y) (by omega), fun y => absurd ((nI_ltI (by omega) (by omega)).mp y) (by omega), fun y => q10 ((nI_eq (by omega) (by omega)).mp y)⟩⟩ hP
                          · exact z
                        refine zA_iinc_3 (v := (nI (top - 1))) dX4_worth_187 (zn_m (by omega)) rfl ?_
                        refine zA_iload_5 dX4_worth_190 ?_
                        refine zA_aload_0 dX4_worth_192 ?_
                        refine zA_getR sh_36 fX4_26 dX4_worth_193 rfl (rt_36_4 _) ?_
                        refine zA_iload_3 dX4_worth_196 ?_
                        refine zA_iconst (nI 1) dX4_worth_197 ic_1 ?_
                        refine zA_isubN dX4_worth_198 (by omega) ?_
                        refine zA_lald (v := (s (top - 1 - 1))) ((top - 1) - 1) sh_41 dX4_worth_199 rfl (by omega) (by decide) (by rw [va_up_self]) ?_
                        refine zA_aload_0 dX4_worth_200 ?_
                        refine zA_getR sh_36 fX4_26 dX4_worth_201 rfl (rt_36_4 _) ?_
                        refine zA_iload_3 dX4_worth_204 ?_
                        refine zA_lald (v := (s (top - 1))) (top - 1) sh_41 dX4_worth_205 rfl (by omega) (by decide) (by rw [va_up_self]) ?_
                        refine zA_cSl (ct_joined g _ _ _ (k := q) (by omega) _ _) calX4_joined stX4_joined lX4_66 dX4_worth_206 (by decide) (by simp [Value.category]) rfl (Nat.le_refl _) (Nat.le_refl _) (fun zz gi' gl' gr' ⟨hz, e1, e2, e3⟩ => ?_)
                        rw [hz, e1, e2, e3]
                        clear hz e1 e2 e3
                        refine zA_lstore_6 dX4_worth_209 rfl ?_
                        refine zA_lload_6 dX4_worth_211 ?_
                        refine zA_ldc2 kX4_70 dX4_worth_213 ?_
                        refine zA_lcmp dX4_worth_216 ?_
                        refine zA_if_gt 229 dX4_worth_217 (by decide) (fun hg => ?_) (fun hg => ?_)
                        · have hE : fWor gi gl l = (zERR, s) := by
                            rw [← hF]
                            conv => lhs; unfold fWst
                            rw [if_neg (by rw [hkd]; exact fun z => q3 ((nI_eq (by omega) (by omega)).mp z)), if_neg (by rw [hkd]; exact fun z => q4 ((nI_eq (by omega) (by omega)).mp z)), if_neg (Nat.not_lt.mpr ht), if_neg hP, if_neg (by rw [hkd]; exact fun z => q10 ((nI_eq (by omega) (by omega)).mp z)), if_neg (by rw [hkd]; exact fun z => q22 ((nI_eq (by omega) (by omega)).mp z)), hq, if_pos hg]
                          refine zA_ldc2 kX4_64 dX4_worth_229 ?_
                          exact zB_lret rfl dX4_worth_232 (⟨by rw [hE]; rfl, rfl, by rw [hE], rfl⟩)
                        · refine zA_lload_6 dX4_worth_220 ?_
                          refine zA_ldc2 kX4_72 dX4_worth_222 ?_
                          refine zA_lcmp dX4_worth_225 ?_
                          refine zA_if_ge 233 dX4_worth_226 (by decide) (fun hm => ?_) (fun hm => ?_)
                          · refine zA_aload_0 dX4_worth_233 ?_
                            refine zA_getR sh_36 fX4_26 dX4_worth_234 rfl (rt_36_4 _) ?_
                            refine zA_iload_3 dX4_worth_237 ?_
                            refine zA_iconst (nI 1) dX4_worth_238 ic_1 ?_
                            refine zA_isubN dX4_worth_239 (by omega) ?_
                            refine zA_lload_6 dX4_worth_240 ?_
                            refine zS_last ((top - 1) - 1) sh_41 dX4_worth_242 rfl (by omega) (by decide) ?_
                            refine zA_iinc_4 (v := nI (k + 1)) dX4_worth_243 (zn_inc _) rfl ?_
                            refine zA_goto 32 dX4_worth_246 (by decide) ?_
                            rw [zsL_up]
                            refine ih (k + 1) (top - 1) (vp_updL s (top - 1 - 1) (fJoin q (s (top - 1 - 1)) (s (top - 1)))) _ _ _ (by omega) (by omega) (by omega) ?_
                            rw [← hF]
                            conv => rhs; unfold fWst
                            rw [if_neg (by rw [hkd]; exact fun z => q3 ((nI_eq (by omega) (by omega)).mp z)), if_neg (by rw [hkd]; exact fun z => q4 ((nI_eq (by omega) (by omega)).mp z)), if_neg (Nat.not_lt.mpr ht), if_neg hP, if_neg (by rw [hkd]; exact fun z => q10 ((nI_eq (by omega) (by omega)).mp z)), if_neg (by rw [hkd]; exact fun z => q22 ((nI_eq (by omega) (by omega)).mp z)), hq, if_neg hg, if_neg (Int32.not_lt.mpr hm)]
                          · have hE : fWor gi gl l = (zERR, s) := by
                              rw [← hF]
                              conv => lhs; unfold fWst
                              rw [if_neg (by rw [hkd]; exact fun z => q3 ((nI_eq (by omega) (by omega)).mp z)), if_neg (by rw [hkd]; exact fun z => q4 ((nI_eq (by omega) (by omega)).mp z)), if_neg (Nat.not_lt.mpr ht), if_neg hP, if_neg (by rw [hkd]; exact fun z => q10 ((nI_eq (by omega) (by omega)).mp z)), if_neg (by rw [hkd]; exact fun z => q22 ((nI_eq (by omega) (by omega)).mp z)), hq, if_neg hg, if_pos (Int32.not_le.mp hm)]
                            refine zA_ldc2 kX4_64 dX4_worth_229 ?_
                            exact zB_lret rfl dX4_worth_232 (⟨by rw [hE]; rfl, rfl, by rw [hE], rfl⟩)
                      · refine zA_aload_0 dX4_worth_167 ?_
                        refine zA_getR sh_36 fX4_26 dX4_worth_168 rfl (rt_36_4 _) ?_
                        refine zA_iload_3 dX4_worth_171 ?_
                        refine zA_iconst (nI 1) dX4_worth_172 ic_1 ?_
                        refine zA_isubN dX4_worth_173 (by omega) ?_
                        refine zA_aload_0 dX4_worth_174 ?_
                        refine zA_getR sh_36 fX4_26 dX4_worth_175 rfl (rt_36_4 _) ?_
                        refine zA_iload_3 dX4_worth_178 ?_
                        refine zA_iconst (nI 1) dX4_worth_179 ic_1 ?_
                        refine zA_isubN dX4_worth_180 (by omega) ?_
                        refine zA_lald (v := (s (top - 1))) (top - 1) sh_41 dX4_worth_181 rfl (by omega) (by decide) (by rw [va_up_self]) ?_
                        refine zA_lneg dX4_worth_182 ?_
                        refine zS_last (top - 1) sh_41 dX4_worth_183 rfl (by omega) (by decide) ?_
                        refine zA_goto 243 dX4_worth_184 (by decide) ?_
                        refine zA_iinc_4 (v := nI (k + 1)) dX4_worth_243 (zn_inc _) rfl ?_
                        refine zA_goto 32 dX4_worth_246 (by decide) ?_
                        rw [zsL_up]
                        refine ih (k + 1) (top) (vp_updL s (top - 1) (-(s (top - 1)))) _ _ _ (by omega) (by omega) (by omega) ?_
                        rw [← hF]
                        conv => rhs; unfold fWst
                        rw [if_neg (by rw [hkd]; exact fun z => q3 ((nI_eq (by omega) (by omega)).mp z)), if_neg (by rw [hkd]; exact fun z => q4 ((nI_eq (by omega) (by omega)).mp z)), if_neg (Nat.not_lt.mpr ht), if_neg hP, if_neg (by rw [hkd]; exact fun z => q10 ((nI_eq (by omega) (by omega)).mp z)), if_pos (by rw [hkd, q22])]
                    · refine zA_aload_0 dX4_worth_131 ?_
                      refine zA_getR sh_36 fX4_26 dX4_worth_132 rfl (rt_36_4 _) ?_
                      refine zA_iload_3 dX4_worth_135 ?_
                      refine zA_iconst (nI 1) dX4_worth_136 ic_1 ?_
                      refine zA_isubN dX4_worth_137 (by omega) ?_
                      refine zA_aload_0 dX4_worth_138 ?_
                      refine zA_getR sh_36 fX4_26 dX4_worth_139 rfl (rt_36_4 _) ?_
                      refine zA_iload_3 dX4_worth_142 ?_
                      refine zA_iconst (nI 1) dX4_worth_143 ic_1 ?_
                      refine zA_isubN dX4_worth_144 (by omega) ?_
                      refine zA_lald (v := (s (top - 1))) (top - 1) sh_41 dX4_worth_145 rfl (by omega) (by decide) (by rw [va_up_self]) ?_
                      refine zA_lconst 0 dX4_worth_146 (by decide) ?_
                      refine zA_lcmp dX4_worth_147 ?_
                      refine zA_if_ne 155 dX4_worth_148 (by decide) (fun hc => ?_) (fun hc => ?_)
                      · refine zA_lconst 0 dX4_worth_155 (by decide) ?_
                        refine zS_last (top - 1) sh_41 dX4_worth_156 rfl (by omega) (by decide) ?_
                        refine zA_goto 243 dX4_worth_157 (by decide) ?_
                        refine zA_iinc_4 (v := nI (k + 1)) dX4_worth_243 (zn_inc _) rfl ?_
                        refine zA_goto 32 dX4_worth_246 (by decide) ?_
                        rw [zsL_up]
                        refine ih (k + 1) top (vp_updL s (top - 1) 0) _ _ _ (by omega) (by omega) (by omega) ?_
                        rw [← hF]
                        conv => rhs; unfold fWst
                        rw [if_neg (by rw [hkd]; exact fun z => q3 ((nI_eq (by omega) (by omega)).mp z)), if_neg (by rw [hkd]; exact fun z => q4 ((nI_eq (by omega) (by omega)).mp z)), if_neg (Nat.not_lt.mpr ht), if_neg hP, if_pos (by rw [hkd, q10]), zbL_f hc]
                      · refine zA_lconst 1 dX4_worth_151 (by decide) ?_
                        refine zA_goto 156 dX4_worth_152 (by decide) ?_
                        refine zS_last (top - 1) sh_41 dX4_worth_156 rfl (by omega) (by decide) ?_
                        refine zA_goto 243 dX4_worth_157 (by decide) ?_
                        refine zA_iinc_4 (v := nI (k + 1)) dX4_worth_243 (zn_inc _) rfl ?_
                        refine zA_goto 32 dX4_worth_246 (by decide) ?_
                        rw [zsL_up]
                        refine ih (k + 1) top (vp_updL s (top - 1) 1) _ _ _ (by omega) (by omega) (by omega) ?_
                        rw [← hF]
                        conv => rhs; unfold fWst
                        rw [if_neg (by rw [hkd]; exact fun z => q3 ((nI_eq (by omega) (by omega)).mp z)), if_neg (by rw [hkd]; exact fun z => q4 ((nI_eq (by omega) (by omega)).mp z)), if_neg (Nat.not_lt.mpr ht), if_neg hP, if_pos (by rw [hkd, q10]), zbL_t hc]
                  · have hE : fWor gi gl l = (zERR, s) := by
                      rw [← hF]
                      conv => lhs; unfold fWst
                      rw [if_neg (by rw [hkd]; exact fun z => q3 ((nI_eq (by omega) (by omega)).mp z)), if_neg (by rw [hkd]; exact fun z => q4 ((nI_eq (by omega) (by omega)).mp z)), if_neg (Nat.not_lt.mpr ht), if_pos ⟨ht2, by rw [hkd]; exact hj⟩]
                    refine zA_ldc2 kX4_64 dX4_worth_120 ?_
                    exact zB_lret rfl dX4_worth_123 (⟨by rw [hE]; rfl, rfl, by rw [hE], rfl⟩)
            · have hv4 := hx3 q4
              have hv5 := hv4.2
              refine zA_aload_0 dX4_worth_64 ?_
              refine zA_getR sh_36 fX4_26 dX4_worth_65 rfl (rt_36_4 _) ?_
              refine zA_iload_3 dX4_worth_68 ?_
              refine zA_iload_5 dX4_worth_69 ?_
              refine zA_iconst (nI 3) dX4_worth_71 ic_3 ?_
              refine zA_icmp_neN 86 dX4_worth_72 (by decide) (by omega) (by omega) (fun q3b => ?_) (fun q3b => ?_)
              · refine zA_aload_2 dX4_worth_86 ?_
                refine zA_aload_0 dX4_worth_87 ?_
                refine zA_getR sh_36 fX4_17 dX4_worth_88 rfl (rt_36_1 _) ?_
                refine zA_iload_4 dX4_worth_91 ?_
                refine zA_iald (v := (nI (zi (gi 38 k)))) k sh_38 dX4_worth_93 rfl (by omega) (by decide) hv4.1 ?_
                refine zA_lald (v := (gl 74 (zi (gi 38 k)))) (zi (gi 38 k)) sh_74 dX4_worth_94 rfl (by omega) (by decide) (congrFun (zm_une (by decide)) _) ?_
                refine zS_last top sh_41 dX4_worth_95 rfl (by omega) (by decide) ?_
                refine zA_iinc_3 (v := nI (top + 1)) dX4_worth_96 (zn_inc _) rfl ?_
                refine zA_goto 243 dX4_worth_99 (by decide) ?_
                refine zA_iinc_4 (v := nI (k + 1)) dX4_worth_243 (zn_inc _) rfl ?_
                refine zA_goto 32 dX4_worth_246 (by decide) ?_
                rw [zsL_up]
                refine ih (k + 1) (top + 1) (vp_updL s top (gl 74 (zi (gi 38 k)))) _ _ _ (by omega) (by omega) (by omega) ?_
                rw [← hF]
                conv => rhs; unfold fWst
                rw [if_neg (by rw [hkd]; exact fun z => q3 ((nI_eq (by omega) (by omega)).mp z)), if_pos (by rw [hkd, q4])]
              · exact absurd q3b q3
    have h0 := key (s1 - s0) s0 0 (gl 41) none none none (by omega) (Nat.le_refl _) (by omega) hW.symm
    rw [zup_idL] at h0
    exact h0
  · refine zA_getsW fsW dX4_worth_15 ?_
    refine zA_iload_1 dX4_worth_18 ?_
    refine zA_tiW l rfl hl rfl dX4_worth_19 ?_
    refine zA_i2l dX4_worth_20 ?_
    have e : gi 39 l = gi 40 l := by rw [hs0, hs1, h]
    exact zB_lret rfl dX4_worth_21 ⟨by unfold fWor; rw [if_pos e], rfl, by unfold fWor; rw [if_pos e]; exact (zup_idL gl 41).symm, rfl⟩
