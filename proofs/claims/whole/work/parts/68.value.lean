theorem zs_zs (gi : zm_I) (q j : Nat) (v v2 : Int32) : zs (zs gi q j v) q j v2 = zs gi q j v2 := funext fun a => funext fun i => by
  rw [zs_at, zs_at, zs_at]
  split
  · rfl
  · rfl
theorem ct_rValue (g : zm_G) (gi : zm_I) (gl : zm_J) (r : Nat) (C : zm_I) (cl : zm_J) {l : Nat} (hl : l < 5) (hA : rAt gi) (hF : ∀ k, k < 11 → (k = 10 → 2 ≤ l) → cl 74 k = (rNm gi k).toInt64) {s0 m f0 : Nat} (hm : 0 < m) (hs : s0 + m ≤ 64) (hf : f0 + m ≤ 64) (h39 : C 39 l = nI s0) (h40 : C 40 l = nI (s0 + m)) (h115 : gi 115 l = nI f0) (h116 : gi 116 l = nI m) (hT : zTr C gi l s0 m f0)  : zC_l g yX11_valueOf mX11_valueOf 3 [.ref 87, .int (nI l)] zSH gi gl (zRT r) (fun z gi' gl' gr' => z = (if (fWor C cl l).1 = zERR then 0 else (fWor C cl l).1) ∧ gi' = zs gi 87 60 (zb ((fWor C cl l).1 = zERR)) ∧ (∀ q, q ≠ 121 → gl' q = gl q) ∧ gr' = zRT r) := by
  obtain ⟨st, t0, t1, tn⟩ := hT
  have hW : fWor C cl l = fWst (C 37) (C 38) (cl 74) m (s0 + 0) (st 0).length (cl 41) := by
    unfold fWor
    rw [if_neg (by rw [h39, h40]; exact fun q => absurd ((nI_eq (by omega) (by omega)).mp q) (by omega)), h39, h40, zi_nI (by omega), zi_nI (by omega), t0, show s0 + m - s0 = m by omega]
    rfl
  refine zC_l_of [some (.ref 87), some (.int (nI l)), none, none, none, none, none] (by decide) rfl rfl (Nat.le_of_ble_eq_true rfl) (fun x => ?_)
  refine zA_aload_0 dX11_valueOf_0 ?_
  refine zA_iconst (nI 0) dX11_valueOf_1 ic_0 ?_
  refine zS_putZ sh_87 fX11_333 dX11_valueOf_2 rfl rfl (by decide) ?_
  refine zA_lconst 0 dX11_valueOf_5 (by decide) ?_
  refine zA_lstore_2 dX11_valueOf_6 rfl ?_
  refine zA_iconst (nI 0) dX11_valueOf_7 ic_0 ?_
  refine zA_istore_4 dX11_valueOf_8 rfl ?_
  generalize hV : (fWor C cl l) = V at hW ⊢
  have key : ∀ (n i : Nat) (s : Nat → Int64) (v : Int64) (Y : zm_J) (l5 l6 : Option Value), i + n = m → fWst (C 37) (C 38) (cl 74) n (s0 + i) (st i).length s = V → zSv s (Y 121) (st i) → (∀ q, q ≠ 121 → Y q = gl q) → (∀ a R, st i = a :: R → v = Y 121 a) → zB_l x g mX11_valueOf 3 zSH (fun z gi' gl' gr' => z = (if V.1 = zERR then 0 else V.1) ∧ gi' = zs gi 87 60 (zb (V.1 = zERR)) ∧ (∀ q, q ≠ 121 → gl' q = gl q) ∧ gr' = zRT r) 10 [some (.ref 87), some (.int (nI l)), some (.long v), none, some (.int (nI i)), l5, l6] [] ((zs gi 87 60 (nI 0))) Y (zRT r) := by
    intro n
    induction n with
    | zero =>
      intro i s v Y l5 l6 hi hV2 hS hY hv
      refine zA_iload_4 dX11_valueOf_10 ?_
      refine zA_aload_0 dX11_valueOf_12 ?_
      refine zA_getR sh_87 fX11_99 dX11_valueOf_13 rfl (rt_87_45 _) ?_
      refine zA_iload_1 dX11_valueOf_16 ?_
      refine zA_iald (v := (nI m)) l sh_116 dX11_valueOf_17 rfl (by omega) (by decide) h116 ?_
      refine zA_icmp_geN 194 dX11_valueOf_18 (by decide) (by omega) (by omega) (fun h => ?_) (fun h => ?_)
      · have e : i = m := by omega
        subst e
        obtain ⟨a, R, eR⟩ : ∃ a R, st i = a :: R := by
          cases hc : st i with
          | nil => rw [hc] at t1; exact absurd t1 (by decide)
          | cons a R => exact ⟨a, R, rfl⟩
        have eR0 : R = [] := by
          rw [eR] at t1
          exact List.eq_nil_of_length_eq_zero (Nat.succ.inj t1)
        subst eR0
        have hv1 := hv a [] eR
        rw [eR] at hS
        have hV3 : V.1 = v := by
          rw [← hV2, hv1]
          exact hS.1
        have hne : ¬ V.1 = zERR := by rw [hV3, hv1]; exact zBd_ne hS.2.1
        refine zA_aload_0 dX11_valueOf_194 ?_
        refine zA_getI (v := (nI 0)) sh_87 fX11_333 dX11_valueOf_195 rfl rfl ?_
        refine zA_if_eq 205 dX11_valueOf_198 (by decide) (fun _ => ?_) (fun hh => absurd (by decide) hh)
        refine zA_lload_2 dX11_valueOf_205 ?_
        exact zB_lret rfl dX11_valueOf_206 (⟨by rw [if_neg hne]; exact hV3.symm, by rw [zb_f hne]; rfl, hY, rfl⟩)
      · exact absurd h (by omega)
    | succ n ih =>
      intro i s v Y l5 l6 hi hV2 hS hY hv
      obtain ⟨ea, ha, hns, hkn, hcs⟩ := tn i (by omega)
      generalize zi (gi 114 (f0 + i)) = a at ea ha hns hkn hcs
      refine zA_iload_4 dX11_valueOf_10 ?_
      refine zA_aload_0 dX11_valueOf_12 ?_
      refine zA_getR sh_87 fX11_99 dX11_valueOf_13 rfl (rt_87_45 _) ?_
      refine zA_iload_1 dX11_valueOf_16 ?_
      refine zA_iald (v := (nI m)) l sh_116 dX11_valueOf_17 rfl (by omega) (by decide) h116 ?_
      refine zA_icmp_geN 194 dX11_valueOf_18 (by decide) (by omega) (by omega) (fun h => ?_) (fun h => ?_)
      · exact absurd h (by omega)
      · refine zA_aload_0 dX11_valueOf_21 ?_
        refine zA_getI (v := (nI 0)) sh_87 fX11_333 dX11_valueOf_22 rfl rfl ?_
        refine zA_if_ne 194 dX11_valueOf_25 (by decide) (fun hh => absurd hh (by decide)) (fun _ => ?_)
        refine zA_aload_0 dX11_valueOf_28 ?_
        refine zA_getR sh_87 fX11_93 dX11_valueOf_29 rfl (rt_87_43 _) ?_
        refine zA_aload_0 dX11_valueOf_32 ?_
        refine zA_getR sh_87 fX11_96 dX11_valueOf_33 rfl (rt_87_44 _) ?_
        refine zA_iload_1 dX11_valueOf_36 ?_
        refine zA_iald (v := (nI f0)) l sh_115 dX11_valueOf_37 rfl (by omega) (by decide) h115 ?_
        refine zA_iload_4 dX11_valueOf_38 ?_
        refine zA_iaddN dX11_valueOf_40 ?_
        refine zA_iald (v := (nI a)) (f0 + i) sh_114 dX11_valueOf_41 rfl (by omega) (by decide) ea ?_
        refine zA_istore_5 dX11_valueOf_42 rfl ?_
        rcases hcs with ⟨k3, k13, eS⟩ | ⟨k4, k13, kx, k10, eS⟩ | ⟨k1, b1, R, eR, hb1, kl, eS⟩ | ⟨kk, kc, k2, b1, d1, R, eR, hb1, hd1, kl, kr, eS⟩
        · have hk2 : gi 110 a = nI 0 := by rw [hkn, k3]; decide
          refine zA_aload_0 dX11_valueOf_44 ?_
          refine zA_getR sh_87 fX11_81 dX11_valueOf_45 rfl (rt_87_39 _) ?_
          refine zA_iload_5 dX11_valueOf_48 ?_
          refine zA_iald (v := (nI 0)) a sh_110 dX11_valueOf_50 rfl (by omega) (by decide) hk2 ?_
          refine zA_istore_6 dX11_valueOf_51 rfl ?_
          refine zA_iload_6 dX11_valueOf_53 ?_
          refine zA_if_ne 69 dX11_valueOf_55 (by decide) (fun hh => absurd hh (by decide)) (fun _ => ?_)
          refine zA_aload_0 dX11_valueOf_58 ?_
          refine zA_getR sh_87 fX11_90 dX11_valueOf_59 rfl (rt_87_42 _) ?_
          refine zA_iload_5 dX11_valueOf_62 ?_
          refine zA_iald (v := (C 38 (s0 + i))) a sh_113 dX11_valueOf_64 rfl (by omega) (by decide) k13 ?_
          refine zA_i2l dX11_valueOf_65 ?_
          refine zA_goto 179 dX11_valueOf_66 (by decide) ?_
          refine zA_lstore_2 dX11_valueOf_179 rfl ?_
          refine zA_aload_0 dX11_valueOf_180 ?_
          refine zA_getR sh_87 fX11_114 dX11_valueOf_181 rfl (rt_87_59 _) ?_
          refine zA_iload_5 dX11_valueOf_184 ?_
          refine zA_lload_2 dX11_valueOf_186 ?_
          refine zS_last a sh_121 dX11_valueOf_187 rfl (by omega) (by decide) ?_
          refine zA_iinc_4 (v := nI (i + 1)) dX11_valueOf_188 (zn_inc _) rfl ?_
          refine zA_goto 10 dX11_valueOf_191 (by decide) ?_
          refine ih (i + 1) (vp_updL s ((st i).length) ((C 38 (s0 + i)).toInt64)) ((C 38 (s0 + i)).toInt64) _ _ _ (by omega) ?_ ?_ (fun q hq => (zsL_nq hq).trans (hY q hq)) ?_
          · rw [← hV2, eS]
            exact (if_pos k3).symm
          · rw [eS]
            exact zSv_put (fun b hb => zsL_nj hb) (zsL_eq _ _ _ _) (zBd_i _) hns hS
          · intro a' R' e'
            rw [eS] at e'
            cases e'
            exact (zsL_eq _ _ _ _).symm
        · have hk2 : gi 110 a = nI 16 := by rw [hkn, k4]; decide
          have kv := hF _ kx.2 k10
          have kx2 := kx.2
          refine zA_aload_0 dX11_valueOf_44 ?_
          refine zA_getR sh_87 fX11_81 dX11_valueOf_45 rfl (rt_87_39 _) ?_
          refine zA_iload_5 dX11_valueOf_48 ?_
          refine zA_iald (v := (nI 16)) a sh_110 dX11_valueOf_50 rfl (by omega) (by decide) hk2 ?_
          refine zA_istore_6 dX11_valueOf_51 rfl ?_
          refine zA_iload_6 dX11_valueOf_53 ?_
          refine zA_if_ne 69 dX11_valueOf_55 (by decide) (fun _ => ?_) (fun hh => absurd hh (by decide))
          refine zA_iload_6 dX11_valueOf_69 ?_
          refine zA_bipush (nI 16) dX11_valueOf_71 bc_16 ?_
          refine zA_icmp_neN 91 dX11_valueOf_73 (by decide) (by decide) (by decide) (fun hh => absurd hh (by decide)) (fun _ => ?_)
          refine zA_aload_0 dX11_valueOf_76 ?_
          refine zA_aload_0 dX11_valueOf_77 ?_
          refine zA_getR sh_87 fX11_90 dX11_valueOf_78 rfl (rt_87_42 _) ?_
          refine zA_iload_5 dX11_valueOf_81 ?_
          refine zA_iald (v := (nI (zi (C 38 (s0 + i))))) a sh_113 dX11_valueOf_83 rfl (by omega) (by decide) (k13.trans kx.1) ?_
          refine zA_cVi (ct_rName g (zs gi 87 60 (nI 0)) Y r hA (k := zi (C 38 (s0 + i))) kx2) calX11_nameValue stX11_nameValue lX11_364 dX11_valueOf_84 (by decide) (by simp [Value.category]) rfl (Nat.le_refl _) (Nat.le_refl _) sh_87 rfl (fun zz gi' gl' gr' ⟨hz, e1, e2, e3⟩ => ?_)
          have hz2 : zz = rNm gi (zi (C 38 (s0 + i))) := hz
          rw [hz2, e1, e2, e3]
          clear hz hz2 e1 e2 e3
          refine zA_i2l dX11_valueOf_87 ?_
          refine zA_goto 179 dX11_valueOf_88 (by decide) ?_
          refine zA_lstore_2 dX11_valueOf_179 rfl ?_
          refine zA_aload_0 dX11_valueOf_180 ?_
          refine zA_getR sh_87 fX11_114 dX11_valueOf_181 rfl (rt_87_59 _) ?_
          refine zA_iload_5 dX11_valueOf_184 ?_
          refine zA_lload_2 dX11_valueOf_186 ?_
          refine zS_last a sh_121 dX11_valueOf_187 rfl (by omega) (by decide) ?_
          refine zA_iinc_4 (v := nI (i + 1)) dX11_valueOf_188 (zn_inc _) rfl ?_
          refine zA_goto 10 dX11_valueOf_191 (by decide) ?_
          refine ih (i + 1) (vp_updL s ((st i).length) ((rNm gi (zi (C 38 (s0 + i)))).toInt64)) ((rNm gi (zi (C 38 (s0 + i)))).toInt64) _ _ _ (by omega) ?_ ?_ (fun q hq => (zsL_nq hq).trans (hY q hq)) ?_
          · rw [← hV2, eS]
            rw [← kv]
            exact ((if_neg (by rw [k4]; decide)).trans (if_pos k4)).symm
          · rw [eS]
            exact zSv_put (fun b hb => zsL_nj hb) (zsL_eq _ _ _ _) (zBd_i _) hns hS
          · intro a' R' e'
            rw [eS] at e'
            cases e'
            exact (zsL_eq _ _ _ _).symm
        · rw [eR] at hS hns
          have hlen : (st i).length = R.length + 1 := by rw [eR]; rfl
          obtain ⟨hS1, hS2, hS3⟩ := hS
          have hnR : ¬ a ∈ R := fun q => hns (List.mem_cons_of_mem _ q)
          rcases k1 with k1 | k1
          · have hk2 : gi 110 a = nI 13 := by rw [hkn, k1]; decide
            refine zA_aload_0 dX11_valueOf_44 ?_
            refine zA_getR sh_87 fX11_81 dX11_valueOf_45 rfl (rt_87_39 _) ?_
            refine zA_iload_5 dX11_valueOf_48 ?_
            refine zA_iald (v := (nI 13)) a sh_110 dX11_valueOf_50 rfl (by omega) (by decide) hk2 ?_
            refine zA_istore_6 dX11_valueOf_51 rfl ?_
            refine zA_iload_6 dX11_valueOf_53 ?_
            refine zA_if_ne 69 dX11_valueOf_55 (by decide) (fun _ => ?_) (fun hh => absurd hh (by decide))
            refine zA_iload_6 dX11_valueOf_69 ?_
            refine zA_bipush (nI 16) dX11_valueOf_71 bc_16 ?_
            refine zA_icmp_neN 91 dX11_valueOf_73 (by decide) (by decide) (by decide) (fun _ => ?_) (fun hh => absurd hh (by decide))
            refine zA_iload_6 dX11_valueOf_91 ?_
            refine zA_bipush (nI 12) dX11_valueOf_93 bc_12 ?_
            refine zA_icmp_neN 114 dX11_valueOf_95 (by decide) (by decide) (by decide) (fun _ => ?_) (fun hh => absurd hh (by decide))
            refine zA_iload_6 dX11_valueOf_114 ?_
            refine zA_bipush (nI 13) dX11_valueOf_116 bc_13 ?_
            refine zA_icmp_neN 149 dX11_valueOf_118 (by decide) (by decide) (by decide) (fun hh => absurd hh (by decide)) (fun _ => ?_)
            refine zA_aload_0 dX11_valueOf_121 ?_
            refine zA_getR sh_87 fX11_114 dX11_valueOf_122 rfl (rt_87_59 _) ?_
            refine zA_aload_0 dX11_valueOf_125 ?_
            refine zA_getR sh_87 fX11_84 dX11_valueOf_126 rfl (rt_87_40 _) ?_
            refine zA_iload_5 dX11_valueOf_129 ?_
            refine zA_iald (v := (nI b1)) a sh_111 dX11_valueOf_131 rfl (by omega) (by decide) kl ?_
            refine zA_lald (v := (Y 121 b1)) b1 sh_121 dX11_valueOf_132 rfl (by omega) (by decide) rfl ?_
            refine zA_lconst 0 dX11_valueOf_133 (by decide) ?_
            refine zA_lcmp dX11_valueOf_134 ?_
            refine zA_if_ne 142 dX11_valueOf_135 (by decide) (fun q => ?_) (fun q => ?_)
            · refine zA_iconst (nI 0) dX11_valueOf_142 ic_0 ?_
              refine zA_cSl (ct_rTruth0 g _ _ _) calX11_truth stX11_truth lX11_342 dX11_valueOf_143 (by decide) (by simp [Value.category]) rfl (Nat.le_refl _) (Nat.le_refl _) (fun zz gi' gl' gr' ⟨hz, e1, e2, e3⟩ => ?_)
              rw [hz, e1, e2, e3]
              clear hz e1 e2 e3
              refine zA_goto 179 dX11_valueOf_146 (by decide) ?_
              refine zA_lstore_2 dX11_valueOf_179 rfl ?_
              refine zA_aload_0 dX11_valueOf_180 ?_
              refine zA_getR sh_87 fX11_114 dX11_valueOf_181 rfl (rt_87_59 _) ?_
              refine zA_iload_5 dX11_valueOf_184 ?_
              refine zA_lload_2 dX11_valueOf_186 ?_
              refine zS_last a sh_121 dX11_valueOf_187 rfl (by omega) (by decide) ?_
              refine zA_iinc_4 (v := nI (i + 1)) dX11_valueOf_188 (zn_inc _) rfl ?_
              refine zA_goto 10 dX11_valueOf_191 (by decide) ?_
              have hval : (0 : Int64) = zbL (lg_cmp (s ((st i).length - 1)) 0 = 0) := by
                rw [hlen, show R.length + 1 - 1 = R.length by omega, hS1]
                exact (zbL_f q).symm
              refine ih (i + 1) (vp_updL s (R.length) ((0 : Int64))) ((0 : Int64)) _ _ _ (by omega) ?_ ?_ (fun q hq => (zsL_nq hq).trans (hY q hq)) ?_
              · rw [← hV2, eS]
                show _ = fWst (C 37) (C 38) (cl 74) (n + 1) (s0 + i) (st i).length s
                conv => rhs; unfold fWst
                rw [if_neg (by rw [k1]; decide), if_neg (by rw [k1]; decide), if_neg (by rw [hlen]; omega), if_neg (by rw [k1]; exact fun q => absurd q.2 (by decide)), if_pos k1, ← hval, hlen]
                rfl
              · rw [eS]
                exact zSv_put (fun b hb => zsL_nj hb) (zsL_eq _ _ _ _) (by rw [hval]; exact zBd_b _) hnR hS3
              · intro a' R' e'
                rw [eS] at e'
                cases e'
                exact (zsL_eq _ _ _ _).symm
            · refine zA_iconst (nI 1) dX11_valueOf_138 ic_1 ?_
              refine zA_goto 143 dX11_valueOf_139 (by decide) ?_
              refine zA_cSl (ct_rTruth1 g _ _ _) calX11_truth stX11_truth lX11_342 dX11_valueOf_143 (by decide) (by simp [Value.category]) rfl (Nat.le_refl _) (Nat.le_refl _) (fun zz gi' gl' gr' ⟨hz, e1, e2, e3⟩ => ?_)
              rw [hz, e1, e2, e3]
              clear hz e1 e2 e3
              refine zA_goto 179 dX11_valueOf_146 (by decide) ?_
              refine zA_lstore_2 dX11_valueOf_179 rfl ?_
              refine zA_aload_0 dX11_valueOf_180 ?_
              refine zA_getR sh_87 fX11_114 dX11_valueOf_181 rfl (rt_87_59 _) ?_
              refine zA_iload_5 dX11_valueOf_184 ?_
              refine zA_lload_2 dX11_valueOf_186 ?_
              refine zS_last a sh_121 dX11_valueOf_187 rfl (by omega) (by decide) ?_
              refine zA_iinc_4 (v := nI (i + 1)) dX11_valueOf_188 (zn_inc _) rfl ?_
              refine zA_goto 10 dX11_valueOf_191 (by decide) ?_
              have hval : (1 : Int64) = zbL (lg_cmp (s ((st i).length - 1)) 0 = 0) := by
                rw [hlen, show R.length + 1 - 1 = R.length by omega, hS1]
                exact (zbL_t q).symm
              refine ih (i + 1) (vp_updL s (R.length) ((1 : Int64))) ((1 : Int64)) _ _ _ (by omega) ?_ ?_ (fun q hq => (zsL_nq hq).trans (hY q hq)) ?_
              · rw [← hV2, eS]
                show _ = fWst (C 37) (C 38) (cl 74) (n + 1) (s0 + i) (st i).length s
                conv => rhs; unfold fWst
                rw [if_neg (by rw [k1]; decide), if_neg (by rw [k1]; decide), if_neg (by rw [hlen]; omega), if_neg (by rw [k1]; exact fun q => absurd q.2 (by decide)), if_pos k1, ← hval, hlen]
                rfl
              · rw [eS]
                exact zSv_put (fun b hb => zsL_nj hb) (zsL_eq _ _ _ _) (by rw [hval]; exact zBd_b _) hnR hS3
              · intro a' R' e'
                rw [eS] at e'
                cases e'
                exact (zsL_eq _ _ _ _).symm
          · have hk2 : gi 110 a = nI 12 := by rw [hkn, k1]; decide
            refine zA_aload_0 dX11_valueOf_44 ?_
            refine zA_getR sh_87 fX11_81 dX11_valueOf_45 rfl (rt_87_39 _) ?_
            refine zA_iload_5 dX11_valueOf_48 ?_
            refine zA_iald (v := (nI 12)) a sh_110 dX11_valueOf_50 rfl (by omega) (by decide) hk2 ?_
            refine zA_istore_6 dX11_valueOf_51 rfl ?_
            refine zA_iload_6 dX11_valueOf_53 ?_
            refine zA_if_ne 69 dX11_valueOf_55 (by decide) (fun _ => ?_) (fun hh => absurd hh (by decide))
            refine zA_iload_6 dX11_valueOf_69 ?_
            refine zA_bipush (nI 16) dX11_valueOf_71 bc_16 ?_
            refine zA_icmp_neN 91 dX11_valueOf_73 (by decide) (by decide) (by decide) (fun _ => ?_) (fun hh => absurd hh (by decide))
            refine zA_iload_6 dX11_valueOf_91 ?_
            refine zA_bipush (nI 12) dX11_valueOf_93 bc_12 ?_
            refine zA_icmp_neN 114 dX11_valueOf_95 (by decide) (by decide) (by decide) (fun hh => absurd hh (by decide)) (fun _ => ?_)
            refine zA_aload_0 dX11_valueOf_98 ?_
            refine zA_getR sh_87 fX11_114 dX11_valueOf_99 rfl (rt_87_59 _) ?_
            refine zA_aload_0 dX11_valueOf_102 ?_
            refine zA_getR sh_87 fX11_84 dX11_valueOf_103 rfl (rt_87_40 _) ?_
            refine zA_iload_5 dX11_valueOf_106 ?_
            refine zA_iald (v := (nI b1)) a sh_111 dX11_valueOf_108 rfl (by omega) (by decide) kl ?_
            refine zA_lald (v := (Y 121 b1)) b1 sh_121 dX11_valueOf_109 rfl (by omega) (by decide) rfl ?_
            refine zA_lneg dX11_valueOf_110 ?_
            refine zA_goto 179 dX11_valueOf_111 (by decide) ?_
            refine zA_lstore_2 dX11_valueOf_179 rfl ?_
            refine zA_aload_0 dX11_valueOf_180 ?_
            refine zA_getR sh_87 fX11_114 dX11_valueOf_181 rfl (rt_87_59 _) ?_
            refine zA_iload_5 dX11_valueOf_184 ?_
            refine zA_lload_2 dX11_valueOf_186 ?_
            refine zS_last a sh_121 dX11_valueOf_187 rfl (by omega) (by decide) ?_
            refine zA_iinc_4 (v := nI (i + 1)) dX11_valueOf_188 (zn_inc _) rfl ?_
            refine zA_goto 10 dX11_valueOf_191 (by decide) ?_
            refine ih (i + 1) (vp_updL s (R.length) (-(Y 121 b1))) (-(Y 121 b1)) _ _ _ (by omega) ?_ ?_ (fun q hq => (zsL_nq hq).trans (hY q hq)) ?_
            · rw [← hV2, eS]
              show _ = fWst (C 37) (C 38) (cl 74) (n + 1) (s0 + i) (st i).length s
              conv => rhs; unfold fWst
              rw [if_neg (by rw [k1]; decide), if_neg (by rw [k1]; decide), if_neg (by rw [hlen]; omega), if_neg (by rw [k1]; exact fun q => absurd q.2 (by decide)), if_neg (by rw [k1]; decide), if_pos k1, hlen, show R.length + 1 - 1 = R.length by omega, hS1]
              rfl
            · rw [eS]
              exact zSv_put (fun b hb => zsL_nj hb) (zsL_eq _ _ _ _) (zBd_neg hS2) hnR hS3
            · intro a' R' e'
              rw [eS] at e'
              cases e'
              exact (zsL_eq _ _ _ _).symm
        · rw [eR] at hS hns
          have hlen : (st i).length = R.length + 1 + 1 := by rw [eR]; rfl
          obtain ⟨hS1, hS2, hS3, hS4, hS5⟩ := hS
          have hS1' : s (R.length + 1) = Y 121 d1 := hS1
          have hnR : ¬ a ∈ R := fun q => hns (List.mem_cons_of_mem _ (List.mem_cons_of_mem _ q))
          have hzk : zi (C 37 (s0 + i)) = kk := by rw [kc]; exact zi_nI (by omega)
          rw [hzk] at hkn
          have hq : rKd kk ≠ 0 ∧ rKd kk ≠ 16 ∧ rKd kk ≠ 12 ∧ rKd kk ≠ 13 ∧ rKd kk < 100 := by
            rcases k2 with rfl | rfl | rfl | rfl | rfl | rfl | rfl | rfl | rfl | rfl | rfl | rfl | rfl <;> decide
          obtain ⟨q0, q16, q12, q13, q100⟩ := hq
          have hk3 : ¬ C 37 (s0 + i) = nI 3 ∧ ¬ C 37 (s0 + i) = nI 4 ∧ ¬ C 37 (s0 + i) = nI 10 ∧ ¬ C 37 (s0 + i) = nI 22 := by
            rw [kc]
            rcases k2 with rfl | rfl | rfl | rfl | rfl | rfl | rfl | rfl | rfl | rfl | rfl | rfl | rfl <;> decide
          obtain ⟨n3, n4, n10, n22⟩ := hk3
          refine zA_aload_0 dX11_valueOf_44 ?_
          refine zA_getR sh_87 fX11_81 dX11_valueOf_45 rfl (rt_87_39 _) ?_
          refine zA_iload_5 dX11_valueOf_48 ?_
          refine zA_iald (v := (nI (rKd kk))) a sh_110 dX11_valueOf_50 rfl (by omega) (by decide) hkn ?_
          refine zA_istore_6 dX11_valueOf_51 rfl ?_
          refine zA_iload_6 dX11_valueOf_53 ?_
          refine zA_if_ne 69 dX11_valueOf_55 (by decide) (fun p0 => ?_) (fun p0 => ?_)
          · refine zA_iload_6 dX11_valueOf_69 ?_
            refine zA_bipush (nI 16) dX11_valueOf_71 bc_16 ?_
            refine zA_icmp_neN 91 dX11_valueOf_73 (by decide) (by omega) (by omega) (fun p1 => ?_) (fun p1 => ?_)
            · refine zA_iload_6 dX11_valueOf_91 ?_
              refine zA_bipush (nI 12) dX11_valueOf_93 bc_12 ?_
              refine zA_icmp_neN 114 dX11_valueOf_95 (by decide) (by omega) (by omega) (fun p2 => ?_) (fun p2 => ?_)
              · refine zA_iload_6 dX11_valueOf_114 ?_
                refine zA_bipush (nI 13) dX11_valueOf_116 bc_13 ?_
                refine zA_icmp_neN 149 dX11_valueOf_118 (by decide) (by omega) (by omega) (fun p3 => ?_) (fun p3 => ?_)
                · refine zA_aload_0 dX11_valueOf_149 ?_
                  refine zA_iload_6 dX11_valueOf_150 ?_
                  refine zA_aload_0 dX11_valueOf_152 ?_
                  refine zA_getR sh_87 fX11_114 dX11_valueOf_153 rfl (rt_87_59 _) ?_
                  refine zA_aload_0 dX11_valueOf_156 ?_
                  refine zA_getR sh_87 fX11_84 dX11_valueOf_157 rfl (rt_87_40 _) ?_
                  refine zA_iload_5 dX11_valueOf_160 ?_
                  refine zA_iald (v := (nI b1)) a sh_111 dX11_valueOf_162 rfl (by omega) (by decide) kl ?_
                  refine zA_lald (v := (Y 121 b1)) b1 sh_121 dX11_valueOf_163 rfl (by omega) (by decide) rfl ?_
                  refine zA_aload_0 dX11_valueOf_164 ?_
                  refine zA_getR sh_87 fX11_114 dX11_valueOf_165 rfl (rt_87_59 _) ?_
                  refine zA_aload_0 dX11_valueOf_168 ?_
                  refine zA_getR sh_87 fX11_87 dX11_valueOf_169 rfl (rt_87_41 _) ?_
                  refine zA_iload_5 dX11_valueOf_172 ?_
                  refine zA_iald (v := (nI d1)) a sh_112 dX11_valueOf_174 rfl (by omega) (by decide) kr ?_
                  refine zA_lald (v := (Y 121 d1)) d1 sh_121 dX11_valueOf_175 rfl (by omega) (by decide) rfl ?_
                  refine zA_cVl (ct_rMade g (zs gi 87 60 (nI 0)) Y r rfl k2 hS4 hS2) calX11_made stX11_made lX11_367 dX11_valueOf_176 (by decide) (by simp [Value.category]) rfl (Nat.le_refl _) (Nat.le_refl _) sh_87 rfl (fun zz gi' gl' gr' ⟨hz, e1, e2, e3⟩ => ?_)
                  rw [e1, e2, e3]
                  clear e1 e2 e3
                  by_cases hbad : fBad (fJoin kk (Y 121 b1) (Y 121 d1))
                  · rw [if_pos hbad] at hz
                    subst hz
                    rw [zb_t hbad]
                    have hV3 : V.1 = zERR := by
                      rw [← hV2]
                      conv => lhs; unfold fWst
                      rw [if_neg n3, if_neg n4, if_neg (by rw [hlen]; omega), if_neg (by rw [hlen]; omega), if_neg n10, if_neg n22, hzk, hlen, show R.length + 1 + 1 - 1 = R.length + 1 by omega, show R.length + 1 - 1 = R.length by omega, hS1', hS3]
                      rcases hbad with hb | hb
                      · rw [if_pos hb]
                      · split
                        · rfl
                        · first | rfl | rw [if_pos hb]
                    refine zA_lstore_2 dX11_valueOf_179 rfl ?_
                    refine zA_aload_0 dX11_valueOf_180 ?_
                    refine zA_getR sh_87 fX11_114 dX11_valueOf_181 rfl (rt_87_59 _) ?_
                    refine zA_iload_5 dX11_valueOf_184 ?_
                    refine zA_lload_2 dX11_valueOf_186 ?_
                    refine zS_last a sh_121 dX11_valueOf_187 rfl (by omega) (by decide) ?_
                    refine zA_iinc_4 (v := nI (i + 1)) dX11_valueOf_188 (zn_inc _) rfl ?_
                    refine zA_goto 10 dX11_valueOf_191 (by decide) ?_
                    refine zA_iload_4 dX11_valueOf_10 ?_
                    refine zA_aload_0 dX11_valueOf_12 ?_
                    refine zA_getR sh_87 fX11_99 dX11_valueOf_13 rfl (rt_87_45 _) ?_
                    refine zA_iload_1 dX11_valueOf_16 ?_
                    refine zA_iald (v := (nI m)) l sh_116 dX11_valueOf_17 rfl (by omega) (by decide) h116 ?_
                    refine zA_icmp_geN 194 dX11_valueOf_18 (by decide) (by omega) (by omega) (fun h8 => ?_) (fun h8 => ?_)
                    · refine zA_aload_0 dX11_valueOf_194 ?_
                      refine zA_getI (v := (nI 1)) sh_87 fX11_333 dX11_valueOf_195 rfl rfl ?_
                      refine zA_if_eq 205 dX11_valueOf_198 (by decide) (fun hh => absurd hh (by decide)) (fun _ => ?_)
                      refine zA_lconst 0 dX11_valueOf_201 (by decide) ?_
                      refine zA_goto 206 dX11_valueOf_202 (by decide) ?_
                      exact zB_lret rfl dX11_valueOf_206 (⟨by rw [if_pos hV3], by rw [zb_t hV3]; exact zs_zs _ _ _ _ _, fun q hq => (zsL_nq hq).trans (hY q hq), rfl⟩)
                    · refine zA_aload_0 dX11_valueOf_21 ?_
                      refine zA_getI (v := (nI 1)) sh_87 fX11_333 dX11_valueOf_22 rfl rfl ?_
                      refine zA_if_ne 194 dX11_valueOf_25 (by decide) (fun _ => ?_) (fun hh => absurd hh (by decide))
                      refine zA_aload_0 dX11_valueOf_194 ?_
                      refine zA_getI (v := (nI 1)) sh_87 fX11_333 dX11_valueOf_195 rfl rfl ?_
                      refine zA_if_eq 205 dX11_valueOf_198 (by decide) (fun hh => absurd hh (by decide)) (fun _ => ?_)
                      refine zA_lconst 0 dX11_valueOf_201 (by decide) ?_
                      refine zA_goto 206 dX11_valueOf_202 (by decide) ?_
                      exact zB_lret rfl dX11_valueOf_206 (⟨by rw [if_pos hV3], by rw [zb_t hV3]; exact zs_zs _ _ _ _ _, fun q hq => (zsL_nq hq).trans (hY q hq), rfl⟩)
                  · rw [if_neg hbad] at hz
                    subst hz
                    rw [zb_f hbad]
                    have hg : zs (zs gi 87 60 (nI 0)) 87 60 0 = (zs gi 87 60 (nI 0)) := zs_same rfl
                    rw [hg]
                    refine zA_lstore_2 dX11_valueOf_179 rfl ?_
                    refine zA_aload_0 dX11_valueOf_180 ?_
                    refine zA_getR sh_87 fX11_114 dX11_valueOf_181 rfl (rt_87_59 _) ?_
                    refine zA_iload_5 dX11_valueOf_184 ?_
                    refine zA_lload_2 dX11_valueOf_186 ?_
                    refine zS_last a sh_121 dX11_valueOf_187 rfl (by omega) (by decide) ?_
                    refine zA_iinc_4 (v := nI (i + 1)) dX11_valueOf_188 (zn_inc _) rfl ?_
                    refine zA_goto 10 dX11_valueOf_191 (by decide) ?_
                    refine ih (i + 1) (vp_updL s (R.length) (fJoin kk (Y 121 b1) (Y 121 d1))) (fJoin kk (Y 121 b1) (Y 121 d1)) _ _ _ (by omega) ?_ ?_ (fun q hq => (zsL_nq hq).trans (hY q hq)) ?_
                    · rw [← hV2, eS]
                      show _ = fWst (C 37) (C 38) (cl 74) (n + 1) (s0 + i) (st i).length s
                      conv => rhs; unfold fWst
                      rw [if_neg n3, if_neg n4, if_neg (by rw [hlen]; omega), if_neg (by rw [hlen]; omega), if_neg n10, if_neg n22, hzk, hlen, show R.length + 1 + 1 - 1 = R.length + 1 by omega, show R.length + 1 - 1 = R.length by omega, hS1', hS3, if_neg (fun q => hbad (Or.inl q)), if_neg (fun q => hbad (Or.inr q))]
                      rfl
                    · rw [eS]
                      exact zSv_put (fun b hb => zsL_nj hb) (zsL_eq _ _ _ _) (Decidable.not_not.mp (fun q => hbad ((fBad_iff _).mpr q))) hnR hS5
                    · intro a' R' e'
                      rw [eS] at e'
                      cases e'
                      exact (zsL_eq _ _ _ _).symm
                · exact absurd p3 (by omega)
              · exact absurd p2 (by omega)
            · exact absurd p1 (by omega)
          · exact absurd p0 (nI_ne0 (by omega) (by omega))
  exact key m 0 (cl 41) 0 gl none none (by omega) hW.symm (by rw [t0]; trivial) (fun _ _ => rfl) (fun a R e => by rw [t0] at e; cases e)
