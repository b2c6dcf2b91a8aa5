theorem fRp_3 (N : zm_I) (ln : Int32) : fRp N (nI 3) ln = if N 50 5 ≤ nI 99999 then fAnd (fCnK N) (fun M => fWr M (nI 3) (M 50 5)) else (false, fFail N (nI 2)) := if_pos rfl
theorem fRp_10 (N : zm_I) (ln : Int32) : fRp N (nI 10) ln = if fNms N then fAnd (fCnK N) (fun M => fPw M (nI 10)) else (false, fFail N (nI 1)) := by
  unfold fRp
  rw [if_neg (by decide), if_neg (by decide), if_neg (by decide), if_neg (by decide), if_pos rfl]
theorem rNn_at {X : zm_I} {kd wh : Int32} (h1 : X 87 33 = kd) (h2 : X 87 34 = wh) : rNn X = rNnV kd wh := by
  unfold rNn rNnV
  rw [h1, h2]
theorem zCk_no {N : zm_I} {kn : Nat} {f : zm_I → Bool × zm_I} (h : N 43 8 = nI kn) (hk : kn ≤ 64) (hq : 64 ≤ kn) : fAnd (fCnK N) f = (false, fFail N (nI 2)) := by
  unfold fAnd
  rw [fCnK_at h hk, if_neg (Nat.not_lt.mpr hq)]
  exact if_neg Bool.false_ne_true
theorem zCk_ok {N : zm_I} {kn : Nat} {f : zm_I → Bool × zm_I} (h : N 43 8 = nI kn) (hq : kn < 64) : fAnd (fCnK N) f = f (zs N 43 8 (nI (kn + 1))) := by
  unfold fAnd
  rw [fCnK_at h (by omega), if_pos hq]
  exact if_pos rfl
theorem zl01 {l : Nat} (h : l < 2) : nI l = 0 ∨ nI l = nI 1 := by
  rcases (show l = 0 ∨ l = 1 by omega) with rfl | rfl
  · exact Or.inl rfl
  · exact Or.inr rfl
theorem ct_rValueRead (g : zm_G) (gi : zm_I) (gl : zm_J) (r : Nat) (M : zm_I) {n i l s0 wr kn : Nat} {W : List (Nat × Nat)} {S : List Nat} {dn : Nat → Nat} {pl nx : Nat} {kd wh : Int32} (hP : zPS M gi l s0 wr kn kn W S dn) (hS : S.length = zTws W) (hc : gi 87 56 = zb (zHc W = true) ∧ zCo gi W) (h57 : gi 87 57 = nI 1) (h58 : gi 87 58 = zb (zMn W = true)) (hT : zTS n i M gi pl nx kd wh) {R : Bool × zm_I} {v : Bool} (hR : fRp (fNx M) (fNx M 50 4) (nI l) = R) (hv : decide (¬ fNx M 50 4 = nI 3 ∧ ¬ fNx M 50 4 = nI 4) = v) (hl : l < 5) (hd : Int32) (hhd : hd = 0 ↔ l < 2)  : zC_i g yX11_valueRead mX11_valueRead 4 [.ref 87, .int hd] zSH gi gl (zRT r) (fun z gi' gl' gr' => zStp n i l s0 wr dn M gi R v z gi' ∧ gl' = gl ∧ gr' = zRT r) := by
  refine zC_i_of [some (.ref 87), some (.int hd), none, none] (by decide) rfl rfl (Nat.le_of_ble_eq_true rfl) (fun x => ?_)
  obtain ⟨n2, n3, n4, n5, n6, n7, n8⟩ := zTS_nx hT
  have hN := zPS_nx hP
  have hkn := hP.2.2.1.2.2.1
  have hl2 := zPS_len hP
  have h33 : gi 87 33 = kd := hT.2.2.2.2.1
  have h34 : gi 87 34 = wh := hT.2.2.2.2.2
  have h35 : gi 87 35 = nI pl := hT.2.2.1
  have k31 : gi 87 31 = nI n := hT.1.2.2.2.2.1
  have k32 : gi 87 32 = nI nx := hT.2.2.2.1
  have k106 : zWs gi := hT.1.2.2.2.2.2.2
  have hn5 := hT.1.2.1
  have h55 : gi 87 55 = nI (zOpn W) := hP.2.2.2.2.2.2.2.2.2.1
  have ho8 : zOpn W ≤ 8 := hP.2.2.2.2.2.2.2.2.2.2
  rcases zTe_val n4 with ⟨c1, c2, c3⟩ | ⟨c1, c2, c3⟩ | ⟨c1, c2, c3⟩ | ⟨c1, c2, a, c3, c4, c5, c6⟩ | ⟨c1, c2, c3⟩ | ⟨c1, c2, c3, c4, c5, c6, c7, c8, c9, c10⟩
  · rw [c3] at hR hv
    have hv2 : v = true := by rw [← hv]; decide
    subst hv2
    have hR2 : R = fOb (fNx M) := hR.symm
    have hkd : ¬ kd = nI 0 := by rw [c1]; decide
    refine zA_aload_0 dX11_valueRead_0 ?_
    refine zA_bipush (nI 40) dX11_valueRead_1 bc_40 ?_
    refine zA_cVi (ct_rIsSign g gi gl r (nI 40)) calX11_isSign stX11_isSign lX11_292 dX11_valueRead_3 (by decide) (by simp [Value.category]) rfl (Nat.le_refl _) (Nat.le_refl _) sh_87 rfl (fun zz gi' gl' gr' ⟨hz, e1, e2, e3⟩ => ?_)
    rw [hz, rb_t (⟨h33.trans c1, h34.trans c2⟩), e1, e2, e3]
    clear hz e1 e2 e3
    refine zA_if_eq 70 dX11_valueRead_6 (by decide) (fun hh => absurd hh (by decide)) (fun _ => ?_)
    refine zA_aload_0 dX11_valueRead_9 ?_
    refine zA_getI (v := (nI (zOpn W))) sh_87 fX11_295 dX11_valueRead_10 rfl h55 ?_
    refine zA_bipush (nI 8) dX11_valueRead_13 bc_8 ?_
    refine zA_icmp_neN 24 dX11_valueRead_15 (by decide) (by omega) (by omega) (fun h => ?_) (fun h => ?_)
    · refine zA_aload_0 dX11_valueRead_24 ?_
      refine zA_getR sh_87 fX11_111 dX11_valueRead_25 rfl (rt_87_54 _) ?_
      refine zA_aload_0 dX11_valueRead_28 ?_
      refine zA_getI (v := (nI (zOpn W))) sh_87 fX11_295 dX11_valueRead_29 rfl h55 ?_
      refine zA_aload_0 dX11_valueRead_32 ?_
      refine zA_getI (v := (gi 87 56)) sh_87 fX11_298 dX11_valueRead_33 rfl rfl ?_
      refine zS_zast (zOpn W) sh_120 dX11_valueRead_36 rfl (by omega) (by decide) (by rw [hc.1]; unfold zb; split; exact Or.inr rfl; exact Or.inl rfl) ?_
      refine zA_aload_0 dX11_valueRead_37 ?_
      refine zA_dup dX11_valueRead_38 rfl ?_
      refine zA_getI (v := (nI (zOpn W))) sh_87 fX11_295 dX11_valueRead_39 rfl h55 ?_
      refine zA_iconst (nI 1) dX11_valueRead_42 ic_1 ?_
      refine zA_iaddN dX11_valueRead_43 ?_
      refine zS_putI sh_87 fX11_295 dX11_valueRead_44 rfl rfl ?_
      refine zA_aload_0 dX11_valueRead_47 ?_
      refine zA_bipush (nI 100) dX11_valueRead_48 bc_100 ?_
      refine zA_iconst (-1) dX11_valueRead_50 ic_m1 ?_
      refine zA_cVv (ct_rWaitFor g ((zs (zs gi 120 (zOpn W) ((gi 87 56))) 87 55 ((nI ((zOpn W) + 1))))) gl r (s := W.length) hP.1.2.1 (by omega) (nI 100) (-1)) calX11_waitFor stX11_waitFor lX11_281 dX11_valueRead_51 (by decide) (by simp [Value.category]) rfl (Nat.le_refl _) (Nat.le_refl _) sh_87 rfl (fun gi' gl' gr' ⟨e1, e2, e3⟩ => ?_)
      rw [e1, e2, e3]
      clear e1 e2 e3
      refine zA_aload_0 dX11_valueRead_54 ?_
      refine zA_iconst (nI 0) dX11_valueRead_55 ic_0 ?_
      refine zS_putZ sh_87 fX11_298 dX11_valueRead_56 rfl rfl (by decide) ?_
      refine zA_aload_0 dX11_valueRead_59 ?_
      refine zA_iconst (nI 1) dX11_valueRead_60 ic_1 ?_
      refine zS_putZ sh_87 fX11_285 dX11_valueRead_61 rfl rfl (by decide) ?_
      refine zA_aload_0 dX11_valueRead_64 ?_
      refine zA_cVv (ct_rTake g ((zs (zs (rWfM ((zs (zs gi 120 (zOpn W) ((gi 87 56))) 87 55 ((nI ((zOpn W) + 1))))) W.length (nI 100) (-1)) 87 56 ((nI 0))) 87 58 ((nI 1)))) gl r (fun j hj => k106 j hj) k31 hn5 k32 n5) calX11_take stX11_take lX11_289 dX11_valueRead_65 (by decide) (by simp [Value.category]) rfl (Nat.le_refl _) (Nat.le_refl _) sh_87 rfl (fun gi' gl' gr' ⟨pl2, nx2, kd2, wh2, ht, e1, e2, e3⟩ => ?_)
      rw [e1, e2, e3]
      clear e1 e2 e3
      refine zA_iconst (nI 1) dX11_valueRead_68 ic_1 ?_
      exact zB_zret rfl dX11_valueRead_69 (by decide) (⟨zOpenS hP hS hc h57 hT hkd (by omega) hR2 rfl ht, rfl, rfl⟩)
    · refine zA_aload_0 dX11_valueRead_18 ?_
      refine zA_iconst (nI 2) dX11_valueRead_19 ic_2 ?_
      refine zA_cVi (ct_rWrong g gi gl r (nI 2)) calX11_wrong stX11_wrong lX11_255 dX11_valueRead_20 (by decide) (by simp [Value.category]) rfl (Nat.le_refl _) (Nat.le_refl _) sh_87 rfl (fun zz gi' gl' gr' ⟨hz, e1, e2, e3⟩ => ?_)
      rw [hz, e1, e2, e3]
      clear hz e1 e2 e3
      exact zB_zret rfl dX11_valueRead_23 (by decide) (⟨zStp_bad (N := fNx M) (by rw [hR2]; unfold fOb; rw [hN.2.2.2.2.2.2.2.2.1, if_neg (fun q => by have := (nI_ltI (by omega) (by omega)).mp q; omega)]) n2 h35, rfl, rfl⟩)
  · rw [c3] at hR hv
    have hv2 : v = true := by rw [← hv]; decide
    subst hv2
    have hR2 : R = fAnd (fCnK (fNx M)) (fun M => fPw M (nI 22)) := hR.symm
    subst hR2
    have hkd : ¬ kd = nI 0 := by rw [c1]; decide
    refine zA_aload_0 dX11_valueRead_0 ?_
    refine zA_bipush (nI 40) dX11_valueRead_1 bc_40 ?_
    refine zA_cVi (ct_rIsSign g gi gl r (nI 40)) calX11_isSign stX11_isSign lX11_292 dX11_valueRead_3 (by decide) (by simp [Value.category]) rfl (Nat.le_refl _) (Nat.le_refl _) sh_87 rfl (fun zz gi' gl' gr' ⟨hz, e1, e2, e3⟩ => ?_)
    rw [hz, rb_f (fun q => absurd (h34.symm.trans q.2) (by rw [c2]; decide)), e1, e2, e3]
    clear hz e1 e2 e3
    refine zA_if_eq 70 dX11_valueRead_6 (by decide) (fun _ => ?_) (fun hh => absurd (by decide) hh)
    refine zA_aload_0 dX11_valueRead_70 ?_
    refine zA_bipush (nI 8) dX11_valueRead_71 bc_8 ?_
    refine zA_cVi (ct_rIsSign g gi gl r (nI 8)) calX11_isSign stX11_isSign lX11_292 dX11_valueRead_73 (by decide) (by simp [Value.category]) rfl (Nat.le_refl _) (Nat.le_refl _) sh_87 rfl (fun zz gi' gl' gr' ⟨hz, e1, e2, e3⟩ => ?_)
    rw [hz, rb_t (⟨h33.trans c1, h34.trans c2⟩), e1, e2, e3]
    clear hz e1 e2 e3
    refine zA_if_eq 86 dX11_valueRead_76 (by decide) (fun hh => absurd hh (by decide)) (fun _ => ?_)
    refine zA_aload_0 dX11_valueRead_79 ?_
    refine zA_bipush (nI 12) dX11_valueRead_80 bc_12 ?_
    refine zA_cVi (ct_rOne22 g gi gl r M hP hS hc h57 h58 hT hkd) calX11_ofOne stX11_ofOne lX11_301 dX11_valueRead_82 (by decide) (by simp [Value.category]) rfl (Nat.le_refl _) (Nat.le_refl _) sh_87 rfl (fun zz gi' gl' gr' ⟨hs, e2, e3⟩ => ?_)
    rw [e2, e3]
    clear e2 e3
    exact zB_zret rfl dX11_valueRead_85 (by rcases hs.2 with q | q <;> rw [q.2.1] <;> decide) (⟨hs, rfl, rfl⟩)
  · rw [c3] at hR hv
    have hv2 : v = true := by rw [← hv]; decide
    subst hv2
    have hkd : ¬ kd = nI 0 := by rw [c1]; decide
    have hm := zMn_nms hN
    refine zA_aload_0 dX11_valueRead_0 ?_
    refine zA_bipush (nI 40) dX11_valueRead_1 bc_40 ?_
    refine zA_cVi (ct_rIsSign g gi gl r (nI 40)) calX11_isSign stX11_isSign lX11_292 dX11_valueRead_3 (by decide) (by simp [Value.category]) rfl (Nat.le_refl _) (Nat.le_refl _) sh_87 rfl (fun zz gi' gl' gr' ⟨hz, e1, e2, e3⟩ => ?_)
    rw [hz, rb_f (fun q => absurd (h33.symm.trans q.1) (by rw [c1]; decide)), e1, e2, e3]
    clear hz e1 e2 e3
    refine zA_if_eq 70 dX11_valueRead_6 (by decide) (fun _ => ?_) (fun hh => absurd (by decide) hh)
    refine zA_aload_0 dX11_valueRead_70 ?_
    refine zA_bipush (nI 8) dX11_valueRead_71 bc_8 ?_
    refine zA_cVi (ct_rIsSign g gi gl r (nI 8)) calX11_isSign stX11_isSign lX11_292 dX11_valueRead_73 (by decide) (by simp [Value.category]) rfl (Nat.le_refl _) (Nat.le_refl _) sh_87 rfl (fun zz gi' gl' gr' ⟨hz, e1, e2, e3⟩ => ?_)
    rw [hz, rb_f (fun q => absurd (h33.symm.trans q.1) (by rw [c1]; decide)), e1, e2, e3]
    clear hz e1 e2 e3
    cases hmn : zMn W
    · have hR2 : R = (false, fFail (fNx M) (nI 1)) := hR.symm.trans ((fRp_10 _ _).trans (if_neg (fun q => by rw [hm.mp q] at hmn; exact absurd hmn.symm Bool.false_ne_true)))
      refine zA_if_eq 86 dX11_valueRead_76 (by decide) (fun _ => ?_) (fun hh => absurd (by decide) hh)
      refine zA_aload_0 dX11_valueRead_86 ?_
      refine zA_getI (v := (nI 1)) sh_87 fX11_231 dX11_valueRead_87 rfl ((h33.trans c1)) ?_
      refine zA_iconst (nI 1) dX11_valueRead_90 ic_1 ?_
      refine zA_icmp_neN 117 dX11_valueRead_91 (by decide) (by decide) (by decide) (fun hh => absurd hh (by decide)) (fun _ => ?_)
      refine zA_aload_0 dX11_valueRead_94 ?_
      refine zA_getI (v := (nI 9)) sh_87 fX11_241 dX11_valueRead_95 rfl ((h34.trans c2)) ?_
      refine zA_bipush (nI 9) dX11_valueRead_98 bc_9 ?_
      refine zA_icmp_neN 117 dX11_valueRead_100 (by decide) (by decide) (by decide) (fun hh => absurd hh (by decide)) (fun _ => ?_)
      refine zA_aload_0 dX11_valueRead_103 ?_
      refine zA_getI (v := (nI 0)) sh_87 fX11_285 dX11_valueRead_104 rfl ((h58.trans (rb_f (by rw [hmn]; exact Bool.false_ne_true)))) ?_
      refine zA_if_eq 117 dX11_valueRead_107 (by decide) (fun _ => ?_) (fun hh => absurd (by decide) hh)
      refine zA_aload_0 dX11_valueRead_117 ?_
      refine zA_cVi (ct_rNameNow g gi gl r) calX11_nameNow stX11_nameNow lX11_304 dX11_valueRead_118 (by decide) (by simp [Value.category]) rfl (Nat.le_refl _) (Nat.le_refl _) sh_87 rfl (fun zz gi' gl' gr' ⟨hz, e1, e2, e3⟩ => ?_)
      rw [hz, rNn_at h33 h34, c1, c2, show rNnV (nI 1) (nI 9) = -1 by decide, e1, e2, e3]
      clear hz e1 e2 e3
      refine zA_istore_2 dX11_valueRead_121 rfl ?_
      refine zA_iload_2 dX11_valueRead_122 ?_
      refine zA_if_ge 140 dX11_valueRead_123 (by decide) (fun hh => absurd hh (by decide)) (fun _ => ?_)
      refine zA_aload_0 dX11_valueRead_126 ?_
      refine zA_getI (v := (nI 1)) sh_87 fX11_231 dX11_valueRead_127 rfl ((h33.trans c1)) ?_
      refine zA_iconst (nI 2) dX11_valueRead_130 ic_2 ?_
      refine zA_icmp_eqN 140 dX11_valueRead_131 (by decide) (by decide) (by decide) (fun hh => absurd hh (by decide)) (fun _ => ?_)
      refine zA_aload_0 dX11_valueRead_134 ?_
      refine zA_iconst (nI 1) dX11_valueRead_135 ic_1 ?_
      refine zA_cVi (ct_rWrong g gi gl r (nI 1)) calX11_wrong stX11_wrong lX11_255 dX11_valueRead_136 (by decide) (by simp [Value.category]) rfl (Nat.le_refl _) (Nat.le_refl _) sh_87 rfl (fun zz gi' gl' gr' ⟨hz, e1, e2, e3⟩ => ?_)
      rw [hz, e1, e2, e3]
      clear hz e1 e2 e3
      exact zB_zret rfl dX11_valueRead_139 (by decide) (⟨zStp_bad (N := fNx M) hR2 n2 h35, rfl, rfl⟩)
    · have hR2 : R = fAnd (fCnK (fNx M)) (fun M => fPw M (nI 10)) := hR.symm.trans (if_pos (hm.mpr hmn))
      subst hR2
      refine zA_if_eq 86 dX11_valueRead_76 (by decide) (fun _ => ?_) (fun hh => absurd (by decide) hh)
      refine zA_aload_0 dX11_valueRead_86 ?_
      refine zA_getI (v := (nI 1)) sh_87 fX11_231 dX11_valueRead_87 rfl ((h33.trans c1)) ?_
      refine zA_iconst (nI 1) dX11_valueRead_90 ic_1 ?_
      refine zA_icmp_neN 117 dX11_valueRead_91 (by decide) (by decide) (by decide) (fun hh => absurd hh (by decide)) (fun _ => ?_)
      refine zA_aload_0 dX11_valueRead_94 ?_
      refine zA_getI (v := (nI 9)) sh_87 fX11_241 dX11_valueRead_95 rfl ((h34.trans c2)) ?_
      refine zA_bipush (nI 9) dX11_valueRead_98 bc_9 ?_
      refine zA_icmp_neN 117 dX11_valueRead_100 (by decide) (by decide) (by decide) (fun hh => absurd hh (by decide)) (fun _ => ?_)
      refine zA_aload_0 dX11_valueRead_103 ?_
      refine zA_getI (v := (nI 1)) sh_87 fX11_285 dX11_valueRead_104 rfl ((h58.trans (rb_t hmn))) ?_
      refine zA_if_eq 117 dX11_valueRead_107 (by decide) (fun hh => absurd hh (by decide)) (fun _ => ?_)
      refine zA_aload_0 dX11_valueRead_110 ?_
      refine zA_bipush (nI 13) dX11_valueRead_111 bc_13 ?_
      refine zA_cVi (ct_rOne10 g gi gl r M hP hS hc h57 h58 hT hkd hmn) calX11_ofOne stX11_ofOne lX11_301 dX11_valueRead_113 (by decide) (by simp [Value.category]) rfl (Nat.le_refl _) (Nat.le_refl _) sh_87 rfl (fun zz gi' gl' gr' ⟨hs, e2, e3⟩ => ?_)
      rw [e2, e3]
      clear e2 e3
      exact zB_zret rfl dX11_valueRead_116 (by rcases hs.2 with q | q <;> rw [q.2.1] <;> decide) (⟨hs, rfl, rfl⟩)
  · rw [c5] at hR hv
    have hv2 : v = false := by rw [← hv]; decide
    subst hv2
    have hR2 : R = fAnd (fCnK (fNx M)) (fRnB (nI l)) := hR.symm
    have hkd : ¬ kd = nI 0 := by rw [c1]; decide
    have hsl : S.length < 100 := by
      have hh : ∀ V : List (Nat × Nat), zTws V ≤ V.length := by
        intro V
        induction V with
        | nil => exact Nat.le_refl _
        | cons p V ih =>
          show zTws V + (if p.1 = 7 ∨ p.1 = 10 ∨ p.1 = 22 then 0 else 1) ≤ V.length + 1
          split <;> omega
      have := hh W
      omega
    refine zA_aload_0 dX11_valueRead_0 ?_
    refine zA_bipush (nI 40) dX11_valueRead_1 bc_40 ?_
    refine zA_cVi (ct_rIsSign g gi gl r (nI 40)) calX11_isSign stX11_isSign lX11_292 dX11_valueRead_3 (by decide) (by simp [Value.category]) rfl (Nat.le_refl _) (Nat.le_refl _) sh_87 rfl (fun zz gi' gl' gr' ⟨hz, e1, e2, e3⟩ => ?_)
    rw [hz, rb_f (fun q => absurd (h33.symm.trans q.1) (by rw [c1]; decide)), e1, e2, e3]
    clear hz e1 e2 e3
    refine zA_if_eq 70 dX11_valueRead_6 (by decide) (fun _ => ?_) (fun hh => absurd (by decide) hh)
    refine zA_aload_0 dX11_valueRead_70 ?_
    refine zA_bipush (nI 8) dX11_valueRead_71 bc_8 ?_
    refine zA_cVi (ct_rIsSign g gi gl r (nI 8)) calX11_isSign stX11_isSign lX11_292 dX11_valueRead_73 (by decide) (by simp [Value.category]) rfl (Nat.le_refl _) (Nat.le_refl _) sh_87 rfl (fun zz gi' gl' gr' ⟨hz, e1, e2, e3⟩ => ?_)
    rw [hz, rb_f (fun q => absurd (h33.symm.trans q.1) (by rw [c1]; decide)), e1, e2, e3]
    clear hz e1 e2 e3
    refine zA_if_eq 86 dX11_valueRead_76 (by decide) (fun _ => ?_) (fun hh => absurd (by decide) hh)
    refine zA_aload_0 dX11_valueRead_86 ?_
    refine zA_getI (v := (nI 1)) sh_87 fX11_231 dX11_valueRead_87 rfl ((h33.trans c1)) ?_
    refine zA_iconst (nI 1) dX11_valueRead_90 ic_1 ?_
    refine zA_icmp_neN 117 dX11_valueRead_91 (by decide) (by decide) (by decide) (fun hh => absurd hh (by decide)) (fun _ => ?_)
    refine zA_aload_0 dX11_valueRead_94 ?_
    refine zA_getI (v := (gi 87 34)) sh_87 fX11_241 dX11_valueRead_95 rfl rfl ?_
    refine zA_bipush (nI 9) dX11_valueRead_98 bc_9 ?_
    refine zA_icmp_ne 117 dX11_valueRead_100 (by decide) (fun h2 => ?_) (fun h2 => ?_)
    · refine zA_aload_0 dX11_valueRead_117 ?_
      refine zA_cVi (ct_rNameNow g gi gl r) calX11_nameNow stX11_nameNow lX11_304 dX11_valueRead_118 (by decide) (by simp [Value.category]) rfl (Nat.le_refl _) (Nat.le_refl _) sh_87 rfl (fun zz gi' gl' gr' ⟨hz, e1, e2, e3⟩ => ?_)
      rw [hz, rNn_at h33 h34, c4, e1, e2, e3]
      clear hz e1 e2 e3
      refine zA_istore_2 dX11_valueRead_121 rfl ?_
      refine zA_iload_2 dX11_valueRead_122 ?_
      refine zA_if_ge 140 dX11_valueRead_123 (by decide) (fun h3 => ?_) (fun h3 => ?_)
      · refine zA_iload_2 dX11_valueRead_140 ?_
        refine zA_if_ge 159 dX11_valueRead_141 (by decide) (fun h4 => ?_) (fun h4 => ?_)
        · refine zA_aload_0 dX11_valueRead_159 ?_
          refine zA_iload_2 dX11_valueRead_160 ?_
          refine zA_if_ge 168 dX11_valueRead_161 (by decide) (fun h5 => ?_) (fun h5 => ?_)
          · refine zA_bipush (nI 16) dX11_valueRead_168 bc_16 ?_
            refine zA_iload_2 dX11_valueRead_170 ?_
            refine zA_if_ge 181 dX11_valueRead_171 (by decide) (fun h6 => ?_) (fun h6 => ?_)
            · refine zA_iload_2 dX11_valueRead_181 ?_
              rcases Nat.lt_or_ge kn 64 with hq | hq
              · refine zA_cVi (ct_rGrown g gi gl r hP.2.2.1.2.1 hkn (nI 16) (nI a)) calX11_grown stX11_grown lX11_278 dX11_valueRead_182 (by decide) (by simp [Value.category]) rfl (Nat.le_refl _) (Nat.le_refl _) sh_87 rfl (fun zz gi' gl' gr' hp => ?_)
                obtain ⟨_, hz, e1, e2, e3⟩ := hp.resolve_left (fun q => absurd q.1 (by omega))
                rw [hz, e1, e2, e3]
                clear hz e1 e2 e3
                refine zA_istore_3 dX11_valueRead_185 rfl ?_
                refine zA_iload_3 dX11_valueRead_186 ?_
                refine zA_if_ge 192 dX11_valueRead_187 (by decide) (fun h8 => ?_) (fun h8 => ?_)
                · have hR3 := hR2.trans (zCk_ok hN.2.2.1.1 hq)
                  refine zA_iload_2 dX11_valueRead_192 ?_
                  refine zA_bipush (nI 10) dX11_valueRead_193 bc_10 ?_
                  refine zA_icmp_neN 208 dX11_valueRead_195 (by decide) (by omega) (by omega) (fun h10 => ?_) (fun h10 => ?_)
                  · refine zA_aload_0 dX11_valueRead_208 ?_
                    refine zA_iconst (nI 0) dX11_valueRead_209 ic_0 ?_
                    refine zS_putZ sh_87 fX11_307 dX11_valueRead_210 rfl rfl (by decide) ?_
                    refine zA_aload_0 dX11_valueRead_213 ?_
                    refine zA_cVv (ct_rTake g ((zs (rGrM gi kn (nI 16) (nI a)) 87 57 ((nI 0)))) gl r (fun j hj => k106 j hj) k31 hn5 k32 n5) calX11_take stX11_take lX11_289 dX11_valueRead_214 (by decide) (by simp [Value.category]) rfl (Nat.le_refl _) (Nat.le_refl _) sh_87 rfl (fun gi' gl' gr' ⟨pl2, nx2, kd2, wh2, ht, e1, e2, e3⟩ => ?_)
                    rw [e1, e2, e3]
                    clear e1 e2 e3
                    refine zA_aload_0 dX11_valueRead_217 ?_
                    refine zA_iload_3 dX11_valueRead_218 ?_
                    refine zA_cVv (ct_rDone g (rTk ((zs (rGrM gi kn (nI 16) (nI a)) 87 57 ((nI 0)))) (nI pl2) (nI nx2) kd2 wh2) gl r (q := wr) (h := S.length) (by rw [rTk_j _ _ _ _ _ (by decide) (by decide) (by decide) (by decide), zs_nj (by decide), rGr_j _ _ _ _ (by decide)]; exact hP.2.1.2.1) (by omega) (by rw [rTk_j _ _ _ _ _ (by decide) (by decide) (by decide) (by decide), zs_nj (by decide), rGr_j _ _ _ _ (by decide)]; exact hP.2.2.2.1.1) hsl (nI (64 + kn))) calX11_done stX11_done lX11_274 dX11_valueRead_219 (by decide) (by simp [Value.category]) rfl (Nat.le_refl _) (Nat.le_refl _) sh_87 rfl (fun gi' gl' gr' ⟨e1, e2, e3⟩ => ?_)
                    rw [e1, e2, e3]
                    clear e1 e2 e3
                    refine zA_iconst (nI 1) dX11_valueRead_222 ic_1 ?_
                    exact zB_zret rfl dX11_valueRead_223 (by decide) (⟨zLeafS (kc := 4) hP hS hc hT hkd hq (Or.inr ⟨rfl, zx_of c3 (by decide), fun q => by rw [zi_nI (by omega)] at q; omega⟩) (by rw [hR3]; unfold fRnB; rw [show zs (fNx M) 43 8 (nI (kn + 1)) 50 5 = nI a from c6, if_neg (fun q => nI_q (by omega) (by omega) h10 q.1)]) rfl ht, rfl, rfl⟩)
                  · refine zA_iload_1 dX11_valueRead_198 ?_
                    refine zA_if_ne 208 dX11_valueRead_199 (by decide) (fun h11 => ?_) (fun h11 => ?_)
                    · refine zA_aload_0 dX11_valueRead_208 ?_
                      refine zA_iconst (nI 0) dX11_valueRead_209 ic_0 ?_
                      refine zS_putZ sh_87 fX11_307 dX11_valueRead_210 rfl rfl (by decide) ?_
                      refine zA_aload_0 dX11_valueRead_213 ?_
                      refine zA_cVv (ct_rTake g ((zs (rGrM gi kn (nI 16) (nI a)) 87 57 ((nI 0)))) gl r (fun j hj => k106 j hj) k31 hn5 k32 n5) calX11_take stX11_take lX11_289 dX11_valueRead_214 (by decide) (by simp [Value.category]) rfl (Nat.le_refl _) (Nat.le_refl _) sh_87 rfl (fun gi' gl' gr' ⟨pl2, nx2, kd2, wh2, ht, e1, e2, e3⟩ => ?_)
                      rw [e1, e2, e3]
                      clear e1 e2 e3
                      refine zA_aload_0 dX11_valueRead_217 ?_
                      refine zA_iload_3 dX11_valueRead_218 ?_
                      refine zA_cVv (ct_rDone g (rTk ((zs (rGrM gi kn (nI 16) (nI a)) 87 57 ((nI 0)))) (nI pl2) (nI nx2) kd2 wh2) gl r (q := wr) (h := S.length) (by rw [rTk_j _ _ _ _ _ (by decide) (by decide) (by decide) (by decide), zs_nj (by decide), rGr_j _ _ _ _ (by decide)]; exact hP.2.1.2.1) (by omega) (by rw [rTk_j _ _ _ _ _ (by decide) (by decide) (by decide) (by decide), zs_nj (by decide), rGr_j _ _ _ _ (by decide)]; exact hP.2.2.2.1.1) hsl (nI (64 + kn))) calX11_done stX11_done lX11_274 dX11_valueRead_219 (by decide) (by simp [Value.category]) rfl (Nat.le_refl _) (Nat.le_refl _) sh_87 rfl (fun gi' gl' gr' ⟨e1, e2, e3⟩ => ?_)
                      rw [e1, e2, e3]
                      clear e1 e2 e3
                      refine zA_iconst (nI 1) dX11_valueRead_222 ic_1 ?_
                      exact zB_zret rfl dX11_valueRead_223 (by decide) (⟨zLeafS (kc := 4) hP hS hc hT hkd hq (Or.inr ⟨rfl, zx_of c3 (by decide), fun _ => Nat.le_of_not_lt (fun q => h11 (hhd.mpr q))⟩) (by rw [hR3]; unfold fRnB; rw [show zs (fNx M) 43 8 (nI (kn + 1)) 50 5 = nI a from c6, if_neg (fun q => h11 (hhd.mpr (by rcases q.2 with q | q; exact Nat.lt_of_not_le (fun z => nI_q0 (by omega) (by omega) q); exact Nat.lt_of_not_le (fun z => nI_q (by omega) (by omega) (by omega) q))))]) rfl ht, rfl, rfl⟩)
                    · refine zA_aload_0 dX11_valueRead_202 ?_
                      refine zA_iconst (nI 4) dX11_valueRead_203 ic_4 ?_
                      refine zA_cVi (ct_rWrong g (rGrM gi kn (nI 16) (nI a)) gl r (nI 4)) calX11_wrong stX11_wrong lX11_255 dX11_valueRead_204 (by decide) (by simp [Value.category]) rfl (Nat.le_refl _) (Nat.le_refl _) sh_87 rfl (fun zz gi' gl' gr' ⟨hz, e1, e2, e3⟩ => ?_)
                      rw [hz, e1, e2, e3]
                      clear hz e1 e2 e3
                      exact zB_zret rfl dX11_valueRead_207 (by decide) (⟨zStp_bd2 (N := zs (fNx M) 43 8 (nI (kn + 1))) (zFrX_gr _ _ _ _) (by rw [hR3]; unfold fRnB; rw [show zs (fNx M) 43 8 (nI (kn + 1)) 50 5 = nI a from c6, if_pos ⟨by rw [h10], zl01 (hhd.mp h11)⟩]) n2 ((rGr_j _ _ _ _ (by decide)).trans h35), rfl, rfl⟩)
                · exact absurd (nI_ge0 (by omega)) h8
              · refine zA_cVi (ct_rGrown g gi gl r hP.2.2.1.2.1 hkn (nI 16) (nI a)) calX11_grown stX11_grown lX11_278 dX11_valueRead_182 (by decide) (by simp [Value.category]) rfl (Nat.le_refl _) (Nat.le_refl _) sh_87 rfl (fun zz gi' gl' gr' hp => ?_)
                obtain ⟨_, hz, e1, e2, e3⟩ := hp.resolve_right (fun q => absurd q.1 (by omega))
                rw [hz, e1, e2, e3]
                clear hz e1 e2 e3
                refine zA_istore_3 dX11_valueRead_185 rfl ?_
                refine zA_iload_3 dX11_valueRead_186 ?_
                refine zA_if_ge 192 dX11_valueRead_187 (by decide) (fun hh => absurd hh (by decide)) (fun _ => ?_)
                refine zA_iconst (nI 0) dX11_valueRead_190 ic_0 ?_
                exact zB_zret rfl dX11_valueRead_191 (by decide) (⟨zStp_bad (N := fNx M) (hR2.trans (zCk_no hN.2.2.1.1 hkn hq)) n2 h35, rfl, rfl⟩)
            · exact absurd (nI_ge0 (by omega)) h6
          · exact absurd (nI_ge0 (by omega)) h5
        · exact absurd (nI_ge0 (by omega)) h4
      · exact absurd (nI_ge0 (by omega)) h3
    · exact absurd (h34.symm.trans h2) c2
  · rw [c2] at hR hv
    have hv2 : v = false := by rw [← hv]; decide
    subst hv2
    have hkd : ¬ kd = nI 0 := by rw [c1]; decide
    have hsl : S.length < 100 := by
      have hh : ∀ V : List (Nat × Nat), zTws V ≤ V.length := by
        intro V
        induction V with
        | nil => exact Nat.le_refl _
        | cons p V ih =>
          show zTws V + (if p.1 = 7 ∨ p.1 = 10 ∨ p.1 = 22 then 0 else 1) ≤ V.length + 1
          split <;> omega
      have := hh W
      omega
    refine zA_aload_0 dX11_valueRead_0 ?_
    refine zA_bipush (nI 40) dX11_valueRead_1 bc_40 ?_
    refine zA_cVi (ct_rIsSign g gi gl r (nI 40)) calX11_isSign stX11_isSign lX11_292 dX11_valueRead_3 (by decide) (by simp [Value.category]) rfl (Nat.le_refl _) (Nat.le_refl _) sh_87 rfl (fun zz gi' gl' gr' ⟨hz, e1, e2, e3⟩ => ?_)
    rw [hz, rb_f (fun q => absurd (h33.symm.trans q.1) (by rw [c1]; decide)), e1, e2, e3]
    clear hz e1 e2 e3
    refine zA_if_eq 70 dX11_valueRead_6 (by decide) (fun _ => ?_) (fun hh => absurd (by decide) hh)
    refine zA_aload_0 dX11_valueRead_70 ?_
    refine zA_bipush (nI 8) dX11_valueRead_71 bc_8 ?_
    refine zA_cVi (ct_rIsSign g gi gl r (nI 8)) calX11_isSign stX11_isSign lX11_292 dX11_valueRead_73 (by decide) (by simp [Value.category]) rfl (Nat.le_refl _) (Nat.le_refl _) sh_87 rfl (fun zz gi' gl' gr' ⟨hz, e1, e2, e3⟩ => ?_)
    rw [hz, rb_f (fun q => absurd (h33.symm.trans q.1) (by rw [c1]; decide)), e1, e2, e3]
    clear hz e1 e2 e3
    refine zA_if_eq 86 dX11_valueRead_76 (by decide) (fun _ => ?_) (fun hh => absurd (by decide) hh)
    refine zA_aload_0 dX11_valueRead_86 ?_
    refine zA_getI (v := (nI 2)) sh_87 fX11_231 dX11_valueRead_87 rfl ((h33.trans c1)) ?_
    refine zA_iconst (nI 1) dX11_valueRead_90 ic_1 ?_
    refine zA_icmp_neN 117 dX11_valueRead_91 (by decide) (by decide) (by decide) (fun _ => ?_) (fun hh => absurd hh (by decide))
    refine zA_aload_0 dX11_valueRead_117 ?_
    refine zA_cVi (ct_rNameNow g gi gl r) calX11_nameNow stX11_nameNow lX11_304 dX11_valueRead_118 (by decide) (by simp [Value.category]) rfl (Nat.le_refl _) (Nat.le_refl _) sh_87 rfl (fun zz gi' gl' gr' ⟨hz, e1, e2, e3⟩ => ?_)
    rw [hz, rNn_at h33 h34, c1, show rNnV (nI 2) wh = -1 from if_neg (by decide), e1, e2, e3]
    clear hz e1 e2 e3
    rcases c3 with ⟨a, a1, a2, a3⟩ | ⟨a, b, a1, a2, b1, b2, a3, a4⟩
    · refine zA_istore_2 dX11_valueRead_121 rfl ?_
      refine zA_iload_2 dX11_valueRead_122 ?_
      refine zA_if_ge 140 dX11_valueRead_123 (by decide) (fun hh => absurd hh (by decide)) (fun _ => ?_)
      refine zA_aload_0 dX11_valueRead_126 ?_
      refine zA_getI (v := (nI 2)) sh_87 fX11_231 dX11_valueRead_127 rfl ((h33.trans c1)) ?_
      refine zA_iconst (nI 2) dX11_valueRead_130 ic_2 ?_
      refine zA_icmp_eqN 140 dX11_valueRead_131 (by decide) (by decide) (by decide) (fun _ => ?_) (fun hh => absurd hh (by decide))
      refine zA_iload_2 dX11_valueRead_140 ?_
      refine zA_if_ge 159 dX11_valueRead_141 (by decide) (fun hh => absurd hh (by decide)) (fun _ => ?_)
      refine zA_aload_0 dX11_valueRead_144 ?_
      refine zA_getI (v := (nI a)) sh_87 fX11_241 dX11_valueRead_145 rfl ((h34.trans a3)) ?_
      refine zA_ldc kX11_247 dX11_valueRead_148 ?_
      refine zA_topi (b := nI 99999) (by decide) ?_
      refine zA_icmp_leN 159 dX11_valueRead_150 (by decide) (by omega) (by omega) (fun h3 => ?_) (fun h3 => ?_)
      · have hR2 : R = fAnd (fCnK (fNx M)) (fun M => fWr M (nI 3) (M 50 5)) := hR.symm.trans ((fRp_3 _ _).trans (if_pos (by rw [a2]; refine Int32.le_iff_toInt_le.mpr ?_; rw [nI_toInt (by omega), nI_toInt (by omega)]; omega)))
        refine zA_aload_0 dX11_valueRead_159 ?_
        refine zA_iload_2 dX11_valueRead_160 ?_
        refine zA_if_ge 168 dX11_valueRead_161 (by decide) (fun hh => absurd hh (by decide)) (fun _ => ?_)
        refine zA_iconst (nI 0) dX11_valueRead_164 ic_0 ?_
        refine zA_goto 170 dX11_valueRead_165 (by decide) ?_
        refine zA_iload_2 dX11_valueRead_170 ?_
        refine zA_if_ge 181 dX11_valueRead_171 (by decide) (fun hh => absurd hh (by decide)) (fun _ => ?_)
        refine zA_aload_0 dX11_valueRead_174 ?_
        refine zA_getI (v := (nI a)) sh_87 fX11_241 dX11_valueRead_175 rfl ((h34.trans a3)) ?_
        refine zA_goto 182 dX11_valueRead_178 (by decide) ?_
        rcases Nat.lt_or_ge kn 64 with hq | hq
        · refine zA_cVi (ct_rGrown g gi gl r hP.2.2.1.2.1 hkn (nI 0) (nI a)) calX11_grown stX11_grown lX11_278 dX11_valueRead_182 (by decide) (by simp [Value.category]) rfl (Nat.le_refl _) (Nat.le_refl _) sh_87 rfl (fun zz gi' gl' gr' hp => ?_)
          obtain ⟨_, hz, e1, e2, e3⟩ := hp.resolve_left (fun q => absurd q.1 (by omega))
          rw [hz, e1, e2, e3]
          clear hz e1 e2 e3
          refine zA_istore_3 dX11_valueRead_185 rfl ?_
          refine zA_iload_3 dX11_valueRead_186 ?_
          refine zA_if_ge 192 dX11_valueRead_187 (by decide) (fun h8 => ?_) (fun h8 => ?_)
          · have hR3 := hR2.trans (zCk_ok hN.2.2.1.1 hq)
            refine zA_iload_2 dX11_valueRead_192 ?_
            refine zA_bipush (nI 10) dX11_valueRead_193 bc_10 ?_
            refine zA_icmp_ne 208 dX11_valueRead_195 (by decide) (fun h10 => ?_) (fun h10 => ?_)
            · refine zA_aload_0 dX11_valueRead_208 ?_
              refine zA_iconst (nI 0) dX11_valueRead_209 ic_0 ?_
              refine zS_putZ sh_87 fX11_307 dX11_valueRead_210 rfl rfl (by decide) ?_
              refine zA_aload_0 dX11_valueRead_213 ?_
              refine zA_cVv (ct_rTake g ((zs (rGrM gi kn (nI 0) (nI a)) 87 57 ((nI 0)))) gl r (fun j hj => k106 j hj) k31 hn5 k32 n5) calX11_take stX11_take lX11_289 dX11_valueRead_214 (by decide) (by simp [Value.category]) rfl (Nat.le_refl _) (Nat.le_refl _) sh_87 rfl (fun gi' gl' gr' ⟨pl2, nx2, kd2, wh2, ht, e1, e2, e3⟩ => ?_)
              rw [e1, e2, e3]
              clear e1 e2 e3
              refine zA_aload_0 dX11_valueRead_217 ?_
              refine zA_iload_3 dX11_valueRead_218 ?_
              refine zA_cVv (ct_rDone g (rTk ((zs (rGrM gi kn (nI 0) (nI a)) 87 57 ((nI 0)))) (nI pl2) (nI nx2) kd2 wh2) gl r (q := wr) (h := S.length) (by rw [rTk_j _ _ _ _ _ (by decide) (by decide) (by decide) (by decide), zs_nj (by decide), rGr_j _ _ _ _ (by decide)]; exact hP.2.1.2.1) (by omega) (by rw [rTk_j _ _ _ _ _ (by decide) (by decide) (by decide) (by decide), zs_nj (by decide), rGr_j _ _ _ _ (by decide)]; exact hP.2.2.2.1.1) hsl (nI (64 + kn))) calX11_done stX11_done lX11_274 dX11_valueRead_219 (by decide) (by simp [Value.category]) rfl (Nat.le_refl _) (Nat.le_refl _) sh_87 rfl (fun gi' gl' gr' ⟨e1, e2, e3⟩ => ?_)
              rw [e1, e2, e3]
              clear e1 e2 e3
              refine zA_iconst (nI 1) dX11_valueRead_222 ic_1 ?_
              exact zB_zret rfl dX11_valueRead_223 (by decide) (⟨zLeafS (kc := 3) hP hS hc hT hkd hq (Or.inl rfl) (by rw [hR3]; show fWr _ (nI 3) (zs (fNx M) 43 8 (nI (kn + 1)) 50 5) = _; rw [show zs (fNx M) 43 8 (nI (kn + 1)) 50 5 = nI a from a2]) rfl ht, rfl, rfl⟩)
            · exact absurd h10 (by decide)
          · exact absurd (nI_ge0 (by omega)) h8
        · refine zA_cVi (ct_rGrown g gi gl r hP.2.2.1.2.1 hkn (nI 0) (nI a)) calX11_grown stX11_grown lX11_278 dX11_valueRead_182 (by decide) (by simp [Value.category]) rfl (Nat.le_refl _) (Nat.le_refl _) sh_87 rfl (fun zz gi' gl' gr' hp => ?_)
          obtain ⟨_, hz, e1, e2, e3⟩ := hp.resolve_right (fun q => absurd q.1 (by omega))
          rw [hz, e1, e2, e3]
          clear hz e1 e2 e3
          refine zA_istore_3 dX11_valueRead_185 rfl ?_
          refine zA_iload_3 dX11_valueRead_186 ?_
          refine zA_if_ge 192 dX11_valueRead_187 (by decide) (fun hh => absurd hh (by decide)) (fun _ => ?_)
          refine zA_iconst (nI 0) dX11_valueRead_190 ic_0 ?_
          exact zB_zret rfl dX11_valueRead_191 (by decide) (⟨zStp_bad (N := fNx M) (hR2.trans (zCk_no hN.2.2.1.1 hkn hq)) n2 h35, rfl, rfl⟩)
      · exact absurd h3 (by omega)
    · refine zA_istore_2 dX11_valueRead_121 rfl ?_
      refine zA_iload_2 dX11_valueRead_122 ?_
      refine zA_if_ge 140 dX11_valueRead_123 (by decide) (fun hh => absurd hh (by decide)) (fun _ => ?_)
      refine zA_aload_0 dX11_valueRead_126 ?_
      refine zA_getI (v := (nI 2)) sh_87 fX11_231 dX11_valueRead_127 rfl ((h33.trans c1)) ?_
      refine zA_iconst (nI 2) dX11_valueRead_130 ic_2 ?_
      refine zA_icmp_eqN 140 dX11_valueRead_131 (by decide) (by decide) (by decide) (fun _ => ?_) (fun hh => absurd hh (by decide))
      refine zA_iload_2 dX11_valueRead_140 ?_
      refine zA_if_ge 159 dX11_valueRead_141 (by decide) (fun hh => absurd hh (by decide)) (fun _ => ?_)
      refine zA_aload_0 dX11_valueRead_144 ?_
      refine zA_getI (v := (nI b)) sh_87 fX11_241 dX11_valueRead_145 rfl ((h34.trans a4)) ?_
      refine zA_ldc kX11_247 dX11_valueRead_148 ?_
      refine zA_topi (b := nI 99999) (by decide) ?_
      refine zA_icmp_leN 159 dX11_valueRead_150 (by decide) (by omega) (by omega) (fun h3 => ?_) (fun h3 => ?_)
      · exact absurd h3 (by omega)
      · refine zA_aload_0 dX11_valueRead_153 ?_
        refine zA_iconst (nI 2) dX11_valueRead_154 ic_2 ?_
        refine zA_cVi (ct_rWrong g gi gl r (nI 2)) calX11_wrong stX11_wrong lX11_255 dX11_valueRead_155 (by decide) (by simp [Value.category]) rfl (Nat.le_refl _) (Nat.le_refl _) sh_87 rfl (fun zz gi' gl' gr' ⟨hz, e1, e2, e3⟩ => ?_)
        rw [hz, e1, e2, e3]
        clear hz e1 e2 e3
        exact zB_zret rfl dX11_valueRead_158 (by decide) (⟨zStp_bad (N := fNx M) (hR.symm.trans ((fRp_3 _ _).trans (if_neg (fun q => by rw [a3] at q; have := Int32.le_iff_toInt_le.mp q; rw [nI_toInt (by omega), nI_toInt (by omega)] at this; omega)))) n2 h35, rfl, rfl⟩)
  · have hR2 : R = (false, fFail (fNx M) (nI 1)) := by
      rw [← hR]
      unfold fRp
      rw [if_neg c6, if_neg c7, if_neg c8, if_neg c9, if_neg c10]
    refine zA_aload_0 dX11_valueRead_0 ?_
    refine zA_bipush (nI 40) dX11_valueRead_1 bc_40 ?_
    refine zA_cVi (ct_rIsSign g gi gl r (nI 40)) calX11_isSign stX11_isSign lX11_292 dX11_valueRead_3 (by decide) (by simp [Value.category]) rfl (Nat.le_refl _) (Nat.le_refl _) sh_87 rfl (fun zz gi' gl' gr' ⟨hz, e1, e2, e3⟩ => ?_)
    rw [hz, rb_f (fun q => c1 ⟨h33.symm.trans q.1, h34.symm.trans q.2⟩), e1, e2, e3]
    clear hz e1 e2 e3
    refine zA_if_eq 70 dX11_valueRead_6 (by decide) (fun _ => ?_) (fun hh => absurd (by decide) hh)
    refine zA_aload_0 dX11_valueRead_70 ?_
    refine zA_bipush (nI 8) dX11_valueRead_71 bc_8 ?_
    refine zA_cVi (ct_rIsSign g gi gl r (nI 8)) calX11_isSign stX11_isSign lX11_292 dX11_valueRead_73 (by decide) (by simp [Value.category]) rfl (Nat.le_refl _) (Nat.le_refl _) sh_87 rfl (fun zz gi' gl' gr' ⟨hz, e1, e2, e3⟩ => ?_)
    rw [hz, rb_f (fun q => c2 ⟨h33.symm.trans q.1, h34.symm.trans q.2⟩), e1, e2, e3]
    clear hz e1 e2 e3
    refine zA_if_eq 86 dX11_valueRead_76 (by decide) (fun _ => ?_) (fun hh => absurd (by decide) hh)
    refine zA_aload_0 dX11_valueRead_86 ?_
    refine zA_getI (v := (gi 87 33)) sh_87 fX11_231 dX11_valueRead_87 rfl rfl ?_
    refine zA_iconst (nI 1) dX11_valueRead_90 ic_1 ?_
    refine zA_icmp_ne 117 dX11_valueRead_91 (by decide) (fun h1 => ?_) (fun h1 => ?_)
    · refine zA_aload_0 dX11_valueRead_117 ?_
      refine zA_cVi (ct_rNameNow g gi gl r) calX11_nameNow stX11_nameNow lX11_304 dX11_valueRead_118 (by decide) (by simp [Value.category]) rfl (Nat.le_refl _) (Nat.le_refl _) sh_87 rfl (fun zz gi' gl' gr' ⟨hz, e1, e2, e3⟩ => ?_)
      rw [hz, rNn_at h33 h34, c5, e1, e2, e3]
      clear hz e1 e2 e3
      refine zA_istore_2 dX11_valueRead_121 rfl ?_
      refine zA_iload_2 dX11_valueRead_122 ?_
      refine zA_if_ge 140 dX11_valueRead_123 (by decide) (fun hh => absurd hh (by decide)) (fun _ => ?_)
      refine zA_aload_0 dX11_valueRead_126 ?_
      refine zA_getI (v := (gi 87 33)) sh_87 fX11_231 dX11_valueRead_127 rfl rfl ?_
      refine zA_iconst (nI 2) dX11_valueRead_130 ic_2 ?_
      refine zA_icmp_eq 140 dX11_valueRead_131 (by decide) (fun h9 => ?_) (fun h9 => ?_)
      · exact absurd (h33.symm.trans h9) c4
      · refine zA_aload_0 dX11_valueRead_134 ?_
        refine zA_iconst (nI 1) dX11_valueRead_135 ic_1 ?_
        refine zA_cVi (ct_rWrong g gi gl r (nI 1)) calX11_wrong stX11_wrong lX11_255 dX11_valueRead_136 (by decide) (by simp [Value.category]) rfl (Nat.le_refl _) (Nat.le_refl _) sh_87 rfl (fun zz gi' gl' gr' ⟨hz, e1, e2, e3⟩ => ?_)
        rw [hz, e1, e2, e3]
        clear hz e1 e2 e3
        exact zB_zret rfl dX11_valueRead_139 (by decide) (⟨zStp_bad (N := fNx M) hR2 n2 h35, rfl, rfl⟩)
    · refine zA_aload_0 dX11_valueRead_94 ?_
      refine zA_getI (v := (gi 87 34)) sh_87 fX11_241 dX11_valueRead_95 rfl rfl ?_
      refine zA_bipush (nI 9) dX11_valueRead_98 bc_9 ?_
      refine zA_icmp_ne 117 dX11_valueRead_100 (by decide) (fun h2 => ?_) (fun h2 => ?_)
      · refine zA_aload_0 dX11_valueRead_117 ?_
        refine zA_cVi (ct_rNameNow g gi gl r) calX11_nameNow stX11_nameNow lX11_304 dX11_valueRead_118 (by decide) (by simp [Value.category]) rfl (Nat.le_refl _) (Nat.le_refl _) sh_87 rfl (fun zz gi' gl' gr' ⟨hz, e1, e2, e3⟩ => ?_)
        rw [hz, rNn_at h33 h34, c5, e1, e2, e3]
        clear hz e1 e2 e3
        refine zA_istore_2 dX11_valueRead_121 rfl ?_
        refine zA_iload_2 dX11_valueRead_122 ?_
        refine zA_if_ge 140 dX11_valueRead_123 (by decide) (fun hh => absurd hh (by decide)) (fun _ => ?_)
        refine zA_aload_0 dX11_valueRead_126 ?_
        refine zA_getI (v := (gi 87 33)) sh_87 fX11_231 dX11_valueRead_127 rfl rfl ?_
        refine zA_iconst (nI 2) dX11_valueRead_130 ic_2 ?_
        refine zA_icmp_eq 140 dX11_valueRead_131 (by decide) (fun h9 => ?_) (fun h9 => ?_)
        · exact absurd (h33.symm.trans h9) c4
        · refine zA_aload_0 dX11_valueRead_134 ?_
          refine zA_iconst (nI 1) dX11_valueRead_135 ic_1 ?_
          refine zA_cVi (ct_rWrong g gi gl r (nI 1)) calX11_wrong stX11_wrong lX11_255 dX11_valueRead_136 (by decide) (by simp [Value.category]) rfl (Nat.le_refl _) (Nat.le_refl _) sh_87 rfl (fun zz gi' gl' gr' ⟨hz, e1, e2, e3⟩ => ?_)
          rw [hz, e1, e2, e3]
          clear hz e1 e2 e3
          exact zB_zret rfl dX11_valueRead_139 (by decide) (⟨zStp_bad (N := fNx M) hR2 n2 h35, rfl, rfl⟩)
      · exact absurd ⟨h33.symm.trans h1, h34.symm.trans h2⟩ c3
