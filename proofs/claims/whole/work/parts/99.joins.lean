theorem zHcJ {k b : Nat} {W Wp W' : List (Nat × Nat)} (hk : zTwo k) (h17 : 17 ≤ k) (hW : ∀ p ∈ W, zKk p.1) (a1 : W = Wp ++ W') (a2 : ∀ p ∈ Wp, ¬ fStay (nI p.1) (fRank (nI k))) : zHc ((k, b) :: W') = zHc W := by
  rw [zHc_hi h17, a1]
  exact (zHc_ap Wp W' (fun p hp => zfC k (zTL_of hk) p.1 (zKL_of (hW p (by rw [a1]; exact List.mem_append_left _ hp))) h17 (a2 p hp))).symm
theorem zJoinS {M X X2 X3 : zm_I} {n i l s0 wr wr' kn k : Nat} {W Wp W' : List (Nat × Nat)} {S S' : List Nat} {dn dn' : Nat → Nat} {pl nx pl2 nx2 : Nat} {kd wh w0 kd2 wh2 v56 v58 : Int32} (hP : zPS M X l s0 wr kn kn W S dn) (hk : zTwo k) (hc : zCo X W) (hT : zTS n i M X pl nx kd wh) (hkd : ¬ kd = nI 0) (hkn : kn < 64) (hno : ¬ (11 ≤ k ∧ k ≤ 16 ∧ zHc W = true)) (a1 : W = Wp ++ W')
    (hB : zPS (fWw (zs (fNx M) 43 8 (nI (kn + 1))) (fRank (nI k))) X2 l s0 wr' (kn + 1) kn W' S' dn') (hS : S'.length = zTws W' + 1) (hF : zBdF (rGrM X kn (nI (rKd k)) (nI 0)) X2) (hw : wr ≤ wr') (hO : zOld wr dn (zs (fNx M) 43 8 (nI (kn + 1))) (rGrM X kn (nI (rKd k)) (nI 0)) dn' (fWw (zs (fNx M) 43 8 (nI (kn + 1))) (fRank (nI k))) X2)
    (h3 : X3 = zs (zs (zs (rWfM X2 W'.length (nI (rKd k)) (nI (64 + kn))) 87 56 v56) 87 58 v58) 87 57 (nI 1)) (h56 : v56 = zb (zHc ((k, kn) :: W') = true)) (h58 : v58 = zb (zMn ((k, kn) :: W') = true)) (ht : rTkP (X3 88) n nx w0 pl2 nx2 kd2 wh2) :
    zStp n i l s0 wr dn M X (fRj (fNx M) (nI k)) true (nI 1) (rTk X3 (nI pl2) (nI nx2) kd2 wh2) := by
  have hN := zPS_nx hP
  have hkl := zTL_of hk
  have hk7 : k ≠ 7 := (zf2 k hkl).2.2.2.2.2
  have hWt := zPS_wait rfl (Or.inr (Or.inr (Or.inr hk))) hk7 (by
    rw [hF.1 110 (by decide) (by decide) (by decide) (by decide) (by decide)]
    exact (zPS_grow (nI (rKd k)) (nI 0) hkn hN).2.1) hB
  have hlen : W'.length < 72 := by
    have h1 := hB.2.2.2.2.2.2.2.1
    have h2 := hB.2.2.2.2.2.2.2.2.2.2
    omega
  have hR : fRj (fNx M) (nI k) = (true, zs (zs (fWw (zs (fNx M) 43 8 (nI (kn + 1))) (fRank (nI k))) 49 W'.length (nI k)) 42 3 (nI (W'.length + 1))) := by
    rw [(zRjE hN hk).2 hno, zCk_ok (kn := kn) (by rw [fWw_q _ _ (by decide) (by decide) (by decide)]; exact hN.2.2.1.1) hkn, ← fWw_43]
    exact fPw_at hB.1.1 hlen _
  have hx : ∀ a, a ≠ 87 → rTk X3 (nI pl2) (nI nx2) kd2 wh2 a = rWfM X2 W'.length (nI (rKd k)) (nI (64 + kn)) a := fun a ha => by rw [rTk_nq _ _ _ _ _ ha, h3, zs_nq ha, zs_nq ha, zs_nq ha]
  have hj : ∀ j, 35 < j → j < 56 → rTk X3 (nI pl2) (nI nx2) kd2 wh2 87 j = rWfM X2 W'.length (nI (rKd k)) (nI (64 + kn)) 87 j := fun j hj h => by rw [rTk_j _ _ _ _ _ (by omega) (by omega) (by omega) (by omega), h3, zs_nj (by omega), zs_nj (by omega), zs_nj (by omega)]
  have hq : ∀ a, a ≠ 87 → a ≠ 117 → a ≠ 118 → rTk X3 (nI pl2) (nI nx2) kd2 wh2 a = X2 a := fun a h1 h2 h4 => by rw [hx a h1, rWf_q _ _ _ _ h1 h2 h4]
  have hq2 : ∀ a, a ≠ 87 → a ≠ 117 → a ≠ 118 → (a < 110 ∨ 119 < a) → rTk X3 (nI pl2) (nI nx2) kd2 wh2 a = X a := fun a h1 h2 h4 h5 => by rw [hq a h1 h2 h4, hF.1 a h1 (by omega) (by omega) (by omega) (by omega), rGr_q X _ _ _ (by omega)]
  have hFr : zFrX X X3 := by
    rw [h3]
    exact zFrX_tr (zFrX_tr (zFrX_tr (zFrX_tr (zFrX_tr (zFrX_gr _ _ _ _) (zFrX_bd hF)) (zFrX_wf _ _ _ _)) (zFrX_87 _ 56 _ (by omega))) (zFrX_87 _ 58 _ (by omega))) (zFrX_87 _ 57 _ (by omega))
  refine ⟨zFrX_tr hFr (zFrX_tk X3 _ _ _ _), Or.inr ⟨by rw [hR], rfl, nx, wr', kn + 1, (k, kn) :: W', S', dn', (zTS_nx hT).2.2.2.2.2.2 hkd, hw, ⟨by rw [hR]; exact zPS_cgX (hj 51 (by decide) (by decide)) (hj 48 (by decide) (by decide)) (hj 47 (by decide) (by decide)) (hj 53 (by decide) (by decide)) (hj 55 (by decide) (by decide)) (fun a h1 h2 => hx a (by omega)) hWt, ?_, ⟨?_, ?_, ?_⟩, ?_, fun _ => ?_, pl2, nx2, kd2, wh2, ?_⟩, ?_⟩⟩
  · rw [zTws_two k kn W' hk]; exact hS
  · rw [rTk_j _ _ _ _ _ (by omega) (by omega) (by omega) (by omega), h3, zs_nj (by decide), zs_nj (by decide), zs_eq]; exact h56
  · exact fun q => absurd q hk7
  · exact zCo_cg W' (fun j _ => by rw [hq2 120 (by decide) (by decide) (by decide) (by omega)]) (zCo_ap Wp W' (by rw [← a1]; exact hc))
  · rw [rTk_j _ _ _ _ _ (by omega) (by omega) (by omega) (by omega), h3, zs_eq]; rfl
  · rw [rTk_j _ _ _ _ _ (by omega) (by omega) (by omega) (by omega), h3, zs_nj (by decide), zs_eq]; exact h58
  · rw [hR]
    refine zTS_take (X2 := X3) hT ?_ ?_ ?_ ?_ (hFr.2.2 31 (by omega)) ht
    · show zs (zs (fWw (zs (fNx M) 43 8 (nI (kn + 1))) (fRank (nI k))) 49 W'.length (nI k)) 42 3 (nI (W'.length + 1)) 50 = _
      rw [zs_nq (by decide), zs_nq (by decide), fWw_50, zs_nq (by decide)]
    · show zs (zs (fWw (zs (fNx M) 43 8 (nI (kn + 1))) (fRank (nI k))) 49 W'.length (nI k)) 42 3 (nI (W'.length + 1)) 1 = _
      rw [zs_nq (by decide), zs_nq (by decide), fWw_q _ _ (by decide) (by decide) (by decide), zs_nq (by decide), fNx_q M (by decide)]
    · exact hFr.1 88 (by decide) (by omega)
    · exact hFr.1 106 (by decide) (by omega)
  · rw [hR]
    refine zOld_tr (Nat.le_refl _) (zOld_tr (Nat.le_refl _) (dn1 := dn) (M1 := zs (fNx M) 43 8 (nI (kn + 1))) (X1 := rGrM X kn (nI (rKd k)) (nI 0)) ⟨fun j hj2 => ?_, fun c _ => ?_, zKf_of (fun j hj => rGr_j _ _ _ _ (by omega)) (fun j hj => by rw [zs_nq (by decide), fNx_q M (by decide)])⟩ hO) ⟨fun j _ => ?_, fun c _ => ?_, zKf_of (fun j hj => by rw [rTk_j _ _ _ _ _ (by omega) (by omega) (by omega) (by omega), h3, zs_nj (by omega), zs_nj (by omega), zs_nj (by omega), rWf_j _ _ _ _ (by omega)]) (fun j hj => by show zs (zs (fWw (zs (fNx M) 43 8 (nI (kn + 1))) (fRank (nI k))) 49 W'.length (nI k)) 42 3 (nI (W'.length + 1)) 42 j = _; rw [zs_nj (by omega), zs_nq (by decide)])⟩
    · have := (hP.2.2.2.2.2.1 j hj2).2
      exact ⟨rfl, rGr_o X _ _ (by decide) (by omega), rGr_o X _ _ (by decide) (by omega), rGr_o X _ _ (by decide) (by omega), rGr_o X _ _ (by decide) (by omega)⟩
    · rw [zs_nq (by decide), zs_nq (by decide), fNx_q M (by decide), fNx_q M (by decide)]
      exact ⟨rfl, rfl⟩
    · rw [hq 110 (by decide) (by decide) (by decide), hq 111 (by decide) (by decide) (by decide), hq 112 (by decide) (by decide) (by decide), hq 113 (by decide) (by decide) (by decide)]
      exact ⟨rfl, rfl, rfl, rfl, rfl⟩
    · show zs (zs (fWw (zs (fNx M) 43 8 (nI (kn + 1))) (fRank (nI k))) 49 W'.length (nI k)) 42 3 (nI (W'.length + 1)) 44 c = _ ∧ zs (zs (fWw (zs (fNx M) 43 8 (nI (kn + 1))) (fRank (nI k))) 49 W'.length (nI k)) 42 3 (nI (W'.length + 1)) 45 c = _
      rw [zs_nq (by decide), zs_nq (by decide), zs_nq (by decide), zs_nq (by decide)]
      exact ⟨rfl, rfl⟩
theorem ct_rJoins (g : zm_G) (gi : zm_I) (gl : zm_J) (r : Nat) (M : zm_I) {n i l s0 wr kn k : Nat} {W : List (Nat × Nat)} {S : List Nat} {dn : Nat → Nat} {pl nx : Nat} {kd wh : Int32} (hP : zPS M gi l s0 wr kn kn W S dn) (hS : S.length = zTws W + 1) (hc : gi 87 56 = zb (zHc W = true) ∧ zCo gi W) (hT : zTS n i M gi pl nx kd wh) (hkd : ¬ kd = nI 0) (hk : zTwo k)  : zC_i g yX11_joins mX11_joins 3 [.ref 87, .int (nI (rKd k))] zSH gi gl (zRT r) (fun z gi' gl' gr' => zStp n i l s0 wr dn M gi (fRj (fNx M) (nI k)) true z gi' ∧ gl' = gl ∧ gr' = zRT r) := by
  refine zC_i_of [some (.ref 87), some (.int (nI (rKd k))), none, none] (by decide) rfl rfl (Nat.le_of_ble_eq_true rfl) (fun x => ?_)
  obtain ⟨n2, n3, n4, n5, n6, n7, n8⟩ := zTS_nx hT
  have hN := zPS_nx hP
  have hkn := hP.2.2.1.2.2.1
  have hl2 := zPS_len hP
  have h35 : gi 87 35 = nI pl := hT.2.2.1
  have k31 : gi 87 31 = nI n := hT.1.2.2.2.2.1
  have k32 : gi 87 32 = nI nx := hT.2.2.2.1
  have k106 : zWs gi := hT.1.2.2.2.2.2.2
  have hn5 := hT.1.2.1
  obtain ⟨f2, f17, f7, f12, f13, fk7⟩ := zf2 k (zTL_of hk)
  refine zA_iload_1 dX11_joins_0 ?_
  refine zA_bipush (nI 7) dX11_joins_1 bc_7 ?_
  refine zA_icmp_geN 10 dX11_joins_3 (by decide) (by omega) (by omega) (fun h1 => ?_) (fun h1 => ?_)
  · have h7 : ¬ (11 ≤ k ∧ k ≤ 16) := fun q => absurd (f7.mpr q) (by omega)
    have hno : ¬ (11 ≤ k ∧ k ≤ 16 ∧ zHc W = true) := fun q => h7 ⟨q.1, q.2.1⟩
    refine zA_iconst (nI 0) dX11_joins_10 ic_0 ?_
    refine zA_istore_2 dX11_joins_11 rfl ?_
    refine zA_iload_2 dX11_joins_12 ?_
    refine zA_if_eq 29 dX11_joins_13 (by decide) (fun _ => ?_) (fun hh => absurd (by decide) hh)
    refine zA_aload_0 dX11_joins_29 ?_
    refine zA_iload_1 dX11_joins_30 ?_
    refine zA_iconst (nI 0) dX11_joins_31 ic_0 ?_
    rcases Nat.lt_or_ge kn 64 with hq | hq
    · refine zA_cVi (ct_rGrown g gi gl r hP.2.2.1.2.1 hkn (nI (rKd k)) (nI 0)) calX11_grown stX11_grown lX11_278 dX11_joins_32 (by decide) (by simp [Value.category]) rfl (Nat.le_refl _) (Nat.le_refl _) sh_87 rfl (fun zz gi' gl' gr' hp => ?_)
      obtain ⟨_, hz, e1, e2, e3⟩ := hp.resolve_left (fun q => absurd q.1 (by omega))
      rw [hz, e1, e2, e3]
      clear hz e1 e2 e3
      refine zA_istore_3 dX11_joins_35 rfl ?_
      refine zA_iload_3 dX11_joins_36 ?_
      refine zA_if_ge 42 dX11_joins_37 (by decide) (fun h8 => ?_) (fun h8 => ?_)
      · refine zA_aload_0 dX11_joins_42 ?_
        refine zA_iload_1 dX11_joins_43 ?_
        refine zA_cSi (ct_rWeight g _ _ _ (nI (rKd k))) calX11_weight stX11_weight lX11_267 dX11_joins_44 (by decide) (by simp [Value.category]) rfl (Nat.le_refl _) (Nat.le_refl _) (fun zz gi' gl' gr' ⟨hz, e1, e2, e3⟩ => ?_)
        rw [hz, e1, e2, e3]
        clear hz e1 e2 e3
        refine zA_cVv (ct_rBind g (rGrM gi kn (nI (rKd k)) (nI 0)) gl r (zs (fNx M) 43 8 (nI (kn + 1))) (zPS_grow (nI (rKd k)) (nI 0) hq hN).1 hS (fRank (nI k)) (rWt (nI (rKd k))) (zSt_of hk W hP.1.2.2.2.2 hno)) calX11_bind stX11_bind lX11_310 dX11_joins_47 (by decide) (by simp [Value.category]) rfl (Nat.le_refl _) (Nat.le_refl _) sh_87 rfl (fun X2 gl' gr' ⟨Wp, W', S', wr', dn', a1, a2, a3, hB, hS2, hF, hw, hO, e2, e3⟩ => ?_)
        rw [e2, e3]
        clear e2 e3
        have hl3 := zPS_len hB
        refine zA_aload_0 dX11_joins_50 ?_
        refine zA_iload_1 dX11_joins_51 ?_
        refine zA_iload_3 dX11_joins_52 ?_
        refine zA_cVv (ct_rWaitFor g X2 gl r (s := W'.length) hB.1.2.1 (by omega) (nI (rKd k)) (nI (64 + kn))) calX11_waitFor stX11_waitFor lX11_281 dX11_joins_53 (by decide) (by simp [Value.category]) rfl (Nat.le_refl _) (Nat.le_refl _) sh_87 rfl (fun gi' gl' gr' ⟨e1, e2, e3⟩ => ?_)
        rw [e1, e2, e3]
        clear e1 e2 e3
        have h56 : (rWfM X2 W'.length (nI (rKd k)) (nI (64 + kn))) 87 56 = zb (zHc W = true) := by rw [rWf_j _ _ _ _ (by decide), hF.2.1 56 (by decide) (by decide) (by decide), rGr_j _ _ _ _ (by decide)]; exact hc.1
        have b31 : (rWfM X2 W'.length (nI (rKd k)) (nI (64 + kn))) 87 31 = gi 87 31 := by rw [rWf_j _ _ _ _ (by decide), hF.2.1 31 (by decide) (by decide) (by decide), rGr_j _ _ _ _ (by decide)]
        have b32 : (rWfM X2 W'.length (nI (rKd k)) (nI (64 + kn))) 87 32 = gi 87 32 := by rw [rWf_j _ _ _ _ (by decide), hF.2.1 32 (by decide) (by decide) (by decide), rGr_j _ _ _ _ (by decide)]
        have b106 : (rWfM X2 W'.length (nI (rKd k)) (nI (64 + kn))) 106 = gi 106 := by rw [rWf_q _ _ _ _ (by decide) (by decide) (by decide), hF.1 106 (by decide) (by decide) (by decide) (by decide) (by decide), rGr_q gi _ _ _ (by omega)]
        refine zA_aload_0 dX11_joins_56 ?_
        refine zA_iload_2 dX11_joins_57 ?_
        refine zA_if_ne 74 dX11_joins_58 (by decide) (fun hh => absurd hh (by decide)) (fun _ => ?_)
        refine zA_iload_1 dX11_joins_61 ?_
        refine zA_bipush (nI 12) dX11_joins_62 bc_12 ?_
        refine zA_icmp_geN 78 dX11_joins_64 (by decide) (by omega) (by omega) (fun h12 => ?_) (fun h12 => ?_)
        · refine zA_iconst (nI 0) dX11_joins_78 ic_0 ?_
          refine zS_putZ sh_87 fX11_298 dX11_joins_79 rfl rfl (by decide) ?_
          refine zA_aload_0 dX11_joins_82 ?_
          refine zA_iload_1 dX11_joins_83 ?_
          refine zA_bipush (nI 13) dX11_joins_84 bc_13 ?_
          refine zA_icmp_leN 93 dX11_joins_86 (by decide) (by omega) (by omega) (fun h13 => ?_) (fun h13 => ?_)
          · refine zA_iconst (nI 0) dX11_joins_93 ic_0 ?_
            refine zS_putZ sh_87 fX11_285 dX11_joins_94 rfl rfl (by decide) ?_
            refine zA_aload_0 dX11_joins_97 ?_
            refine zA_iconst (nI 1) dX11_joins_98 ic_1 ?_
            refine zS_putZ sh_87 fX11_307 dX11_joins_99 rfl rfl (by decide) ?_
            refine zA_aload_0 dX11_joins_102 ?_
            refine zA_cVv (ct_rTake g ((zs (zs (zs (rWfM X2 W'.length (nI (rKd k)) (nI (64 + kn))) 87 56 ((nI 0))) 87 58 ((nI 0))) 87 57 ((nI 1)))) gl r (fun j hj => (congrFun b106 j).trans (k106 j hj)) (b31.trans k31) hn5 (b32.trans k32) n5) calX11_take stX11_take lX11_289 dX11_joins_103 (by decide) (by simp [Value.category]) rfl (Nat.le_refl _) (Nat.le_refl _) sh_87 rfl (fun gi' gl' gr' ⟨pl2, nx2, kd2, wh2, ht, e1, e2, e3⟩ => ?_)
            rw [e1, e2, e3]
            clear e1 e2 e3
            refine zA_iconst (nI 1) dX11_joins_106 ic_1 ?_
            exact zB_zret rfl dX11_joins_107 (by decide) (⟨zJoinS hP hk hc.2 hT hkd hq hno a1 hB hS2 hF hw hO rfl ((rb_f (by rw [zHc_lo (by have : ¬ 11 ≤ k := fun q => absurd (f12.mpr q) (by omega); omega)]; exact Bool.false_ne_true)).symm) ((rb_f (fun q => by have := of_decide_eq_true q; exact absurd (f13.mpr this) (by omega))).symm) ht, rfl, rfl⟩)
          · refine zA_iconst (nI 1) dX11_joins_89 ic_1 ?_
            refine zA_goto 94 dX11_joins_90 (by decide) ?_
            refine zS_putZ sh_87 fX11_285 dX11_joins_94 rfl rfl (by decide) ?_
            refine zA_aload_0 dX11_joins_97 ?_
            refine zA_iconst (nI 1) dX11_joins_98 ic_1 ?_
            refine zS_putZ sh_87 fX11_307 dX11_joins_99 rfl rfl (by decide) ?_
            refine zA_aload_0 dX11_joins_102 ?_
            refine zA_cVv (ct_rTake g ((zs (zs (zs (rWfM X2 W'.length (nI (rKd k)) (nI (64 + kn))) 87 56 ((nI 0))) 87 58 ((nI 1))) 87 57 ((nI 1)))) gl r (fun j hj => (congrFun b106 j).trans (k106 j hj)) (b31.trans k31) hn5 (b32.trans k32) n5) calX11_take stX11_take lX11_289 dX11_joins_103 (by decide) (by simp [Value.category]) rfl (Nat.le_refl _) (Nat.le_refl _) sh_87 rfl (fun gi' gl' gr' ⟨pl2, nx2, kd2, wh2, ht, e1, e2, e3⟩ => ?_)
            rw [e1, e2, e3]
            clear e1 e2 e3
            refine zA_iconst (nI 1) dX11_joins_106 ic_1 ?_
            exact zB_zret rfl dX11_joins_107 (by decide) (⟨zJoinS hP hk hc.2 hT hkd hq hno a1 hB hS2 hF hw hO rfl ((rb_f (by rw [zHc_lo (by have : ¬ 11 ≤ k := fun q => absurd (f12.mpr q) (by omega); omega)]; exact Bool.false_ne_true)).symm) ((rb_t (decide_eq_true (f13.mp (by omega)))).symm) ht, rfl, rfl⟩)
        · have h17 : 17 ≤ k := by have := f12.mp (by omega); omega
          have ej := zHcJ (b := kn) hk h17 hP.1.2.2.2.2 a1 a2
          refine zA_aload_0 dX11_joins_67 ?_
          refine zA_getI (v := (zb (zHc W = true))) sh_87 fX11_298 dX11_joins_68 rfl h56 ?_
          refine zA_if_eqB 78 dX11_joins_71 (by decide) (fun h14 => ?_) (fun h14 => ?_)
          · refine zA_iconst (nI 0) dX11_joins_78 ic_0 ?_
            refine zS_putZ sh_87 fX11_298 dX11_joins_79 rfl rfl (by decide) ?_
            refine zA_aload_0 dX11_joins_82 ?_
            refine zA_iload_1 dX11_joins_83 ?_
            refine zA_bipush (nI 13) dX11_joins_84 bc_13 ?_
            refine zA_icmp_leN 93 dX11_joins_86 (by decide) (by omega) (by omega) (fun h13 => ?_) (fun h13 => ?_)
            · refine zA_iconst (nI 0) dX11_joins_93 ic_0 ?_
              refine zS_putZ sh_87 fX11_285 dX11_joins_94 rfl rfl (by decide) ?_
              refine zA_aload_0 dX11_joins_97 ?_
              refine zA_iconst (nI 1) dX11_joins_98 ic_1 ?_
              refine zS_putZ sh_87 fX11_307 dX11_joins_99 rfl rfl (by decide) ?_
              refine zA_aload_0 dX11_joins_102 ?_
              refine zA_cVv (ct_rTake g ((zs (zs (zs (rWfM X2 W'.length (nI (rKd k)) (nI (64 + kn))) 87 56 ((nI 0))) 87 58 ((nI 0))) 87 57 ((nI 1)))) gl r (fun j hj => (congrFun b106 j).trans (k106 j hj)) (b31.trans k31) hn5 (b32.trans k32) n5) calX11_take stX11_take lX11_289 dX11_joins_103 (by decide) (by simp [Value.category]) rfl (Nat.le_refl _) (Nat.le_refl _) sh_87 rfl (fun gi' gl' gr' ⟨pl2, nx2, kd2, wh2, ht, e1, e2, e3⟩ => ?_)
              rw [e1, e2, e3]
              clear e1 e2 e3
              refine zA_iconst (nI 1) dX11_joins_106 ic_1 ?_
              exact zB_zret rfl dX11_joins_107 (by decide) (⟨zJoinS hP hk hc.2 hT hkd hq hno a1 hB hS2 hF hw hO rfl ((rb_f (by rw [ej]; exact h14)).symm) ((rb_f (fun q => by have := of_decide_eq_true q; exact absurd (f13.mpr this) (by omega))).symm) ht, rfl, rfl⟩)
            · refine zA_iconst (nI 1) dX11_joins_89 ic_1 ?_
              refine zA_goto 94 dX11_joins_90 (by decide) ?_
              refine zS_putZ sh_87 fX11_285 dX11_joins_94 rfl rfl (by decide) ?_
              refine zA_aload_0 dX11_joins_97 ?_
              refine zA_iconst (nI 1) dX11_joins_98 ic_1 ?_
              refine zS_putZ sh_87 fX11_307 dX11_joins_99 rfl rfl (by decide) ?_
              refine zA_aload_0 dX11_joins_102 ?_
              refine zA_cVv (ct_rTake g ((zs (zs (zs (rWfM X2 W'.length (nI (rKd k)) (nI (64 + kn))) 87 56 ((nI 0))) 87 58 ((nI 1))) 87 57 ((nI 1)))) gl r (fun j hj => (congrFun b106 j).trans (k106 j hj)) (b31.trans k31) hn5 (b32.trans k32) n5) calX11_take stX11_take lX11_289 dX11_joins_103 (by decide) (by simp [Value.category]) rfl (Nat.le_refl _) (Nat.le_refl _) sh_87 rfl (fun gi' gl' gr' ⟨pl2, nx2, kd2, wh2, ht, e1, e2, e3⟩ => ?_)
              rw [e1, e2, e3]
              clear e1 e2 e3
              refine zA_iconst (nI 1) dX11_joins_106 ic_1 ?_
              exact zB_zret rfl dX11_joins_107 (by decide) (⟨zJoinS hP hk hc.2 hT hkd hq hno a1 hB hS2 hF hw hO rfl ((rb_f (by rw [ej]; exact h14)).symm) ((rb_t (decide_eq_true (f13.mp (by omega)))).symm) ht, rfl, rfl⟩)
          · refine zA_iconst (nI 1) dX11_joins_74 ic_1 ?_
            refine zA_goto 79 dX11_joins_75 (by decide) ?_
            refine zS_putZ sh_87 fX11_298 dX11_joins_79 rfl rfl (by decide) ?_
            refine zA_aload_0 dX11_joins_82 ?_
            refine zA_iload_1 dX11_joins_83 ?_
            refine zA_bipush (nI 13) dX11_joins_84 bc_13 ?_
            refine zA_icmp_leN 93 dX11_joins_86 (by decide) (by omega) (by omega) (fun h13 => ?_) (fun h13 => ?_)
            · refine zA_iconst (nI 0) dX11_joins_93 ic_0 ?_
              refine zS_putZ sh_87 fX11_285 dX11_joins_94 rfl rfl (by decide) ?_
              refine zA_aload_0 dX11_joins_97 ?_
              refine zA_iconst (nI 1) dX11_joins_98 ic_1 ?_
              refine zS_putZ sh_87 fX11_307 dX11_joins_99 rfl rfl (by decide) ?_
              refine zA_aload_0 dX11_joins_102 ?_
              refine zA_cVv (ct_rTake g ((zs (zs (zs (rWfM X2 W'.length (nI (rKd k)) (nI (64 + kn))) 87 56 ((nI 1))) 87 58 ((nI 0))) 87 57 ((nI 1)))) gl r (fun j hj => (congrFun b106 j).trans (k106 j hj)) (b31.trans k31) hn5 (b32.trans k32) n5) calX11_take stX11_take lX11_289 dX11_joins_103 (by decide) (by simp [Value.category]) rfl (Nat.le_refl _) (Nat.le_refl _) sh_87 rfl (fun gi' gl' gr' ⟨pl2, nx2, kd2, wh2, ht, e1, e2, e3⟩ => ?_)
              rw [e1, e2, e3]
              clear e1 e2 e3
              refine zA_iconst (nI 1) dX11_joins_106 ic_1 ?_
              exact zB_zret rfl dX11_joins_107 (by decide) (⟨zJoinS hP hk hc.2 hT hkd hq hno a1 hB hS2 hF hw hO rfl ((rb_t (by rw [ej]; exact h14)).symm) ((rb_f (fun q => by have := of_decide_eq_true q; exact absurd (f13.mpr this) (by omega))).symm) ht, rfl, rfl⟩)
            · refine zA_iconst (nI 1) dX11_joins_89 ic_1 ?_
              refine zA_goto 94 dX11_joins_90 (by decide) ?_
              refine zS_putZ sh_87 fX11_285 dX11_joins_94 rfl rfl (by decide) ?_
              refine zA_aload_0 dX11_joins_97 ?_
              refine zA_iconst (nI 1) dX11_joins_98 ic_1 ?_
              refine zS_putZ sh_87 fX11_307 dX11_joins_99 rfl rfl (by decide) ?_
              refine zA_aload_0 dX11_joins_102 ?_
              refine zA_cVv (ct_rTake g ((zs (zs (zs (rWfM X2 W'.length (nI (rKd k)) (nI (64 + kn))) 87 56 ((nI 1))) 87 58 ((nI 1))) 87 57 ((nI 1)))) gl r (fun j hj => (congrFun b106 j).trans (k106 j hj)) (b31.trans k31) hn5 (b32.trans k32) n5) calX11_take stX11_take lX11_289 dX11_joins_103 (by decide) (by simp [Value.category]) rfl (Nat.le_refl _) (Nat.le_refl _) sh_87 rfl (fun gi' gl' gr' ⟨pl2, nx2, kd2, wh2, ht, e1, e2, e3⟩ => ?_)
              rw [e1, e2, e3]
              clear e1 e2 e3
              refine zA_iconst (nI 1) dX11_joins_106 ic_1 ?_
              exact zB_zret rfl dX11_joins_107 (by decide) (⟨zJoinS hP hk hc.2 hT hkd hq hno a1 hB hS2 hF hw hO rfl ((rb_t (by rw [ej]; exact h14)).symm) ((rb_t (decide_eq_true (f13.mp (by omega)))).symm) ht, rfl, rfl⟩)
      · exact absurd (nI_ge0 (by omega)) h8
    · refine zA_cVi (ct_rGrown g gi gl r hP.2.2.1.2.1 hkn (nI (rKd k)) (nI 0)) calX11_grown stX11_grown lX11_278 dX11_joins_32 (by decide) (by simp [Value.category]) rfl (Nat.le_refl _) (Nat.le_refl _) sh_87 rfl (fun zz gi' gl' gr' hp => ?_)
      obtain ⟨_, hz, e1, e2, e3⟩ := hp.resolve_right (fun q => absurd q.1 (by omega))
      rw [hz, e1, e2, e3]
      clear hz e1 e2 e3
      refine zA_istore_3 dX11_joins_35 rfl ?_
      refine zA_iload_3 dX11_joins_36 ?_
      refine zA_if_ge 42 dX11_joins_37 (by decide) (fun hh => absurd hh (by decide)) (fun _ => ?_)
      refine zA_iconst (nI 0) dX11_joins_40 ic_0 ?_
      exact zB_zret rfl dX11_joins_41 (by decide) (⟨zStp_bad (N := fWw (fNx M) (fRank (nI k))) (((zRjE hN hk).2 hno).trans (zCk_no (by rw [fWw_q _ _ (by decide) (by decide) (by decide)]; exact hN.2.2.1.1) hkn hq)) (by rw [fWw_50]; exact n2) h35, rfl, rfl⟩)
  · have h7 := f7.mp (by omega)
    refine zA_iconst (nI 1) dX11_joins_6 ic_1 ?_
    refine zA_goto 11 dX11_joins_7 (by decide) ?_
    refine zA_istore_2 dX11_joins_11 rfl ?_
    refine zA_iload_2 dX11_joins_12 ?_
    refine zA_if_eq 29 dX11_joins_13 (by decide) (fun hh => absurd hh (by decide)) (fun _ => ?_)
    refine zA_aload_0 dX11_joins_16 ?_
    refine zA_getI (v := (zb (zHc W = true))) sh_87 fX11_298 dX11_joins_17 rfl hc.1 ?_
    refine zA_if_eqB 29 dX11_joins_20 (by decide) (fun h9 => ?_) (fun h9 => ?_)
    · have hno : ¬ (11 ≤ k ∧ k ≤ 16 ∧ zHc W = true) := fun q => h9 q.2.2
      refine zA_aload_0 dX11_joins_29 ?_
      refine zA_iload_1 dX11_joins_30 ?_
      refine zA_iconst (nI 0) dX11_joins_31 ic_0 ?_
      rcases Nat.lt_or_ge kn 64 with hq | hq
      · refine zA_cVi (ct_rGrown g gi gl r hP.2.2.1.2.1 hkn (nI (rKd k)) (nI 0)) calX11_grown stX11_grown lX11_278 dX11_joins_32 (by decide) (by simp [Value.category]) rfl (Nat.le_refl _) (Nat.le_refl _) sh_87 rfl (fun zz gi' gl' gr' hp => ?_)
        obtain ⟨_, hz, e1, e2, e3⟩ := hp.resolve_left (fun q => absurd q.1 (by omega))
        rw [hz, e1, e2, e3]
        clear hz e1 e2 e3
        refine zA_istore_3 dX11_joins_35 rfl ?_
        refine zA_iload_3 dX11_joins_36 ?_
        refine zA_if_ge 42 dX11_joins_37 (by decide) (fun h8 => ?_) (fun h8 => ?_)
        · refine zA_aload_0 dX11_joins_42 ?_
          refine zA_iload_1 dX11_joins_43 ?_
          refine zA_cSi (ct_rWeight g _ _ _ (nI (rKd k))) calX11_weight stX11_weight lX11_267 dX11_joins_44 (by decide) (by simp [Value.category]) rfl (Nat.le_refl _) (Nat.le_refl _) (fun zz gi' gl' gr' ⟨hz, e1, e2, e3⟩ => ?_)
          rw [hz, e1, e2, e3]
          clear hz e1 e2 e3
          refine zA_cVv (ct_rBind g (rGrM gi kn (nI (rKd k)) (nI 0)) gl r (zs (fNx M) 43 8 (nI (kn + 1))) (zPS_grow (nI (rKd k)) (nI 0) hq hN).1 hS (fRank (nI k)) (rWt (nI (rKd k))) (zSt_of hk W hP.1.2.2.2.2 hno)) calX11_bind stX11_bind lX11_310 dX11_joins_47 (by decide) (by simp [Value.category]) rfl (Nat.le_refl _) (Nat.le_refl _) sh_87 rfl (fun X2 gl' gr' ⟨Wp, W', S', wr', dn', a1, a2, a3, hB, hS2, hF, hw, hO, e2, e3⟩ => ?_)
          rw [e2, e3]
          clear e2 e3
          have hl3 := zPS_len hB
          refine zA_aload_0 dX11_joins_50 ?_
          refine zA_iload_1 dX11_joins_51 ?_
          refine zA_iload_3 dX11_joins_52 ?_
          refine zA_cVv (ct_rWaitFor g X2 gl r (s := W'.length) hB.1.2.1 (by omega) (nI (rKd k)) (nI (64 + kn))) calX11_waitFor stX11_waitFor lX11_281 dX11_joins_53 (by decide) (by simp [Value.category]) rfl (Nat.le_refl _) (Nat.le_refl _) sh_87 rfl (fun gi' gl' gr' ⟨e1, e2, e3⟩ => ?_)
          rw [e1, e2, e3]
          clear e1 e2 e3
          have h56 : (rWfM X2 W'.length (nI (rKd k)) (nI (64 + kn))) 87 56 = zb (zHc W = true) := by rw [rWf_j _ _ _ _ (by decide), hF.2.1 56 (by decide) (by decide) (by decide), rGr_j _ _ _ _ (by decide)]; exact hc.1
          have b31 : (rWfM X2 W'.length (nI (rKd k)) (nI (64 + kn))) 87 31 = gi 87 31 := by rw [rWf_j _ _ _ _ (by decide), hF.2.1 31 (by decide) (by decide) (by decide), rGr_j _ _ _ _ (by decide)]
          have b32 : (rWfM X2 W'.length (nI (rKd k)) (nI (64 + kn))) 87 32 = gi 87 32 := by rw [rWf_j _ _ _ _ (by decide), hF.2.1 32 (by decide) (by decide) (by decide), rGr_j _ _ _ _ (by decide)]
          have b106 : (rWfM X2 W'.length (nI (rKd k)) (nI (64 + kn))) 106 = gi 106 := by rw [rWf_q _ _ _ _ (by decide) (by decide) (by decide), hF.1 106 (by decide) (by decide) (by decide) (by decide) (by decide), rGr_q gi _ _ _ (by omega)]
          refine zA_aload_0 dX11_joins_56 ?_
          refine zA_iload_2 dX11_joins_57 ?_
          refine zA_if_ne 74 dX11_joins_58 (by decide) (fun _ => ?_) (fun hh => absurd hh (by decide))
          refine zA_iconst (nI 1) dX11_joins_74 ic_1 ?_
          refine zA_goto 79 dX11_joins_75 (by decide) ?_
          refine zS_putZ sh_87 fX11_298 dX11_joins_79 rfl rfl (by decide) ?_
          refine zA_aload_0 dX11_joins_82 ?_
          refine zA_iload_1 dX11_joins_83 ?_
          refine zA_bipush (nI 13) dX11_joins_84 bc_13 ?_
          refine zA_icmp_leN 93 dX11_joins_86 (by decide) (by omega) (by omega) (fun h13 => ?_) (fun h13 => ?_)
          · refine zA_iconst (nI 0) dX11_joins_93 ic_0 ?_
            refine zS_putZ sh_87 fX11_285 dX11_joins_94 rfl rfl (by decide) ?_
            refine zA_aload_0 dX11_joins_97 ?_
            refine zA_iconst (nI 1) dX11_joins_98 ic_1 ?_
            refine zS_putZ sh_87 fX11_307 dX11_joins_99 rfl rfl (by decide) ?_
            refine zA_aload_0 dX11_joins_102 ?_
            refine zA_cVv (ct_rTake g ((zs (zs (zs (rWfM X2 W'.length (nI (rKd k)) (nI (64 + kn))) 87 56 ((nI 1))) 87 58 ((nI 0))) 87 57 ((nI 1)))) gl r (fun j hj => (congrFun b106 j).trans (k106 j hj)) (b31.trans k31) hn5 (b32.trans k32) n5) calX11_take stX11_take lX11_289 dX11_joins_103 (by decide) (by simp [Value.category]) rfl (Nat.le_refl _) (Nat.le_refl _) sh_87 rfl (fun gi' gl' gr' ⟨pl2, nx2, kd2, wh2, ht, e1, e2, e3⟩ => ?_)
            rw [e1, e2, e3]
            clear e1 e2 e3
            refine zA_iconst (nI 1) dX11_joins_106 ic_1 ?_
            exact zB_zret rfl dX11_joins_107 (by decide) (⟨zJoinS hP hk hc.2 hT hkd hq hno a1 hB hS2 hF hw hO rfl ((rb_t (zHc_cm h7.1 (by omega))).symm) ((rb_f (fun q => by have := of_decide_eq_true q; exact absurd (f13.mpr this) (by omega))).symm) ht, rfl, rfl⟩)
          · refine zA_iconst (nI 1) dX11_joins_89 ic_1 ?_
            refine zA_goto 94 dX11_joins_90 (by decide) ?_
            refine zS_putZ sh_87 fX11_285 dX11_joins_94 rfl rfl (by decide) ?_
            refine zA_aload_0 dX11_joins_97 ?_
            refine zA_iconst (nI 1) dX11_joins_98 ic_1 ?_
            refine zS_putZ sh_87 fX11_307 dX11_joins_99 rfl rfl (by decide) ?_
            refine zA_aload_0 dX11_joins_102 ?_
            refine zA_cVv (ct_rTake g ((zs (zs (zs (rWfM X2 W'.length (nI (rKd k)) (nI (64 + kn))) 87 56 ((nI 1))) 87 58 ((nI 1))) 87 57 ((nI 1)))) gl r (fun j hj => (congrFun b106 j).trans (k106 j hj)) (b31.trans k31) hn5 (b32.trans k32) n5) calX11_take stX11_take lX11_289 dX11_joins_103 (by decide) (by simp [Value.category]) rfl (Nat.le_refl _) (Nat.le_refl _) sh_87 rfl (fun gi' gl' gr' ⟨pl2, nx2, kd2, wh2, ht, e1, e2, e3⟩ => ?_)
            rw [e1, e2, e3]
            clear e1 e2 e3
            refine zA_iconst (nI 1) dX11_joins_106 ic_1 ?_
            exact zB_zret rfl dX11_joins_107 (by decide) (⟨zJoinS hP hk hc.2 hT hkd hq hno a1 hB hS2 hF hw hO rfl ((rb_t (zHc_cm h7.1 (by omega))).symm) ((rb_t (decide_eq_true (f13.mp (by omega)))).symm) ht, rfl, rfl⟩)
        · exact absurd (nI_ge0 (by omega)) h8
      · refine zA_cVi (ct_rGrown g gi gl r hP.2.2.1.2.1 hkn (nI (rKd k)) (nI 0)) calX11_grown stX11_grown lX11_278 dX11_joins_32 (by decide) (by simp [Value.category]) rfl (Nat.le_refl _) (Nat.le_refl _) sh_87 rfl (fun zz gi' gl' gr' hp => ?_)
        obtain ⟨_, hz, e1, e2, e3⟩ := hp.resolve_right (fun q => absurd q.1 (by omega))
        rw [hz, e1, e2, e3]
        clear hz e1 e2 e3
        refine zA_istore_3 dX11_joins_35 rfl ?_
        refine zA_iload_3 dX11_joins_36 ?_
        refine zA_if_ge 42 dX11_joins_37 (by decide) (fun hh => absurd hh (by decide)) (fun _ => ?_)
        refine zA_iconst (nI 0) dX11_joins_40 ic_0 ?_
        exact zB_zret rfl dX11_joins_41 (by decide) (⟨zStp_bad (N := fWw (fNx M) (fRank (nI k))) (((zRjE hN hk).2 hno).trans (zCk_no (by rw [fWw_q _ _ (by decide) (by decide) (by decide)]; exact hN.2.2.1.1) hkn hq)) (by rw [fWw_50]; exact n2) h35, rfl, rfl⟩)
    · refine zA_aload_0 dX11_joins_23 ?_
      refine zA_iconst (nI 1) dX11_joins_24 ic_1 ?_
      refine zA_cVi (ct_rWrong g gi gl r (nI 1)) calX11_wrong stX11_wrong lX11_255 dX11_joins_25 (by decide) (by simp [Value.category]) rfl (Nat.le_refl _) (Nat.le_refl _) sh_87 rfl (fun zz gi' gl' gr' ⟨hz, e1, e2, e3⟩ => ?_)
      rw [hz, e1, e2, e3]
      clear hz e1 e2 e3
      exact zB_zret rfl dX11_joins_28 (by decide) (⟨zStp_bad (N := fWw (fNx M) (fRank (nI k))) ((zRjE hN hk).1 ⟨h7.1, h7.2, h9⟩) (by rw [fWw_50]; exact n2) h35, rfl, rfl⟩)
