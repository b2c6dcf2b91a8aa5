/-! ===== the readers: a part is read ===== -/
theorem nI_ge0 {j : Nat} (h : j < 1000) : 0 ≤ nI j := by
  refine Int32.le_iff_toInt_le.mpr ?_
  rw [nI_toInt (by omega)]
  exact Int.natCast_nonneg _
theorem rGr_o (X : zm_I) {q : Nat} (k v : Int32) {a j : Nat} (ha : a ≠ 87) (hj : j ≠ 64 + q) : rGrM X q k v a j = X a j := by
  unfold rGrM
  rw [zs_at, if_neg (fun h => hj h.2), zs_at, if_neg (fun h => hj h.2), zs_at, if_neg (fun h => hj h.2), zs_at, if_neg (fun h => hj h.2), zs_nq ha]
theorem rGr_q (X : zm_I) (q : Nat) (k v : Int32) {a : Nat} (ha : a < 87 ∨ (87 < a ∧ a < 110) ∨ 113 < a) : rGrM X q k v a = X a := by
  unfold rGrM
  rw [zs_nq (by omega), zs_nq (by omega), zs_nq (by omega), zs_nq (by omega), zs_nq (by omega)]
theorem rGr_j (X : zm_I) (q : Nat) (k v : Int32) {j : Nat} (hj : j ≠ 47) : rGrM X q k v 87 j = X 87 j := by
  unfold rGrM
  rw [zs_nq (by decide), zs_nq (by decide), zs_nq (by decide), zs_nq (by decide), zs_nj hj]
theorem rWf_q (X : zm_I) (s : Nat) (k v : Int32) {a : Nat} (h1 : a ≠ 87) (h2 : a ≠ 117) (h3 : a ≠ 118) : rWfM X s k v a = X a := by
  unfold rWfM
  rw [zs_nq h1, zs_nq h3, zs_nq h2]
theorem rWf_j (X : zm_I) (s : Nat) (k v : Int32) {j : Nat} (hj : j ≠ 51) : rWfM X s k v 87 j = X 87 j := by
  unfold rWfM
  rw [zs_nj hj, zs_nq (by decide), zs_nq (by decide)]
theorem zPS_nx {M X : zm_I} {l s0 wr kn kb : Nat} {W : List (Nat × Nat)} {S : List Nat} {dn : Nat → Nat} (hP : zPS M X l s0 wr kn kb W S dn) : zPS (fNx M) X l s0 wr kn kb W S dn :=
  zPS_cgM (by rw [fNx_q M (by decide)]) (by rw [fNx_q M (by decide)]) (by rw [fNx_q M (by decide)]) (by rw [fNx_q M (by decide)]) (fNx_q M (by decide)) (fNx_q M (by decide)) (fNx_q M (by decide)) hP
/-- a sign of one side -/
theorem zOne {M X X3 : zm_I} {n i l s0 wr kn : Nat} {W : List (Nat × Nat)} {S : List Nat} {dn : Nat → Nat} {pl nx pl2 nx2 kc : Nat} {kd wh w0 kd2 wh2 : Int32} (hP : zPS M X l s0 wr kn kn W S dn) (hS : S.length = zTws W) (hc : X 87 56 = zb (zHc W = true) ∧ zCo X W) (h57 : X 87 57 = nI 1) (hT : zTS n i M X pl nx kd wh) (hkd : ¬ kd = nI 0) (hk : kc = 22 ∨ (kc = 10 ∧ zMn W = true)) (hkn : kn < 64)
    (h3 : ∀ a, a ≠ 87 → X3 a = rWfM (rGrM X kn (nI (rKd kc)) (nI 0)) W.length (nI (rKd kc)) (nI (64 + kn)) a) (h37 : ∀ j, j ≠ 58 → X3 87 j = rWfM (rGrM X kn (nI (rKd kc)) (nI 0)) W.length (nI (rKd kc)) (nI (64 + kn)) 87 j) (h58 : X3 87 58 = zb (zMn ((kc, kn) :: W) = true)) (ht : rTkP (X3 88) n nx w0 pl2 nx2 kd2 wh2) (hF : zFrX X X3) :
    zStp n i l s0 wr dn M X (fAnd (fCnK (fNx M)) (fun M => fPw M (nI kc))) true (nI 1) (rTk X3 (nI pl2) (nI nx2) kd2 wh2) := by
  have hk7 : kc ≠ 7 := by omega
  have hkk : zKk kc := by
    rcases hk with h | ⟨h, _⟩
    · exact Or.inr (Or.inr (Or.inl h))
    · exact Or.inr (Or.inl h)
  obtain ⟨hG, g1, g2⟩ := zPS_grow (nI (rKd kc)) (nI 0) hkn (zPS_nx hP)
  have hWt := zPS_wait rfl hkk hk7 g1 hG
  have hlen : W.length < 72 := by
    have h1 := hP.2.2.2.2.2.2.2.1
    have h2 := hP.2.2.2.2.2.2.2.2.2.2
    omega
  have hR : fAnd (fCnK (fNx M)) (fun M => fPw M (nI kc)) = (true, zs (zs (zs (fNx M) 43 8 (nI (kn + 1))) 49 W.length (nI kc)) 42 3 (nI (W.length + 1))) := by
    unfold fAnd
    rw [fCnK_at (zPS_nx hP).2.2.1.1 (by omega), if_pos hkn]
    exact (if_pos rfl).trans (fPw_at hG.1.1 hlen _)
  have hx : ∀ a, a ≠ 87 → rTk X3 (nI pl2) (nI nx2) kd2 wh2 a = rWfM (rGrM X kn (nI (rKd kc)) (nI 0)) W.length (nI (rKd kc)) (nI (64 + kn)) a := fun a ha => (rTk_nq _ _ _ _ _ ha).trans (h3 a ha)
  have hj : ∀ j, 35 < j → j ≠ 58 → rTk X3 (nI pl2) (nI nx2) kd2 wh2 87 j = rWfM (rGrM X kn (nI (rKd kc)) (nI 0)) W.length (nI (rKd kc)) (nI (64 + kn)) 87 j := fun j hj h => (rTk_j _ _ _ _ _ (by omega) (by omega) (by omega) (by omega)).trans (h37 j h)
  have hold : ∀ a, a ≠ 87 → a ≠ 117 → a ≠ 118 → ∀ j, j ≠ 64 + kn → rTk X3 (nI pl2) (nI nx2) kd2 wh2 a j = X a j := fun a h1 h2 h4 j h5 => by rw [hx a h1, rWf_q _ _ _ _ h1 h2 h4, rGr_o X _ _ h1 h5]
  have x120 : rTk X3 (nI pl2) (nI nx2) kd2 wh2 120 = X 120 := by rw [hx 120 (by decide), rWf_q _ _ _ _ (by decide) (by decide) (by decide), rGr_q X _ _ _ (by omega)]
  have hhc : zHc ((kc, kn) :: W) = zHc W := by
    rcases hk with h | ⟨h, h2⟩
    · exact zHc_hi (by omega)
    · rw [zHc_lo (by omega), zHc_mn h2]
  refine ⟨zFrX_tr hF (zFrX_tk _ _ _ _ _), Or.inr ⟨by rw [hR], rfl, nx, wr, kn + 1, (kc, kn) :: W, S, dn, (zTS_nx hT).2.2.2.2.2.2 hkd, Nat.le_refl _, ?_, ?_⟩⟩
  · rw [hR]
    refine ⟨zPS_cgX (hj 51 (by decide) (by decide)) (hj 48 (by decide) (by decide)) (hj 47 (by decide) (by decide)) (hj 53 (by decide) (by decide)) (hj 55 (by decide) (by decide)) (fun a h1 h2 => hx a (by omega)) hWt, ?_, ⟨?_, ?_⟩, ?_, fun _ => ?_, pl2, nx2, kd2, wh2, ?_⟩
    · rw [zTws_len kc kn W (by omega)]; exact hS
    · rw [hj 56 (by decide) (by decide), rWf_j _ _ _ _ (by decide), rGr_j _ _ _ _ (by decide), hhc]; exact hc.1
    · exact ⟨fun h => absurd h hk7, zCo_cg W (fun j _ => by rw [x120]) hc.2⟩
    · rw [hj 57 (by decide) (by decide), rWf_j _ _ _ _ (by decide), rGr_j _ _ _ _ (by decide)]; exact h57
    · rw [rTk_j _ _ _ _ _ (by omega) (by omega) (by omega) (by omega)]; exact h58
    · refine zTS_take hT ?_ ?_ ?_ ?_ ?_ ht
      · show zs (zs (zs (fNx M) 43 8 (nI (kn + 1))) 49 W.length (nI kc)) 42 3 (nI (W.length + 1)) 50 = _
        rw [zs_nq (by decide), zs_nq (by decide), zs_nq (by decide)]
      · show zs (zs (zs (fNx M) 43 8 (nI (kn + 1))) 49 W.length (nI kc)) 42 3 (nI (W.length + 1)) 1 = _
        rw [zs_nq (by decide), zs_nq (by decide), zs_nq (by decide), fNx_q M (by decide)]
      · rw [h3 88 (by decide), rWf_q _ _ _ _ (by decide) (by decide) (by decide), rGr_q X _ _ _ (by omega)]
      · rw [h3 106 (by decide), rWf_q _ _ _ _ (by decide) (by decide) (by decide), rGr_q X _ _ _ (by omega)]
      · rw [h37 31 (by decide), rWf_j _ _ _ _ (by decide), rGr_j _ _ _ _ (by decide)]
  · rw [hR]
    refine ⟨fun j hj2 => ?_, fun c _ => ?_, zKf_of (fun j hj => by rw [rTk_j _ _ _ _ _ (by omega) (by omega) (by omega) (by omega), h37 j (by omega), rWf_j _ _ _ _ (by omega), rGr_j _ _ _ _ (by omega)]) (fun j hj => by show zs (zs (zs (fNx M) 43 8 (nI (kn + 1))) 49 W.length (nI kc)) 42 3 (nI (W.length + 1)) 42 j = _; rw [zs_nj (by omega), zs_nq (by decide), zs_nq (by decide), fNx_q M (by decide)])⟩
    · have := (hP.2.2.2.2.2.1 j hj2).2
      exact ⟨rfl, hold _ (by decide) (by decide) (by decide) _ (by omega), hold _ (by decide) (by decide) (by decide) _ (by omega), hold _ (by decide) (by decide) (by decide) _ (by omega), hold _ (by decide) (by decide) (by decide) _ (by omega)⟩
    · show zs (zs (zs (fNx M) 43 8 (nI (kn + 1))) 49 W.length (nI kc)) 42 3 (nI (W.length + 1)) 44 c = _ ∧ zs (zs (zs (fNx M) 43 8 (nI (kn + 1))) 49 W.length (nI kc)) 42 3 (nI (W.length + 1)) 45 c = _
      rw [zs_nq (by decide), zs_nq (by decide), zs_nq (by decide), zs_nq (by decide), zs_nq (by decide), zs_nq (by decide), fNx_q M (by decide), fNx_q M (by decide)]
      exact ⟨rfl, rfl⟩
theorem ct_rOne22 (g : zm_G) (gi : zm_I) (gl : zm_J) (r : Nat) (M : zm_I) {n i l s0 wr kn : Nat} {W : List (Nat × Nat)} {S : List Nat} {dn : Nat → Nat} {pl nx : Nat} {kd wh : Int32} (hP : zPS M gi l s0 wr kn kn W S dn) (hS : S.length = zTws W) (hc : gi 87 56 = zb (zHc W = true) ∧ zCo gi W) (h57 : gi 87 57 = nI 1) (h58 : gi 87 58 = zb (zMn W = true)) (hT : zTS n i M gi pl nx kd wh) (hkd : ¬ kd = nI 0)  : zC_i g yX11_ofOne mX11_ofOne 3 [.ref 87, .int (nI 12)] zSH gi gl (zRT r) (fun z gi' gl' gr' => zStp n i l s0 wr dn M gi (fAnd (fCnK (fNx M)) (fun M => fPw M (nI 22))) true z gi' ∧ gl' = gl ∧ gr' = zRT r) := by
  refine zC_i_of [some (.ref 87), some (.int (nI 12)), none] (by decide) rfl rfl (Nat.le_of_ble_eq_true rfl) (fun x => ?_)
  refine zA_aload_0 dX11_ofOne_0 ?_
  refine zA_iload_1 dX11_ofOne_1 ?_
  refine zA_iconst (nI 0) dX11_ofOne_2 ic_0 ?_
  have hkn := hP.2.2.1.2.2.1
  have hl2 := zPS_len hP
  rcases Nat.lt_or_ge kn 64 with hq | hq
  · refine zA_cVi (ct_rGrown g gi gl r hP.2.2.1.2.1 hkn (nI 12) (nI 0)) calX11_grown stX11_grown lX11_278 dX11_ofOne_3 (by decide) (by simp [Value.category]) rfl (Nat.le_refl _) (Nat.le_refl _) sh_87 rfl (fun zz gi' gl' gr' hp => ?_)
    obtain ⟨_, hz, e1, e2, e3⟩ := hp.resolve_left (fun q => absurd q.1 (by omega))
    rw [hz, e1, e2, e3]
    clear hz e1 e2 e3
    refine zA_istore_2 dX11_ofOne_6 rfl ?_
    refine zA_iload_2 dX11_ofOne_7 ?_
    refine zA_if_ge 13 dX11_ofOne_8 (by decide) (fun h => ?_) (fun h => ?_)
    · refine zA_aload_0 dX11_ofOne_13 ?_
      refine zA_iload_1 dX11_ofOne_14 ?_
      refine zA_iload_2 dX11_ofOne_15 ?_
      refine zA_cVv (ct_rWaitFor g (rGrM gi kn (nI 12) (nI 0)) gl r (s := W.length) (by rw [rGr_j _ _ _ _ (by decide)]; exact hP.1.2.1) (by omega) (nI 12) (nI (64 + kn))) calX11_waitFor stX11_waitFor lX11_281 dX11_ofOne_16 (by decide) (by simp [Value.category]) rfl (Nat.le_refl _) (Nat.le_refl _) sh_87 rfl (fun gi' gl' gr' ⟨e1, e2, e3⟩ => ?_)
      rw [e1, e2, e3]
      clear e1 e2 e3
      refine zA_iload_1 dX11_ofOne_19 ?_
      refine zA_bipush (nI 12) dX11_ofOne_20 bc_12 ?_
      refine zA_icmp_neN 30 dX11_ofOne_22 (by decide) (by decide) (by decide) (fun hh => absurd hh (by decide)) (fun _ => ?_)
      refine zA_aload_0 dX11_ofOne_25 ?_
      refine zA_iconst (nI 0) dX11_ofOne_26 ic_0 ?_
      refine zS_putZ sh_87 fX11_285 dX11_ofOne_27 rfl rfl (by decide) ?_
      refine zA_aload_0 dX11_ofOne_30 ?_
      have k31 : ((zs (rWfM (rGrM gi kn (nI 12) (nI 0)) W.length (nI 12) (nI (64 + kn))) 87 58 ((nI 0)))) 87 31 = nI n := hT.1.2.2.2.2.1
      have k32 : ((zs (rWfM (rGrM gi kn (nI 12) (nI 0)) W.length (nI 12) (nI (64 + kn))) 87 58 ((nI 0)))) 87 32 = nI nx := hT.2.2.2.1
      have k106 : zWs ((zs (rWfM (rGrM gi kn (nI 12) (nI 0)) W.length (nI 12) (nI (64 + kn))) 87 58 ((nI 0)))) := fun j hj => hT.1.2.2.2.2.2.2 j hj
      refine zA_cVv (ct_rTake g ((zs (rWfM (rGrM gi kn (nI 12) (nI 0)) W.length (nI 12) (nI (64 + kn))) 87 58 ((nI 0)))) gl r k106 k31 hT.1.2.1 k32 (zTS_nx hT).2.2.2.1) calX11_take stX11_take lX11_289 dX11_ofOne_31 (by decide) (by simp [Value.category]) rfl (Nat.le_refl _) (Nat.le_refl _) sh_87 rfl (fun gi' gl' gr' ⟨pl2, nx2, kd2, wh2, ht, e1, e2, e3⟩ => ?_)
      rw [e1, e2, e3]
      clear e1 e2 e3
      refine zA_iconst (nI 1) dX11_ofOne_34 ic_1 ?_
      exact zB_zret rfl dX11_ofOne_35 (by decide) (⟨zOne hP hS hc h57 hT hkd (Or.inl rfl) hq (fun a ha => zs_nq ha) (fun j hj => zs_nj hj) rfl ht (zFrX_tr (zFrX_tr (zFrX_gr _ _ _ _) (zFrX_wf _ _ _ _)) (zFrX_87 _ 58 _ (by omega))), rfl, rfl⟩)
    · exact absurd (nI_ge0 (by omega)) h
  · refine zA_cVi (ct_rGrown g gi gl r hP.2.2.1.2.1 hkn (nI 12) (nI 0)) calX11_grown stX11_grown lX11_278 dX11_ofOne_3 (by decide) (by simp [Value.category]) rfl (Nat.le_refl _) (Nat.le_refl _) sh_87 rfl (fun zz gi' gl' gr' hp => ?_)
    obtain ⟨_, hz, e1, e2, e3⟩ := hp.resolve_right (fun q => absurd q.1 (by omega))
    rw [hz, e1, e2, e3]
    clear hz e1 e2 e3
    refine zA_istore_2 dX11_ofOne_6 rfl ?_
    refine zA_iload_2 dX11_ofOne_7 ?_
    refine zA_if_ge 13 dX11_ofOne_8 (by decide) (fun hh => absurd hh (by decide)) (fun _ => ?_)
    refine zA_iconst (nI 0) dX11_ofOne_11 ic_0 ?_
    exact zB_zret rfl dX11_ofOne_12 (by decide) (⟨zStp_bad (N := fNx M) (by unfold fAnd; rw [fCnK_at (zPS_nx hP).2.2.1.1 hkn, if_neg (Nat.not_lt.mpr hq)]; exact if_neg Bool.false_ne_true) (zTS_nx hT).1 hT.2.2.1, rfl, rfl⟩)
theorem ct_rOne10 (g : zm_G) (gi : zm_I) (gl : zm_J) (r : Nat) (M : zm_I) {n i l s0 wr kn : Nat} {W : List (Nat × Nat)} {S : List Nat} {dn : Nat → Nat} {pl nx : Nat} {kd wh : Int32} (hP : zPS M gi l s0 wr kn kn W S dn) (hS : S.length = zTws W) (hc : gi 87 56 = zb (zHc W = true) ∧ zCo gi W) (h57 : gi 87 57 = nI 1) (h58 : gi 87 58 = zb (zMn W = true)) (hT : zTS n i M gi pl nx kd wh) (hkd : ¬ kd = nI 0) (hmn : zMn W = true)  : zC_i g yX11_ofOne mX11_ofOne 3 [.ref 87, .int (nI 13)] zSH gi gl (zRT r) (fun z gi' gl' gr' => zStp n i l s0 wr dn M gi (fAnd (fCnK (fNx M)) (fun M => fPw M (nI 10))) true z gi' ∧ gl' = gl ∧ gr' = zRT r) := by
  refine zC_i_of [some (.ref 87), some (.int (nI 13)), none] (by decide) rfl rfl (Nat.le_of_ble_eq_true rfl) (fun x => ?_)
  refine zA_aload_0 dX11_ofOne_0 ?_
  refine zA_iload_1 dX11_ofOne_1 ?_
  refine zA_iconst (nI 0) dX11_ofOne_2 ic_0 ?_
  have hkn := hP.2.2.1.2.2.1
  have hl2 := zPS_len hP
  rcases Nat.lt_or_ge kn 64 with hq | hq
  · refine zA_cVi (ct_rGrown g gi gl r hP.2.2.1.2.1 hkn (nI 13) (nI 0)) calX11_grown stX11_grown lX11_278 dX11_ofOne_3 (by decide) (by simp [Value.category]) rfl (Nat.le_refl _) (Nat.le_refl _) sh_87 rfl (fun zz gi' gl' gr' hp => ?_)
    obtain ⟨_, hz, e1, e2, e3⟩ := hp.resolve_left (fun q => absurd q.1 (by omega))
    rw [hz, e1, e2, e3]
    clear hz e1 e2 e3
    refine zA_istore_2 dX11_ofOne_6 rfl ?_
    refine zA_iload_2 dX11_ofOne_7 ?_
    refine zA_if_ge 13 dX11_ofOne_8 (by decide) (fun h => ?_) (fun h => ?_)
    · refine zA_aload_0 dX11_ofOne_13 ?_
      refine zA_iload_1 dX11_ofOne_14 ?_
      refine zA_iload_2 dX11_ofOne_15 ?_
      refine zA_cVv (ct_rWaitFor g (rGrM gi kn (nI 13) (nI 0)) gl r (s := W.length) (by rw [rGr_j _ _ _ _ (by decide)]; exact hP.1.2.1) (by omega) (nI 13) (nI (64 + kn))) calX11_waitFor stX11_waitFor lX11_281 dX11_ofOne_16 (by decide) (by simp [Value.category]) rfl (Nat.le_refl _) (Nat.le_refl _) sh_87 rfl (fun gi' gl' gr' ⟨e1, e2, e3⟩ => ?_)
      rw [e1, e2, e3]
      clear e1 e2 e3
      refine zA_iload_1 dX11_ofOne_19 ?_
      refine zA_bipush (nI 12) dX11_ofOne_20 bc_12 ?_
      refine zA_icmp_neN 30 dX11_ofOne_22 (by decide) (by decide) (by decide) (fun _ => ?_) (fun hh => absurd hh (by decide))
      refine zA_aload_0 dX11_ofOne_30 ?_
      have k31 : (rWfM (rGrM gi kn (nI 13) (nI 0)) W.length (nI 13) (nI (64 + kn))) 87 31 = nI n := hT.1.2.2.2.2.1
      have k32 : (rWfM (rGrM gi kn (nI 13) (nI 0)) W.length (nI 13) (nI (64 + kn))) 87 32 = nI nx := hT.2.2.2.1
      have k106 : zWs (rWfM (rGrM gi kn (nI 13) (nI 0)) W.length (nI 13) (nI (64 + kn))) := fun j hj => hT.1.2.2.2.2.2.2 j hj
      refine zA_cVv (ct_rTake g (rWfM (rGrM gi kn (nI 13) (nI 0)) W.length (nI 13) (nI (64 + kn))) gl r k106 k31 hT.1.2.1 k32 (zTS_nx hT).2.2.2.1) calX11_take stX11_take lX11_289 dX11_ofOne_31 (by decide) (by simp [Value.category]) rfl (Nat.le_refl _) (Nat.le_refl _) sh_87 rfl (fun gi' gl' gr' ⟨pl2, nx2, kd2, wh2, ht, e1, e2, e3⟩ => ?_)
      rw [e1, e2, e3]
      clear e1 e2 e3
      refine zA_iconst (nI 1) dX11_ofOne_34 ic_1 ?_
      exact zB_zret rfl dX11_ofOne_35 (by decide) (⟨zOne hP hS hc h57 hT hkd (Or.inr ⟨rfl, hmn⟩) hq (fun a ha => rfl) (fun j hj => rfl) (by rw [rWf_j _ _ _ _ (by decide), rGr_j _ _ _ _ (by decide), h58, hmn]; rfl) ht (zFrX_tr (zFrX_gr _ _ _ _) (zFrX_wf _ _ _ _)), rfl, rfl⟩)
    · exact absurd (nI_ge0 (by omega)) h
  · refine zA_cVi (ct_rGrown g gi gl r hP.2.2.1.2.1 hkn (nI 13) (nI 0)) calX11_grown stX11_grown lX11_278 dX11_ofOne_3 (by decide) (by simp [Value.category]) rfl (Nat.le_refl _) (Nat.le_refl _) sh_87 rfl (fun zz gi' gl' gr' hp => ?_)
    obtain ⟨_, hz, e1, e2, e3⟩ := hp.resolve_right (fun q => absurd q.1 (by omega))
    rw [hz, e1, e2, e3]
    clear hz e1 e2 e3
    refine zA_istore_2 dX11_ofOne_6 rfl ?_
    refine zA_iload_2 dX11_ofOne_7 ?_
    refine zA_if_ge 13 dX11_ofOne_8 (by decide) (fun hh => absurd hh (by decide)) (fun _ => ?_)
    refine zA_iconst (nI 0) dX11_ofOne_11 ic_0 ?_
    exact zB_zret rfl dX11_ofOne_12 (by decide) (⟨zStp_bad (N := fNx M) (by unfold fAnd; rw [fCnK_at (zPS_nx hP).2.2.1.1 hkn, if_neg (Nat.not_lt.mpr hq)]; exact if_neg Bool.false_ne_true) (zTS_nx hT).1 hT.2.2.1, rfl, rfl⟩)
