def fTx0 (gi : zm_I) (n : Nat) : zm_I := zs (zs (zs (zs (fRst (zs (zs gi 50 1 (zmin (nI n) (nI 500))) 50 3 (nI 0))) 42 5 (nI 0)) 42 6 (nI 0)) 42 7 (nI 0)) 42 8 (-1)
def fTx (gi : zm_I) (n : Nat) : Bool × zm_I := fTxL 501 (fTx0 gi n)
theorem fRst_q (gi : zm_I) {a : Nat} (h1 : a ≠ 46) (h2 : a ≠ 47) (h3 : a ≠ 43) : fRst gi a = gi a := by
  unfold fRst
  rw [zs_nq h3, zs_nq h3, zs_nq h3, zs_nq h3, zm_une h2, zm_une h1]
theorem fTx0_ok {gi : zm_I} {n : Nat} (hn : n ≤ 500) (hR : zx (gi 42 3) 73) : zTok (fTx0 gi n) ∧ zRdr (fTx0 gi n) := by
  have hm : zmin (nI n) (nI 500) = nI n := by
    unfold zmin
    split
    · next h =>
      have h2 : (nI 500).toInt < (nI n).toInt := Int32.lt_iff_toInt_lt.mp h
      rw [nI_toInt (by omega), nI_toInt (by omega)] at h2
      omega
    · rfl
  have e : fTx0 gi n 50 = (zs (zs gi 50 1 (zmin (nI n) (nI 500))) 50 3 (nI 0)) 50 := by
    unfold fTx0
    rw [zs_nq (by decide), zs_nq (by decide), zs_nq (by decide), zs_nq (by decide), fRst_q _ (by decide) (by decide) (by decide)]
  refine ⟨?_, ?_⟩
  · refine zTok_50 (gi := (zs (zs gi 50 1 (zmin (nI n) (nI 500))) 50 3 (nI 0))) ?_ e
    unfold zTok
    rw [zs_eq, zs_nj (by decide), zs_eq, hm, zi_nI (by omega), zi_nI (by omega)]
    exact ⟨zx_of (by omega) (by decide), rfl, Nat.zero_le _⟩
  · unfold zRdr fTx0
    rw [zs_nj (by decide), zs_nj (by decide), zs_nj (by decide), zs_nj (by decide), fRst_q _ (by decide) (by decide) (by decide), zs_nq (by decide), zs_nq (by decide)]
    refine ⟨hR, ?_⟩
    rw [zs_nj (by decide), zs_nj (by decide), zs_nj (by decide), zs_eq]
    exact zx_of (by decide) (by decide)
theorem ct_readText (g : zm_G) (gi : zm_I) (gl : zm_J) (r : Nat) (hR : zx (gi 42 3) 73) {n : Nat} (hn : n ≤ 500)  : zC_i g yX6_readText mX6_readText 9 [.ref 42, .int (nI n)] zSH gi gl (zRT r) (fun z gi' gl' gr' => z = zb ((fTx gi n).1 = true) ∧ gi' = (fTx gi n).2 ∧ gl' = gl ∧ gr' = zRT r) := by
  refine zC_i_of [some (.ref 42), some (.int (nI n)), none] (by decide) rfl rfl (Nat.le_of_ble_eq_true rfl) (fun x => ?_)
  refine zA_aload_0 dX6_readText_0 ?_
  refine zA_getR sh_42 fX6_31 dX6_readText_1 rfl (rt_42_0 _) ?_
  refine zA_iload_1 dX6_readText_4 ?_
  refine zA_cVv (ct_start g gi gl r (nI n)) calX9_start stX9_start lX6_35 dX6_readText_5 (by decide) (by simp [Value.category]) rfl (Nat.le_refl _) (Nat.le_refl _) sh_50 rfl (fun gi' gl' gr' ⟨e1, e2, e3⟩ => ?_)
  rw [e1, e2, e3]
  clear e1 e2 e3
  refine zA_aload_0 dX6_readText_8 ?_
  refine zA_getR sh_42 fX6_12 dX6_readText_9 rfl (rt_42_1 _) ?_
  refine zA_cVv (ct_reset g (zs (zs gi 50 1 (zmin (nI n) (nI 500))) 50 3 (nI 0)) gl r) calX4_reset stX4_reset lX6_39 dX6_readText_12 (by decide) (by simp [Value.category]) rfl (Nat.le_refl _) (Nat.le_refl _) sh_43 rfl (fun gi' gl' gr' ⟨e1, e2, e3⟩ => ?_)
  rw [e1, e2, e3]
  clear e1 e2 e3
  refine zA_aload_0 dX6_readText_15 ?_
  refine zA_iconst (nI 0) dX6_readText_16 ic_0 ?_
  refine zS_putI sh_42 fX6_42 dX6_readText_17 rfl rfl ?_
  refine zA_aload_0 dX6_readText_20 ?_
  refine zA_iconst (nI 0) dX6_readText_21 ic_0 ?_
  refine zS_putI sh_42 fX6_45 dX6_readText_22 rfl rfl ?_
  refine zA_aload_0 dX6_readText_25 ?_
  refine zA_iconst (nI 0) dX6_readText_26 ic_0 ?_
  refine zS_putI sh_42 fX6_48 dX6_readText_27 rfl rfl ?_
  refine zA_aload_0 dX6_readText_30 ?_
  refine zA_iconst (-1) dX6_readText_31 ic_m1 ?_
  refine zS_putI sh_42 fX6_22 dX6_readText_32 rfl rfl ?_
  refine zA_iconst (nI 0) dX6_readText_35 ic_0 ?_
  refine zA_istore_2 dX6_readText_36 rfl ?_
  have h0 := fTx0_ok hn hR
  have eX : fTx gi n = fTxL 501 (fTx0 gi n) := rfl
  rw [eX]
  generalize hV : fTxL 501 (fTx0 gi n) = V
  clear eX
  have key : ∀ (m k : Nat) (M : zm_I), k + m = 501 → zTok M → zRdr M → fTxL m M = V → zB_i x g mX6_readText 9 zSH (fun z gi' gl' gr' => z = zb ((V).1 = true) ∧ gi' = (V).2 ∧ gl' = gl ∧ gr' = zRT r) 37 [some (.ref 42), some (.int (nI n)), some (.int (nI k))] [] M gl (zRT r) := by
    intro m
    induction m with
    | zero =>
      intro k M hk hT hM hv
      refine zA_iload_2 dX6_readText_37 ?_
      refine zA_sipush (nI 500) dX6_readText_38 sc_500 ?_
      refine zA_icmp_gtN 78 dX6_readText_41 (by decide) (by omega) (by omega) (fun h => ?_) (fun h => ?_)
      · refine zA_aload_0 dX6_readText_78 ?_
        refine zA_iconst (nI 1) dX6_readText_79 ic_1 ?_
        refine zA_cVi (ct_failed g M gl r (nI 1)) calX6_failed stX6_failed lX6_61 dX6_readText_80 (by decide) (by simp [Value.category]) rfl (Nat.le_refl _) (Nat.le_refl _) sh_42 rfl (fun zz gi' gl' gr' ⟨hz, e1, e2, e3⟩ => ?_)
        rw [hz, e1, e2, e3]
        clear hz e1 e2 e3
        rw [← hv]
        exact zB_zret rfl dX6_readText_83 (by decide) (⟨(zb_f Bool.false_ne_true).symm, rfl, rfl, rfl⟩)
      · exact absurd h (by omega)
    | succ m ih =>
      intro k M hk hT hM hv
      refine zA_iload_2 dX6_readText_37 ?_
      refine zA_sipush (nI 500) dX6_readText_38 sc_500 ?_
      refine zA_icmp_gtN 78 dX6_readText_41 (by decide) (by omega) (by omega) (fun h => ?_) (fun h => ?_)
      · exact absurd h (by omega)
      · refine zA_aload_0 dX6_readText_44 ?_
        refine zA_getR sh_42 fX6_31 dX6_readText_45 rfl (rt_42_0 _) ?_
        refine zA_cVv (ct_adv g M gl r hT) calX9_advance stX9_advance lX6_51 dX6_readText_48 (by decide) (by simp [Value.category]) rfl (Nat.le_refl _) (Nat.le_refl _) sh_50 rfl (fun gi' gl' gr' ⟨e1, e2, e3⟩ => ?_)
        rw [e1, e2, e3]
        clear e1 e2 e3
        refine zA_aload_0 dX6_readText_51 ?_
        refine zA_getR sh_42 fX6_31 dX6_readText_52 rfl (rt_42_0 _) ?_
        refine zA_getI (v := ((fAv M) 50 4)) sh_50 fX6_54 dX6_readText_55 rfl rfl ?_
        refine zA_if_ne 63 dX6_readText_58 (by decide) (fun c => ?_) (fun c => ?_)
        · have hv2 := (if_neg c).symm.trans hv
          have hRa : zRdr (fAv M) := zRdr_of hM (fAv_q M (by decide))
          refine zA_aload_0 dX6_readText_63 ?_
          refine zA_cVi (ct_readLine g (fAv M) gl r (zTok_av hT) hRa (fAv_be hT).1 (fAv_be hT).2.1 (fAv_be hT).2.2.1 (fAv_be hT).2.2.2) calX6_readLine stX6_readLine lX6_57 dX6_readText_64 (by decide) (by simp [Value.category]) rfl (Nat.le_refl _) (Nat.le_refl _) sh_42 rfl (fun zz gi' gl' gr' ⟨hz, e1, e2, e3⟩ => ?_)
          have hz2 : zz = zb ((fTl M).1 = true) := hz
          have e12 : gi' = (fTl M).2 := e1
          rw [hz2, e12, e2, e3]
          clear hz hz2 e1 e12 e2 e3
          refine zA_if_neB 72 dX6_readText_67 (by decide) (fun d => ?_) (fun d => ?_)
          · refine zA_iinc_2 (v := nI (k + 1)) dX6_readText_72 (zn_inc _) rfl ?_
            refine zA_goto 37 dX6_readText_75 (by decide) ?_
            have hok := fRl_ok (zi (fAv M 50 2)) (zi (fAv M 50 3)) (zTok_av hT) hRa
            exact ih (k + 1) (fTl M).2 (by omega) hok.1 hok.2 ((if_pos d).symm.trans hv2)
          · have hv3 := (if_neg d).symm.trans hv2
            rw [← hv3]
            refine zA_iconst (nI 0) dX6_readText_70 ic_0 ?_
            exact zB_zret rfl dX6_readText_71 (by decide) (⟨(zb_f Bool.false_ne_true).symm, rfl, rfl, rfl⟩)
        · have hv2 : (true, fAv M) = V := (if_pos c).symm.trans hv
          rw [← hv2]
          refine zA_iconst (nI 1) dX6_readText_61 ic_1 ?_
          exact zB_zret rfl dX6_readText_62 (by decide) (⟨(zb_t rfl).symm, rfl, rfl, rfl⟩)
  exact key 501 0 _ (by omega) h0.1 h0.2 hV
