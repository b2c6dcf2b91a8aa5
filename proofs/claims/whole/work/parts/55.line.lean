def fLw (gi : zm_I) (b e : Nat) : Int32 := if gi 50 4 = nI 2 then fWi gi 0 b e else -1
theorem fLw_r (gi : zm_I) (b e : Nat) : fLw gi b e = -1 ∨ ∃ j, j < 7 ∧ fLw gi b e = nI j := by
  unfold fLw
  split
  · exact fWi_0 gi b e
  · exact Or.inl rfl
def fRlM (gi : zm_I) (l : Nat) : zm_I := zs (zs gi 42 6 (gi 42 6 ||| (nI 1 <<< (nI l &&& 31)))) 43 7 (gi 43 7 + nI 1)
def fRlL (gi : zm_I) (l : Nat) : Bool × zm_I := if gi 42 6 >>> (nI l &&& 31) &&& nI 1 = nI 1 then (false, fFail gi (nI 3)) else if l < 2 then fRs (fRlM gi l) (nI l) else fEx (fRlM gi l) (l - 2)
def fRl (gi : zm_I) (b e : Nat) : Bool × zm_I := if fLw gi b e = -1 then (false, fFail gi (nI 1)) else fRlL gi (zi (fLw gi b e))
theorem zTok_rlM {gi : zm_I} (l : Nat) (h : zTok gi) : zTok (fRlM gi l) := zTok_50 h (by unfold fRlM; rw [zs_nq (by decide), zs_nq (by decide)])
theorem zRdr_rlM {gi : zm_I} (l : Nat) (h : zRdr gi) : zRdr (fRlM gi l) := by
  unfold zRdr fRlM
  rw [zs_nq (by decide), zs_nj (by decide), zs_nj (by decide)]
  exact h
theorem ct_readLine (g : zm_G) (gi : zm_I) (gl : zm_J) (r : Nat) (hK : zTok gi) (hR : zRdr gi) {b e : Nat} (hb : gi 50 2 = nI b) (he : gi 50 3 = nI e) (hbe : b ≤ e) (he5 : e ≤ 500)  : zC_i g yX6_readLine mX6_readLine 8 [.ref 42] zSH gi gl (zRT r) (fun z gi' gl' gr' => z = zb ((fRl gi b e).1 = true) ∧ gi' = (fRl gi b e).2 ∧ gl' = gl ∧ gr' = zRT r) := by
  refine zC_i_of [some (.ref 42), none] (by decide) rfl rfl (Nat.le_of_ble_eq_true rfl) (fun x => ?_)
  refine zA_aload_0 dX6_readLine_0 ?_
  refine zA_getR sh_42 fX6_31 dX6_readLine_1 rfl (rt_42_0 _) ?_
  refine zA_cVi (ct_lineWord g gi gl r hb he hbe he5) calX9_lineWord stX9_lineWord lX6_68 dX6_readLine_4 (by decide) (by simp [Value.category]) rfl (Nat.le_refl _) (Nat.le_refl _) sh_50 rfl (fun zz gi' gl' gr' ⟨hz, e1, e2, e3⟩ => ?_)
  have hz2 : zz = fLw gi b e := hz
  rw [hz2, e1, e2, e3]
  clear hz hz2 e1 e2 e3
  refine zA_istore_1 dX6_readLine_7 rfl ?_
  refine zA_iload_1 dX6_readLine_8 ?_
  refine zA_iconst (-1) dX6_readLine_9 ic_m1 ?_
  refine zA_icmp_ne 19 dX6_readLine_10 (by decide) (fun h => ?_) (fun h => ?_)
  · have e8 : fRl gi b e = fRlL gi (zi (fLw gi b e)) := if_neg h
    rw [e8]
    rcases fLw_r gi b e with q | ⟨l, hl, q⟩
    · exact absurd q h
    rw [q, zi_nI (by omega)]
    clear e8
    refine zA_aload_0 dX6_readLine_19 ?_
    refine zA_getI (v := (gi 42 6)) sh_42 fX6_45 dX6_readLine_20 rfl rfl ?_
    refine zA_iload_1 dX6_readLine_23 ?_
    refine zA_ishr dX6_readLine_24 ?_
    refine zA_iconst (nI 1) dX6_readLine_25 ic_1 ?_
    refine zA_iand dX6_readLine_26 ?_
    refine zA_iconst (nI 1) dX6_readLine_27 ic_1 ?_
    refine zA_icmp_ne 37 dX6_readLine_28 (by decide) (fun c => ?_) (fun c => ?_)
    · refine zA_aload_0 dX6_readLine_37 ?_
      refine zA_dup dX6_readLine_38 rfl ?_
      refine zA_getI (v := (gi 42 6)) sh_42 fX6_45 dX6_readLine_39 rfl rfl ?_
      refine zA_iconst (nI 1) dX6_readLine_42 ic_1 ?_
      refine zA_iload_1 dX6_readLine_43 ?_
      refine zA_ishl dX6_readLine_44 ?_
      refine zA_ior dX6_readLine_45 ?_
      refine zS_putI sh_42 fX6_45 dX6_readLine_46 rfl rfl ?_
      refine zA_aload_0 dX6_readLine_49 ?_
      refine zA_getR sh_42 fX6_12 dX6_readLine_50 rfl (rt_42_1 _) ?_
      refine zA_dup dX6_readLine_53 rfl ?_
      refine zA_getI (v := (gi 43 7)) sh_43 fX6_72 dX6_readLine_54 rfl rfl ?_
      refine zA_iconst (nI 1) dX6_readLine_57 ic_1 ?_
      refine zA_iadd dX6_readLine_58 ?_
      refine zS_putI sh_43 fX6_72 dX6_readLine_59 rfl rfl ?_
      refine zA_iload_1 dX6_readLine_62 ?_
      refine zA_iconst (nI 2) dX6_readLine_63 ic_2 ?_
      refine zA_icmp_geN 75 dX6_readLine_64 (by decide) (by omega) (by omega) (fun d => ?_) (fun d => ?_)
      · refine zA_aload_0 dX6_readLine_75 ?_
        refine zA_iload_1 dX6_readLine_76 ?_
        refine zA_iconst (nI 2) dX6_readLine_77 ic_2 ?_
        refine zA_isubN dX6_readLine_78 (by omega) ?_
        refine zA_cVi (ct_readExpression g (fRlM gi l) gl r (zTok_rlM l hK) (zRdr_rlM l hR) (l := l - 2) (by omega)) calX6_readExpression stX6_readExpression lX6_78 dX6_readLine_79 (by decide) (by simp [Value.category]) rfl (Nat.le_refl _) (Nat.le_refl _) sh_42 rfl (fun zz gi' gl' gr' ⟨hz, e1, e2, e3⟩ => ?_)
        rw [hz, e1, e2, e3]
        clear hz e1 e2 e3
        have e9 : fRlL gi l = fEx (fRlM gi l) (l - 2) := (if_neg c).trans (if_neg (by omega))
        rw [e9]
        exact zB_zret rfl dX6_readLine_82 (zb_01 _) (⟨rfl, rfl, rfl, rfl⟩)
      · refine zA_aload_0 dX6_readLine_67 ?_
        refine zA_iload_1 dX6_readLine_68 ?_
        refine zA_cVi (ct_readSetting g (fRlM gi l) gl r (zTok_rlM l hK) (nI l)) calX6_readSetting stX6_readSetting lX6_75 dX6_readLine_69 (by decide) (by simp [Value.category]) rfl (Nat.le_refl _) (Nat.le_refl _) sh_42 rfl (fun zz gi' gl' gr' ⟨hz, e1, e2, e3⟩ => ?_)
        rw [hz, e1, e2, e3]
        clear hz e1 e2 e3
        have e9 : fRlL gi l = fRs (fRlM gi l) (nI l) := (if_neg c).trans (if_pos (by omega))
        rw [e9]
        refine zA_goto 82 dX6_readLine_72 (by decide) ?_
        exact zB_zret rfl dX6_readLine_82 (zb_01 _) (⟨rfl, rfl, rfl, rfl⟩)
    · refine zA_aload_0 dX6_readLine_31 ?_
      refine zA_iconst (nI 3) dX6_readLine_32 ic_3 ?_
      refine zA_cVi (ct_failed g gi gl r (nI 3)) calX6_failed stX6_failed lX6_61 dX6_readLine_33 (by decide) (by simp [Value.category]) rfl (Nat.le_refl _) (Nat.le_refl _) sh_42 rfl (fun zz gi' gl' gr' ⟨hz, q1, q2, q3⟩ => ?_)
      rw [hz, q1, q2, q3]
      clear hz q1 q2 q3
      have e9 : fRlL gi l = (false, fFail gi (nI 3)) := by exact if_pos c
      rw [e9]
      exact zB_zret rfl dX6_readLine_36 (by decide) (⟨(zb_f Bool.false_ne_true).symm, rfl, rfl, rfl⟩)
  · refine zA_aload_0 dX6_readLine_13 ?_
    refine zA_iconst (nI 1) dX6_readLine_14 ic_1 ?_
    refine zA_cVi (ct_failed g gi gl r (nI 1)) calX6_failed stX6_failed lX6_61 dX6_readLine_15 (by decide) (by simp [Value.category]) rfl (Nat.le_refl _) (Nat.le_refl _) sh_42 rfl (fun zz gi' gl' gr' ⟨hz, q1, q2, q3⟩ => ?_)
    rw [hz, q1, q2, q3]
    clear hz q1 q2 q3
    have e9 : fRl gi b e = (false, fFail gi (nI 1)) := by exact if_pos h
    rw [e9]
    exact zB_zret rfl dX6_readLine_18 (by decide) (⟨(zb_f Bool.false_ne_true).symm, rfl, rfl, rfl⟩)
