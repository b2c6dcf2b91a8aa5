theorem i32_not_lt {a b : Int32} : ¬ a < b ↔ b ≤ a := Int32.not_lt
theorem i32_not_le {a b : Int32} : ¬ a ≤ b ↔ b < a := Int32.not_le
theorem ct_isWithin (g : zm_G) {sh : List zm_K} (gi : zm_I) (gl : zm_J) (gr : zm_R) (n lo hi : Int32)  : zC_i g yX10_isWithin mX10_isWithin 0 [.int n, .int lo, .int hi] sh gi gl gr (fun z gi' gl' gr' => z = zb (lo ≤ n ∧ n ≤ hi) ∧ gi' = gi ∧ gl' = gl ∧ gr' = gr) := by
  refine zC_i_of [some (.int n), some (.int lo), some (.int hi)] (by decide) rfl rfl (Nat.le_of_ble_eq_true rfl) (fun x => ?_)
  refine zA_iload_0 dX10_isWithin_0 ?_
  refine zA_iload_1 dX10_isWithin_1 ?_
  refine zA_icmp_lt 14 dX10_isWithin_2 (by decide) (fun h0 => ?_) (fun h0 => ?_)
  · refine zA_iconst (nI 0) dX10_isWithin_14 ic_0 ?_
    exact zB_zret rfl dX10_isWithin_15 (by decide) (⟨(zb_f (fun q => by first | exact absurd h0 (Int32.not_lt.mpr q.1) | exact absurd h1 (Int32.not_lt.mpr q.2))).symm, rfl, rfl, rfl⟩)
  · refine zA_iload_0 dX10_isWithin_5 ?_
    refine zA_iload_2 dX10_isWithin_6 ?_
    refine zA_icmp_gt 14 dX10_isWithin_7 (by decide) (fun h1 => ?_) (fun h1 => ?_)
    · refine zA_iconst (nI 0) dX10_isWithin_14 ic_0 ?_
      exact zB_zret rfl dX10_isWithin_15 (by decide) (⟨(zb_f (fun q => by first | exact absurd h0 (Int32.not_lt.mpr q.1) | exact absurd h1 (Int32.not_lt.mpr q.2))).symm, rfl, rfl, rfl⟩)
    · refine zA_iconst (nI 1) dX10_isWithin_10 ic_1 ?_
      refine zA_goto 15 dX10_isWithin_11 (by decide) ?_
      exact zB_zret rfl dX10_isWithin_15 (by decide) (⟨(zb_t ⟨Int32.not_lt.mp h0, Int32.not_lt.mp h1⟩).symm, rfl, rfl, rfl⟩)
theorem ct_isNight (g : zm_G) {sh : List zm_K} (gi : zm_I) (gl : zm_J) (gr : zm_R) (n : Int32)  : zC_i g yX10_isNight mX10_isNight 1 [.int n] sh gi gl gr (fun z gi' gl' gr' => z = zb (nI 0 ≤ n ∧ n ≤ nI 3) ∧ gi' = gi ∧ gl' = gl ∧ gr' = gr) := by
  refine zC_i_of [some (.int n)] (by decide) rfl rfl (Nat.le_of_ble_eq_true rfl) (fun x => ?_)
  refine zA_iload_0 dX10_isNight_0 ?_
  refine zA_iconst (nI 0) dX10_isNight_1 ic_0 ?_
  refine zA_iconst (nI 3) dX10_isNight_2 ic_3 ?_
  refine zA_cSi (ct_isWithin g _ _ _ n (nI 0) (nI 3)) calX10_isWithin stX10_isWithin lX10_113 dX10_isNight_3 (by decide) (by simp [Value.category]) rfl (Nat.le_refl _) (Nat.le_refl _) (fun zz gi' gl' gr' ⟨hz, e1, e2, e3⟩ => ?_)
  subst hz e1 e2 e3
  exact zB_zret rfl dX10_isNight_6 (zb_01 _) (⟨rfl, rfl, rfl, rfl⟩)
theorem ct_isShut (g : zm_G) {sh : List zm_K} (gi : zm_I) (gl : zm_J) (gr : zm_R) (n : Int32)  : zC_i g yX10_isShut mX10_isShut 1 [.int n] sh gi gl gr (fun z gi' gl' gr' => z = zb (nI 0 ≤ n ∧ n ≤ nI 255) ∧ gi' = gi ∧ gl' = gl ∧ gr' = gr) := by
  refine zC_i_of [some (.int n)] (by decide) rfl rfl (Nat.le_of_ble_eq_true rfl) (fun x => ?_)
  refine zA_iload_0 dX10_isShut_0 ?_
  refine zA_iconst (nI 0) dX10_isShut_1 ic_0 ?_
  refine zA_sipush (nI 255) dX10_isShut_2 sc_255 ?_
  refine zA_cSi (ct_isWithin g _ _ _ n (nI 0) (nI 255)) calX10_isWithin stX10_isWithin lX10_113 dX10_isShut_5 (by decide) (by simp [Value.category]) rfl (Nat.le_refl _) (Nat.le_refl _) (fun zz gi' gl' gr' ⟨hz, e1, e2, e3⟩ => ?_)
  subst hz e1 e2 e3
  exact zB_zret rfl dX10_isShut_8 (zb_01 _) (⟨rfl, rfl, rfl, rfl⟩)
theorem ct_hasVillage (g : zm_G) (gi : zm_I) (gl : zm_J) (r : Nat) (n : Int32)  : zC_i g yX3_hasVillage mX3_hasVillage 1 [.ref 3, .int n] zSH gi gl (zRT r) (fun z gi' gl' gr' => z = zb (nI 0 ≤ n ∧ n ≤ gi 3 3 - nI 1) ∧ gi' = gi ∧ gl' = gl ∧ gr' = zRT r) := by
  refine zC_i_of [some (.ref 3), some (.int n)] (by decide) rfl rfl (Nat.le_of_ble_eq_true rfl) (fun x => ?_)
  refine zA_iload_1 dX3_hasVillage_0 ?_
  refine zA_iconst (nI 0) dX3_hasVillage_1 ic_0 ?_
  refine zA_aload_0 dX3_hasVillage_2 ?_
  refine zA_getI sh_3 fX3_30 dX3_hasVillage_3 rfl rfl ?_
  refine zA_iconst (nI 1) dX3_hasVillage_6 ic_1 ?_
  refine zA_isub dX3_hasVillage_7 ?_
  refine zA_cSi (ct_isWithin g _ _ _ n (nI 0) (gi 3 3 - nI 1)) calX10_isWithin stX10_isWithin lX3_34 dX3_hasVillage_8 (by decide) (by simp [Value.category]) rfl (Nat.le_refl _) (Nat.le_refl _) (fun zz gi' gl' gr' ⟨hz, e1, e2, e3⟩ => ?_)
  subst hz e1 e2 e3
  exact zB_zret rfl dX3_hasVillage_11 (zb_01 _) (⟨rfl, rfl, rfl, rfl⟩)
theorem ct_hasVan (g : zm_G) (gi : zm_I) (gl : zm_J) (r : Nat) (n : Int32)  : zC_i g yX1_hasVan mX1_hasVan 1 [.ref 19, .int n] zSH gi gl (zRT r) (fun z gi' gl' gr' => z = zb (nI 0 ≤ n ∧ n ≤ gi 19 3 - nI 1) ∧ gi' = gi ∧ gl' = gl ∧ gr' = zRT r) := by
  refine zC_i_of [some (.ref 19), some (.int n)] (by decide) rfl rfl (Nat.le_of_ble_eq_true rfl) (fun x => ?_)
  refine zA_iload_1 dX1_hasVan_0 ?_
  refine zA_iconst (nI 0) dX1_hasVan_1 ic_0 ?_
  refine zA_aload_0 dX1_hasVan_2 ?_
  refine zA_getI sh_19 fX1_23 dX1_hasVan_3 rfl rfl ?_
  refine zA_iconst (nI 1) dX1_hasVan_6 ic_1 ?_
  refine zA_isub dX1_hasVan_7 ?_
  refine zA_cSi (ct_isWithin g _ _ _ n (nI 0) (gi 19 3 - nI 1)) calX10_isWithin stX10_isWithin lX1_27 dX1_hasVan_8 (by decide) (by simp [Value.category]) rfl (Nat.le_refl _) (Nat.le_refl _) (fun zz gi' gl' gr' ⟨hz, e1, e2, e3⟩ => ?_)
  subst hz e1 e2 e3
  exact zB_zret rfl dX1_hasVan_11 (zb_01 _) (⟨rfl, rfl, rfl, rfl⟩)
theorem ct_hasPrint (g : zm_G) (gi : zm_I) (gl : zm_J) (r : Nat) (n : Int32)  : zC_i g yX1_hasPrint mX1_hasPrint 1 [.ref 19, .int n] zSH gi gl (zRT r) (fun z gi' gl' gr' => z = zb (nI 0 ≤ n ∧ n ≤ gi 19 4 - nI 1) ∧ gi' = gi ∧ gl' = gl ∧ gr' = zRT r) := by
  refine zC_i_of [some (.ref 19), some (.int n)] (by decide) rfl rfl (Nat.le_of_ble_eq_true rfl) (fun x => ?_)
  refine zA_iload_1 dX1_hasPrint_0 ?_
  refine zA_iconst (nI 0) dX1_hasPrint_1 ic_0 ?_
  refine zA_aload_0 dX1_hasPrint_2 ?_
  refine zA_getI sh_19 fX1_31 dX1_hasPrint_3 rfl rfl ?_
  refine zA_iconst (nI 1) dX1_hasPrint_6 ic_1 ?_
  refine zA_isub dX1_hasPrint_7 ?_
  refine zA_cSi (ct_isWithin g _ _ _ n (nI 0) (gi 19 4 - nI 1)) calX10_isWithin stX10_isWithin lX1_27 dX1_hasPrint_8 (by decide) (by simp [Value.category]) rfl (Nat.le_refl _) (Nat.le_refl _) (fun zz gi' gl' gr' ⟨hz, e1, e2, e3⟩ => ?_)
  subst hz e1 e2 e3
  exact zB_zret rfl dX1_hasPrint_11 (zb_01 _) (⟨rfl, rfl, rfl, rfl⟩)
