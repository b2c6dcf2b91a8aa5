/-! ===== the reference ===== -/
theorem ct_rIsIn (g : zm_G) {sh : List zm_K} (gi : zm_I) (gl : zm_J) (gr : zm_R) (n lo hi : Int32)  : zC_i g yX11_isIn mX11_isIn 0 [.int n, .int lo, .int hi] sh gi gl gr (fun z gi' gl' gr' => z = zb (lo ≤ n ∧ n ≤ hi) ∧ gi' = gi ∧ gl' = gl ∧ gr' = gr) := by
  refine zC_i_of [some (.int n), some (.int lo), some (.int hi)] (by decide) rfl rfl (Nat.le_of_ble_eq_true rfl) (fun x => ?_)
  refine zA_iload_0 dX11_isIn_0 ?_
  refine zA_iload_1 dX11_isIn_1 ?_
  refine zA_icmp_lt 14 dX11_isIn_2 (by decide) (fun h0 => ?_) (fun h0 => ?_)
  · refine zA_iconst (nI 0) dX11_isIn_14 ic_0 ?_
    exact zB_zret rfl dX11_isIn_15 (by decide) (⟨(zb_f (fun q => by first | exact absurd h0 (Int32.not_lt.mpr q.1) | exact absurd h1 (Int32.not_lt.mpr q.2))).symm, rfl, rfl, rfl⟩)
  · refine zA_iload_0 dX11_isIn_5 ?_
    refine zA_iload_2 dX11_isIn_6 ?_
    refine zA_icmp_gt 14 dX11_isIn_7 (by decide) (fun h1 => ?_) (fun h1 => ?_)
    · refine zA_iconst (nI 0) dX11_isIn_14 ic_0 ?_
      exact zB_zret rfl dX11_isIn_15 (by decide) (⟨(zb_f (fun q => by first | exact absurd h0 (Int32.not_lt.mpr q.1) | exact absurd h1 (Int32.not_lt.mpr q.2))).symm, rfl, rfl, rfl⟩)
    · refine zA_iconst (nI 1) dX11_isIn_10 ic_1 ?_
      refine zA_goto 15 dX11_isIn_11 (by decide) ?_
      exact zB_zret rfl dX11_isIn_15 (by decide) (⟨(zb_t ⟨Int32.not_lt.mp h0, Int32.not_lt.mp h1⟩).symm, rfl, rfl, rfl⟩)
theorem i32_lt_succ {n : Int32} {k : Nat} (hk : k + 1 < 2 ^ 31) : n < nI (k + 1) ↔ n ≤ nI k := by
  rw [Int32.lt_iff_toInt_lt, Int32.le_iff_toInt_le, nI_toInt (by omega), nI_toInt (by omega)]
  omega
theorem ct_risNight (g : zm_G) {sh : List zm_K} (gi : zm_I) (gl : zm_J) (gr : zm_R) (n : Int32)  : zC_i g yX11_isNight mX11_isNight 0 [.int n] sh gi gl gr (fun z gi' gl' gr' => z = zb (nI 0 ≤ n ∧ n ≤ nI 3) ∧ gi' = gi ∧ gl' = gl ∧ gr' = gr) := by
  refine zC_i_of [some (.int n)] (by decide) rfl rfl (Nat.le_of_ble_eq_true rfl) (fun x => ?_)
  refine zA_iload_0 dX11_isNight_0 ?_
  refine zA_if_lt 13 dX11_isNight_1 (by decide) (fun h0 => ?_) (fun h0 => ?_)
  · refine zA_iconst (nI 0) dX11_isNight_13 ic_0 ?_
    exact zB_zret rfl dX11_isNight_14 (by decide) (⟨(zb_f (fun q => by first | exact absurd h0 (Int32.not_lt.mpr q.1) | exact absurd ((i32_lt_succ (k := 3) (by decide)).mpr q.2) (Int32.not_lt.mpr h1))).symm, rfl, rfl, rfl⟩)
  · refine zA_iload_0 dX11_isNight_4 ?_
    refine zA_iconst (nI 4) dX11_isNight_5 ic_4 ?_
    refine zA_icmp_ge 13 dX11_isNight_6 (by decide) (fun h1 => ?_) (fun h1 => ?_)
    · refine zA_iconst (nI 0) dX11_isNight_13 ic_0 ?_
      exact zB_zret rfl dX11_isNight_14 (by decide) (⟨(zb_f (fun q => by first | exact absurd h0 (Int32.not_lt.mpr q.1) | exact absurd ((i32_lt_succ (k := 3) (by decide)).mpr q.2) (Int32.not_lt.mpr h1))).symm, rfl, rfl, rfl⟩)
    · refine zA_iconst (nI 1) dX11_isNight_9 ic_1 ?_
      refine zA_goto 14 dX11_isNight_10 (by decide) ?_
      exact zB_zret rfl dX11_isNight_14 (by decide) (⟨(zb_t ⟨Int32.not_lt.mp h0, (i32_lt_succ (k := 3) (by decide)).mp (Int32.not_le.mp h1)⟩).symm, rfl, rfl, rfl⟩)
theorem ct_risShut (g : zm_G) {sh : List zm_K} (gi : zm_I) (gl : zm_J) (gr : zm_R) (n : Int32)  : zC_i g yX11_isShut mX11_isShut 0 [.int n] sh gi gl gr (fun z gi' gl' gr' => z = zb (nI 0 ≤ n ∧ n ≤ nI 255) ∧ gi' = gi ∧ gl' = gl ∧ gr' = gr) := by
  refine zC_i_of [some (.int n)] (by decide) rfl rfl (Nat.le_of_ble_eq_true rfl) (fun x => ?_)
  refine zA_iload_0 dX11_isShut_0 ?_
  refine zA_if_lt 15 dX11_isShut_1 (by decide) (fun h0 => ?_) (fun h0 => ?_)
  · refine zA_iconst (nI 0) dX11_isShut_15 ic_0 ?_
    exact zB_zret rfl dX11_isShut_16 (by decide) (⟨(zb_f (fun q => by first | exact absurd h0 (Int32.not_lt.mpr q.1) | exact absurd ((i32_lt_succ (k := 255) (by decide)).mpr q.2) (Int32.not_lt.mpr h1))).symm, rfl, rfl, rfl⟩)
  · refine zA_iload_0 dX11_isShut_4 ?_
    refine zA_sipush (nI 256) dX11_isShut_5 sc_256 ?_
    refine zA_icmp_ge 15 dX11_isShut_8 (by decide) (fun h1 => ?_) (fun h1 => ?_)
    · refine zA_iconst (nI 0) dX11_isShut_15 ic_0 ?_
      exact zB_zret rfl dX11_isShut_16 (by decide) (⟨(zb_f (fun q => by first | exact absurd h0 (Int32.not_lt.mpr q.1) | exact absurd ((i32_lt_succ (k := 255) (by decide)).mpr q.2) (Int32.not_lt.mpr h1))).symm, rfl, rfl, rfl⟩)
    · refine zA_iconst (nI 1) dX11_isShut_11 ic_1 ?_
      refine zA_goto 16 dX11_isShut_12 (by decide) ?_
      exact zB_zret rfl dX11_isShut_16 (by decide) (⟨(zb_t ⟨Int32.not_lt.mp h0, (i32_lt_succ (k := 255) (by decide)).mp (Int32.not_le.mp h1)⟩).symm, rfl, rfl, rfl⟩)
theorem ct_risVillage (g : zm_G) (gi : zm_I) (gl : zm_J) (r : Nat) {V : Nat} (hV : gi 87 3 = nI V) (hv : V < 2 ^ 30) (n : Int32)  : zC_i g yX11_isVillage mX11_isVillage 0 [.ref 87, .int n] zSH gi gl (zRT r) (fun z gi' gl' gr' => z = zb (zin V n) ∧ gi' = gi ∧ gl' = gl ∧ gr' = zRT r) := by
  refine zC_i_of [some (.ref 87), some (.int n)] (by decide) rfl rfl (Nat.le_of_ble_eq_true rfl) (fun x => ?_)
  refine zA_iload_1 dX11_isVillage_0 ?_
  refine zA_if_lt 16 dX11_isVillage_1 (by decide) (fun h0 => ?_) (fun h0 => ?_)
  · refine zA_iconst (nI 0) dX11_isVillage_16 ic_0 ?_
    exact zB_zret rfl dX11_isVillage_17 (by decide) (⟨(zb_f (fun q => by first | exact absurd h0 (Int32.not_lt.mpr q.1) | exact absurd q.2 (Int32.not_lt.mpr h1))).symm, rfl, rfl, rfl⟩)
  · refine zA_iload_1 dX11_isVillage_4 ?_
    refine zA_aload_0 dX11_isVillage_5 ?_
    refine zA_getI (v := (nI V)) sh_87 fX11_169 dX11_isVillage_6 rfl hV ?_
    refine zA_icmp_ge 16 dX11_isVillage_9 (by decide) (fun h1 => ?_) (fun h1 => ?_)
    · refine zA_iconst (nI 0) dX11_isVillage_16 ic_0 ?_
      exact zB_zret rfl dX11_isVillage_17 (by decide) (⟨(zb_f (fun q => by first | exact absurd h0 (Int32.not_lt.mpr q.1) | exact absurd q.2 (Int32.not_lt.mpr h1))).symm, rfl, rfl, rfl⟩)
    · refine zA_iconst (nI 1) dX11_isVillage_12 ic_1 ?_
      refine zA_goto 17 dX11_isVillage_13 (by decide) ?_
      exact zB_zret rfl dX11_isVillage_17 (by decide) (⟨(zb_t ⟨Int32.not_lt.mp h0, Int32.not_le.mp h1⟩).symm, rfl, rfl, rfl⟩)
theorem ct_risVan (g : zm_G) (gi : zm_I) (gl : zm_J) (r : Nat) {V : Nat} (hV : gi 87 12 = nI V) (hv : V < 2 ^ 30) (n : Int32)  : zC_i g yX11_isVan mX11_isVan 0 [.ref 87, .int n] zSH gi gl (zRT r) (fun z gi' gl' gr' => z = zb (zin V n) ∧ gi' = gi ∧ gl' = gl ∧ gr' = zRT r) := by
  refine zC_i_of [some (.ref 87), some (.int n)] (by decide) rfl rfl (Nat.le_of_ble_eq_true rfl) (fun x => ?_)
  refine zA_iload_1 dX11_isVan_0 ?_
  refine zA_if_lt 16 dX11_isVan_1 (by decide) (fun h0 => ?_) (fun h0 => ?_)
  · refine zA_iconst (nI 0) dX11_isVan_16 ic_0 ?_
    exact zB_zret rfl dX11_isVan_17 (by decide) (⟨(zb_f (fun q => by first | exact absurd h0 (Int32.not_lt.mpr q.1) | exact absurd q.2 (Int32.not_lt.mpr h1))).symm, rfl, rfl, rfl⟩)
  · refine zA_iload_1 dX11_isVan_4 ?_
    refine zA_aload_0 dX11_isVan_5 ?_
    refine zA_getI (v := (nI V)) sh_87 fX11_186 dX11_isVan_6 rfl hV ?_
    refine zA_icmp_ge 16 dX11_isVan_9 (by decide) (fun h1 => ?_) (fun h1 => ?_)
    · refine zA_iconst (nI 0) dX11_isVan_16 ic_0 ?_
      exact zB_zret rfl dX11_isVan_17 (by decide) (⟨(zb_f (fun q => by first | exact absurd h0 (Int32.not_lt.mpr q.1) | exact absurd q.2 (Int32.not_lt.mpr h1))).symm, rfl, rfl, rfl⟩)
    · refine zA_iconst (nI 1) dX11_isVan_12 ic_1 ?_
      refine zA_goto 17 dX11_isVan_13 (by decide) ?_
      exact zB_zret rfl dX11_isVan_17 (by decide) (⟨(zb_t ⟨Int32.not_lt.mp h0, Int32.not_le.mp h1⟩).symm, rfl, rfl, rfl⟩)
theorem ct_risPrint (g : zm_G) (gi : zm_I) (gl : zm_J) (r : Nat) {V : Nat} (hV : gi 87 15 = nI V) (hv : V < 2 ^ 30) (n : Int32)  : zC_i g yX11_isPrint mX11_isPrint 0 [.ref 87, .int n] zSH gi gl (zRT r) (fun z gi' gl' gr' => z = zb (zin V n) ∧ gi' = gi ∧ gl' = gl ∧ gr' = zRT r) := by
  refine zC_i_of [some (.ref 87), some (.int n)] (by decide) rfl rfl (Nat.le_of_ble_eq_true rfl) (fun x => ?_)
  refine zA_iload_1 dX11_isPrint_0 ?_
  refine zA_if_lt 16 dX11_isPrint_1 (by decide) (fun h0 => ?_) (fun h0 => ?_)
  · refine zA_iconst (nI 0) dX11_isPrint_16 ic_0 ?_
    exact zB_zret rfl dX11_isPrint_17 (by decide) (⟨(zb_f (fun q => by first | exact absurd h0 (Int32.not_lt.mpr q.1) | exact absurd q.2 (Int32.not_lt.mpr h1))).symm, rfl, rfl, rfl⟩)
  · refine zA_iload_1 dX11_isPrint_4 ?_
    refine zA_aload_0 dX11_isPrint_5 ?_
    refine zA_getI (v := (nI V)) sh_87 fX11_192 dX11_isPrint_6 rfl hV ?_
    refine zA_icmp_ge 16 dX11_isPrint_9 (by decide) (fun h1 => ?_) (fun h1 => ?_)
    · refine zA_iconst (nI 0) dX11_isPrint_16 ic_0 ?_
      exact zB_zret rfl dX11_isPrint_17 (by decide) (⟨(zb_f (fun q => by first | exact absurd h0 (Int32.not_lt.mpr q.1) | exact absurd q.2 (Int32.not_lt.mpr h1))).symm, rfl, rfl, rfl⟩)
    · refine zA_iconst (nI 1) dX11_isPrint_12 ic_1 ?_
      refine zA_goto 17 dX11_isPrint_13 (by decide) ?_
      exact zB_zret rfl dX11_isPrint_17 (by decide) (⟨(zb_t ⟨Int32.not_lt.mp h0, Int32.not_le.mp h1⟩).symm, rfl, rfl, rfl⟩)
theorem ct_rThrown (g : zm_G) (gi : zm_I) (gl : zm_J) (r : Nat)  : zC_i g yX11_thrown mX11_thrown 0 [.ref 87] zSH gi gl (zRT r) (fun z gi' gl' gr' => z = gi 87 2 ∧ gi' = gi ∧ gl' = gl ∧ gr' = zRT r) := by
  refine zC_i_of [some (.ref 87)] (by decide) rfl rfl (Nat.le_of_ble_eq_true rfl) (fun x => ?_)
  refine zA_aload_0 dX11_thrown_0 ?_
  refine zA_getI (v := (gi 87 2)) sh_87 fX11_163 dX11_thrown_1 rfl rfl ?_
  exact zB_iret rfl dX11_thrown_4 (⟨rfl, rfl, rfl, rfl⟩)
theorem ct_rFails (g : zm_G) (gi : zm_I) (gl : zm_J) (r : Nat) (n : Int32)  : zC_i g yX11_fails mX11_fails 0 [.ref 87, .int n] zSH gi gl (zRT r) (fun z gi' gl' gr' => z = nI 0 ∧ gi' = zs gi 87 2 n ∧ gl' = gl ∧ gr' = zRT r) := by
  refine zC_i_of [some (.ref 87), some (.int n)] (by decide) rfl rfl (Nat.le_of_ble_eq_true rfl) (fun x => ?_)
  refine zA_aload_0 dX11_fails_0 ?_
  refine zA_iload_1 dX11_fails_1 ?_
  refine zS_putI sh_87 fX11_163 dX11_fails_2 rfl rfl ?_
  refine zA_iconst (nI 0) dX11_fails_5 ic_0 ?_
  exact zB_iret rfl dX11_fails_6 (⟨rfl, rfl, rfl, rfl⟩)
def rVil (gi : zm_I) (V : Nat) (p s t c : Int32) : zm_I := zs (zs (zs (zs (zs (zs (zs (zs (zs (zs gi 87 2 (nI 0)) 89 (8 * V) p) 89 (8 * V + 1) s) 89 (8 * V + 2) t) 89 (8 * V + 3) c) 89 (8 * V + 4) (nI 50)) 89 (8 * V + 5) (nI 50)) 89 (8 * V + 6) (nI 50)) 89 (8 * V + 7) (nI 50)) 87 3 (nI (V + 1))
theorem ct_rVillage (g : zm_G) (gi : zm_I) (gl : zm_J) (r : Nat) {V : Nat} (hV : gi 87 3 = nI V) (hV8 : V ≤ 8) (p s t c : Int32)  : zC_i g yX11_village mX11_village 1 [.ref 87, .int p, .int s, .int t, .int c] zSH gi gl (zRT r) (fun z gi' gl' gr' => (((nI 1 ≤ p ∧ p ≤ nI 999) ∧ (nI 1 ≤ s ∧ s ≤ nI 500) ∧ (nI 0 ≤ t ∧ t ≤ nI 9) ∧ (nI 0 ≤ c ∧ c ≤ nI 100) ∧ V < 8) ∧ z = nI V ∧ gi' = rVil gi V p s t c ∧ gl' = gl ∧ gr' = zRT r) ∨ (¬ (((nI 1 ≤ p ∧ p ≤ nI 999) ∧ (nI 1 ≤ s ∧ s ≤ nI 500) ∧ (nI 0 ≤ t ∧ t ≤ nI 9) ∧ (nI 0 ≤ c ∧ c ≤ nI 100) ∧ V < 8)) ∧ z = -1 ∧ gi' = zs gi 87 2 (nI 0) ∧ gl' = gl ∧ gr' = zRT r)) := by
  refine zC_i_of [some (.ref 87), some (.int p), some (.int s), some (.int t), some (.int c), none, none] (by decide) rfl rfl (Nat.le_of_ble_eq_true rfl) (fun x => ?_)
  refine zA_aload_0 dX11_village_0 ?_
  refine zA_iconst (nI 0) dX11_village_1 ic_0 ?_
  refine zS_putI sh_87 fX11_163 dX11_village_2 rfl rfl ?_
  refine zA_aload_0 dX11_village_5 ?_
  refine zA_getI (v := (nI V)) sh_87 fX11_169 dX11_village_6 rfl hV ?_
  refine zA_bipush (nI 8) dX11_village_9 bc_8 ?_
  refine zA_icmp_eqN 57 dX11_village_11 (by decide) (by omega) (by omega) (fun g0 => ?_) (fun g0 => ?_)
  · refine zA_iconst (-1) dX11_village_57 ic_m1 ?_
    exact zB_iret rfl dX11_village_58 (Or.inr ⟨fun q => absurd q.2.2.2.2 (by omega), rfl, rfl, rfl, rfl⟩)
  · refine zA_iload_1 dX11_village_14 ?_
    refine zA_iconst (nI 1) dX11_village_15 ic_1 ?_
    refine zA_sipush (nI 999) dX11_village_16 sc_999 ?_
    refine zA_cSi (ct_rIsIn g _ _ _ p ((nI 1)) ((nI 999))) calX11_isIn stX11_isIn lX11_172 dX11_village_19 (by decide) (by simp [Value.category]) rfl (Nat.le_refl _) (Nat.le_refl _) (fun zz gi' gl' gr' ⟨hz, q1, q2, q3⟩ => ?_)
    rw [hz, q1, q2, q3]
    clear hz q1 q2 q3
    refine zA_if_eqB 57 dX11_village_22 (by decide) (fun g1 => ?_) (fun g1 => ?_)
    · refine zA_iconst (-1) dX11_village_57 ic_m1 ?_
      exact zB_iret rfl dX11_village_58 (Or.inr ⟨fun q => g1 q.1, rfl, rfl, rfl, rfl⟩)
    · refine zA_iload_2 dX11_village_25 ?_
      refine zA_iconst (nI 1) dX11_village_26 ic_1 ?_
      refine zA_sipush (nI 500) dX11_village_27 sc_500 ?_
      refine zA_cSi (ct_rIsIn g _ _ _ s ((nI 1)) ((nI 500))) calX11_isIn stX11_isIn lX11_172 dX11_village_30 (by decide) (by simp [Value.category]) rfl (Nat.le_refl _) (Nat.le_refl _) (fun zz gi' gl' gr' ⟨hz, q1, q2, q3⟩ => ?_)
      rw [hz, q1, q2, q3]
      clear hz q1 q2 q3
      refine zA_if_eqB 57 dX11_village_33 (by decide) (fun g2 => ?_) (fun g2 => ?_)
      · refine zA_iconst (-1) dX11_village_57 ic_m1 ?_
        exact zB_iret rfl dX11_village_58 (Or.inr ⟨fun q => g2 q.2.1, rfl, rfl, rfl, rfl⟩)
      · refine zA_iload_3 dX11_village_36 ?_
        refine zA_iconst (nI 0) dX11_village_37 ic_0 ?_
        refine zA_bipush (nI 9) dX11_village_38 bc_9 ?_
        refine zA_cSi (ct_rIsIn g _ _ _ t ((nI 0)) ((nI 9))) calX11_isIn stX11_isIn lX11_172 dX11_village_40 (by decide) (by simp [Value.category]) rfl (Nat.le_refl _) (Nat.le_refl _) (fun zz gi' gl' gr' ⟨hz, q1, q2, q3⟩ => ?_)
        rw [hz, q1, q2, q3]
        clear hz q1 q2 q3
        refine zA_if_eqB 57 dX11_village_43 (by decide) (fun g3 => ?_) (fun g3 => ?_)
        · refine zA_iconst (-1) dX11_village_57 ic_m1 ?_
          exact zB_iret rfl dX11_village_58 (Or.inr ⟨fun q => g3 q.2.2.1, rfl, rfl, rfl, rfl⟩)
        · refine zA_iload_4 dX11_village_46 ?_
          refine zA_iconst (nI 0) dX11_village_48 ic_0 ?_
          refine zA_bipush (nI 100) dX11_village_49 bc_100 ?_
          refine zA_cSi (ct_rIsIn g _ _ _ c ((nI 0)) ((nI 100))) calX11_isIn stX11_isIn lX11_172 dX11_village_51 (by decide) (by simp [Value.category]) rfl (Nat.le_refl _) (Nat.le_refl _) (fun zz gi' gl' gr' ⟨hz, q1, q2, q3⟩ => ?_)
          rw [hz, q1, q2, q3]
          clear hz q1 q2 q3
          refine zA_if_neB 59 dX11_village_54 (by decide) (fun g4 => ?_) (fun g4 => ?_)
          · refine zA_bipush (nI 8) dX11_village_59 bc_8 ?_
            refine zA_aload_0 dX11_village_61 ?_
            refine zA_getI (v := (nI V)) sh_87 fX11_169 dX11_village_62 rfl hV ?_
            refine zA_imulN dX11_village_65 ?_
            refine zA_istore_5 dX11_village_66 rfl ?_
            refine zA_aload_0 dX11_village_68 ?_
            refine zA_getR sh_87 fX11_13 dX11_village_69 rfl (rt_87_4 _) ?_
            refine zA_iload_5 dX11_village_72 ?_
            refine zA_iload_1 dX11_village_74 ?_
            refine zS_iast (8 * V) sh_89 dX11_village_75 rfl (by omega) (by decide) ?_
            refine zA_aload_0 dX11_village_76 ?_
            refine zA_getR sh_87 fX11_13 dX11_village_77 rfl (rt_87_4 _) ?_
            refine zA_iload_5 dX11_village_80 ?_
            refine zA_iconst (nI 1) dX11_village_82 ic_1 ?_
            refine zA_iaddN dX11_village_83 ?_
            refine zA_iload_2 dX11_village_84 ?_
            refine zS_iast ((8 * V) + 1) sh_89 dX11_village_85 rfl (by omega) (by decide) ?_
            refine zA_aload_0 dX11_village_86 ?_
            refine zA_getR sh_87 fX11_13 dX11_village_87 rfl (rt_87_4 _) ?_
            refine zA_iload_5 dX11_village_90 ?_
            refine zA_iconst (nI 2) dX11_village_92 ic_2 ?_
            refine zA_iaddN dX11_village_93 ?_
            refine zA_iload_3 dX11_village_94 ?_
            refine zS_iast ((8 * V) + 2) sh_89 dX11_village_95 rfl (by omega) (by decide) ?_
            refine zA_aload_0 dX11_village_96 ?_
            refine zA_getR sh_87 fX11_13 dX11_village_97 rfl (rt_87_4 _) ?_
            refine zA_iload_5 dX11_village_100 ?_
            refine zA_iconst (nI 3) dX11_village_102 ic_3 ?_
            refine zA_iaddN dX11_village_103 ?_
            refine zA_iload_4 dX11_village_104 ?_
            refine zS_iast ((8 * V) + 3) sh_89 dX11_village_106 rfl (by omega) (by decide) ?_
            refine zA_iconst (nI 4) dX11_village_107 ic_4 ?_
            refine zA_istore_6 dX11_village_108 rfl ?_
            refine zA_iload_6 dX11_village_110 ?_
            refine zA_bipush (nI 8) dX11_village_112 bc_8 ?_
            refine zA_icmp_geN 135 dX11_village_114 (by decide) (by decide) (by decide) (fun hh => absurd hh (by decide)) (fun _ => ?_)
            refine zA_aload_0 dX11_village_117 ?_
            refine zA_getR sh_87 fX11_13 dX11_village_118 rfl (rt_87_4 _) ?_
            refine zA_iload_5 dX11_village_121 ?_
            refine zA_iload_6 dX11_village_123 ?_
            refine zA_iaddN dX11_village_125 ?_
            refine zA_bipush (nI 50) dX11_village_126 bc_50 ?_
            refine zS_iast ((8 * V) + 4) sh_89 dX11_village_128 rfl (by omega) (by decide) ?_
            refine zA_iinc_6 (v := nI (4 + 1)) dX11_village_129 (zn_inc _) rfl ?_
            refine zA_goto 110 dX11_village_132 (by decide) ?_
            refine zA_iload_6 dX11_village_110 ?_
            refine zA_bipush (nI 8) dX11_village_112 bc_8 ?_
            refine zA_icmp_geN 135 dX11_village_114 (by decide) (by decide) (by decide) (fun hh => absurd hh (by decide)) (fun _ => ?_)
            refine zA_aload_0 dX11_village_117 ?_
            refine zA_getR sh_87 fX11_13 dX11_village_118 rfl (rt_87_4 _) ?_
            refine zA_iload_5 dX11_village_121 ?_
            refine zA_iload_6 dX11_village_123 ?_
            refine zA_iaddN dX11_village_125 ?_
            refine zA_bipush (nI 50) dX11_village_126 bc_50 ?_
            refine zS_iast ((8 * V) + 5) sh_89 dX11_village_128 rfl (by omega) (by decide) ?_
            refine zA_iinc_6 (v := nI (5 + 1)) dX11_village_129 (zn_inc _) rfl ?_
            refine zA_goto 110 dX11_village_132 (by decide) ?_
            refine zA_iload_6 dX11_village_110 ?_
            refine zA_bipush (nI 8) dX11_village_112 bc_8 ?_
            refine zA_icmp_geN 135 dX11_village_114 (by decide) (by decide) (by decide) (fun hh => absurd hh (by decide)) (fun _ => ?_)
            refine zA_aload_0 dX11_village_117 ?_
            refine zA_getR sh_87 fX11_13 dX11_village_118 rfl (rt_87_4 _) ?_
            refine zA_iload_5 dX11_village_121 ?_
            refine zA_iload_6 dX11_village_123 ?_
            refine zA_iaddN dX11_village_125 ?_
            refine zA_bipush (nI 50) dX11_village_126 bc_50 ?_
            refine zS_iast ((8 * V) + 6) sh_89 dX11_village_128 rfl (by omega) (by decide) ?_
            refine zA_iinc_6 (v := nI (6 + 1)) dX11_village_129 (zn_inc _) rfl ?_
            refine zA_goto 110 dX11_village_132 (by decide) ?_
            refine zA_iload_6 dX11_village_110 ?_
            refine zA_bipush (nI 8) dX11_village_112 bc_8 ?_
            refine zA_icmp_geN 135 dX11_village_114 (by decide) (by decide) (by decide) (fun hh => absurd hh (by decide)) (fun _ => ?_)
            refine zA_aload_0 dX11_village_117 ?_
            refine zA_getR sh_87 fX11_13 dX11_village_118 rfl (rt_87_4 _) ?_
            refine zA_iload_5 dX11_village_121 ?_
            refine zA_iload_6 dX11_village_123 ?_
            refine zA_iaddN dX11_village_125 ?_
            refine zA_bipush (nI 50) dX11_village_126 bc_50 ?_
            refine zS_iast ((8 * V) + 7) sh_89 dX11_village_128 rfl (by omega) (by decide) ?_
            refine zA_iinc_6 (v := nI (7 + 1)) dX11_village_129 (zn_inc _) rfl ?_
            refine zA_goto 110 dX11_village_132 (by decide) ?_
            refine zA_iload_6 dX11_village_110 ?_
            refine zA_bipush (nI 8) dX11_village_112 bc_8 ?_
            refine zA_icmp_geN 135 dX11_village_114 (by decide) (by decide) (by decide) (fun _ => ?_) (fun hh => absurd hh (by decide))
            refine zA_aload_0 dX11_village_135 ?_
            refine zA_dup dX11_village_136 rfl ?_
            refine zA_getI (v := (nI V)) sh_87 fX11_169 dX11_village_137 rfl hV ?_
            refine zA_iconst (nI 1) dX11_village_140 ic_1 ?_
            refine zA_iaddN dX11_village_141 ?_
            refine zS_putI sh_87 fX11_169 dX11_village_142 rfl rfl ?_
            refine zA_aload_0 dX11_village_145 ?_
            refine zA_getI (v := (nI (V + 1))) sh_87 fX11_169 dX11_village_146 rfl rfl ?_
            refine zA_iconst (nI 1) dX11_village_149 ic_1 ?_
            refine zA_isubN dX11_village_150 (by omega) ?_
            exact zB_iret rfl dX11_village_151 (Or.inl ⟨⟨g1, g2, g3, g4, by omega⟩, rfl, rfl, rfl, rfl⟩)
          · refine zA_iconst (-1) dX11_village_57 ic_m1 ?_
            exact zB_iret rfl dX11_village_58 (Or.inr ⟨fun q => g4 q.2.2.2.1, rfl, rfl, rfl, rfl⟩)
theorem ct_rLike (g : zm_G) (gi : zm_I) (gl : zm_J) (r : Nat) {V : Nat} (hV : gi 87 3 = nI V) (hV8 : V ≤ 8) (a b n : Int32)  : zC_i g yX11_like mX11_like 1 [.ref 87, .int a, .int b, .int n] zSH gi gl (zRT r) (fun z gi' gl' gr' => ((zin V a ∧ (nI 0 ≤ b ∧ b ≤ nI 3) ∧ (nI 0 ≤ n ∧ n ≤ nI 100)) ∧ z = nI 1 ∧ gi' = zs (zs gi 87 2 (nI 0)) 89 (8 * zi a + 4 + zi b) n ∧ gl' = gl ∧ gr' = zRT r) ∨ (¬ ((zin V a ∧ (nI 0 ≤ b ∧ b ≤ nI 3) ∧ (nI 0 ≤ n ∧ n ≤ nI 100))) ∧ z = nI 0 ∧ gi' = zs gi 87 2 (nI 0) ∧ gl' = gl ∧ gr' = zRT r)) := by
  refine zC_i_of [some (.ref 87), some (.int a), some (.int b), some (.int n)] (by decide) rfl rfl (Nat.le_of_ble_eq_true rfl) (fun x => ?_)
  refine zA_aload_0 dX11_like_0 ?_
  refine zA_iconst (nI 0) dX11_like_1 ic_0 ?_
  refine zS_putI sh_87 fX11_163 dX11_like_2 rfl rfl ?_
  refine zA_aload_0 dX11_like_5 ?_
  refine zA_iload_1 dX11_like_6 ?_
  refine zA_cVi (ct_risVillage g (zs gi 87 2 (nI 0)) gl r hV (by omega) a) calX11_isVillage stX11_isVillage lX11_176 dX11_like_7 (by decide) (by simp [Value.category]) rfl (Nat.le_refl _) (Nat.le_refl _) sh_87 rfl (fun zz gi' gl' gr' ⟨hz, q1, q2, q3⟩ => ?_)
  rw [hz, q1, q2, q3]
  clear hz q1 q2 q3
  refine zA_if_eqB 32 dX11_like_10 (by decide) (fun g0 => ?_) (fun g0 => ?_)
  · refine zA_iconst (nI 0) dX11_like_32 ic_0 ?_
    exact zB_zret rfl dX11_like_33 (by decide) (Or.inr ⟨fun q => g0 q.1, rfl, rfl, rfl, rfl⟩)
  · refine zA_iload_2 dX11_like_13 ?_
    refine zA_iconst (nI 0) dX11_like_14 ic_0 ?_
    refine zA_iconst (nI 3) dX11_like_15 ic_3 ?_
    refine zA_cSi (ct_rIsIn g _ _ _ b ((nI 0)) ((nI 3))) calX11_isIn stX11_isIn lX11_172 dX11_like_16 (by decide) (by simp [Value.category]) rfl (Nat.le_refl _) (Nat.le_refl _) (fun zz gi' gl' gr' ⟨hz, q1, q2, q3⟩ => ?_)
    rw [hz, q1, q2, q3]
    clear hz q1 q2 q3
    refine zA_if_eqB 32 dX11_like_19 (by decide) (fun g1 => ?_) (fun g1 => ?_)
    · refine zA_iconst (nI 0) dX11_like_32 ic_0 ?_
      exact zB_zret rfl dX11_like_33 (by decide) (Or.inr ⟨fun q => g1 q.2.1, rfl, rfl, rfl, rfl⟩)
    · refine zA_iload_3 dX11_like_22 ?_
      refine zA_iconst (nI 0) dX11_like_23 ic_0 ?_
      refine zA_bipush (nI 100) dX11_like_24 bc_100 ?_
      refine zA_cSi (ct_rIsIn g _ _ _ n ((nI 0)) ((nI 100))) calX11_isIn stX11_isIn lX11_172 dX11_like_26 (by decide) (by simp [Value.category]) rfl (Nat.le_refl _) (Nat.le_refl _) (fun zz gi' gl' gr' ⟨hz, q1, q2, q3⟩ => ?_)
      rw [hz, q1, q2, q3]
      clear hz q1 q2 q3
      refine zA_if_neB 34 dX11_like_29 (by decide) (fun g2 => ?_) (fun g2 => ?_)
      · obtain ⟨v, hv, rfl⟩ := zin_nat g0 (by omega)
        obtain ⟨k, hk, rfl⟩ := zwi_nat g1 (by omega)
        refine zA_aload_0 dX11_like_34 ?_
        refine zA_getR sh_87 fX11_13 dX11_like_35 rfl (rt_87_4 _) ?_
        refine zA_bipush (nI 8) dX11_like_38 bc_8 ?_
        refine zA_iload_1 dX11_like_40 ?_
        refine zA_imulN dX11_like_41 ?_
        refine zA_iconst (nI 4) dX11_like_42 ic_4 ?_
        refine zA_iaddN dX11_like_43 ?_
        refine zA_iload_2 dX11_like_44 ?_
        refine zA_iaddN dX11_like_45 ?_
        refine zA_iload_3 dX11_like_46 ?_
        refine zS_iast (((8 * v) + 4) + k) sh_89 dX11_like_47 rfl (by omega) (by decide) ?_
        refine zA_iconst (nI 1) dX11_like_48 ic_1 ?_
        exact zB_zret rfl dX11_like_49 (by decide) (Or.inl ⟨⟨g0, g1, g2⟩, rfl, by rw [zi_nI (by omega), zi_nI (by omega)], rfl, rfl⟩)
      · refine zA_iconst (nI 0) dX11_like_32 ic_0 ?_
        exact zB_zret rfl dX11_like_33 (by decide) (Or.inr ⟨fun q => g2 q.2.2, rfl, rfl, rfl, rfl⟩)
theorem ct_rVan (g : zm_G) (gi : zm_I) (gl : zm_J) (r : Nat) {V : Nat} (hV : gi 87 3 = nI V) (hV8 : V ≤ 8) {W : Nat} (hW : gi 87 12 = nI W) (hW3 : W ≤ 3) (v : Int32)  : zC_i g yX11_van mX11_van 1 [.ref 87, .int v] zSH gi gl (zRT r) (fun z gi' gl' gr' => ((zin V v ∧ W < 3) ∧ z = nI W ∧ gi' = zs (zs (zs (zs gi 87 2 (nI 0)) 95 W v) 96 W (nI 0)) 87 12 (nI (W + 1)) ∧ gl' = gl ∧ gr' = zRT r) ∨ (¬ ((zin V v ∧ W < 3)) ∧ z = -1 ∧ gi' = zs gi 87 2 (nI 0) ∧ gl' = gl ∧ gr' = zRT r)) := by
  refine zC_i_of [some (.ref 87), some (.int v)] (by decide) rfl rfl (Nat.le_of_ble_eq_true rfl) (fun x => ?_)
  refine zA_aload_0 dX11_van_0 ?_
  refine zA_iconst (nI 0) dX11_van_1 ic_0 ?_
  refine zS_putI sh_87 fX11_163 dX11_van_2 rfl rfl ?_
  refine zA_aload_0 dX11_van_5 ?_
  refine zA_getI (v := (nI W)) sh_87 fX11_186 dX11_van_6 rfl hW ?_
  refine zA_iconst (nI 3) dX11_van_9 ic_3 ?_
  refine zA_icmp_eqN 21 dX11_van_10 (by decide) (by omega) (by omega) (fun g0 => ?_) (fun g0 => ?_)
  · refine zA_iconst (-1) dX11_van_21 ic_m1 ?_
    exact zB_iret rfl dX11_van_22 (Or.inr ⟨fun q => absurd q.2 (by omega), rfl, rfl, rfl, rfl⟩)
  · refine zA_aload_0 dX11_van_13 ?_
    refine zA_iload_1 dX11_van_14 ?_
    refine zA_cVi (ct_risVillage g (zs gi 87 2 (nI 0)) gl r hV (by omega) v) calX11_isVillage stX11_isVillage lX11_176 dX11_van_15 (by decide) (by simp [Value.category]) rfl (Nat.le_refl _) (Nat.le_refl _) sh_87 rfl (fun zz gi' gl' gr' ⟨hz, q1, q2, q3⟩ => ?_)
    rw [hz, q1, q2, q3]
    clear hz q1 q2 q3
    refine zA_if_neB 23 dX11_van_18 (by decide) (fun g1 => ?_) (fun g1 => ?_)
    · refine zA_aload_0 dX11_van_23 ?_
      refine zA_getR sh_87 fX11_31 dX11_van_24 rfl (rt_87_13 _) ?_
      refine zA_aload_0 dX11_van_27 ?_
      refine zA_getI (v := (nI W)) sh_87 fX11_186 dX11_van_28 rfl hW ?_
      refine zA_iload_1 dX11_van_31 ?_
      refine zS_iast W sh_95 dX11_van_32 rfl (by omega) (by decide) ?_
      refine zA_aload_0 dX11_van_33 ?_
      refine zA_getR sh_87 fX11_34 dX11_van_34 rfl (rt_87_14 _) ?_
      refine zA_aload_0 dX11_van_37 ?_
      refine zA_getI (v := (nI W)) sh_87 fX11_186 dX11_van_38 rfl hW ?_
      refine zA_iconst (nI 0) dX11_van_41 ic_0 ?_
      refine zS_iast W sh_96 dX11_van_42 rfl (by omega) (by decide) ?_
      refine zA_aload_0 dX11_van_43 ?_
      refine zA_dup dX11_van_44 rfl ?_
      refine zA_getI (v := (nI W)) sh_87 fX11_186 dX11_van_45 rfl hW ?_
      refine zA_iconst (nI 1) dX11_van_48 ic_1 ?_
      refine zA_iaddN dX11_van_49 ?_
      refine zS_putI sh_87 fX11_186 dX11_van_50 rfl rfl ?_
      refine zA_aload_0 dX11_van_53 ?_
      refine zA_getI (v := (nI (W + 1))) sh_87 fX11_186 dX11_van_54 rfl rfl ?_
      refine zA_iconst (nI 1) dX11_van_57 ic_1 ?_
      refine zA_isubN dX11_van_58 (by omega) ?_
      exact zB_iret rfl dX11_van_59 (Or.inl ⟨⟨g1, by omega⟩, rfl, rfl, rfl, rfl⟩)
    · refine zA_iconst (-1) dX11_van_21 ic_m1 ?_
      exact zB_iret rfl dX11_van_22 (Or.inr ⟨fun q => g1 q.1, rfl, rfl, rfl, rfl⟩)
theorem ct_rBroken (g : zm_G) (gi : zm_I) (gl : zm_J) (r : Nat) {W : Nat} (hW : gi 87 12 = nI W) (hW3 : W ≤ 3) (a n : Int32)  : zC_i g yX11_broken mX11_broken 1 [.ref 87, .int a, .int n] zSH gi gl (zRT r) (fun z gi' gl' gr' => ((zin W a ∧ (nI 0 ≤ n ∧ n ≤ nI 15)) ∧ z = nI 1 ∧ gi' = zs (zs gi 87 2 (nI 0)) 96 (zi a) n ∧ gl' = gl ∧ gr' = zRT r) ∨ (¬ ((zin W a ∧ (nI 0 ≤ n ∧ n ≤ nI 15))) ∧ z = nI 0 ∧ gi' = zs gi 87 2 (nI 0) ∧ gl' = gl ∧ gr' = zRT r)) := by
  refine zC_i_of [some (.ref 87), some (.int a), some (.int n)] (by decide) rfl rfl (Nat.le_of_ble_eq_true rfl) (fun x => ?_)
  refine zA_aload_0 dX11_broken_0 ?_
  refine zA_iconst (nI 0) dX11_broken_1 ic_0 ?_
  refine zS_putI sh_87 fX11_163 dX11_broken_2 rfl rfl ?_
  refine zA_aload_0 dX11_broken_5 ?_
  refine zA_iload_1 dX11_broken_6 ?_
  refine zA_cVi (ct_risVan g (zs gi 87 2 (nI 0)) gl r hW (by omega) a) calX11_isVan stX11_isVan lX11_189 dX11_broken_7 (by decide) (by simp [Value.category]) rfl (Nat.le_refl _) (Nat.le_refl _) sh_87 rfl (fun zz gi' gl' gr' ⟨hz, q1, q2, q3⟩ => ?_)
  rw [hz, q1, q2, q3]
  clear hz q1 q2 q3
  refine zA_if_eqB 23 dX11_broken_10 (by decide) (fun g0 => ?_) (fun g0 => ?_)
  · refine zA_iconst (nI 0) dX11_broken_23 ic_0 ?_
    exact zB_zret rfl dX11_broken_24 (by decide) (Or.inr ⟨fun q => g0 q.1, rfl, rfl, rfl, rfl⟩)
  · refine zA_iload_2 dX11_broken_13 ?_
    refine zA_iconst (nI 0) dX11_broken_14 ic_0 ?_
    refine zA_bipush (nI 15) dX11_broken_15 bc_15 ?_
    refine zA_cSi (ct_rIsIn g _ _ _ n ((nI 0)) ((nI 15))) calX11_isIn stX11_isIn lX11_172 dX11_broken_17 (by decide) (by simp [Value.category]) rfl (Nat.le_refl _) (Nat.le_refl _) (fun zz gi' gl' gr' ⟨hz, q1, q2, q3⟩ => ?_)
    rw [hz, q1, q2, q3]
    clear hz q1 q2 q3
    refine zA_if_neB 25 dX11_broken_20 (by decide) (fun g1 => ?_) (fun g1 => ?_)
    · obtain ⟨v, hv, rfl⟩ := zin_nat g0 (by omega)
      refine zA_aload_0 dX11_broken_25 ?_
      refine zA_getR sh_87 fX11_34 dX11_broken_26 rfl (rt_87_14 _) ?_
      refine zA_iload_1 dX11_broken_29 ?_
      refine zA_iload_2 dX11_broken_30 ?_
      refine zS_iast v sh_96 dX11_broken_31 rfl (by omega) (by decide) ?_
      refine zA_iconst (nI 1) dX11_broken_32 ic_1 ?_
      exact zB_zret rfl dX11_broken_33 (by decide) (Or.inl ⟨⟨g0, g1⟩, rfl, by rw [zi_nI (by omega)], rfl, rfl⟩)
    · refine zA_iconst (nI 0) dX11_broken_23 ic_0 ?_
      exact zB_zret rfl dX11_broken_24 (by decide) (Or.inr ⟨fun q => g1 q.2, rfl, rfl, rfl, rfl⟩)
def rPr (gi : zm_I) (Pn : Nat) (ge ag mi va ho du fi : Int32) : zm_I := zs (zs (zs (zs (zs (zs (zs (zs (zs gi 87 2 (nI 0)) 97 (7 * Pn) ge) 97 (7 * Pn + 1) ag) 97 (7 * Pn + 2) mi) 97 (7 * Pn + 3) va) 97 (7 * Pn + 4) ho) 97 (7 * Pn + 5) du) 97 (7 * Pn + 6) fi) 87 15 (nI (Pn + 1))
theorem ct_rPrint (g : zm_G) (gi : zm_I) (gl : zm_J) (r : Nat) {V : Nat} (hV : gi 87 3 = nI V) (hV8 : V ≤ 8) {W : Nat} (hW : gi 87 12 = nI W) (hW3 : W ≤ 3) {Pn : Nat} (hP : gi 87 15 = nI Pn) (hP4 : Pn ≤ 4) (ge ag mi va ho du fi : Int32)  : zC_i g yX11_print mX11_print 1 [.ref 87, .int ge, .int ag, .int mi, .int va, .int ho, .int du, .int fi] zSH gi gl (zRT r) (fun z gi' gl' gr' => (((nI 0 ≤ ge ∧ ge ≤ nI 3) ∧ (nI 0 ≤ ag ∧ ag ≤ nI 18) ∧ (nI 10 ≤ mi ∧ mi ≤ nI 240) ∧ zin W va ∧ zin V ho ∧ (nI 0 ≤ du ∧ du ≤ nI 4) ∧ (nI 0 ≤ fi ∧ fi ≤ nI 999) ∧ Pn < 4) ∧ z = nI Pn ∧ gi' = rPr gi Pn ge ag mi va ho du fi ∧ gl' = gl ∧ gr' = zRT r) ∨ (¬ (((nI 0 ≤ ge ∧ ge ≤ nI 3) ∧ (nI 0 ≤ ag ∧ ag ≤ nI 18) ∧ (nI 10 ≤ mi ∧ mi ≤ nI 240) ∧ zin W va ∧ zin V ho ∧ (nI 0 ≤ du ∧ du ≤ nI 4) ∧ (nI 0 ≤ fi ∧ fi ≤ nI 999) ∧ Pn < 4)) ∧ z = -1 ∧ gi' = zs gi 87 2 (nI 0) ∧ gl' = gl ∧ gr' = zRT r)) := by
  refine zC_i_of [some (.ref 87), some (.int ge), some (.int ag), some (.int mi), some (.int va), some (.int ho), some (.int du), some (.int fi), none] (by decide) rfl rfl (Nat.le_of_ble_eq_true rfl) (fun x => ?_)
  refine zA_aload_0 dX11_print_0 ?_
  refine zA_iconst (nI 0) dX11_print_1 ic_0 ?_
  refine zS_putI sh_87 fX11_163 dX11_print_2 rfl rfl ?_
  refine zA_aload_0 dX11_print_5 ?_
  refine zA_getI (v := (nI Pn)) sh_87 fX11_192 dX11_print_6 rfl hP ?_
  refine zA_iconst (nI 4) dX11_print_9 ic_4 ?_
  refine zA_icmp_eqN 84 dX11_print_10 (by decide) (by omega) (by omega) (fun g0 => ?_) (fun g0 => ?_)
  · refine zA_iconst (-1) dX11_print_84 ic_m1 ?_
    exact zB_iret rfl dX11_print_85 (Or.inr ⟨fun q => absurd q.2.2.2.2.2.2.2 (by omega), rfl, rfl, rfl, rfl⟩)
  · refine zA_iload_1 dX11_print_13 ?_
    refine zA_iconst (nI 0) dX11_print_14 ic_0 ?_
    refine zA_iconst (nI 3) dX11_print_15 ic_3 ?_
    refine zA_cSi (ct_rIsIn g _ _ _ ge ((nI 0)) ((nI 3))) calX11_isIn stX11_isIn lX11_172 dX11_print_16 (by decide) (by simp [Value.category]) rfl (Nat.le_refl _) (Nat.le_refl _) (fun zz gi' gl' gr' ⟨hz, q1, q2, q3⟩ => ?_)
    rw [hz, q1, q2, q3]
    clear hz q1 q2 q3
    refine zA_if_eqB 84 dX11_print_19 (by decide) (fun g1 => ?_) (fun g1 => ?_)
    · refine zA_iconst (-1) dX11_print_84 ic_m1 ?_
      exact zB_iret rfl dX11_print_85 (Or.inr ⟨fun q => g1 q.1, rfl, rfl, rfl, rfl⟩)
    · refine zA_iload_2 dX11_print_22 ?_
      refine zA_iconst (nI 0) dX11_print_23 ic_0 ?_
      refine zA_bipush (nI 18) dX11_print_24 bc_18 ?_
      refine zA_cSi (ct_rIsIn g _ _ _ ag ((nI 0)) ((nI 18))) calX11_isIn stX11_isIn lX11_172 dX11_print_26 (by decide) (by simp [Value.category]) rfl (Nat.le_refl _) (Nat.le_refl _) (fun zz gi' gl' gr' ⟨hz, q1, q2, q3⟩ => ?_)
      rw [hz, q1, q2, q3]
      clear hz q1 q2 q3
      refine zA_if_eqB 84 dX11_print_29 (by decide) (fun g2 => ?_) (fun g2 => ?_)
      · refine zA_iconst (-1) dX11_print_84 ic_m1 ?_
        exact zB_iret rfl dX11_print_85 (Or.inr ⟨fun q => g2 q.2.1, rfl, rfl, rfl, rfl⟩)
      · refine zA_iload_3 dX11_print_32 ?_
        refine zA_bipush (nI 10) dX11_print_33 bc_10 ?_
        refine zA_sipush (nI 240) dX11_print_35 sc_240 ?_
        refine zA_cSi (ct_rIsIn g _ _ _ mi ((nI 10)) ((nI 240))) calX11_isIn stX11_isIn lX11_172 dX11_print_38 (by decide) (by simp [Value.category]) rfl (Nat.le_refl _) (Nat.le_refl _) (fun zz gi' gl' gr' ⟨hz, q1, q2, q3⟩ => ?_)
        rw [hz, q1, q2, q3]
        clear hz q1 q2 q3
        refine zA_if_eqB 84 dX11_print_41 (by decide) (fun g3 => ?_) (fun g3 => ?_)
        · refine zA_iconst (-1) dX11_print_84 ic_m1 ?_
          exact zB_iret rfl dX11_print_85 (Or.inr ⟨fun q => g3 q.2.2.1, rfl, rfl, rfl, rfl⟩)
        · refine zA_aload_0 dX11_print_44 ?_
          refine zA_iload_4 dX11_print_45 ?_
          refine zA_cVi (ct_risVan g (zs gi 87 2 (nI 0)) gl r hW (by omega) va) calX11_isVan stX11_isVan lX11_189 dX11_print_47 (by decide) (by simp [Value.category]) rfl (Nat.le_refl _) (Nat.le_refl _) sh_87 rfl (fun zz gi' gl' gr' ⟨hz, q1, q2, q3⟩ => ?_)
          rw [hz, q1, q2, q3]
          clear hz q1 q2 q3
          refine zA_if_eqB 84 dX11_print_50 (by decide) (fun g4 => ?_) (fun g4 => ?_)
          · refine zA_iconst (-1) dX11_print_84 ic_m1 ?_
            exact zB_iret rfl dX11_print_85 (Or.inr ⟨fun q => g4 q.2.2.2.1, rfl, rfl, rfl, rfl⟩)
          · refine zA_aload_0 dX11_print_53 ?_
            refine zA_iload_5 dX11_print_54 ?_
            refine zA_cVi (ct_risVillage g (zs gi 87 2 (nI 0)) gl r hV (by omega) ho) calX11_isVillage stX11_isVillage lX11_176 dX11_print_56 (by decide) (by simp [Value.category]) rfl (Nat.le_refl _) (Nat.le_refl _) sh_87 rfl (fun zz gi' gl' gr' ⟨hz, q1, q2, q3⟩ => ?_)
            rw [hz, q1, q2, q3]
            clear hz q1 q2 q3
            refine zA_if_eqB 84 dX11_print_59 (by decide) (fun g5 => ?_) (fun g5 => ?_)
            · refine zA_iconst (-1) dX11_print_84 ic_m1 ?_
              exact zB_iret rfl dX11_print_85 (Or.inr ⟨fun q => g5 q.2.2.2.2.1, rfl, rfl, rfl, rfl⟩)
            · refine zA_iload_6 dX11_print_62 ?_
              refine zA_iconst (nI 0) dX11_print_64 ic_0 ?_
              refine zA_iconst (nI 4) dX11_print_65 ic_4 ?_
              refine zA_cSi (ct_rIsIn g _ _ _ du ((nI 0)) ((nI 4))) calX11_isIn stX11_isIn lX11_172 dX11_print_66 (by decide) (by simp [Value.category]) rfl (Nat.le_refl _) (Nat.le_refl _) (fun zz gi' gl' gr' ⟨hz, q1, q2, q3⟩ => ?_)
              rw [hz, q1, q2, q3]
              clear hz q1 q2 q3
              refine zA_if_eqB 84 dX11_print_69 (by decide) (fun g6 => ?_) (fun g6 => ?_)
              · refine zA_iconst (-1) dX11_print_84 ic_m1 ?_
                exact zB_iret rfl dX11_print_85 (Or.inr ⟨fun q => g6 q.2.2.2.2.2.1, rfl, rfl, rfl, rfl⟩)
              · refine zA_iload_7 dX11_print_72 ?_
                refine zA_iconst (nI 0) dX11_print_74 ic_0 ?_
                refine zA_sipush (nI 999) dX11_print_75 sc_999 ?_
                refine zA_cSi (ct_rIsIn g _ _ _ fi ((nI 0)) ((nI 999))) calX11_isIn stX11_isIn lX11_172 dX11_print_78 (by decide) (by simp [Value.category]) rfl (Nat.le_refl _) (Nat.le_refl _) (fun zz gi' gl' gr' ⟨hz, q1, q2, q3⟩ => ?_)
                rw [hz, q1, q2, q3]
                clear hz q1 q2 q3
                refine zA_if_neB 86 dX11_print_81 (by decide) (fun g7 => ?_) (fun g7 => ?_)
                · refine zA_bipush (nI 7) dX11_print_86 bc_7 ?_
                  refine zA_aload_0 dX11_print_88 ?_
                  refine zA_getI (v := (nI Pn)) sh_87 fX11_192 dX11_print_89 rfl hP ?_
                  refine zA_imulN dX11_print_92 ?_
                  refine zA_istore_8 dX11_print_93 rfl ?_
                  refine zA_aload_0 dX11_print_95 ?_
                  refine zA_getR sh_87 fX11_37 dX11_print_96 rfl (rt_87_16 _) ?_
                  refine zA_iload_8 dX11_print_99 ?_
                  refine zA_iload_1 dX11_print_101 ?_
                  refine zS_iast (7 * Pn) sh_97 dX11_print_102 rfl (by omega) (by decide) ?_
                  refine zA_aload_0 dX11_print_103 ?_
                  refine zA_getR sh_87 fX11_37 dX11_print_104 rfl (rt_87_16 _) ?_
                  refine zA_iload_8 dX11_print_107 ?_
                  refine zA_iconst (nI 1) dX11_print_109 ic_1 ?_
                  refine zA_iaddN dX11_print_110 ?_
                  refine zA_iload_2 dX11_print_111 ?_
                  refine zS_iast ((7 * Pn) + 1) sh_97 dX11_print_112 rfl (by omega) (by decide) ?_
                  refine zA_aload_0 dX11_print_113 ?_
                  refine zA_getR sh_87 fX11_37 dX11_print_114 rfl (rt_87_16 _) ?_
                  refine zA_iload_8 dX11_print_117 ?_
                  refine zA_iconst (nI 2) dX11_print_119 ic_2 ?_
                  refine zA_iaddN dX11_print_120 ?_
                  refine zA_iload_3 dX11_print_121 ?_
                  refine zS_iast ((7 * Pn) + 2) sh_97 dX11_print_122 rfl (by omega) (by decide) ?_
                  refine zA_aload_0 dX11_print_123 ?_
                  refine zA_getR sh_87 fX11_37 dX11_print_124 rfl (rt_87_16 _) ?_
                  refine zA_iload_8 dX11_print_127 ?_
                  refine zA_iconst (nI 3) dX11_print_129 ic_3 ?_
                  refine zA_iaddN dX11_print_130 ?_
                  refine zA_iload_4 dX11_print_131 ?_
                  refine zS_iast ((7 * Pn) + 3) sh_97 dX11_print_133 rfl (by omega) (by decide) ?_
                  refine zA_aload_0 dX11_print_134 ?_
                  refine zA_getR sh_87 fX11_37 dX11_print_135 rfl (rt_87_16 _) ?_
                  refine zA_iload_8 dX11_print_138 ?_
                  refine zA_iconst (nI 4) dX11_print_140 ic_4 ?_
                  refine zA_iaddN dX11_print_141 ?_
                  refine zA_iload_5 dX11_print_142 ?_
                  refine zS_iast ((7 * Pn) + 4) sh_97 dX11_print_144 rfl (by omega) (by decide) ?_
                  refine zA_aload_0 dX11_print_145 ?_
                  refine zA_getR sh_87 fX11_37 dX11_print_146 rfl (rt_87_16 _) ?_
                  refine zA_iload_8 dX11_print_149 ?_
                  refine zA_iconst (nI 5) dX11_print_151 ic_5 ?_
                  refine zA_iaddN dX11_print_152 ?_
                  refine zA_iload_6 dX11_print_153 ?_
                  refine zS_iast ((7 * Pn) + 5) sh_97 dX11_print_155 rfl (by omega) (by decide) ?_
                  refine zA_aload_0 dX11_print_156 ?_
                  refine zA_getR sh_87 fX11_37 dX11_print_157 rfl (rt_87_16 _) ?_
                  refine zA_iload_8 dX11_print_160 ?_
                  refine zA_bipush (nI 6) dX11_print_162 bc_6 ?_
                  refine zA_iaddN dX11_print_164 ?_
                  refine zA_iload_7 dX11_print_165 ?_
                  refine zS_iast ((7 * Pn) + 6) sh_97 dX11_print_167 rfl (by omega) (by decide) ?_
                  refine zA_aload_0 dX11_print_168 ?_
                  refine zA_dup dX11_print_169 rfl ?_
                  refine zA_getI (v := (nI Pn)) sh_87 fX11_192 dX11_print_170 rfl hP ?_
                  refine zA_iconst (nI 1) dX11_print_173 ic_1 ?_
                  refine zA_iaddN dX11_print_174 ?_
                  refine zS_putI sh_87 fX11_192 dX11_print_175 rfl rfl ?_
                  refine zA_aload_0 dX11_print_178 ?_
                  refine zA_getI (v := (nI (Pn + 1))) sh_87 fX11_192 dX11_print_179 rfl rfl ?_
                  refine zA_iconst (nI 1) dX11_print_182 ic_1 ?_
                  refine zA_isubN dX11_print_183 (by omega) ?_
                  exact zB_iret rfl dX11_print_184 (Or.inl ⟨⟨g1, g2, g3, g4, g5, g6, g7, by omega⟩, rfl, rfl, rfl, rfl⟩)
                · refine zA_iconst (-1) dX11_print_84 ic_m1 ?_
                  exact zB_iret rfl dX11_print_85 (Or.inr ⟨fun q => g7 q.2.2.2.2.2.2.1, rfl, rfl, rfl, rfl⟩)
theorem ct_rEgg (g : zm_G) (gi : zm_I) (gl : zm_J) (r : Nat) (a n : Int32)  : zC_i g yX11_egg mX11_egg 1 [.ref 87, .int a, .int n] zSH gi gl (zRT r) (fun z gi' gl' gr' => (((nI 0 ≤ a ∧ a ≤ nI 3) ∧ (nI 1 ≤ n ∧ n ≤ nI 99)) ∧ z = nI 1 ∧ gi' = zs (zs gi 87 2 (nI 0)) 98 (zi a) n ∧ gl' = gl ∧ gr' = zRT r) ∨ (¬ (((nI 0 ≤ a ∧ a ≤ nI 3) ∧ (nI 1 ≤ n ∧ n ≤ nI 99))) ∧ z = nI 0 ∧ gi' = zs gi 87 2 (nI 0) ∧ gl' = gl ∧ gr' = zRT r)) := by
  refine zC_i_of [some (.ref 87), some (.int a), some (.int n)] (by decide) rfl rfl (Nat.le_of_ble_eq_true rfl) (fun x => ?_)
  refine zA_aload_0 dX11_egg_0 ?_
  refine zA_iconst (nI 0) dX11_egg_1 ic_0 ?_
  refine zS_putI sh_87 fX11_163 dX11_egg_2 rfl rfl ?_
  refine zA_iload_1 dX11_egg_5 ?_
  refine zA_cSi (ct_risNight g _ _ _ a) calX11_isNight stX11_isNight lX11_195 dX11_egg_6 (by decide) (by simp [Value.category]) rfl (Nat.le_refl _) (Nat.le_refl _) (fun zz gi' gl' gr' ⟨hz, q1, q2, q3⟩ => ?_)
  rw [hz, q1, q2, q3]
  clear hz q1 q2 q3
  refine zA_if_eqB 22 dX11_egg_9 (by decide) (fun g0 => ?_) (fun g0 => ?_)
  · refine zA_iconst (nI 0) dX11_egg_22 ic_0 ?_
    exact zB_zret rfl dX11_egg_23 (by decide) (Or.inr ⟨fun q => g0 q.1, rfl, rfl, rfl, rfl⟩)
  · refine zA_iload_2 dX11_egg_12 ?_
    refine zA_iconst (nI 1) dX11_egg_13 ic_1 ?_
    refine zA_bipush (nI 99) dX11_egg_14 bc_99 ?_
    refine zA_cSi (ct_rIsIn g _ _ _ n ((nI 1)) ((nI 99))) calX11_isIn stX11_isIn lX11_172 dX11_egg_16 (by decide) (by simp [Value.category]) rfl (Nat.le_refl _) (Nat.le_refl _) (fun zz gi' gl' gr' ⟨hz, q1, q2, q3⟩ => ?_)
    rw [hz, q1, q2, q3]
    clear hz q1 q2 q3
    refine zA_if_neB 24 dX11_egg_19 (by decide) (fun g1 => ?_) (fun g1 => ?_)
    · obtain ⟨v, hv, rfl⟩ := zwi_nat g0 (by omega)
      refine zA_aload_0 dX11_egg_24 ?_
      refine zA_getR sh_87 fX11_40 dX11_egg_25 rfl (rt_87_17 _) ?_
      refine zA_iload_1 dX11_egg_28 ?_
      refine zA_iload_2 dX11_egg_29 ?_
      refine zS_iast v sh_98 dX11_egg_30 rfl (by omega) (by decide) ?_
      refine zA_iconst (nI 1) dX11_egg_31 ic_1 ?_
      exact zB_zret rfl dX11_egg_32 (by decide) (Or.inl ⟨⟨g0, g1⟩, rfl, by rw [zi_nI (by omega)], rfl, rfl⟩)
    · refine zA_iconst (nI 0) dX11_egg_22 ic_0 ?_
      exact zB_zret rfl dX11_egg_23 (by decide) (Or.inr ⟨fun q => g1 q.2, rfl, rfl, rfl, rfl⟩)
def rSets (gi : zm_I) (e : Nat) (n v a p : Int32) : zm_I := zs (zs (zs (zs gi 99 (4 * e) n) 99 (4 * e + 1) v) 99 (4 * e + 2) a) 99 (4 * e + 3) p
theorem ct_rSets (g : zm_G) (gi : zm_I) (gl : zm_J) (r : Nat) {e : Nat} (he : e < 27) (n v a p : Int32)  : zC_v g yX11_sets mX11_sets 0 [.ref 87, .int (nI e), .int n, .int v, .int a, .int p] zSH gi gl (zRT r) (fun gi' gl' gr' => gi' = rSets gi e n v a p ∧ gl' = gl ∧ gr' = zRT r) := by
  refine zC_v_of [some (.ref 87), some (.int (nI e)), some (.int n), some (.int v), some (.int a), some (.int p)] (by decide) rfl rfl (Nat.le_of_ble_eq_true rfl) (fun x => ?_)
  refine zA_aload_0 dX11_sets_0 ?_
  refine zA_getR sh_87 fX11_43 dX11_sets_1 rfl (rt_87_19 _) ?_
  refine zA_iconst (nI 4) dX11_sets_4 ic_4 ?_
  refine zA_iload_1 dX11_sets_5 ?_
  refine zA_imulN dX11_sets_6 ?_
  refine zA_iload_2 dX11_sets_7 ?_
  refine zS_iast (4 * e) sh_99 dX11_sets_8 rfl (by omega) (by decide) ?_
  refine zA_aload_0 dX11_sets_9 ?_
  refine zA_getR sh_87 fX11_43 dX11_sets_10 rfl (rt_87_19 _) ?_
  refine zA_iconst (nI 4) dX11_sets_13 ic_4 ?_
  refine zA_iload_1 dX11_sets_14 ?_
  refine zA_imulN dX11_sets_15 ?_
  refine zA_iconst (nI 1) dX11_sets_16 ic_1 ?_
  refine zA_iaddN dX11_sets_17 ?_
  refine zA_iload_3 dX11_sets_18 ?_
  refine zS_iast ((4 * e) + 1) sh_99 dX11_sets_19 rfl (by omega) (by decide) ?_
  refine zA_aload_0 dX11_sets_20 ?_
  refine zA_getR sh_87 fX11_43 dX11_sets_21 rfl (rt_87_19 _) ?_
  refine zA_iconst (nI 4) dX11_sets_24 ic_4 ?_
  refine zA_iload_1 dX11_sets_25 ?_
  refine zA_imulN dX11_sets_26 ?_
  refine zA_iconst (nI 2) dX11_sets_27 ic_2 ?_
  refine zA_iaddN dX11_sets_28 ?_
  refine zA_iload_4 dX11_sets_29 ?_
  refine zS_iast ((4 * e) + 2) sh_99 dX11_sets_31 rfl (by omega) (by decide) ?_
  refine zA_aload_0 dX11_sets_32 ?_
  refine zA_getR sh_87 fX11_43 dX11_sets_33 rfl (rt_87_19 _) ?_
  refine zA_iconst (nI 4) dX11_sets_36 ic_4 ?_
  refine zA_iload_1 dX11_sets_37 ?_
  refine zA_imulN dX11_sets_38 ?_
  refine zA_iconst (nI 3) dX11_sets_39 ic_3 ?_
  refine zA_iaddN dX11_sets_40 ?_
  refine zA_iload_5 dX11_sets_41 ?_
  refine zS_iast ((4 * e) + 3) sh_99 dX11_sets_43 rfl (by omega) (by decide) ?_
  exact zB_vret rfl dX11_sets_44 (⟨rfl, rfl, rfl⟩)
theorem ct_rEntry (g : zm_G) (gi : zm_I) (gl : zm_J) (r : Nat) {V : Nat} (hV : gi 87 3 = nI V) (hV8 : V ≤ 8) {W : Nat} (hW : gi 87 12 = nI W) (hW3 : W ≤ 3) {Pn : Nat} (hP : gi 87 15 = nI Pn) (hP4 : Pn ≤ 4) {E : Nat} (hE : gi 87 18 = nI E) (hE24 : E ≤ 24) (a b c d : Int32)  : zC_i g yX11_entry mX11_entry 1 [.ref 87, .int a, .int b, .int c, .int d] zSH gi gl (zRT r) (fun z gi' gl' gr' => (((nI 0 ≤ a ∧ a ≤ nI 3) ∧ zin W b ∧ zin V c ∧ zin Pn d ∧ E < 24) ∧ z = nI E ∧ gi' = zs (rSets (zs gi 87 2 (nI 0)) E a b c d) 87 18 (nI (E + 1)) ∧ gl' = gl ∧ gr' = zRT r) ∨ (¬ (((nI 0 ≤ a ∧ a ≤ nI 3) ∧ zin W b ∧ zin V c ∧ zin Pn d ∧ E < 24)) ∧ z = -1 ∧ gi' = zs gi 87 2 (nI 0) ∧ gl' = gl ∧ gr' = zRT r)) := by
  refine zC_i_of [some (.ref 87), some (.int a), some (.int b), some (.int c), some (.int d)] (by decide) rfl rfl (Nat.le_of_ble_eq_true rfl) (fun x => ?_)
  refine zA_aload_0 dX11_entry_0 ?_
  refine zA_iconst (nI 0) dX11_entry_1 ic_0 ?_
  refine zS_putI sh_87 fX11_163 dX11_entry_2 rfl rfl ?_
  refine zA_aload_0 dX11_entry_5 ?_
  refine zA_getI (v := (nI E)) sh_87 fX11_202 dX11_entry_6 rfl hE ?_
  refine zA_bipush (nI 24) dX11_entry_9 bc_24 ?_
  refine zA_icmp_eqN 46 dX11_entry_11 (by decide) (by omega) (by omega) (fun g0 => ?_) (fun g0 => ?_)
  · refine zA_iconst (-1) dX11_entry_46 ic_m1 ?_
    exact zB_iret rfl dX11_entry_47 (Or.inr ⟨fun q => absurd q.2.2.2.2 (by omega), rfl, rfl, rfl, rfl⟩)
  · refine zA_iload_1 dX11_entry_14 ?_
    refine zA_cSi (ct_risNight g _ _ _ a) calX11_isNight stX11_isNight lX11_195 dX11_entry_15 (by decide) (by simp [Value.category]) rfl (Nat.le_refl _) (Nat.le_refl _) (fun zz gi' gl' gr' ⟨hz, q1, q2, q3⟩ => ?_)
    rw [hz, q1, q2, q3]
    clear hz q1 q2 q3
    refine zA_if_eqB 46 dX11_entry_18 (by decide) (fun g1 => ?_) (fun g1 => ?_)
    · refine zA_iconst (-1) dX11_entry_46 ic_m1 ?_
      exact zB_iret rfl dX11_entry_47 (Or.inr ⟨fun q => g1 q.1, rfl, rfl, rfl, rfl⟩)
    · refine zA_aload_0 dX11_entry_21 ?_
      refine zA_iload_2 dX11_entry_22 ?_
      refine zA_cVi (ct_risVan g (zs gi 87 2 (nI 0)) gl r hW (by omega) b) calX11_isVan stX11_isVan lX11_189 dX11_entry_23 (by decide) (by simp [Value.category]) rfl (Nat.le_refl _) (Nat.le_refl _) sh_87 rfl (fun zz gi' gl' gr' ⟨hz, q1, q2, q3⟩ => ?_)
      rw [hz, q1, q2, q3]
      clear hz q1 q2 q3
      refine zA_if_eqB 46 dX11_entry_26 (by decide) (fun g2 => ?_) (fun g2 => ?_)
      · refine zA_iconst (-1) dX11_entry_46 ic_m1 ?_
        exact zB_iret rfl dX11_entry_47 (Or.inr ⟨fun q => g2 q.2.1, rfl, rfl, rfl, rfl⟩)
      · refine zA_aload_0 dX11_entry_29 ?_
        refine zA_iload_3 dX11_entry_30 ?_
        refine zA_cVi (ct_risVillage g (zs gi 87 2 (nI 0)) gl r hV (by omega) c) calX11_isVillage stX11_isVillage lX11_176 dX11_entry_31 (by decide) (by simp [Value.category]) rfl (Nat.le_refl _) (Nat.le_refl _) sh_87 rfl (fun zz gi' gl' gr' ⟨hz, q1, q2, q3⟩ => ?_)
        rw [hz, q1, q2, q3]
        clear hz q1 q2 q3
        refine zA_if_eqB 46 dX11_entry_34 (by decide) (fun g3 => ?_) (fun g3 => ?_)
        · refine zA_iconst (-1) dX11_entry_46 ic_m1 ?_
          exact zB_iret rfl dX11_entry_47 (Or.inr ⟨fun q => g3 q.2.2.1, rfl, rfl, rfl, rfl⟩)
        · refine zA_aload_0 dX11_entry_37 ?_
          refine zA_iload_4 dX11_entry_38 ?_
          refine zA_cVi (ct_risPrint g (zs gi 87 2 (nI 0)) gl r hP (by omega) d) calX11_isPrint stX11_isPrint lX11_205 dX11_entry_40 (by decide) (by simp [Value.category]) rfl (Nat.le_refl _) (Nat.le_refl _) sh_87 rfl (fun zz gi' gl' gr' ⟨hz, q1, q2, q3⟩ => ?_)
          rw [hz, q1, q2, q3]
          clear hz q1 q2 q3
          refine zA_if_neB 48 dX11_entry_43 (by decide) (fun g4 => ?_) (fun g4 => ?_)
          · refine zA_aload_0 dX11_entry_48 ?_
            refine zA_aload_0 dX11_entry_49 ?_
            refine zA_getI (v := (nI E)) sh_87 fX11_202 dX11_entry_50 rfl hE ?_
            refine zA_iload_1 dX11_entry_53 ?_
            refine zA_iload_2 dX11_entry_54 ?_
            refine zA_iload_3 dX11_entry_55 ?_
            refine zA_iload_4 dX11_entry_56 ?_
            refine zA_cVv (ct_rSets g (zs gi 87 2 (nI 0)) gl r (e := E) (by omega) a b c d) calX11_sets stX11_sets lX11_208 dX11_entry_58 (by decide) (by simp [Value.category]) rfl (Nat.le_refl _) (Nat.le_refl _) sh_87 rfl (fun gi' gl' gr' ⟨e1, e2, e3⟩ => ?_)
            rw [e1, e2, e3]
            clear e1 e2 e3
            refine zA_aload_0 dX11_entry_61 ?_
            refine zA_dup dX11_entry_62 rfl ?_
            refine zA_getI (v := (nI E)) sh_87 fX11_202 dX11_entry_63 rfl hE ?_
            refine zA_iconst (nI 1) dX11_entry_66 ic_1 ?_
            refine zA_iaddN dX11_entry_67 ?_
            refine zS_putI sh_87 fX11_202 dX11_entry_68 rfl rfl ?_
            refine zA_aload_0 dX11_entry_71 ?_
            refine zA_getI (v := (nI (E + 1))) sh_87 fX11_202 dX11_entry_72 rfl rfl ?_
            refine zA_iconst (nI 1) dX11_entry_75 ic_1 ?_
            refine zA_isubN dX11_entry_76 (by omega) ?_
            exact zB_iret rfl dX11_entry_77 (Or.inl ⟨⟨g1, g2, g3, g4, by omega⟩, rfl, rfl, rfl, rfl⟩)
          · refine zA_iconst (-1) dX11_entry_46 ic_m1 ?_
            exact zB_iret rfl dX11_entry_47 (Or.inr ⟨fun q => g4 q.2.2.2.1, rfl, rfl, rfl, rfl⟩)
theorem ct_rHand (g : zm_G) (gi : zm_I) (gl : zm_J) (r : Nat) {W : Nat} (hW : gi 87 12 = nI W) (hW3 : W ≤ 3) {Pn : Nat} (hP : gi 87 15 = nI Pn) (hP4 : Pn ≤ 4) {K : Nat} (hK : gi 87 20 = nI K) (hK12 : K ≤ 12) (a b c : Int32)  : zC_i g yX11_hand mX11_hand 1 [.ref 87, .int a, .int b, .int c] zSH gi gl (zRT r) (fun z gi' gl' gr' => (((nI 0 ≤ a ∧ a ≤ nI 3) ∧ zin Pn b ∧ zin W c ∧ K < 12) ∧ z = nI K ∧ gi' = zs (zs (zs (zs (zs gi 87 2 (nI 0)) 100 (3 * K) a) 100 (3 * K + 1) b) 100 (3 * K + 2) c) 87 20 (nI (K + 1)) ∧ gl' = gl ∧ gr' = zRT r) ∨ (¬ (((nI 0 ≤ a ∧ a ≤ nI 3) ∧ zin Pn b ∧ zin W c ∧ K < 12)) ∧ z = -1 ∧ gi' = zs gi 87 2 (nI 0) ∧ gl' = gl ∧ gr' = zRT r)) := by
  refine zC_i_of [some (.ref 87), some (.int a), some (.int b), some (.int c)] (by decide) rfl rfl (Nat.le_of_ble_eq_true rfl) (fun x => ?_)
  refine zA_aload_0 dX11_hand_0 ?_
  refine zA_iconst (nI 0) dX11_hand_1 ic_0 ?_
  refine zS_putI sh_87 fX11_163 dX11_hand_2 rfl rfl ?_
  refine zA_aload_0 dX11_hand_5 ?_
  refine zA_getI (v := (nI K)) sh_87 fX11_212 dX11_hand_6 rfl hK ?_
  refine zA_bipush (nI 12) dX11_hand_9 bc_12 ?_
  refine zA_icmp_eqN 37 dX11_hand_11 (by decide) (by omega) (by omega) (fun g0 => ?_) (fun g0 => ?_)
  · refine zA_iconst (-1) dX11_hand_37 ic_m1 ?_
    exact zB_iret rfl dX11_hand_38 (Or.inr ⟨fun q => absurd q.2.2.2 (by omega), rfl, rfl, rfl, rfl⟩)
  · refine zA_iload_1 dX11_hand_14 ?_
    refine zA_cSi (ct_risNight g _ _ _ a) calX11_isNight stX11_isNight lX11_195 dX11_hand_15 (by decide) (by simp [Value.category]) rfl (Nat.le_refl _) (Nat.le_refl _) (fun zz gi' gl' gr' ⟨hz, q1, q2, q3⟩ => ?_)
    rw [hz, q1, q2, q3]
    clear hz q1 q2 q3
    refine zA_if_eqB 37 dX11_hand_18 (by decide) (fun g1 => ?_) (fun g1 => ?_)
    · refine zA_iconst (-1) dX11_hand_37 ic_m1 ?_
      exact zB_iret rfl dX11_hand_38 (Or.inr ⟨fun q => g1 q.1, rfl, rfl, rfl, rfl⟩)
    · refine zA_aload_0 dX11_hand_21 ?_
      refine zA_iload_2 dX11_hand_22 ?_
      refine zA_cVi (ct_risPrint g (zs gi 87 2 (nI 0)) gl r hP (by omega) b) calX11_isPrint stX11_isPrint lX11_205 dX11_hand_23 (by decide) (by simp [Value.category]) rfl (Nat.le_refl _) (Nat.le_refl _) sh_87 rfl (fun zz gi' gl' gr' ⟨hz, q1, q2, q3⟩ => ?_)
      rw [hz, q1, q2, q3]
      clear hz q1 q2 q3
      refine zA_if_eqB 37 dX11_hand_26 (by decide) (fun g2 => ?_) (fun g2 => ?_)
      · refine zA_iconst (-1) dX11_hand_37 ic_m1 ?_
        exact zB_iret rfl dX11_hand_38 (Or.inr ⟨fun q => g2 q.2.1, rfl, rfl, rfl, rfl⟩)
      · refine zA_aload_0 dX11_hand_29 ?_
        refine zA_iload_3 dX11_hand_30 ?_
        refine zA_cVi (ct_risVan g (zs gi 87 2 (nI 0)) gl r hW (by omega) c) calX11_isVan stX11_isVan lX11_189 dX11_hand_31 (by decide) (by simp [Value.category]) rfl (Nat.le_refl _) (Nat.le_refl _) sh_87 rfl (fun zz gi' gl' gr' ⟨hz, q1, q2, q3⟩ => ?_)
        rw [hz, q1, q2, q3]
        clear hz q1 q2 q3
        refine zA_if_neB 39 dX11_hand_34 (by decide) (fun g3 => ?_) (fun g3 => ?_)
        · refine zA_aload_0 dX11_hand_39 ?_
          refine zA_getR sh_87 fX11_46 dX11_hand_40 rfl (rt_87_21 _) ?_
          refine zA_iconst (nI 3) dX11_hand_43 ic_3 ?_
          refine zA_aload_0 dX11_hand_44 ?_
          refine zA_getI (v := (nI K)) sh_87 fX11_212 dX11_hand_45 rfl hK ?_
          refine zA_imulN dX11_hand_48 ?_
          refine zA_iload_1 dX11_hand_49 ?_
          refine zS_iast (3 * K) sh_100 dX11_hand_50 rfl (by omega) (by decide) ?_
          refine zA_aload_0 dX11_hand_51 ?_
          refine zA_getR sh_87 fX11_46 dX11_hand_52 rfl (rt_87_21 _) ?_
          refine zA_iconst (nI 3) dX11_hand_55 ic_3 ?_
          refine zA_aload_0 dX11_hand_56 ?_
          refine zA_getI (v := (nI K)) sh_87 fX11_212 dX11_hand_57 rfl hK ?_
          refine zA_imulN dX11_hand_60 ?_
          refine zA_iconst (nI 1) dX11_hand_61 ic_1 ?_
          refine zA_iaddN dX11_hand_62 ?_
          refine zA_iload_2 dX11_hand_63 ?_
          refine zS_iast ((3 * K) + 1) sh_100 dX11_hand_64 rfl (by omega) (by decide) ?_
          refine zA_aload_0 dX11_hand_65 ?_
          refine zA_getR sh_87 fX11_46 dX11_hand_66 rfl (rt_87_21 _) ?_
          refine zA_iconst (nI 3) dX11_hand_69 ic_3 ?_
          refine zA_aload_0 dX11_hand_70 ?_
          refine zA_getI (v := (nI K)) sh_87 fX11_212 dX11_hand_71 rfl hK ?_
          refine zA_imulN dX11_hand_74 ?_
          refine zA_iconst (nI 2) dX11_hand_75 ic_2 ?_
          refine zA_iaddN dX11_hand_76 ?_
          refine zA_iload_3 dX11_hand_77 ?_
          refine zS_iast ((3 * K) + 2) sh_100 dX11_hand_78 rfl (by omega) (by decide) ?_
          refine zA_aload_0 dX11_hand_79 ?_
          refine zA_dup dX11_hand_80 rfl ?_
          refine zA_getI (v := (nI K)) sh_87 fX11_212 dX11_hand_81 rfl hK ?_
          refine zA_iconst (nI 1) dX11_hand_84 ic_1 ?_
          refine zA_iaddN dX11_hand_85 ?_
          refine zS_putI sh_87 fX11_212 dX11_hand_86 rfl rfl ?_
          refine zA_aload_0 dX11_hand_89 ?_
          refine zA_getI (v := (nI (K + 1))) sh_87 fX11_212 dX11_hand_90 rfl rfl ?_
          refine zA_iconst (nI 1) dX11_hand_93 ic_1 ?_
          refine zA_isubN dX11_hand_94 (by omega) ?_
          exact zB_iret rfl dX11_hand_95 (Or.inl ⟨⟨g1, g2, g3, by omega⟩, rfl, rfl, rfl, rfl⟩)
        · refine zA_iconst (-1) dX11_hand_37 ic_m1 ?_
          exact zB_iret rfl dX11_hand_38 (Or.inr ⟨fun q => g3 q.2.2.1, rfl, rfl, rfl, rfl⟩)
theorem ct_rReport (g : zm_G) (gi : zm_I) (gl : zm_J) (r : Nat) {V : Nat} (hV : gi 87 3 = nI V) (hV8 : V ≤ 8) {T : Nat} (hT : gi 87 22 = nI T) (hT40 : T ≤ 40) (a b c : Int32)  : zC_i g yX11_report mX11_report 1 [.ref 87, .int a, .int b, .int c] zSH gi gl (zRT r) (fun z gi' gl' gr' => ((zin V a ∧ (nI 0 ≤ b ∧ b ≤ nI 3) ∧ (nI 0 ≤ c ∧ c ≤ nI 500) ∧ T < 40) ∧ z = nI T ∧ gi' = zs (zs (zs (zs (zs gi 87 2 (nI 0)) 101 T a) 102 T b) 103 T c) 87 22 (nI (T + 1)) ∧ gl' = gl ∧ gr' = zRT r) ∨ (¬ ((zin V a ∧ (nI 0 ≤ b ∧ b ≤ nI 3) ∧ (nI 0 ≤ c ∧ c ≤ nI 500) ∧ T < 40)) ∧ z = -1 ∧ gi' = zs gi 87 2 (nI 0) ∧ gl' = gl ∧ gr' = zRT r)) := by
  refine zC_i_of [some (.ref 87), some (.int a), some (.int b), some (.int c)] (by decide) rfl rfl (Nat.le_of_ble_eq_true rfl) (fun x => ?_)
  refine zA_aload_0 dX11_report_0 ?_
  refine zA_iconst (nI 0) dX11_report_1 ic_0 ?_
  refine zS_putI sh_87 fX11_163 dX11_report_2 rfl rfl ?_
  refine zA_aload_0 dX11_report_5 ?_
  refine zA_getI (v := (nI T)) sh_87 fX11_436 dX11_report_6 rfl hT ?_
  refine zA_bipush (nI 40) dX11_report_9 bc_40 ?_
  refine zA_icmp_eqN 40 dX11_report_11 (by decide) (by omega) (by omega) (fun g0 => ?_) (fun g0 => ?_)
  · refine zA_iconst (-1) dX11_report_40 ic_m1 ?_
    exact zB_iret rfl dX11_report_41 (Or.inr ⟨fun q => absurd q.2.2.2 (by omega), rfl, rfl, rfl, rfl⟩)
  · refine zA_aload_0 dX11_report_14 ?_
    refine zA_iload_1 dX11_report_15 ?_
    refine zA_cVi (ct_risVillage g (zs gi 87 2 (nI 0)) gl r hV (by omega) a) calX11_isVillage stX11_isVillage lX11_176 dX11_report_16 (by decide) (by simp [Value.category]) rfl (Nat.le_refl _) (Nat.le_refl _) sh_87 rfl (fun zz gi' gl' gr' ⟨hz, q1, q2, q3⟩ => ?_)
    rw [hz, q1, q2, q3]
    clear hz q1 q2 q3
    refine zA_if_eqB 40 dX11_report_19 (by decide) (fun g1 => ?_) (fun g1 => ?_)
    · refine zA_iconst (-1) dX11_report_40 ic_m1 ?_
      exact zB_iret rfl dX11_report_41 (Or.inr ⟨fun q => g1 q.1, rfl, rfl, rfl, rfl⟩)
    · refine zA_iload_2 dX11_report_22 ?_
      refine zA_cSi (ct_risNight g _ _ _ b) calX11_isNight stX11_isNight lX11_195 dX11_report_23 (by decide) (by simp [Value.category]) rfl (Nat.le_refl _) (Nat.le_refl _) (fun zz gi' gl' gr' ⟨hz, q1, q2, q3⟩ => ?_)
      rw [hz, q1, q2, q3]
      clear hz q1 q2 q3
      refine zA_if_eqB 40 dX11_report_26 (by decide) (fun g2 => ?_) (fun g2 => ?_)
      · refine zA_iconst (-1) dX11_report_40 ic_m1 ?_
        exact zB_iret rfl dX11_report_41 (Or.inr ⟨fun q => g2 q.2.1, rfl, rfl, rfl, rfl⟩)
      · refine zA_iload_3 dX11_report_29 ?_
        refine zA_iconst (nI 0) dX11_report_30 ic_0 ?_
        refine zA_sipush (nI 500) dX11_report_31 sc_500 ?_
        refine zA_cSi (ct_rIsIn g _ _ _ c ((nI 0)) ((nI 500))) calX11_isIn stX11_isIn lX11_172 dX11_report_34 (by decide) (by simp [Value.category]) rfl (Nat.le_refl _) (Nat.le_refl _) (fun zz gi' gl' gr' ⟨hz, q1, q2, q3⟩ => ?_)
        rw [hz, q1, q2, q3]
        clear hz q1 q2 q3
        refine zA_if_neB 42 dX11_report_37 (by decide) (fun g3 => ?_) (fun g3 => ?_)
        · refine zA_aload_0 dX11_report_42 ?_
          refine zA_getR sh_87 fX11_49 dX11_report_43 rfl (rt_87_23 _) ?_
          refine zA_aload_0 dX11_report_46 ?_
          refine zA_getI (v := (nI T)) sh_87 fX11_436 dX11_report_47 rfl hT ?_
          refine zA_iload_1 dX11_report_50 ?_
          refine zS_iast T sh_101 dX11_report_51 rfl (by omega) (by decide) ?_
          refine zA_aload_0 dX11_report_52 ?_
          refine zA_getR sh_87 fX11_52 dX11_report_53 rfl (rt_87_24 _) ?_
          refine zA_aload_0 dX11_report_56 ?_
          refine zA_getI (v := (nI T)) sh_87 fX11_436 dX11_report_57 rfl hT ?_
          refine zA_iload_2 dX11_report_60 ?_
          refine zS_iast T sh_102 dX11_report_61 rfl (by omega) (by decide) ?_
          refine zA_aload_0 dX11_report_62 ?_
          refine zA_getR sh_87 fX11_55 dX11_report_63 rfl (rt_87_25 _) ?_
          refine zA_aload_0 dX11_report_66 ?_
          refine zA_getI (v := (nI T)) sh_87 fX11_436 dX11_report_67 rfl hT ?_
          refine zA_iload_3 dX11_report_70 ?_
          refine zS_iast T sh_103 dX11_report_71 rfl (by omega) (by decide) ?_
          refine zA_aload_0 dX11_report_72 ?_
          refine zA_dup dX11_report_73 rfl ?_
          refine zA_getI (v := (nI T)) sh_87 fX11_436 dX11_report_74 rfl hT ?_
          refine zA_iconst (nI 1) dX11_report_77 ic_1 ?_
          refine zA_iaddN dX11_report_78 ?_
          refine zS_putI sh_87 fX11_436 dX11_report_79 rfl rfl ?_
          refine zA_aload_0 dX11_report_82 ?_
          refine zA_getI (v := (nI (T + 1))) sh_87 fX11_436 dX11_report_83 rfl rfl ?_
          refine zA_iconst (nI 1) dX11_report_86 ic_1 ?_
          refine zA_isubN dX11_report_87 (by omega) ?_
          exact zB_iret rfl dX11_report_88 (Or.inl ⟨⟨g1, g2, g3, by omega⟩, rfl, rfl, rfl, rfl⟩)
        · refine zA_iconst (-1) dX11_report_40 ic_m1 ?_
          exact zB_iret rfl dX11_report_41 (Or.inr ⟨fun q => g3 q.2.2.1, rfl, rfl, rfl, rfl⟩)
