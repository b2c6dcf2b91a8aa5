/-! public methods of the class -/
abbrev zin (V : Nat) (n : Int32) : Prop := nI 0 ≤ n ∧ n < nI V
theorem zin_iff {V : Nat} (hV : V < 2 ^ 30) (n : Int32) : (nI 0 ≤ n ∧ n ≤ nI V - nI 1) ↔ zin V n := by
  constructor
  · rintro ⟨h1, h2⟩
    refine ⟨h1, ?_⟩
    rcases Nat.eq_zero_or_pos V with h | h
    · subst h
      exact absurd (Int32.le_trans h1 h2) (by decide)
    · rw [pk_sub (by omega)] at h2
      exact Int32.lt_of_le_of_lt h2 (nI_lt (by omega) (by omega))
  · rintro ⟨h1, h2⟩
    refine ⟨h1, ?_⟩
    have hn : ¬ n < 0 := fun q => Int32.lt_irrefl (Int32.lt_of_lt_of_le q h1)
    obtain ⟨j, hj, rfl⟩ := nI_of hn
    have hj2 := (nI_ltI hj (by omega)).mp h2
    rw [pk_sub (by omega)]
    exact (nI_leI hj (by omega)).mpr (by omega)
theorem zin_nat {V : Nat} {n : Int32} (h : zin V n) (hV : V < 2 ^ 31) : ∃ k, k < V ∧ n = nI k := by
  have hn : ¬ n < 0 := fun q => Int32.lt_irrefl (Int32.lt_of_lt_of_le q h.1)
  obtain ⟨j, hj, rfl⟩ := nI_of hn
  exact ⟨j, (nI_ltI hj hV).mp h.2, rfl⟩
theorem zwi_nat {V : Nat} {n : Int32} (h : nI 0 ≤ n ∧ n ≤ nI V) (hV : V < 2 ^ 31) : ∃ k, k ≤ V ∧ n = nI k := by
  have hn : ¬ n < 0 := fun q => Int32.lt_irrefl (Int32.lt_of_lt_of_le q h.1)
  obtain ⟨j, hj, rfl⟩ := nI_of hn
  exact ⟨j, (nI_leI hj hV).mp h.2, rfl⟩
theorem ct_hasVillageZ (g : zm_G) (gi : zm_I) (gl : zm_J) (r : Nat) {V : Nat} (hV : gi 3 3 = nI V) (hv : V < 2 ^ 30) (n : Int32) : zC_i g yX3_hasVillage mX3_hasVillage 1 [.ref 3, .int n] zSH gi gl (zRT r) (fun z gi' gl' gr' => z = zb (zin V n) ∧ gi' = gi ∧ gl' = gl ∧ gr' = zRT r) := by
  have h := ct_hasVillage g gi gl r n
  rw [hV, zb_cong (zin_iff hv n)] at h
  exact h
theorem ct_hasVanZ (g : zm_G) (gi : zm_I) (gl : zm_J) (r : Nat) {V : Nat} (hV : gi 19 3 = nI V) (hv : V < 2 ^ 30) (n : Int32) : zC_i g yX1_hasVan mX1_hasVan 1 [.ref 19, .int n] zSH gi gl (zRT r) (fun z gi' gl' gr' => z = zb (zin V n) ∧ gi' = gi ∧ gl' = gl ∧ gr' = zRT r) := by
  have h := ct_hasVan g gi gl r n
  rw [hV, zb_cong (zin_iff hv n)] at h
  exact h
theorem ct_hasPrintZ (g : zm_G) (gi : zm_I) (gl : zm_J) (r : Nat) {V : Nat} (hV : gi 19 4 = nI V) (hv : V < 2 ^ 30) (n : Int32) : zC_i g yX1_hasPrint mX1_hasPrint 1 [.ref 19, .int n] zSH gi gl (zRT r) (fun z gi' gl' gr' => z = zb (zin V n) ∧ gi' = gi ∧ gl' = gl ∧ gr' = zRT r) := by
  have h := ct_hasPrint g gi gl r n
  rw [hV, zb_cong (zin_iff hv n)] at h
  exact h
theorem ct_village (g : zm_G) (gi : zm_I) (gl : zm_J) (r : Nat) {V : Nat} (hV : gi 3 3 = nI V) (hV8 : V ≤ 8) (p s t c : Int32)  : zC_i g yX10_village mX10_village 1 [.ref 0, .int p, .int s, .int t, .int c] zSH gi gl (zRT r) (fun z gi' gl' gr' => (((nI 1 ≤ p ∧ p ≤ nI 999) ∧ (nI 1 ≤ s ∧ s ≤ nI 500) ∧ (nI 0 ≤ t ∧ t ≤ nI 9) ∧ (nI 0 ≤ c ∧ c ≤ nI 100) ∧ V < 8) ∧ z = nI V ∧ gi' = zs (fVilRow gi V p s t c) 3 3 (nI (V + 1)) ∧ gl' = gl ∧ gr' = zRT r) ∨ (¬ (((nI 1 ≤ p ∧ p ≤ nI 999) ∧ (nI 1 ≤ s ∧ s ≤ nI 500) ∧ (nI 0 ≤ t ∧ t ≤ nI 9) ∧ (nI 0 ≤ c ∧ c ≤ nI 100) ∧ V < 8)) ∧ z = -1 ∧ gi' = gi ∧ gl' = gl ∧ gr' = zRT r)) := by
  refine zC_i_of [some (.ref 0), some (.int p), some (.int s), some (.int t), some (.int c), none] (by decide) rfl rfl (Nat.le_of_ble_eq_true rfl) (fun x => ?_)
  refine zA_iload_1 dX10_village_0 ?_
  refine zA_iconst (nI 1) dX10_village_1 ic_1 ?_
  refine zA_sipush (nI 999) dX10_village_2 sc_999 ?_
  refine zA_cSi (ct_isWithin g _ _ _ p (nI 1) (nI 999)) calX10_isWithin stX10_isWithin lX10_113 dX10_village_5 (by decide) (by simp [Value.category]) rfl (Nat.le_refl _) (Nat.le_refl _) (fun zz gi' gl' gr' ⟨hz, q1, q2, q3⟩ => ?_)
  rw [hz, q1, q2, q3]
  clear hz q1 q2 q3
  refine zA_if_eqB 47 dX10_village_8 (by decide) (fun g0 => ?_) (fun g0 => ?_)
  · refine zA_iconst (nI 0) dX10_village_47 ic_0 ?_
    refine zA_istore_5 dX10_village_48 rfl ?_
    refine zA_iload_5 dX10_village_50 ?_
    refine zA_if_eq 67 dX10_village_52 (by decide) (fun _ => ?_) (fun hh => absurd (by decide) hh)
    refine zA_iconst (-1) dX10_village_67 ic_m1 ?_
    exact zB_iret rfl dX10_village_68 (Or.inr ⟨fun q => (g0) q.1, rfl, rfl, rfl, rfl⟩)
  · refine zA_iload_2 dX10_village_11 ?_
    refine zA_iconst (nI 1) dX10_village_12 ic_1 ?_
    refine zA_sipush (nI 500) dX10_village_13 sc_500 ?_
    refine zA_cSi (ct_isWithin g _ _ _ s (nI 1) (nI 500)) calX10_isWithin stX10_isWithin lX10_113 dX10_village_16 (by decide) (by simp [Value.category]) rfl (Nat.le_refl _) (Nat.le_refl _) (fun zz gi' gl' gr' ⟨hz, q1, q2, q3⟩ => ?_)
    rw [hz, q1, q2, q3]
    clear hz q1 q2 q3
    refine zA_if_eqB 47 dX10_village_19 (by decide) (fun g1 => ?_) (fun g1 => ?_)
    · refine zA_iconst (nI 0) dX10_village_47 ic_0 ?_
      refine zA_istore_5 dX10_village_48 rfl ?_
      refine zA_iload_5 dX10_village_50 ?_
      refine zA_if_eq 67 dX10_village_52 (by decide) (fun _ => ?_) (fun hh => absurd (by decide) hh)
      refine zA_iconst (-1) dX10_village_67 ic_m1 ?_
      exact zB_iret rfl dX10_village_68 (Or.inr ⟨fun q => (g1) q.2.1, rfl, rfl, rfl, rfl⟩)
    · refine zA_iload_3 dX10_village_22 ?_
      refine zA_iconst (nI 0) dX10_village_23 ic_0 ?_
      refine zA_bipush (nI 9) dX10_village_24 bc_9 ?_
      refine zA_cSi (ct_isWithin g _ _ _ t (nI 0) (nI 9)) calX10_isWithin stX10_isWithin lX10_113 dX10_village_26 (by decide) (by simp [Value.category]) rfl (Nat.le_refl _) (Nat.le_refl _) (fun zz gi' gl' gr' ⟨hz, q1, q2, q3⟩ => ?_)
      rw [hz, q1, q2, q3]
      clear hz q1 q2 q3
      refine zA_if_eqB 47 dX10_village_29 (by decide) (fun g2 => ?_) (fun g2 => ?_)
      · refine zA_iconst (nI 0) dX10_village_47 ic_0 ?_
        refine zA_istore_5 dX10_village_48 rfl ?_
        refine zA_iload_5 dX10_village_50 ?_
        refine zA_if_eq 67 dX10_village_52 (by decide) (fun _ => ?_) (fun hh => absurd (by decide) hh)
        refine zA_iconst (-1) dX10_village_67 ic_m1 ?_
        exact zB_iret rfl dX10_village_68 (Or.inr ⟨fun q => (g2) q.2.2.1, rfl, rfl, rfl, rfl⟩)
      · refine zA_iload_4 dX10_village_32 ?_
        refine zA_iconst (nI 0) dX10_village_34 ic_0 ?_
        refine zA_bipush (nI 100) dX10_village_35 bc_100 ?_
        refine zA_cSi (ct_isWithin g _ _ _ c (nI 0) (nI 100)) calX10_isWithin stX10_isWithin lX10_113 dX10_village_37 (by decide) (by simp [Value.category]) rfl (Nat.le_refl _) (Nat.le_refl _) (fun zz gi' gl' gr' ⟨hz, q1, q2, q3⟩ => ?_)
        rw [hz, q1, q2, q3]
        clear hz q1 q2 q3
        refine zA_if_eqB 47 dX10_village_40 (by decide) (fun g3 => ?_) (fun g3 => ?_)
        · refine zA_iconst (nI 0) dX10_village_47 ic_0 ?_
          refine zA_istore_5 dX10_village_48 rfl ?_
          refine zA_iload_5 dX10_village_50 ?_
          refine zA_if_eq 67 dX10_village_52 (by decide) (fun _ => ?_) (fun hh => absurd (by decide) hh)
          refine zA_iconst (-1) dX10_village_67 ic_m1 ?_
          exact zB_iret rfl dX10_village_68 (Or.inr ⟨fun q => (g3) q.2.2.2.1, rfl, rfl, rfl, rfl⟩)
        · refine zA_iconst (nI 1) dX10_village_43 ic_1 ?_
          refine zA_goto 48 dX10_village_44 (by decide) ?_
          refine zA_istore_5 dX10_village_48 rfl ?_
          refine zA_iload_5 dX10_village_50 ?_
          refine zA_if_eq 67 dX10_village_52 (by decide) (fun hh => absurd hh (by decide)) (fun _ => ?_)
          refine zA_aload_0 dX10_village_55 ?_
          refine zA_getR sh_0 fX10_20 dX10_village_56 rfl (rt_0_2 _) ?_
          refine zA_getI (v := (nI V)) sh_3 fX10_117 dX10_village_59 rfl hV ?_
          refine zA_bipush (nI 8) dX10_village_62 bc_8 ?_
          refine zA_icmp_ltN 69 dX10_village_64 (by decide) (by omega) (by omega) (fun g4 => ?_) (fun g4 => ?_)
          · refine zA_aload_0 dX10_village_69 ?_
            refine zA_getR sh_0 fX10_20 dX10_village_70 rfl (rt_0_2 _) ?_
            refine zA_iload_1 dX10_village_73 ?_
            refine zA_iload_2 dX10_village_74 ?_
            refine zA_iload_3 dX10_village_75 ?_
            refine zA_iload_4 dX10_village_76 ?_
            refine zA_cVi (ct_addVillage g gi gl r hV g4 _ _ _ _) calX3_addVillage stX3_addVillage lX10_120 dX10_village_78 (by decide) (by simp [Value.category]) rfl (Nat.le_refl _) (Nat.le_refl _) sh_3 rfl (fun zz gi' gl' gr' ⟨hz, q1, q2, q3⟩ => ?_)
            rw [hz, q1, q2, q3]
            clear hz q1 q2 q3
            exact zB_iret rfl dX10_village_81 (Or.inl ⟨⟨g0, g1, g2, g3, g4⟩, rfl, rfl, rfl, rfl⟩)
          · refine zA_iconst (-1) dX10_village_67 ic_m1 ?_
            exact zB_iret rfl dX10_village_68 (Or.inr ⟨fun q => (Nat.not_lt.mpr g4) q.2.2.2.2, rfl, rfl, rfl, rfl⟩)
theorem ct_van (g : zm_G) (gi : zm_I) (gl : zm_J) (r : Nat) {V : Nat} (hV : gi 3 3 = nI V) (hV8 : V ≤ 8) {W : Nat} (hW : gi 19 3 = nI W) (hW3 : W ≤ 3) (v : Int32)  : zC_i g yX10_van mX10_van 2 [.ref 0, .int v] zSH gi gl (zRT r) (fun z gi' gl' gr' => ((zin V v ∧ W < 3) ∧ z = nI W ∧ gi' = zs (zs gi 20 W v) 19 3 (nI (W + 1)) ∧ gl' = gl ∧ gr' = zRT r) ∨ (¬ ((zin V v ∧ W < 3)) ∧ z = -1 ∧ gi' = gi ∧ gl' = gl ∧ gr' = zRT r)) := by
  refine zC_i_of [some (.ref 0), some (.int v)] (by decide) rfl rfl (Nat.le_of_ble_eq_true rfl) (fun x => ?_)
  refine zA_aload_0 dX10_van_0 ?_
  refine zA_getR sh_0 fX10_20 dX10_van_1 rfl (rt_0_2 _) ?_
  refine zA_iload_1 dX10_van_4 ?_
  refine zA_cVi (ct_hasVillageZ g gi gl r hV (by omega) v) calX3_hasVillage stX3_hasVillage lX10_124 dX10_van_5 (by decide) (by simp [Value.category]) rfl (Nat.le_refl _) (Nat.le_refl _) sh_3 rfl (fun zz gi' gl' gr' ⟨hz, q1, q2, q3⟩ => ?_)
  rw [hz, q1, q2, q3]
  clear hz q1 q2 q3
  refine zA_if_eqB 22 dX10_van_8 (by decide) (fun g0 => ?_) (fun g0 => ?_)
  · refine zA_iconst (-1) dX10_van_22 ic_m1 ?_
    exact zB_iret rfl dX10_van_23 (Or.inr ⟨fun q => (g0) q.1, rfl, rfl, rfl, rfl⟩)
  · refine zA_aload_0 dX10_van_11 ?_
    refine zA_getR sh_0 fX10_27 dX10_van_12 rfl (rt_0_3 _) ?_
    refine zA_getI (v := (nI W)) sh_19 fX10_140 dX10_van_15 rfl hW ?_
    refine zA_iconst (nI 3) dX10_van_18 ic_3 ?_
    refine zA_icmp_ltN 24 dX10_van_19 (by decide) (by omega) (by omega) (fun g1 => ?_) (fun g1 => ?_)
    · refine zA_aload_0 dX10_van_24 ?_
      refine zA_getR sh_0 fX10_27 dX10_van_25 rfl (rt_0_3 _) ?_
      refine zA_iload_1 dX10_van_28 ?_
      refine zA_cVi (ct_addVan g gi gl r hW g1 _) calX1_addVan stX1_addVan lX10_143 dX10_van_29 (by decide) (by simp [Value.category]) rfl (Nat.le_refl _) (Nat.le_refl _) sh_19 rfl (fun zz gi' gl' gr' ⟨hz, q1, q2, q3⟩ => ?_)
      rw [hz, q1, q2, q3]
      clear hz q1 q2 q3
      exact zB_iret rfl dX10_van_32 (Or.inl ⟨⟨g0, g1⟩, rfl, rfl, rfl, rfl⟩)
    · refine zA_iconst (-1) dX10_van_22 ic_m1 ?_
      exact zB_iret rfl dX10_van_23 (Or.inr ⟨fun q => (Nat.not_lt.mpr g1) q.2, rfl, rfl, rfl, rfl⟩)
theorem ct_print (g : zm_G) (gi : zm_I) (gl : zm_J) (r : Nat) {V : Nat} (hV : gi 3 3 = nI V) (hV8 : V ≤ 8) {W : Nat} (hW : gi 19 3 = nI W) (hW3 : W ≤ 3) {Pn : Nat} (hP : gi 19 4 = nI Pn) (hP4 : Pn ≤ 4) (ge ag mi va ho du fi : Int32)  : zC_i g yX10_print mX10_print 2 [.ref 0, .int ge, .int ag, .int mi, .int va, .int ho, .int du, .int fi] zSH gi gl (zRT r) (fun z gi' gl' gr' => (((nI 0 ≤ ge ∧ ge ≤ nI 3) ∧ (nI 0 ≤ ag ∧ ag ≤ nI 18) ∧ (nI 10 ≤ mi ∧ mi ≤ nI 240) ∧ zin W va ∧ zin V ho ∧ (nI 0 ≤ du ∧ du ≤ nI 4) ∧ (nI 0 ≤ fi ∧ fi ≤ nI 999) ∧ Pn < 4) ∧ z = nI Pn ∧ gi' = zs (fPrRow gi Pn ge ag mi va ho du fi) 19 4 (nI (Pn + 1)) ∧ gl' = gl ∧ gr' = zRT r) ∨ (¬ (((nI 0 ≤ ge ∧ ge ≤ nI 3) ∧ (nI 0 ≤ ag ∧ ag ≤ nI 18) ∧ (nI 10 ≤ mi ∧ mi ≤ nI 240) ∧ zin W va ∧ zin V ho ∧ (nI 0 ≤ du ∧ du ≤ nI 4) ∧ (nI 0 ≤ fi ∧ fi ≤ nI 999) ∧ Pn < 4)) ∧ z = -1 ∧ gi' = gi ∧ gl' = gl ∧ gr' = zRT r)) := by
  refine zC_i_of [some (.ref 0), some (.int ge), some (.int ag), some (.int mi), some (.int va), some (.int ho), some (.int du), some (.int fi), none] (by decide) rfl rfl (Nat.le_of_ble_eq_true rfl) (fun x => ?_)
  refine zA_iload_1 dX10_print_0 ?_
  refine zA_iconst (nI 0) dX10_print_1 ic_0 ?_
  refine zA_iconst (nI 3) dX10_print_2 ic_3 ?_
  refine zA_cSi (ct_isWithin g _ _ _ ge (nI 0) (nI 3)) calX10_isWithin stX10_isWithin lX10_113 dX10_print_3 (by decide) (by simp [Value.category]) rfl (Nat.le_refl _) (Nat.le_refl _) (fun zz gi' gl' gr' ⟨hz, q1, q2, q3⟩ => ?_)
  rw [hz, q1, q2, q3]
  clear hz q1 q2 q3
  refine zA_if_eqB 81 dX10_print_6 (by decide) (fun g0 => ?_) (fun g0 => ?_)
  · refine zA_iconst (nI 0) dX10_print_81 ic_0 ?_
    refine zA_istore_8 dX10_print_82 rfl ?_
    refine zA_iload_8 dX10_print_84 ?_
    refine zA_if_eq 100 dX10_print_86 (by decide) (fun _ => ?_) (fun hh => absurd (by decide) hh)
    refine zA_iconst (-1) dX10_print_100 ic_m1 ?_
    exact zB_iret rfl dX10_print_101 (Or.inr ⟨fun q => (g0) q.1, rfl, rfl, rfl, rfl⟩)
  · refine zA_iload_2 dX10_print_9 ?_
    refine zA_iconst (nI 0) dX10_print_10 ic_0 ?_
    refine zA_bipush (nI 18) dX10_print_11 bc_18 ?_
    refine zA_cSi (ct_isWithin g _ _ _ ag (nI 0) (nI 18)) calX10_isWithin stX10_isWithin lX10_113 dX10_print_13 (by decide) (by simp [Value.category]) rfl (Nat.le_refl _) (Nat.le_refl _) (fun zz gi' gl' gr' ⟨hz, q1, q2, q3⟩ => ?_)
    rw [hz, q1, q2, q3]
    clear hz q1 q2 q3
    refine zA_if_eqB 81 dX10_print_16 (by decide) (fun g1 => ?_) (fun g1 => ?_)
    · refine zA_iconst (nI 0) dX10_print_81 ic_0 ?_
      refine zA_istore_8 dX10_print_82 rfl ?_
      refine zA_iload_8 dX10_print_84 ?_
      refine zA_if_eq 100 dX10_print_86 (by decide) (fun _ => ?_) (fun hh => absurd (by decide) hh)
      refine zA_iconst (-1) dX10_print_100 ic_m1 ?_
      exact zB_iret rfl dX10_print_101 (Or.inr ⟨fun q => (g1) q.2.1, rfl, rfl, rfl, rfl⟩)
    · refine zA_iload_3 dX10_print_19 ?_
      refine zA_bipush (nI 10) dX10_print_20 bc_10 ?_
      refine zA_sipush (nI 240) dX10_print_22 sc_240 ?_
      refine zA_cSi (ct_isWithin g _ _ _ mi (nI 10) (nI 240)) calX10_isWithin stX10_isWithin lX10_113 dX10_print_25 (by decide) (by simp [Value.category]) rfl (Nat.le_refl _) (Nat.le_refl _) (fun zz gi' gl' gr' ⟨hz, q1, q2, q3⟩ => ?_)
      rw [hz, q1, q2, q3]
      clear hz q1 q2 q3
      refine zA_if_eqB 81 dX10_print_28 (by decide) (fun g2 => ?_) (fun g2 => ?_)
      · refine zA_iconst (nI 0) dX10_print_81 ic_0 ?_
        refine zA_istore_8 dX10_print_82 rfl ?_
        refine zA_iload_8 dX10_print_84 ?_
        refine zA_if_eq 100 dX10_print_86 (by decide) (fun _ => ?_) (fun hh => absurd (by decide) hh)
        refine zA_iconst (-1) dX10_print_100 ic_m1 ?_
        exact zB_iret rfl dX10_print_101 (Or.inr ⟨fun q => (g2) q.2.2.1, rfl, rfl, rfl, rfl⟩)
      · refine zA_aload_0 dX10_print_31 ?_
        refine zA_getR sh_0 fX10_27 dX10_print_32 rfl (rt_0_3 _) ?_
        refine zA_iload_4 dX10_print_35 ?_
        refine zA_cVi (ct_hasVanZ g gi gl r hW (by omega) va) calX1_hasVan stX1_hasVan lX10_147 dX10_print_37 (by decide) (by simp [Value.category]) rfl (Nat.le_refl _) (Nat.le_refl _) sh_19 rfl (fun zz gi' gl' gr' ⟨hz, q1, q2, q3⟩ => ?_)
        rw [hz, q1, q2, q3]
        clear hz q1 q2 q3
        refine zA_if_eqB 81 dX10_print_40 (by decide) (fun g3 => ?_) (fun g3 => ?_)
        · refine zA_iconst (nI 0) dX10_print_81 ic_0 ?_
          refine zA_istore_8 dX10_print_82 rfl ?_
          refine zA_iload_8 dX10_print_84 ?_
          refine zA_if_eq 100 dX10_print_86 (by decide) (fun _ => ?_) (fun hh => absurd (by decide) hh)
          refine zA_iconst (-1) dX10_print_100 ic_m1 ?_
          exact zB_iret rfl dX10_print_101 (Or.inr ⟨fun q => (g3) q.2.2.2.1, rfl, rfl, rfl, rfl⟩)
        · refine zA_aload_0 dX10_print_43 ?_
          refine zA_getR sh_0 fX10_20 dX10_print_44 rfl (rt_0_2 _) ?_
          refine zA_iload_5 dX10_print_47 ?_
          refine zA_cVi (ct_hasVillageZ g gi gl r hV (by omega) ho) calX3_hasVillage stX3_hasVillage lX10_124 dX10_print_49 (by decide) (by simp [Value.category]) rfl (Nat.le_refl _) (Nat.le_refl _) sh_3 rfl (fun zz gi' gl' gr' ⟨hz, q1, q2, q3⟩ => ?_)
          rw [hz, q1, q2, q3]
          clear hz q1 q2 q3
          refine zA_if_eqB 81 dX10_print_52 (by decide) (fun g4 => ?_) (fun g4 => ?_)
          · refine zA_iconst (nI 0) dX10_print_81 ic_0 ?_
            refine zA_istore_8 dX10_print_82 rfl ?_
            refine zA_iload_8 dX10_print_84 ?_
            refine zA_if_eq 100 dX10_print_86 (by decide) (fun _ => ?_) (fun hh => absurd (by decide) hh)
            refine zA_iconst (-1) dX10_print_100 ic_m1 ?_
            exact zB_iret rfl dX10_print_101 (Or.inr ⟨fun q => (g4) q.2.2.2.2.1, rfl, rfl, rfl, rfl⟩)
          · refine zA_iload_6 dX10_print_55 ?_
            refine zA_iconst (nI 0) dX10_print_57 ic_0 ?_
            refine zA_iconst (nI 4) dX10_print_58 ic_4 ?_
            refine zA_cSi (ct_isWithin g _ _ _ du (nI 0) (nI 4)) calX10_isWithin stX10_isWithin lX10_113 dX10_print_59 (by decide) (by simp [Value.category]) rfl (Nat.le_refl _) (Nat.le_refl _) (fun zz gi' gl' gr' ⟨hz, q1, q2, q3⟩ => ?_)
            rw [hz, q1, q2, q3]
            clear hz q1 q2 q3
            refine zA_if_eqB 81 dX10_print_62 (by decide) (fun g5 => ?_) (fun g5 => ?_)
            · refine zA_iconst (nI 0) dX10_print_81 ic_0 ?_
              refine zA_istore_8 dX10_print_82 rfl ?_
              refine zA_iload_8 dX10_print_84 ?_
              refine zA_if_eq 100 dX10_print_86 (by decide) (fun _ => ?_) (fun hh => absurd (by decide) hh)
              refine zA_iconst (-1) dX10_print_100 ic_m1 ?_
              exact zB_iret rfl dX10_print_101 (Or.inr ⟨fun q => (g5) q.2.2.2.2.2.1, rfl, rfl, rfl, rfl⟩)
            · refine zA_iload_7 dX10_print_65 ?_
              refine zA_iconst (nI 0) dX10_print_67 ic_0 ?_
              refine zA_sipush (nI 999) dX10_print_68 sc_999 ?_
              refine zA_cSi (ct_isWithin g _ _ _ fi (nI 0) (nI 999)) calX10_isWithin stX10_isWithin lX10_113 dX10_print_71 (by decide) (by simp [Value.category]) rfl (Nat.le_refl _) (Nat.le_refl _) (fun zz gi' gl' gr' ⟨hz, q1, q2, q3⟩ => ?_)
              rw [hz, q1, q2, q3]
              clear hz q1 q2 q3
              refine zA_if_eqB 81 dX10_print_74 (by decide) (fun g6 => ?_) (fun g6 => ?_)
              · refine zA_iconst (nI 0) dX10_print_81 ic_0 ?_
                refine zA_istore_8 dX10_print_82 rfl ?_
                refine zA_iload_8 dX10_print_84 ?_
                refine zA_if_eq 100 dX10_print_86 (by decide) (fun _ => ?_) (fun hh => absurd (by decide) hh)
                refine zA_iconst (-1) dX10_print_100 ic_m1 ?_
                exact zB_iret rfl dX10_print_101 (Or.inr ⟨fun q => (g6) q.2.2.2.2.2.2.1, rfl, rfl, rfl, rfl⟩)
              · refine zA_iconst (nI 1) dX10_print_77 ic_1 ?_
                refine zA_goto 82 dX10_print_78 (by decide) ?_
                refine zA_istore_8 dX10_print_82 rfl ?_
                refine zA_iload_8 dX10_print_84 ?_
                refine zA_if_eq 100 dX10_print_86 (by decide) (fun hh => absurd hh (by decide)) (fun _ => ?_)
                refine zA_aload_0 dX10_print_89 ?_
                refine zA_getR sh_0 fX10_27 dX10_print_90 rfl (rt_0_3 _) ?_
                refine zA_getI (v := (nI Pn)) sh_19 fX10_153 dX10_print_93 rfl hP ?_
                refine zA_iconst (nI 4) dX10_print_96 ic_4 ?_
                refine zA_icmp_ltN 102 dX10_print_97 (by decide) (by omega) (by omega) (fun g7 => ?_) (fun g7 => ?_)
                · refine zA_aload_0 dX10_print_102 ?_
                  refine zA_getR sh_0 fX10_27 dX10_print_103 rfl (rt_0_3 _) ?_
                  refine zA_iload_1 dX10_print_106 ?_
                  refine zA_iload_2 dX10_print_107 ?_
                  refine zA_iload_3 dX10_print_108 ?_
                  refine zA_iload_4 dX10_print_109 ?_
                  refine zA_iload_5 dX10_print_111 ?_
                  refine zA_iload_6 dX10_print_113 ?_
                  refine zA_iload_7 dX10_print_115 ?_
                  refine zA_cVi (ct_addPrint g gi gl r hP g7 _ _ _ _ _ _ _) calX1_addPrint stX1_addPrint lX10_156 dX10_print_117 (by decide) (by simp [Value.category]) rfl (Nat.le_refl _) (Nat.le_refl _) sh_19 rfl (fun zz gi' gl' gr' ⟨hz, q1, q2, q3⟩ => ?_)
                  rw [hz, q1, q2, q3]
                  clear hz q1 q2 q3
                  exact zB_iret rfl dX10_print_120 (Or.inl ⟨⟨g0, g1, g2, g3, g4, g5, g6, g7⟩, rfl, rfl, rfl, rfl⟩)
                · refine zA_iconst (-1) dX10_print_100 ic_m1 ?_
                  exact zB_iret rfl dX10_print_101 (Or.inr ⟨fun q => (Nat.not_lt.mpr g7) q.2.2.2.2.2.2.2, rfl, rfl, rfl, rfl⟩)
theorem ct_like (g : zm_G) (gi : zm_I) (gl : zm_J) (r : Nat) {V : Nat} (hV : gi 3 3 = nI V) (hV8 : V ≤ 8) (a b n : Int32)  : zC_i g yX10_like mX10_like 2 [.ref 0, .int a, .int b, .int n] zSH gi gl (zRT r) (fun z gi' gl' gr' => ((zin V a ∧ (nI 0 ≤ b ∧ b ≤ nI 3) ∧ (nI 0 ≤ n ∧ n ≤ nI 100)) ∧ z = nI 1 ∧ gi' = zs gi (5 + zi a) (4 + zi b) n ∧ gl' = gl ∧ gr' = zRT r) ∨ (¬ ((zin V a ∧ (nI 0 ≤ b ∧ b ≤ nI 3) ∧ (nI 0 ≤ n ∧ n ≤ nI 100))) ∧ z = nI 0 ∧ gi' = gi ∧ gl' = gl ∧ gr' = zRT r)) := by
  refine zC_i_of [some (.ref 0), some (.int a), some (.int b), some (.int n)] (by decide) rfl rfl (Nat.le_of_ble_eq_true rfl) (fun x => ?_)
  refine zA_aload_0 dX10_like_0 ?_
  refine zA_getR sh_0 fX10_20 dX10_like_1 rfl (rt_0_2 _) ?_
  refine zA_iload_1 dX10_like_4 ?_
  refine zA_cVi (ct_hasVillageZ g gi gl r hV (by omega) a) calX3_hasVillage stX3_hasVillage lX10_124 dX10_like_5 (by decide) (by simp [Value.category]) rfl (Nat.le_refl _) (Nat.le_refl _) sh_3 rfl (fun zz gi' gl' gr' ⟨hz, q1, q2, q3⟩ => ?_)
  rw [hz, q1, q2, q3]
  clear hz q1 q2 q3
  refine zA_if_eqB 30 dX10_like_8 (by decide) (fun g0 => ?_) (fun g0 => ?_)
  · refine zA_iconst (nI 0) dX10_like_30 ic_0 ?_
    exact zB_zret rfl dX10_like_31 (by decide) (Or.inr ⟨fun q => (g0) q.1, rfl, rfl, rfl, rfl⟩)
  · refine zA_iload_2 dX10_like_11 ?_
    refine zA_iconst (nI 0) dX10_like_12 ic_0 ?_
    refine zA_iconst (nI 3) dX10_like_13 ic_3 ?_
    refine zA_cSi (ct_isWithin g _ _ _ b (nI 0) (nI 3)) calX10_isWithin stX10_isWithin lX10_113 dX10_like_14 (by decide) (by simp [Value.category]) rfl (Nat.le_refl _) (Nat.le_refl _) (fun zz gi' gl' gr' ⟨hz, q1, q2, q3⟩ => ?_)
    rw [hz, q1, q2, q3]
    clear hz q1 q2 q3
    refine zA_if_eqB 30 dX10_like_17 (by decide) (fun g1 => ?_) (fun g1 => ?_)
    · refine zA_iconst (nI 0) dX10_like_30 ic_0 ?_
      exact zB_zret rfl dX10_like_31 (by decide) (Or.inr ⟨fun q => (g1) q.2.1, rfl, rfl, rfl, rfl⟩)
    · refine zA_iload_3 dX10_like_20 ?_
      refine zA_iconst (nI 0) dX10_like_21 ic_0 ?_
      refine zA_bipush (nI 100) dX10_like_22 bc_100 ?_
      refine zA_cSi (ct_isWithin g _ _ _ n (nI 0) (nI 100)) calX10_isWithin stX10_isWithin lX10_113 dX10_like_24 (by decide) (by simp [Value.category]) rfl (Nat.le_refl _) (Nat.le_refl _) (fun zz gi' gl' gr' ⟨hz, q1, q2, q3⟩ => ?_)
      rw [hz, q1, q2, q3]
      clear hz q1 q2 q3
      refine zA_if_neB 32 dX10_like_27 (by decide) (fun g2 => ?_) (fun g2 => ?_)
      · obtain ⟨v, hv, rfl⟩ := zin_nat g0 (by omega)
        obtain ⟨k, hk, rfl⟩ := zwi_nat g1 (by omega)
        refine zA_aload_0 dX10_like_32 ?_
        refine zA_getR sh_0 fX10_20 dX10_like_33 rfl (rt_0_2 _) ?_
        refine zA_getR sh_3 fX10_127 dX10_like_36 rfl (rt_3_0 _) ?_
        refine zA_iload_1 dX10_like_39 ?_
        refine zA_aald v sh_4 dX10_like_40 rfl (by omega) (by decide) (rtr_fa _ (by omega)) ?_
        refine zA_iconst (nI 4) dX10_like_41 ic_4 ?_
        refine zA_iload_2 dX10_like_42 ?_
        refine zA_iaddN dX10_like_43 ?_
        refine zA_iload_3 dX10_like_44 ?_
        refine zS_iast (4 + k) (shr_fa (by omega)) dX10_like_45 rfl (by omega) (by decide) ?_
        refine zA_iconst (nI 1) dX10_like_46 ic_1 ?_
        exact zB_zret rfl dX10_like_47 (by decide) (Or.inl ⟨⟨g0, g1, g2⟩, rfl, by rw [zi_nI (by omega), zi_nI (by omega)], rfl, rfl⟩)
      · refine zA_iconst (nI 0) dX10_like_30 ic_0 ?_
        exact zB_zret rfl dX10_like_31 (by decide) (Or.inr ⟨fun q => (g2) q.2.2, rfl, rfl, rfl, rfl⟩)
theorem ct_broken (g : zm_G) (gi : zm_I) (gl : zm_J) (r : Nat) {W : Nat} (hW : gi 19 3 = nI W) (hW3 : W ≤ 3) (a n : Int32)  : zC_i g yX10_broken mX10_broken 2 [.ref 0, .int a, .int n] zSH gi gl (zRT r) (fun z gi' gl' gr' => ((zin W a ∧ (nI 0 ≤ n ∧ n ≤ nI 15)) ∧ z = nI 1 ∧ gi' = zs gi 21 (zi a) n ∧ gl' = gl ∧ gr' = zRT r) ∨ (¬ ((zin W a ∧ (nI 0 ≤ n ∧ n ≤ nI 15))) ∧ z = nI 0 ∧ gi' = gi ∧ gl' = gl ∧ gr' = zRT r)) := by
  refine zC_i_of [some (.ref 0), some (.int a), some (.int n)] (by decide) rfl rfl (Nat.le_of_ble_eq_true rfl) (fun x => ?_)
  refine zA_aload_0 dX10_broken_0 ?_
  refine zA_getR sh_0 fX10_27 dX10_broken_1 rfl (rt_0_3 _) ?_
  refine zA_iload_1 dX10_broken_4 ?_
  refine zA_cVi (ct_hasVanZ g gi gl r hW (by omega) a) calX1_hasVan stX1_hasVan lX10_147 dX10_broken_5 (by decide) (by simp [Value.category]) rfl (Nat.le_refl _) (Nat.le_refl _) sh_19 rfl (fun zz gi' gl' gr' ⟨hz, q1, q2, q3⟩ => ?_)
  rw [hz, q1, q2, q3]
  clear hz q1 q2 q3
  refine zA_if_eqB 21 dX10_broken_8 (by decide) (fun g0 => ?_) (fun g0 => ?_)
  · refine zA_iconst (nI 0) dX10_broken_21 ic_0 ?_
    exact zB_zret rfl dX10_broken_22 (by decide) (Or.inr ⟨fun q => (g0) q.1, rfl, rfl, rfl, rfl⟩)
  · refine zA_iload_2 dX10_broken_11 ?_
    refine zA_iconst (nI 0) dX10_broken_12 ic_0 ?_
    refine zA_bipush (nI 15) dX10_broken_13 bc_15 ?_
    refine zA_cSi (ct_isWithin g _ _ _ n (nI 0) (nI 15)) calX10_isWithin stX10_isWithin lX10_113 dX10_broken_15 (by decide) (by simp [Value.category]) rfl (Nat.le_refl _) (Nat.le_refl _) (fun zz gi' gl' gr' ⟨hz, q1, q2, q3⟩ => ?_)
    rw [hz, q1, q2, q3]
    clear hz q1 q2 q3
    refine zA_if_neB 23 dX10_broken_18 (by decide) (fun g1 => ?_) (fun g1 => ?_)
    · obtain ⟨v, hv, rfl⟩ := zin_nat g0 (by omega)
      refine zA_aload_0 dX10_broken_23 ?_
      refine zA_getR sh_0 fX10_27 dX10_broken_24 rfl (rt_0_3 _) ?_
      refine zA_getR sh_19 fX10_150 dX10_broken_27 rfl (rt_19_1 _) ?_
      refine zA_iload_1 dX10_broken_30 ?_
      refine zA_iload_2 dX10_broken_31 ?_
      refine zS_iast v sh_21 dX10_broken_32 rfl (by omega) (by decide) ?_
      refine zA_iconst (nI 1) dX10_broken_33 ic_1 ?_
      exact zB_zret rfl dX10_broken_34 (by decide) (Or.inl ⟨⟨g0, g1⟩, rfl, by rw [zi_nI (by omega)], rfl, rfl⟩)
    · refine zA_iconst (nI 0) dX10_broken_21 ic_0 ?_
      exact zB_zret rfl dX10_broken_22 (by decide) (Or.inr ⟨fun q => (g1) q.2, rfl, rfl, rfl, rfl⟩)
theorem ct_egg (g : zm_G) (gi : zm_I) (gl : zm_J) (r : Nat) (a n : Int32)  : zC_i g yX10_egg mX10_egg 2 [.ref 0, .int a, .int n] zSH gi gl (zRT r) (fun z gi' gl' gr' => (((nI 0 ≤ a ∧ a ≤ nI 3) ∧ (nI 1 ≤ n ∧ n ≤ nI 99)) ∧ z = nI 1 ∧ gi' = zs gi 2 (zi a) n ∧ gl' = gl ∧ gr' = zRT r) ∨ (¬ (((nI 0 ≤ a ∧ a ≤ nI 3) ∧ (nI 1 ≤ n ∧ n ≤ nI 99))) ∧ z = nI 0 ∧ gi' = gi ∧ gl' = gl ∧ gr' = zRT r)) := by
  refine zC_i_of [some (.ref 0), some (.int a), some (.int n)] (by decide) rfl rfl (Nat.le_of_ble_eq_true rfl) (fun x => ?_)
  refine zA_iload_1 dX10_egg_0 ?_
  refine zA_cSi (ct_isNight g _ _ _ a) calX10_isNight stX10_isNight lX10_160 dX10_egg_1 (by decide) (by simp [Value.category]) rfl (Nat.le_refl _) (Nat.le_refl _) (fun zz gi' gl' gr' ⟨hz, q1, q2, q3⟩ => ?_)
  rw [hz, q1, q2, q3]
  clear hz q1 q2 q3
  refine zA_if_eqB 17 dX10_egg_4 (by decide) (fun g0 => ?_) (fun g0 => ?_)
  · refine zA_iconst (nI 0) dX10_egg_17 ic_0 ?_
    exact zB_zret rfl dX10_egg_18 (by decide) (Or.inr ⟨fun q => (g0) q.1, rfl, rfl, rfl, rfl⟩)
  · refine zA_iload_2 dX10_egg_7 ?_
    refine zA_iconst (nI 1) dX10_egg_8 ic_1 ?_
    refine zA_bipush (nI 99) dX10_egg_9 bc_99 ?_
    refine zA_cSi (ct_isWithin g _ _ _ n (nI 1) (nI 99)) calX10_isWithin stX10_isWithin lX10_113 dX10_egg_11 (by decide) (by simp [Value.category]) rfl (Nat.le_refl _) (Nat.le_refl _) (fun zz gi' gl' gr' ⟨hz, q1, q2, q3⟩ => ?_)
    rw [hz, q1, q2, q3]
    clear hz q1 q2 q3
    refine zA_if_neB 19 dX10_egg_14 (by decide) (fun g1 => ?_) (fun g1 => ?_)
    · obtain ⟨v, hv, rfl⟩ := zwi_nat g0 (by omega)
      refine zA_aload_0 dX10_egg_19 ?_
      refine zA_getR sh_0 fX10_13 dX10_egg_20 rfl (rt_0_1 _) ?_
      refine zA_iload_1 dX10_egg_23 ?_
      refine zA_iload_2 dX10_egg_24 ?_
      refine zS_iast v sh_2 dX10_egg_25 rfl (by omega) (by decide) ?_
      refine zA_iconst (nI 1) dX10_egg_26 ic_1 ?_
      exact zB_zret rfl dX10_egg_27 (by decide) (Or.inl ⟨⟨g0, g1⟩, rfl, by rw [zi_nI (by omega)], rfl, rfl⟩)
    · refine zA_iconst (nI 0) dX10_egg_17 ic_0 ?_
      exact zB_zret rfl dX10_egg_18 (by decide) (Or.inr ⟨fun q => (g1) q.2, rfl, rfl, rfl, rfl⟩)
theorem ct_way (g : zm_G) (gi : zm_I) (gl : zm_J) (r : Nat) {V : Nat} (hV : gi 3 3 = nI V) (hV8 : V ≤ 8) (a b c : Int32)  : zC_i g yX10_way mX10_way 2 [.ref 0, .int a, .int b, .int c] zSH gi gl (zRT r) (fun z gi' gl' gr' => ((zin V a ∧ zin V b ∧ (nI 0 ≤ c ∧ c ≤ nI 3)) ∧ z = fFew gi (zi a) (zi b) (zi c) ∧ gi' = gi ∧ gl' = gl ∧ gr' = zRT r) ∨ (¬ ((zin V a ∧ zin V b ∧ (nI 0 ≤ c ∧ c ≤ nI 3))) ∧ z = -1 ∧ gi' = gi ∧ gl' = gl ∧ gr' = zRT r)) := by
  refine zC_i_of [some (.ref 0), some (.int a), some (.int b), some (.int c)] (by decide) rfl rfl (Nat.le_of_ble_eq_true rfl) (fun x => ?_)
  refine zA_aload_0 dX10_way_0 ?_
  refine zA_getR sh_0 fX10_20 dX10_way_1 rfl (rt_0_2 _) ?_
  refine zA_iload_1 dX10_way_4 ?_
  refine zA_cVi (ct_hasVillageZ g gi gl r hV (by omega) a) calX3_hasVillage stX3_hasVillage lX10_124 dX10_way_5 (by decide) (by simp [Value.category]) rfl (Nat.le_refl _) (Nat.le_refl _) sh_3 rfl (fun zz gi' gl' gr' ⟨hz, q1, q2, q3⟩ => ?_)
  rw [hz, q1, q2, q3]
  clear hz q1 q2 q3
  refine zA_if_eqB 31 dX10_way_8 (by decide) (fun g0 => ?_) (fun g0 => ?_)
  · refine zA_iconst (-1) dX10_way_31 ic_m1 ?_
    exact zB_iret rfl dX10_way_32 (Or.inr ⟨fun q => (g0) q.1, rfl, rfl, rfl, rfl⟩)
  · refine zA_aload_0 dX10_way_11 ?_
    refine zA_getR sh_0 fX10_20 dX10_way_12 rfl (rt_0_2 _) ?_
    refine zA_iload_2 dX10_way_15 ?_
    refine zA_cVi (ct_hasVillageZ g gi gl r hV (by omega) b) calX3_hasVillage stX3_hasVillage lX10_124 dX10_way_16 (by decide) (by simp [Value.category]) rfl (Nat.le_refl _) (Nat.le_refl _) sh_3 rfl (fun zz gi' gl' gr' ⟨hz, q1, q2, q3⟩ => ?_)
    rw [hz, q1, q2, q3]
    clear hz q1 q2 q3
    refine zA_if_eqB 31 dX10_way_19 (by decide) (fun g1 => ?_) (fun g1 => ?_)
    · refine zA_iconst (-1) dX10_way_31 ic_m1 ?_
      exact zB_iret rfl dX10_way_32 (Or.inr ⟨fun q => (g1) q.2.1, rfl, rfl, rfl, rfl⟩)
    · refine zA_iload_3 dX10_way_22 ?_
      refine zA_iconst (nI 0) dX10_way_23 ic_0 ?_
      refine zA_iconst (nI 3) dX10_way_24 ic_3 ?_
      refine zA_cSi (ct_isWithin g _ _ _ c (nI 0) (nI 3)) calX10_isWithin stX10_isWithin lX10_113 dX10_way_25 (by decide) (by simp [Value.category]) rfl (Nat.le_refl _) (Nat.le_refl _) (fun zz gi' gl' gr' ⟨hz, q1, q2, q3⟩ => ?_)
      rw [hz, q1, q2, q3]
      clear hz q1 q2 q3
      refine zA_if_neB 33 dX10_way_28 (by decide) (fun g2 => ?_) (fun g2 => ?_)
      · obtain ⟨v, hv, rfl⟩ := zin_nat g0 (by omega)
        obtain ⟨k, hk, rfl⟩ := zin_nat g1 (by omega)
        obtain ⟨s, hs, rfl⟩ := zwi_nat g2 (by omega)
        refine zA_aload_0 dX10_way_33 ?_
        refine zA_getR sh_0 fX10_20 dX10_way_34 rfl (rt_0_2 _) ?_
        refine zA_iload_1 dX10_way_37 ?_
        refine zA_iload_2 dX10_way_38 ?_
        refine zA_iload_3 dX10_way_39 ?_
        refine zA_cVi (ct_fewestMinutes g gi gl r (a := v) (b := k) (s := s) (by omega) (by omega) (by omega)) calX3_fewestMinutes stX3_fewestMinutes lX10_163 dX10_way_40 (by decide) (by simp [Value.category]) rfl (Nat.le_refl _) (Nat.le_refl _) sh_3 rfl (fun zz gi' gl' gr' ⟨hz, q1, q2, q3⟩ => ?_)
        rw [hz, q1, q2, q3]
        clear hz q1 q2 q3
        exact zB_iret rfl dX10_way_43 (Or.inl ⟨⟨g0, g1, g2⟩, by rw [zi_nI (by omega), zi_nI (by omega), zi_nI (by omega)], rfl, rfl, rfl⟩)
      · refine zA_iconst (-1) dX10_way_31 ic_m1 ?_
        exact zB_iret rfl dX10_way_32 (Or.inr ⟨fun q => (g2) q.2.2, rfl, rfl, rfl, rfl⟩)
theorem ct_entry (g : zm_G) (gi : zm_I) (gl : zm_J) (r : Nat) {V : Nat} (hV : gi 3 3 = nI V) (hV8 : V ≤ 8) {W : Nat} (hW : gi 19 3 = nI W) (hW3 : W ≤ 3) {Pn : Nat} (hP : gi 19 4 = nI Pn) (hP4 : Pn ≤ 4) {E : Nat} (hE : gi 27 8 = nI E) (hE24 : E ≤ 24) (a b c d : Int32)  : zC_i g yX10_entry mX10_entry 2 [.ref 0, .int a, .int b, .int c, .int d] zSH gi gl (zRT r) (fun z gi' gl' gr' => (((nI 0 ≤ a ∧ a ≤ nI 3) ∧ zin W b ∧ zin V c ∧ zin Pn d ∧ E < 24) ∧ z = nI E ∧ gi' = fAddEA gi E (zi a) (zi b) c d ∧ gl' = gl ∧ gr' = zRT r) ∨ (¬ (((nI 0 ≤ a ∧ a ≤ nI 3) ∧ zin W b ∧ zin V c ∧ zin Pn d ∧ E < 24)) ∧ z = -1 ∧ gi' = gi ∧ gl' = gl ∧ gr' = zRT r)) := by
  refine zC_i_of [some (.ref 0), some (.int a), some (.int b), some (.int c), some (.int d), none] (by decide) rfl rfl (Nat.le_of_ble_eq_true rfl) (fun x => ?_)
  refine zA_iload_1 dX10_entry_0 ?_
  refine zA_cSi (ct_isNight g _ _ _ a) calX10_isNight stX10_isNight lX10_160 dX10_entry_1 (by decide) (by simp [Value.category]) rfl (Nat.le_refl _) (Nat.le_refl _) (fun zz gi' gl' gr' ⟨hz, q1, q2, q3⟩ => ?_)
  rw [hz, q1, q2, q3]
  clear hz q1 q2 q3
  refine zA_if_eqB 45 dX10_entry_4 (by decide) (fun g0 => ?_) (fun g0 => ?_)
  · refine zA_iconst (nI 0) dX10_entry_45 ic_0 ?_
    refine zA_istore_5 dX10_entry_46 rfl ?_
    refine zA_iload_5 dX10_entry_48 ?_
    refine zA_if_eq 65 dX10_entry_50 (by decide) (fun _ => ?_) (fun hh => absurd (by decide) hh)
    refine zA_iconst (-1) dX10_entry_65 ic_m1 ?_
    exact zB_iret rfl dX10_entry_66 (Or.inr ⟨fun q => (g0) q.1, rfl, rfl, rfl, rfl⟩)
  · refine zA_aload_0 dX10_entry_7 ?_
    refine zA_getR sh_0 fX10_27 dX10_entry_8 rfl (rt_0_3 _) ?_
    refine zA_iload_2 dX10_entry_11 ?_
    refine zA_cVi (ct_hasVanZ g gi gl r hW (by omega) b) calX1_hasVan stX1_hasVan lX10_147 dX10_entry_12 (by decide) (by simp [Value.category]) rfl (Nat.le_refl _) (Nat.le_refl _) sh_19 rfl (fun zz gi' gl' gr' ⟨hz, q1, q2, q3⟩ => ?_)
    rw [hz, q1, q2, q3]
    clear hz q1 q2 q3
    refine zA_if_eqB 45 dX10_entry_15 (by decide) (fun g1 => ?_) (fun g1 => ?_)
    · refine zA_iconst (nI 0) dX10_entry_45 ic_0 ?_
      refine zA_istore_5 dX10_entry_46 rfl ?_
      refine zA_iload_5 dX10_entry_48 ?_
      refine zA_if_eq 65 dX10_entry_50 (by decide) (fun _ => ?_) (fun hh => absurd (by decide) hh)
      refine zA_iconst (-1) dX10_entry_65 ic_m1 ?_
      exact zB_iret rfl dX10_entry_66 (Or.inr ⟨fun q => (g1) q.2.1, rfl, rfl, rfl, rfl⟩)
    · refine zA_aload_0 dX10_entry_18 ?_
      refine zA_getR sh_0 fX10_20 dX10_entry_19 rfl (rt_0_2 _) ?_
      refine zA_iload_3 dX10_entry_22 ?_
      refine zA_cVi (ct_hasVillageZ g gi gl r hV (by omega) c) calX3_hasVillage stX3_hasVillage lX10_124 dX10_entry_23 (by decide) (by simp [Value.category]) rfl (Nat.le_refl _) (Nat.le_refl _) sh_3 rfl (fun zz gi' gl' gr' ⟨hz, q1, q2, q3⟩ => ?_)
      rw [hz, q1, q2, q3]
      clear hz q1 q2 q3
      refine zA_if_eqB 45 dX10_entry_26 (by decide) (fun g2 => ?_) (fun g2 => ?_)
      · refine zA_iconst (nI 0) dX10_entry_45 ic_0 ?_
        refine zA_istore_5 dX10_entry_46 rfl ?_
        refine zA_iload_5 dX10_entry_48 ?_
        refine zA_if_eq 65 dX10_entry_50 (by decide) (fun _ => ?_) (fun hh => absurd (by decide) hh)
        refine zA_iconst (-1) dX10_entry_65 ic_m1 ?_
        exact zB_iret rfl dX10_entry_66 (Or.inr ⟨fun q => (g2) q.2.2.1, rfl, rfl, rfl, rfl⟩)
      · refine zA_aload_0 dX10_entry_29 ?_
        refine zA_getR sh_0 fX10_27 dX10_entry_30 rfl (rt_0_3 _) ?_
        refine zA_iload_4 dX10_entry_33 ?_
        refine zA_cVi (ct_hasPrintZ g gi gl r hP (by omega) d) calX1_hasPrint stX1_hasPrint lX10_167 dX10_entry_35 (by decide) (by simp [Value.category]) rfl (Nat.le_refl _) (Nat.le_refl _) sh_19 rfl (fun zz gi' gl' gr' ⟨hz, q1, q2, q3⟩ => ?_)
        rw [hz, q1, q2, q3]
        clear hz q1 q2 q3
        refine zA_if_eqB 45 dX10_entry_38 (by decide) (fun g3 => ?_) (fun g3 => ?_)
        · refine zA_iconst (nI 0) dX10_entry_45 ic_0 ?_
          refine zA_istore_5 dX10_entry_46 rfl ?_
          refine zA_iload_5 dX10_entry_48 ?_
          refine zA_if_eq 65 dX10_entry_50 (by decide) (fun _ => ?_) (fun hh => absurd (by decide) hh)
          refine zA_iconst (-1) dX10_entry_65 ic_m1 ?_
          exact zB_iret rfl dX10_entry_66 (Or.inr ⟨fun q => (g3) q.2.2.2.1, rfl, rfl, rfl, rfl⟩)
        · refine zA_iconst (nI 1) dX10_entry_41 ic_1 ?_
          refine zA_goto 46 dX10_entry_42 (by decide) ?_
          refine zA_istore_5 dX10_entry_46 rfl ?_
          refine zA_iload_5 dX10_entry_48 ?_
          refine zA_if_eq 65 dX10_entry_50 (by decide) (fun hh => absurd hh (by decide)) (fun _ => ?_)
          refine zA_aload_0 dX10_entry_53 ?_
          refine zA_getR sh_0 fX10_34 dX10_entry_54 rfl (rt_0_4 _) ?_
          refine zA_getI (v := (nI E)) sh_27 fX10_170 dX10_entry_57 rfl hE ?_
          refine zA_bipush (nI 24) dX10_entry_60 bc_24 ?_
          refine zA_icmp_ltN 67 dX10_entry_62 (by decide) (by omega) (by omega) (fun g4 => ?_) (fun g4 => ?_)
          · obtain ⟨n, hn, rfl⟩ := zwi_nat g0 (by omega)
            obtain ⟨w, hw, rfl⟩ := zin_nat g1 (by omega)
            refine zA_aload_0 dX10_entry_67 ?_
            refine zA_getR sh_0 fX10_34 dX10_entry_68 rfl (rt_0_4 _) ?_
            refine zA_iload_1 dX10_entry_71 ?_
            refine zA_iload_2 dX10_entry_72 ?_
            refine zA_iload_3 dX10_entry_73 ?_
            refine zA_iload_4 dX10_entry_74 ?_
            refine zA_cVi (ct_addEntryA g gi gl r (E := E) (n := n) (v := w) hE (by omega) (by omega) (by omega) _ _) calX7_addEntry stX7_addEntry lX10_173 dX10_entry_76 (by decide) (by simp [Value.category]) rfl (Nat.le_refl _) (Nat.le_refl _) sh_27 rfl (fun zz gi' gl' gr' ⟨hz, q1, q2, q3⟩ => ?_)
            rw [hz, q1, q2, q3]
            clear hz q1 q2 q3
            exact zB_iret rfl dX10_entry_79 (Or.inl ⟨⟨g0, g1, g2, g3, g4⟩, rfl, by rw [zi_nI (by omega), zi_nI (by omega)], rfl, rfl⟩)
          · refine zA_iconst (-1) dX10_entry_65 ic_m1 ?_
            exact zB_iret rfl dX10_entry_66 (Or.inr ⟨fun q => (Nat.not_lt.mpr g4) q.2.2.2.2, rfl, rfl, rfl, rfl⟩)
theorem ct_hand (g : zm_G) (gi : zm_I) (gl : zm_J) (r : Nat) {W : Nat} (hW : gi 19 3 = nI W) (hW3 : W ≤ 3) {Pn : Nat} (hP : gi 19 4 = nI Pn) (hP4 : Pn ≤ 4) {K : Nat} (hK : gi 27 9 = nI K) (hK12 : K ≤ 12) (a b c : Int32)  : zC_i g yX10_hand mX10_hand 2 [.ref 0, .int a, .int b, .int c] zSH gi gl (zRT r) (fun z gi' gl' gr' => (((nI 0 ≤ a ∧ a ≤ nI 3) ∧ zin Pn b ∧ zin W c ∧ K < 12) ∧ z = nI K ∧ gi' = fAddHA gi K a b c ∧ gl' = gl ∧ gr' = zRT r) ∨ (¬ (((nI 0 ≤ a ∧ a ≤ nI 3) ∧ zin Pn b ∧ zin W c ∧ K < 12)) ∧ z = -1 ∧ gi' = gi ∧ gl' = gl ∧ gr' = zRT r)) := by
  refine zC_i_of [some (.ref 0), some (.int a), some (.int b), some (.int c), none] (by decide) rfl rfl (Nat.le_of_ble_eq_true rfl) (fun x => ?_)
  refine zA_iload_1 dX10_hand_0 ?_
  refine zA_cSi (ct_isNight g _ _ _ a) calX10_isNight stX10_isNight lX10_160 dX10_hand_1 (by decide) (by simp [Value.category]) rfl (Nat.le_refl _) (Nat.le_refl _) (fun zz gi' gl' gr' ⟨hz, q1, q2, q3⟩ => ?_)
  rw [hz, q1, q2, q3]
  clear hz q1 q2 q3
  refine zA_if_eqB 33 dX10_hand_4 (by decide) (fun g0 => ?_) (fun g0 => ?_)
  · refine zA_iconst (nI 0) dX10_hand_33 ic_0 ?_
    refine zA_istore_4 dX10_hand_34 rfl ?_
    refine zA_iload_4 dX10_hand_36 ?_
    refine zA_if_eq 53 dX10_hand_38 (by decide) (fun _ => ?_) (fun hh => absurd (by decide) hh)
    refine zA_iconst (-1) dX10_hand_53 ic_m1 ?_
    exact zB_iret rfl dX10_hand_54 (Or.inr ⟨fun q => (g0) q.1, rfl, rfl, rfl, rfl⟩)
  · refine zA_aload_0 dX10_hand_7 ?_
    refine zA_getR sh_0 fX10_27 dX10_hand_8 rfl (rt_0_3 _) ?_
    refine zA_iload_2 dX10_hand_11 ?_
    refine zA_cVi (ct_hasPrintZ g gi gl r hP (by omega) b) calX1_hasPrint stX1_hasPrint lX10_167 dX10_hand_12 (by decide) (by simp [Value.category]) rfl (Nat.le_refl _) (Nat.le_refl _) sh_19 rfl (fun zz gi' gl' gr' ⟨hz, q1, q2, q3⟩ => ?_)
    rw [hz, q1, q2, q3]
    clear hz q1 q2 q3
    refine zA_if_eqB 33 dX10_hand_15 (by decide) (fun g1 => ?_) (fun g1 => ?_)
    · refine zA_iconst (nI 0) dX10_hand_33 ic_0 ?_
      refine zA_istore_4 dX10_hand_34 rfl ?_
      refine zA_iload_4 dX10_hand_36 ?_
      refine zA_if_eq 53 dX10_hand_38 (by decide) (fun _ => ?_) (fun hh => absurd (by decide) hh)
      refine zA_iconst (-1) dX10_hand_53 ic_m1 ?_
      exact zB_iret rfl dX10_hand_54 (Or.inr ⟨fun q => (g1) q.2.1, rfl, rfl, rfl, rfl⟩)
    · refine zA_aload_0 dX10_hand_18 ?_
      refine zA_getR sh_0 fX10_27 dX10_hand_19 rfl (rt_0_3 _) ?_
      refine zA_iload_3 dX10_hand_22 ?_
      refine zA_cVi (ct_hasVanZ g gi gl r hW (by omega) c) calX1_hasVan stX1_hasVan lX10_147 dX10_hand_23 (by decide) (by simp [Value.category]) rfl (Nat.le_refl _) (Nat.le_refl _) sh_19 rfl (fun zz gi' gl' gr' ⟨hz, q1, q2, q3⟩ => ?_)
      rw [hz, q1, q2, q3]
      clear hz q1 q2 q3
      refine zA_if_eqB 33 dX10_hand_26 (by decide) (fun g2 => ?_) (fun g2 => ?_)
      · refine zA_iconst (nI 0) dX10_hand_33 ic_0 ?_
        refine zA_istore_4 dX10_hand_34 rfl ?_
        refine zA_iload_4 dX10_hand_36 ?_
        refine zA_if_eq 53 dX10_hand_38 (by decide) (fun _ => ?_) (fun hh => absurd (by decide) hh)
        refine zA_iconst (-1) dX10_hand_53 ic_m1 ?_
        exact zB_iret rfl dX10_hand_54 (Or.inr ⟨fun q => (g2) q.2.2.1, rfl, rfl, rfl, rfl⟩)
      · refine zA_iconst (nI 1) dX10_hand_29 ic_1 ?_
        refine zA_goto 34 dX10_hand_30 (by decide) ?_
        refine zA_istore_4 dX10_hand_34 rfl ?_
        refine zA_iload_4 dX10_hand_36 ?_
        refine zA_if_eq 53 dX10_hand_38 (by decide) (fun hh => absurd hh (by decide)) (fun _ => ?_)
        refine zA_aload_0 dX10_hand_41 ?_
        refine zA_getR sh_0 fX10_34 dX10_hand_42 rfl (rt_0_4 _) ?_
        refine zA_getI (v := (nI K)) sh_27 fX10_176 dX10_hand_45 rfl hK ?_
        refine zA_bipush (nI 12) dX10_hand_48 bc_12 ?_
        refine zA_icmp_ltN 55 dX10_hand_50 (by decide) (by omega) (by omega) (fun g3 => ?_) (fun g3 => ?_)
        · refine zA_aload_0 dX10_hand_55 ?_
          refine zA_getR sh_0 fX10_34 dX10_hand_56 rfl (rt_0_4 _) ?_
          refine zA_iload_1 dX10_hand_59 ?_
          refine zA_iload_2 dX10_hand_60 ?_
          refine zA_iload_3 dX10_hand_61 ?_
          refine zA_cVi (ct_addHandA g gi gl r hK g3 _ _ _) calX7_addHand stX7_addHand lX10_179 dX10_hand_62 (by decide) (by simp [Value.category]) rfl (Nat.le_refl _) (Nat.le_refl _) sh_27 rfl (fun zz gi' gl' gr' ⟨hz, q1, q2, q3⟩ => ?_)
          rw [hz, q1, q2, q3]
          clear hz q1 q2 q3
          exact zB_iret rfl dX10_hand_65 (Or.inl ⟨⟨g0, g1, g2, g3⟩, rfl, rfl, rfl, rfl⟩)
        · refine zA_iconst (-1) dX10_hand_53 ic_m1 ?_
          exact zB_iret rfl dX10_hand_54 (Or.inr ⟨fun q => (Nat.not_lt.mpr g3) q.2.2.2, rfl, rfl, rfl, rfl⟩)
theorem ct_report (g : zm_G) (gi : zm_I) (gl : zm_J) (r : Nat) {V : Nat} (hV : gi 3 3 = nI V) (hV8 : V ≤ 8) {K : Nat} (hK : gi 51 5 = nI K) (hK40 : K ≤ 40) (a b c : Int32)  : zC_i g yX10_report mX10_report 2 [.ref 0, .int a, .int b, .int c] zSH gi gl (zRT r) (fun z gi' gl' gr' => ((zin V a ∧ (nI 0 ≤ b ∧ b ≤ nI 3) ∧ (nI 0 ≤ c ∧ c ≤ nI 500) ∧ K < 40) ∧ z = nI K ∧ gi' = zs (zs (zs (zs (zs gi 52 K a) 53 K b) 54 K c) 55 K (-1)) 51 5 (nI (K + 1)) ∧ gl' = gl ∧ gr' = zRT r) ∨ (¬ ((zin V a ∧ (nI 0 ≤ b ∧ b ≤ nI 3) ∧ (nI 0 ≤ c ∧ c ≤ nI 500) ∧ K < 40)) ∧ z = -1 ∧ gi' = gi ∧ gl' = gl ∧ gr' = zRT r)) := by
  refine zC_i_of [some (.ref 0), some (.int a), some (.int b), some (.int c), none] (by decide) rfl rfl (Nat.le_of_ble_eq_true rfl) (fun x => ?_)
  refine zA_aload_0 dX10_report_0 ?_
  refine zA_getR sh_0 fX10_20 dX10_report_1 rfl (rt_0_2 _) ?_
  refine zA_iload_1 dX10_report_4 ?_
  refine zA_cVi (ct_hasVillageZ g gi gl r hV (by omega) a) calX3_hasVillage stX3_hasVillage lX10_124 dX10_report_5 (by decide) (by simp [Value.category]) rfl (Nat.le_refl _) (Nat.le_refl _) sh_3 rfl (fun zz gi' gl' gr' ⟨hz, q1, q2, q3⟩ => ?_)
  rw [hz, q1, q2, q3]
  clear hz q1 q2 q3
  refine zA_if_eqB 33 dX10_report_8 (by decide) (fun g0 => ?_) (fun g0 => ?_)
  · refine zA_iconst (nI 0) dX10_report_33 ic_0 ?_
    refine zA_istore_4 dX10_report_34 rfl ?_
    refine zA_iload_4 dX10_report_36 ?_
    refine zA_if_eq 53 dX10_report_38 (by decide) (fun _ => ?_) (fun hh => absurd (by decide) hh)
    refine zA_iconst (-1) dX10_report_53 ic_m1 ?_
    exact zB_iret rfl dX10_report_54 (Or.inr ⟨fun q => (g0) q.1, rfl, rfl, rfl, rfl⟩)
  · refine zA_iload_2 dX10_report_11 ?_
    refine zA_cSi (ct_isNight g _ _ _ b) calX10_isNight stX10_isNight lX10_160 dX10_report_12 (by decide) (by simp [Value.category]) rfl (Nat.le_refl _) (Nat.le_refl _) (fun zz gi' gl' gr' ⟨hz, q1, q2, q3⟩ => ?_)
    rw [hz, q1, q2, q3]
    clear hz q1 q2 q3
    refine zA_if_eqB 33 dX10_report_15 (by decide) (fun g1 => ?_) (fun g1 => ?_)
    · refine zA_iconst (nI 0) dX10_report_33 ic_0 ?_
      refine zA_istore_4 dX10_report_34 rfl ?_
      refine zA_iload_4 dX10_report_36 ?_
      refine zA_if_eq 53 dX10_report_38 (by decide) (fun _ => ?_) (fun hh => absurd (by decide) hh)
      refine zA_iconst (-1) dX10_report_53 ic_m1 ?_
      exact zB_iret rfl dX10_report_54 (Or.inr ⟨fun q => (g1) q.2.1, rfl, rfl, rfl, rfl⟩)
    · refine zA_iload_3 dX10_report_18 ?_
      refine zA_iconst (nI 0) dX10_report_19 ic_0 ?_
      refine zA_sipush (nI 500) dX10_report_20 sc_500 ?_
      refine zA_cSi (ct_isWithin g _ _ _ c (nI 0) (nI 500)) calX10_isWithin stX10_isWithin lX10_113 dX10_report_23 (by decide) (by simp [Value.category]) rfl (Nat.le_refl _) (Nat.le_refl _) (fun zz gi' gl' gr' ⟨hz, q1, q2, q3⟩ => ?_)
      rw [hz, q1, q2, q3]
      clear hz q1 q2 q3
      refine zA_if_eqB 33 dX10_report_26 (by decide) (fun g2 => ?_) (fun g2 => ?_)
      · refine zA_iconst (nI 0) dX10_report_33 ic_0 ?_
        refine zA_istore_4 dX10_report_34 rfl ?_
        refine zA_iload_4 dX10_report_36 ?_
        refine zA_if_eq 53 dX10_report_38 (by decide) (fun _ => ?_) (fun hh => absurd (by decide) hh)
        refine zA_iconst (-1) dX10_report_53 ic_m1 ?_
        exact zB_iret rfl dX10_report_54 (Or.inr ⟨fun q => (g2) q.2.2.1, rfl, rfl, rfl, rfl⟩)
      · refine zA_iconst (nI 1) dX10_report_29 ic_1 ?_
        refine zA_goto 34 dX10_report_30 (by decide) ?_
        refine zA_istore_4 dX10_report_34 rfl ?_
        refine zA_iload_4 dX10_report_36 ?_
        refine zA_if_eq 53 dX10_report_38 (by decide) (fun hh => absurd hh (by decide)) (fun _ => ?_)
        refine zA_aload_0 dX10_report_41 ?_
        refine zA_getR sh_0 fX10_57 dX10_report_42 rfl (rt_0_7 _) ?_
        refine zA_getI (v := (nI K)) sh_51 fX10_249 dX10_report_45 rfl hK ?_
        refine zA_bipush (nI 40) dX10_report_48 bc_40 ?_
        refine zA_icmp_ltN 55 dX10_report_50 (by decide) (by omega) (by omega) (fun g3 => ?_) (fun g3 => ?_)
        · refine zA_aload_0 dX10_report_55 ?_
          refine zA_getR sh_0 fX10_57 dX10_report_56 rfl (rt_0_7 _) ?_
          refine zA_iload_1 dX10_report_59 ?_
          refine zA_iload_2 dX10_report_60 ?_
          refine zA_iload_3 dX10_report_61 ?_
          refine zA_cVi (ct_addReport g gi gl r hK g3 _ _ _) calX5_addReport stX5_addReport lX10_252 dX10_report_62 (by decide) (by simp [Value.category]) rfl (Nat.le_refl _) (Nat.le_refl _) sh_51 rfl (fun zz gi' gl' gr' ⟨hz, q1, q2, q3⟩ => ?_)
          rw [hz, q1, q2, q3]
          clear hz q1 q2 q3
          exact zB_iret rfl dX10_report_65 (Or.inl ⟨⟨g0, g1, g2, g3⟩, rfl, rfl, rfl, rfl⟩)
        · refine zA_iconst (-1) dX10_report_53 ic_m1 ?_
          exact zB_iret rfl dX10_report_54 (Or.inr ⟨fun q => (Nat.not_lt.mpr g3) q.2.2.2, rfl, rfl, rfl, rfl⟩)
