theorem ct_strike (g : zm_G) (gi : zm_I) (gl : zm_J) (r : Nat) {K : Nat} (hK : gi 51 5 = nI K) (hK40 : K ≤ 40) (a : Int32)  : zC_i g yX10_strike mX10_strike 1 [.ref 0, .int a] zSH gi gl (zRT r) (fun z gi' gl' gr' => (((nI 0 ≤ a ∧ a ≤ nI K - nI 1) ∧ K < 40) ∧ z = nI K ∧ gi' = zs (zs gi 55 K a) 51 5 (nI (K + 1)) ∧ gl' = gl ∧ gr' = zRT r) ∨ (¬ (((nI 0 ≤ a ∧ a ≤ nI K - nI 1) ∧ K < 40)) ∧ z = -1 ∧ gi' = gi ∧ gl' = gl ∧ gr' = zRT r)) := by
  refine zC_i_of [some (.ref 0), some (.int a)] (by decide) rfl rfl (Nat.le_of_ble_eq_true rfl) (fun x => ?_)
  refine zA_iload_1 dX10_strike_0 ?_
  refine zA_iconst (nI 0) dX10_strike_1 ic_0 ?_
  refine zA_aload_0 dX10_strike_2 ?_
  refine zA_getR sh_0 fX10_57 dX10_strike_3 rfl (rt_0_7 _) ?_
  refine zA_getI (v := (nI K)) sh_51 fX10_249 dX10_strike_6 rfl hK ?_
  refine zA_iconst (nI 1) dX10_strike_9 ic_1 ?_
  refine zA_isub dX10_strike_10 ?_
  refine zA_cSi (ct_isWithin g _ _ _ a (nI 0) ((nI K) - (nI 1))) calX10_isWithin stX10_isWithin lX10_113 dX10_strike_11 (by decide) (by simp [Value.category]) rfl (Nat.le_refl _) (Nat.le_refl _) (fun zz gi' gl' gr' ⟨hz, q1, q2, q3⟩ => ?_)
  rw [hz, q1, q2, q3]
  clear hz q1 q2 q3
  refine zA_if_eqB 29 dX10_strike_14 (by decide) (fun g0 => ?_) (fun g0 => ?_)
  · refine zA_iconst (-1) dX10_strike_29 ic_m1 ?_
    exact zB_iret rfl dX10_strike_30 (Or.inr ⟨fun q => (g0) q.1, rfl, rfl, rfl, rfl⟩)
  · refine zA_aload_0 dX10_strike_17 ?_
    refine zA_getR sh_0 fX10_57 dX10_strike_18 rfl (rt_0_7 _) ?_
    refine zA_getI (v := (nI K)) sh_51 fX10_249 dX10_strike_21 rfl hK ?_
    refine zA_bipush (nI 40) dX10_strike_24 bc_40 ?_
    refine zA_icmp_ltN 31 dX10_strike_26 (by decide) (by omega) (by omega) (fun g1 => ?_) (fun g1 => ?_)
    · refine zA_aload_0 dX10_strike_31 ?_
      refine zA_getR sh_0 fX10_57 dX10_strike_32 rfl (rt_0_7 _) ?_
      refine zA_iload_1 dX10_strike_35 ?_
      refine zA_cVi (ct_addStrike g gi gl r hK g1 _) calX5_addStrike stX5_addStrike lX10_255 dX10_strike_36 (by decide) (by simp [Value.category]) rfl (Nat.le_refl _) (Nat.le_refl _) sh_51 rfl (fun zz gi' gl' gr' ⟨hz, q1, q2, q3⟩ => ?_)
      rw [hz, q1, q2, q3]
      clear hz q1 q2 q3
      exact zB_iret rfl dX10_strike_39 (Or.inl ⟨⟨g0, g1⟩, rfl, rfl, rfl, rfl⟩)
    · refine zA_iconst (-1) dX10_strike_29 ic_m1 ?_
      exact zB_iret rfl dX10_strike_30 (Or.inr ⟨fun q => (Nat.not_lt.mpr g1) q.2, rfl, rfl, rfl, rfl⟩)
theorem ct_road (g : zm_G) (gi : zm_I) (gl : zm_J) (r : Nat) {V : Nat} (hV : gi 3 3 = nI V) (hV8 : V ≤ 8) {Rd Ps : Nat} (hR : gi 3 4 = nI Rd) (hRd : Rd ≤ 14) (hPs : gi 3 5 = nI Ps) (hPs2 : Ps ≤ 2) (a b m s : Int32)  : zC_i g yX10_road mX10_road 3 [.ref 0, .int a, .int b, .int m, .int s] zSH gi gl (zRT r) (fun z gi' gl' gr' => ((zin V a ∧ zin V b ∧ ¬ a = b ∧ (nI 1 ≤ m ∧ m ≤ nI 600) ∧ (nI 0 ≤ s ∧ s ≤ nI 15) ∧ Rd < 14 ∧ (s ≤ 0 ∨ Ps < 2)) ∧ z = nI Rd ∧ gi' = fAddRoad gi Ps Rd (zi a) (zi b) m s ∧ gl' = gl ∧ gr' = zRT r) ∨ (¬ ((zin V a ∧ zin V b ∧ ¬ a = b ∧ (nI 1 ≤ m ∧ m ≤ nI 600) ∧ (nI 0 ≤ s ∧ s ≤ nI 15) ∧ Rd < 14 ∧ (s ≤ 0 ∨ Ps < 2))) ∧ z = -1 ∧ gi' = gi ∧ gl' = gl ∧ gr' = zRT r)) := by
  refine zC_i_of [some (.ref 0), some (.int a), some (.int b), some (.int m), some (.int s), none] (by decide) rfl rfl (Nat.le_of_ble_eq_true rfl) (fun x => ?_)
  refine zA_aload_0 dX10_road_0 ?_
  refine zA_getR sh_0 fX10_20 dX10_road_1 rfl (rt_0_2 _) ?_
  refine zA_iload_1 dX10_road_4 ?_
  refine zA_cVi (ct_hasVillageZ g gi gl r hV (by omega) a) calX3_hasVillage stX3_hasVillage lX10_124 dX10_road_5 (by decide) (by simp [Value.category]) rfl (Nat.le_refl _) (Nat.le_refl _) sh_3 rfl (fun zz gi' gl' gr' ⟨hz, q1, q2, q3⟩ => ?_)
  rw [hz, q1, q2, q3]
  clear hz q1 q2 q3
  refine zA_if_eqB 53 dX10_road_8 (by decide) (fun g0 => ?_) (fun g0 => ?_)
  · refine zA_iconst (nI 0) dX10_road_53 ic_0 ?_
    refine zA_istore_5 dX10_road_54 rfl ?_
    refine zA_iload_5 dX10_road_56 ?_
    refine zA_if_eq 89 dX10_road_58 (by decide) (fun _ => ?_) (fun hh => absurd (by decide) hh)
    refine zA_iconst (-1) dX10_road_89 ic_m1 ?_
    exact zB_iret rfl dX10_road_90 (Or.inr ⟨fun q => (g0) q.1, rfl, rfl, rfl, rfl⟩)
  · refine zA_aload_0 dX10_road_11 ?_
    refine zA_getR sh_0 fX10_20 dX10_road_12 rfl (rt_0_2 _) ?_
    refine zA_iload_2 dX10_road_15 ?_
    refine zA_cVi (ct_hasVillageZ g gi gl r hV (by omega) b) calX3_hasVillage stX3_hasVillage lX10_124 dX10_road_16 (by decide) (by simp [Value.category]) rfl (Nat.le_refl _) (Nat.le_refl _) sh_3 rfl (fun zz gi' gl' gr' ⟨hz, q1, q2, q3⟩ => ?_)
    rw [hz, q1, q2, q3]
    clear hz q1 q2 q3
    refine zA_if_eqB 53 dX10_road_19 (by decide) (fun g1 => ?_) (fun g1 => ?_)
    · refine zA_iconst (nI 0) dX10_road_53 ic_0 ?_
      refine zA_istore_5 dX10_road_54 rfl ?_
      refine zA_iload_5 dX10_road_56 ?_
      refine zA_if_eq 89 dX10_road_58 (by decide) (fun _ => ?_) (fun hh => absurd (by decide) hh)
      refine zA_iconst (-1) dX10_road_89 ic_m1 ?_
      exact zB_iret rfl dX10_road_90 (Or.inr ⟨fun q => (g1) q.2.1, rfl, rfl, rfl, rfl⟩)
    · refine zA_iload_1 dX10_road_22 ?_
      refine zA_iload_2 dX10_road_23 ?_
      refine zA_icmp_eq 53 dX10_road_24 (by decide) (fun g2 => ?_) (fun g2 => ?_)
      · refine zA_iconst (nI 0) dX10_road_53 ic_0 ?_
        refine zA_istore_5 dX10_road_54 rfl ?_
        refine zA_iload_5 dX10_road_56 ?_
        refine zA_if_eq 89 dX10_road_58 (by decide) (fun _ => ?_) (fun hh => absurd (by decide) hh)
        refine zA_iconst (-1) dX10_road_89 ic_m1 ?_
        exact zB_iret rfl dX10_road_90 (Or.inr ⟨fun q => (fun z => z g2) q.2.2.1, rfl, rfl, rfl, rfl⟩)
      · refine zA_iload_3 dX10_road_27 ?_
        refine zA_iconst (nI 1) dX10_road_28 ic_1 ?_
        refine zA_sipush (nI 600) dX10_road_29 sc_600 ?_
        refine zA_cSi (ct_isWithin g _ _ _ m (nI 1) (nI 600)) calX10_isWithin stX10_isWithin lX10_113 dX10_road_32 (by decide) (by simp [Value.category]) rfl (Nat.le_refl _) (Nat.le_refl _) (fun zz gi' gl' gr' ⟨hz, q1, q2, q3⟩ => ?_)
        rw [hz, q1, q2, q3]
        clear hz q1 q2 q3
        refine zA_if_eqB 53 dX10_road_35 (by decide) (fun g3 => ?_) (fun g3 => ?_)
        · refine zA_iconst (nI 0) dX10_road_53 ic_0 ?_
          refine zA_istore_5 dX10_road_54 rfl ?_
          refine zA_iload_5 dX10_road_56 ?_
          refine zA_if_eq 89 dX10_road_58 (by decide) (fun _ => ?_) (fun hh => absurd (by decide) hh)
          refine zA_iconst (-1) dX10_road_89 ic_m1 ?_
          exact zB_iret rfl dX10_road_90 (Or.inr ⟨fun q => (g3) q.2.2.2.1, rfl, rfl, rfl, rfl⟩)
        · refine zA_iload_4 dX10_road_38 ?_
          refine zA_iconst (nI 0) dX10_road_40 ic_0 ?_
          refine zA_bipush (nI 15) dX10_road_41 bc_15 ?_
          refine zA_cSi (ct_isWithin g _ _ _ s (nI 0) (nI 15)) calX10_isWithin stX10_isWithin lX10_113 dX10_road_43 (by decide) (by simp [Value.category]) rfl (Nat.le_refl _) (Nat.le_refl _) (fun zz gi' gl' gr' ⟨hz, q1, q2, q3⟩ => ?_)
          rw [hz, q1, q2, q3]
          clear hz q1 q2 q3
          refine zA_if_eqB 53 dX10_road_46 (by decide) (fun g4 => ?_) (fun g4 => ?_)
          · refine zA_iconst (nI 0) dX10_road_53 ic_0 ?_
            refine zA_istore_5 dX10_road_54 rfl ?_
            refine zA_iload_5 dX10_road_56 ?_
            refine zA_if_eq 89 dX10_road_58 (by decide) (fun _ => ?_) (fun hh => absurd (by decide) hh)
            refine zA_iconst (-1) dX10_road_89 ic_m1 ?_
            exact zB_iret rfl dX10_road_90 (Or.inr ⟨fun q => (g4) q.2.2.2.2.1, rfl, rfl, rfl, rfl⟩)
          · refine zA_iconst (nI 1) dX10_road_49 ic_1 ?_
            refine zA_goto 54 dX10_road_50 (by decide) ?_
            refine zA_istore_5 dX10_road_54 rfl ?_
            refine zA_iload_5 dX10_road_56 ?_
            refine zA_if_eq 89 dX10_road_58 (by decide) (fun hh => absurd hh (by decide)) (fun _ => ?_)
            refine zA_aload_0 dX10_road_61 ?_
            refine zA_getR sh_0 fX10_20 dX10_road_62 rfl (rt_0_2 _) ?_
            refine zA_getI (v := (nI Rd)) sh_3 fX10_131 dX10_road_65 rfl hR ?_
            refine zA_bipush (nI 14) dX10_road_68 bc_14 ?_
            refine zA_icmp_geN 89 dX10_road_70 (by decide) (by omega) (by omega) (fun g5 => ?_) (fun g5 => ?_)
            · refine zA_iconst (-1) dX10_road_89 ic_m1 ?_
              exact zB_iret rfl dX10_road_90 (Or.inr ⟨fun q => (Nat.not_lt.mpr g5) q.2.2.2.2.2.1, rfl, rfl, rfl, rfl⟩)
            · refine zA_iload_4 dX10_road_73 ?_
              refine zA_if_le 91 dX10_road_75 (by decide) (fun g6 => ?_) (fun g6 => ?_)
              · obtain ⟨v, hv, rfl⟩ := zin_nat g0 (by omega)
                obtain ⟨k, hk, rfl⟩ := zin_nat g1 (by omega)
                refine zA_aload_0 dX10_road_91 ?_
                refine zA_getR sh_0 fX10_20 dX10_road_92 rfl (rt_0_2 _) ?_
                refine zA_iload_1 dX10_road_95 ?_
                refine zA_iload_2 dX10_road_96 ?_
                refine zA_iload_3 dX10_road_97 ?_
                refine zA_iload_4 dX10_road_98 ?_
                refine zA_cVi (ct_addRoad g gi gl r (a := v) (b := k) hPs hR (by omega) (by omega) _ _ (Or.inl g6)) calX3_addRoad stX3_addRoad lX10_137 dX10_road_100 (by decide) (by simp [Value.category]) rfl (Nat.le_refl _) (Nat.le_refl _) sh_3 rfl (fun zz gi' gl' gr' ⟨hz, q1, q2, q3⟩ => ?_)
                rw [hz, q1, q2, q3]
                clear hz q1 q2 q3
                exact zB_iret rfl dX10_road_103 (Or.inl ⟨⟨g0, g1, g2, g3, g4, g5, Or.inl g6⟩, rfl, by rw [zi_nI (by omega), zi_nI (by omega)], rfl, rfl⟩)
              · refine zA_aload_0 dX10_road_78 ?_
                refine zA_getR sh_0 fX10_20 dX10_road_79 rfl (rt_0_2 _) ?_
                refine zA_getI (v := (nI Ps)) sh_3 fX10_134 dX10_road_82 rfl hPs ?_
                refine zA_iconst (nI 2) dX10_road_85 ic_2 ?_
                refine zA_icmp_ltN 91 dX10_road_86 (by decide) (by omega) (by omega) (fun g7 => ?_) (fun g7 => ?_)
                · obtain ⟨v, hv, rfl⟩ := zin_nat g0 (by omega)
                  obtain ⟨k, hk, rfl⟩ := zin_nat g1 (by omega)
                  refine zA_aload_0 dX10_road_91 ?_
                  refine zA_getR sh_0 fX10_20 dX10_road_92 rfl (rt_0_2 _) ?_
                  refine zA_iload_1 dX10_road_95 ?_
                  refine zA_iload_2 dX10_road_96 ?_
                  refine zA_iload_3 dX10_road_97 ?_
                  refine zA_iload_4 dX10_road_98 ?_
                  refine zA_cVi (ct_addRoad g gi gl r (a := v) (b := k) hPs hR (by omega) (by omega) _ _ (Or.inr g7)) calX3_addRoad stX3_addRoad lX10_137 dX10_road_100 (by decide) (by simp [Value.category]) rfl (Nat.le_refl _) (Nat.le_refl _) sh_3 rfl (fun zz gi' gl' gr' ⟨hz, q1, q2, q3⟩ => ?_)
                  rw [hz, q1, q2, q3]
                  clear hz q1 q2 q3
                  exact zB_iret rfl dX10_road_103 (Or.inl ⟨⟨g0, g1, g2, g3, g4, g5, Or.inr g7⟩, rfl, by rw [zi_nI (by omega), zi_nI (by omega)], rfl, rfl⟩)
                · refine zA_iconst (-1) dX10_road_89 ic_m1 ?_
                  exact zB_iret rfl dX10_road_90 (Or.inr ⟨fun q => q.2.2.2.2.2.2.elim g6 (Nat.not_lt.mpr g7), rfl, rfl, rfl, rfl⟩)
theorem ct_shown (g : zm_G) (gi : zm_I) (gl : zm_J) (r : Nat) {W Pn E K : Nat} (hRs : zRs 27 W Pn E K gi) (hE24 : E ≤ 24) (a b c : Int32)  : zC_i g yX10_shown mX10_shown 6 [.ref 0, .int a, .int b, .int c] zSH gi gl (zRT r) (fun z gi' gl' gr' => (((nI 0 ≤ a ∧ a ≤ nI E - nI 1) ∧ (nI 0 ≤ b ∧ b ≤ nI 255) ∧ (nI 0 ≤ c ∧ c ≤ nI 6)) ∧ z = (fGo 27 b W Pn E K (gi, gl)).1 (59 + zi c) (zi a) ∧ gi' = (fGo 27 b W Pn E K (gi, gl)).1 ∧ gl' = (fGo 27 b W Pn E K (gi, gl)).2 ∧ gr' = zRT 27) ∨ (¬ (((nI 0 ≤ a ∧ a ≤ nI E - nI 1) ∧ (nI 0 ≤ b ∧ b ≤ nI 255) ∧ (nI 0 ≤ c ∧ c ≤ nI 6))) ∧ z = -1 ∧ gi' = gi ∧ gl' = gl ∧ gr' = zRT r)) := by
  have hW := hRs.1
  have hW3 := hRs.2.1
  have hP := hRs.2.2.1
  have hP4 := hRs.2.2.2.1
  have hE := hRs.2.2.2.2.1
  refine zC_i_of [some (.ref 0), some (.int a), some (.int b), some (.int c)] (by decide) rfl rfl (Nat.le_of_ble_eq_true rfl) (fun x => ?_)
  refine zA_iload_1 dX10_shown_0 ?_
  refine zA_iconst (nI 0) dX10_shown_1 ic_0 ?_
  refine zA_aload_0 dX10_shown_2 ?_
  refine zA_getR sh_0 fX10_34 dX10_shown_3 rfl (rt_0_4 _) ?_
  refine zA_getI (v := (nI E)) sh_27 fX10_170 dX10_shown_6 rfl hE ?_
  refine zA_iconst (nI 1) dX10_shown_9 ic_1 ?_
  refine zA_isub dX10_shown_10 ?_
  refine zA_cSi (ct_isWithin g _ _ _ a (nI 0) ((nI E) - (nI 1))) calX10_isWithin stX10_isWithin lX10_113 dX10_shown_11 (by decide) (by simp [Value.category]) rfl (Nat.le_refl _) (Nat.le_refl _) (fun zz gi' gl' gr' ⟨hz, q1, q2, q3⟩ => ?_)
  rw [hz, q1, q2, q3]
  clear hz q1 q2 q3
  refine zA_if_eqB 34 dX10_shown_14 (by decide) (fun g0 => ?_) (fun g0 => ?_)
  · refine zA_iconst (-1) dX10_shown_34 ic_m1 ?_
    exact zB_iret rfl dX10_shown_35 (Or.inr ⟨fun q => (g0) q.1, rfl, rfl, rfl, rfl⟩)
  · refine zA_iload_2 dX10_shown_17 ?_
    refine zA_cSi (ct_isShut g _ _ _ b) calX10_isShut stX10_isShut lX10_188 dX10_shown_18 (by decide) (by simp [Value.category]) rfl (Nat.le_refl _) (Nat.le_refl _) (fun zz gi' gl' gr' ⟨hz, q1, q2, q3⟩ => ?_)
    rw [hz, q1, q2, q3]
    clear hz q1 q2 q3
    refine zA_if_eqB 34 dX10_shown_21 (by decide) (fun g1 => ?_) (fun g1 => ?_)
    · refine zA_iconst (-1) dX10_shown_34 ic_m1 ?_
      exact zB_iret rfl dX10_shown_35 (Or.inr ⟨fun q => (g1) q.2.1, rfl, rfl, rfl, rfl⟩)
    · refine zA_iload_3 dX10_shown_24 ?_
      refine zA_iconst (nI 0) dX10_shown_25 ic_0 ?_
      refine zA_bipush (nI 6) dX10_shown_26 bc_6 ?_
      refine zA_cSi (ct_isWithin g _ _ _ c (nI 0) (nI 6)) calX10_isWithin stX10_isWithin lX10_113 dX10_shown_28 (by decide) (by simp [Value.category]) rfl (Nat.le_refl _) (Nat.le_refl _) (fun zz gi' gl' gr' ⟨hz, q1, q2, q3⟩ => ?_)
      rw [hz, q1, q2, q3]
      clear hz q1 q2 q3
      refine zA_if_neB 36 dX10_shown_31 (by decide) (fun g2 => ?_) (fun g2 => ?_)
      · obtain ⟨e, he, rfl⟩ := zin_nat ((zin_iff (by omega) _).mp g0) (by omega)
        obtain ⟨k, hk, rfl⟩ := zwi_nat g2 (by omega)
        refine zA_aload_0 dX10_shown_36 ?_
        refine zA_getR sh_0 fX10_66 dX10_shown_37 rfl (rt_0_8 _) ?_
        refine zA_aload_0 dX10_shown_40 ?_
        refine zA_getR sh_0 fX10_34 dX10_shown_41 rfl (rt_0_4 _) ?_
        refine zA_iload_2 dX10_shown_44 ?_
        refine zA_cVv (ct_goThroughA g gi gl r hRs b) calX0_goThrough stX0_goThrough lX10_191 dX10_shown_45 (by decide) (by simp [Value.category]) rfl (Nat.le_refl _) (Nat.le_refl _) sh_57 rfl (fun gi' gl' gr' ⟨q1, q2, q3⟩ => ?_)
        rw [q1, q2, q3]
        clear q1 q2 q3
        refine zA_aload_0 dX10_shown_48 ?_
        refine zA_getR sh_0 fX10_66 dX10_shown_49 rfl (rt_0_8 _) ?_
        refine zA_getR sh_57 fX10_195 dX10_shown_52 rfl (rt_57_4 _) ?_
        refine zA_iload_3 dX10_shown_55 ?_
        refine zA_aald k sh_58 dX10_shown_56 rfl (by omega) (by decide) (rtr_to _ (by omega)) ?_
        refine zA_iload_1 dX10_shown_57 ?_
        refine zA_iald (v := ((fGo 27 b W Pn E K (gi, gl)).1 (59 + k) e)) e (shr_to (by omega)) dX10_shown_58 rfl (by omega) (by decide) rfl ?_
        exact zB_iret rfl dX10_shown_59 (Or.inl ⟨⟨g0, g1, g2⟩, by rw [zi_nI (by omega), zi_nI (by omega)], rfl, rfl, rfl⟩)
      · refine zA_iconst (-1) dX10_shown_34 ic_m1 ?_
        exact zB_iret rfl dX10_shown_35 (Or.inr ⟨fun q => (g2) q.2.2, rfl, rfl, rfl, rfl⟩)
theorem ct_run (g : zm_G) (gi : zm_I) (gl : zm_J) (r : Nat) {W Pn E K : Nat} (hRs : zRs 27 W Pn E K gi) (hE24 : E ≤ 24) (a b : Int32)  : zC_i g yX10_run mX10_run 6 [.ref 0, .int a, .int b] zSH gi gl (zRT r) (fun z gi' gl' gr' => (((nI 0 ≤ a ∧ a ≤ nI 255) ∧ (nI 0 ≤ b ∧ b ≤ nI 4)) ∧ z = (fGo 27 a W Pn E K (gi, gl)).1 66 (zi b) ∧ gi' = (fGo 27 a W Pn E K (gi, gl)).1 ∧ gl' = (fGo 27 a W Pn E K (gi, gl)).2 ∧ gr' = zRT 27) ∨ (¬ (((nI 0 ≤ a ∧ a ≤ nI 255) ∧ (nI 0 ≤ b ∧ b ≤ nI 4))) ∧ z = -2147483648 ∧ gi' = gi ∧ gl' = gl ∧ gr' = zRT r)) := by
  have hW := hRs.1
  have hW3 := hRs.2.1
  have hP := hRs.2.2.1
  have hP4 := hRs.2.2.2.1
  have hE := hRs.2.2.2.2.1
  refine zC_i_of [some (.ref 0), some (.int a), some (.int b)] (by decide) rfl rfl (Nat.le_of_ble_eq_true rfl) (fun x => ?_)
  refine zA_iload_1 dX10_run_0 ?_
  refine zA_cSi (ct_isShut g _ _ _ a) calX10_isShut stX10_isShut lX10_188 dX10_run_1 (by decide) (by simp [Value.category]) rfl (Nat.le_refl _) (Nat.le_refl _) (fun zz gi' gl' gr' ⟨hz, q1, q2, q3⟩ => ?_)
  rw [hz, q1, q2, q3]
  clear hz q1 q2 q3
  refine zA_if_eqB 16 dX10_run_4 (by decide) (fun g0 => ?_) (fun g0 => ?_)
  · refine zA_ldc kX10_200 dX10_run_16 ?_
    exact zB_iret rfl dX10_run_18 (Or.inr ⟨fun q => (g0) q.1, rfl, rfl, rfl, rfl⟩)
  · refine zA_iload_2 dX10_run_7 ?_
    refine zA_iconst (nI 0) dX10_run_8 ic_0 ?_
    refine zA_iconst (nI 4) dX10_run_9 ic_4 ?_
    refine zA_cSi (ct_isWithin g _ _ _ b (nI 0) (nI 4)) calX10_isWithin stX10_isWithin lX10_113 dX10_run_10 (by decide) (by simp [Value.category]) rfl (Nat.le_refl _) (Nat.le_refl _) (fun zz gi' gl' gr' ⟨hz, q1, q2, q3⟩ => ?_)
    rw [hz, q1, q2, q3]
    clear hz q1 q2 q3
    refine zA_if_neB 19 dX10_run_13 (by decide) (fun g1 => ?_) (fun g1 => ?_)
    · obtain ⟨k, hk, rfl⟩ := zwi_nat g1 (by omega)
      refine zA_aload_0 dX10_run_19 ?_
      refine zA_getR sh_0 fX10_66 dX10_run_20 rfl (rt_0_8 _) ?_
      refine zA_aload_0 dX10_run_23 ?_
      refine zA_getR sh_0 fX10_34 dX10_run_24 rfl (rt_0_4 _) ?_
      refine zA_iload_1 dX10_run_27 ?_
      refine zA_cVv (ct_goThroughA g gi gl r hRs a) calX0_goThrough stX0_goThrough lX10_191 dX10_run_28 (by decide) (by simp [Value.category]) rfl (Nat.le_refl _) (Nat.le_refl _) sh_57 rfl (fun gi' gl' gr' ⟨q1, q2, q3⟩ => ?_)
      rw [q1, q2, q3]
      clear q1 q2 q3
      refine zA_aload_0 dX10_run_31 ?_
      refine zA_getR sh_0 fX10_66 dX10_run_32 rfl (rt_0_8 _) ?_
      refine zA_getR sh_57 fX10_201 dX10_run_35 rfl (rt_57_5 _) ?_
      refine zA_iload_2 dX10_run_38 ?_
      refine zA_iald (v := ((fGo 27 a W Pn E K (gi, gl)).1 66 k)) k sh_66 dX10_run_39 rfl (by omega) (by decide) rfl ?_
      exact zB_iret rfl dX10_run_40 (Or.inl ⟨⟨g0, g1⟩, by rw [zi_nI (by omega)], rfl, rfl, rfl⟩)
    · refine zA_ldc kX10_200 dX10_run_16 ?_
      exact zB_iret rfl dX10_run_18 (Or.inr ⟨fun q => (g1) q.2, rfl, rfl, rfl, rfl⟩)
theorem ct_where (g : zm_G) (gi : zm_I) (gl : zm_J) (r : Nat) {W Pn E K : Nat} (hRs : zRs 27 W Pn E K gi) (hE24 : E ≤ 24) (a b c : Int32)  : zC_i g yX10_where mX10_where 6 [.ref 0, .int a, .int b, .int c] zSH gi gl (zRT r) (fun z gi' gl' gr' => ((zin W a ∧ (nI 0 ≤ b ∧ b ≤ nI 3) ∧ (nI 0 ≤ c ∧ c ≤ nI 255)) ∧ z = (fGo 27 c W Pn E K (gi, gl)).1 68 (zi a * 4 + zi b) ∧ gi' = (fGo 27 c W Pn E K (gi, gl)).1 ∧ gl' = (fGo 27 c W Pn E K (gi, gl)).2 ∧ gr' = zRT 27) ∨ (¬ ((zin W a ∧ (nI 0 ≤ b ∧ b ≤ nI 3) ∧ (nI 0 ≤ c ∧ c ≤ nI 255))) ∧ z = -1 ∧ gi' = gi ∧ gl' = gl ∧ gr' = zRT r)) := by
  have hW := hRs.1
  have hW3 := hRs.2.1
  have hP := hRs.2.2.1
  have hP4 := hRs.2.2.2.1
  have hE := hRs.2.2.2.2.1
  refine zC_i_of [some (.ref 0), some (.int a), some (.int b), some (.int c)] (by decide) rfl rfl (Nat.le_of_ble_eq_true rfl) (fun x => ?_)
  refine zA_aload_0 dX10_where_0 ?_
  refine zA_getR sh_0 fX10_27 dX10_where_1 rfl (rt_0_3 _) ?_
  refine zA_iload_1 dX10_where_4 ?_
  refine zA_cVi (ct_hasVanZ g gi gl r hW (by omega) a) calX1_hasVan stX1_hasVan lX10_147 dX10_where_5 (by decide) (by simp [Value.category]) rfl (Nat.le_refl _) (Nat.le_refl _) sh_19 rfl (fun zz gi' gl' gr' ⟨hz, q1, q2, q3⟩ => ?_)
  rw [hz, q1, q2, q3]
  clear hz q1 q2 q3
  refine zA_if_eqB 25 dX10_where_8 (by decide) (fun g0 => ?_) (fun g0 => ?_)
  · refine zA_iconst (-1) dX10_where_25 ic_m1 ?_
    exact zB_iret rfl dX10_where_26 (Or.inr ⟨fun q => (g0) q.1, rfl, rfl, rfl, rfl⟩)
  · refine zA_iload_2 dX10_where_11 ?_
    refine zA_cSi (ct_isNight g _ _ _ b) calX10_isNight stX10_isNight lX10_160 dX10_where_12 (by decide) (by simp [Value.category]) rfl (Nat.le_refl _) (Nat.le_refl _) (fun zz gi' gl' gr' ⟨hz, q1, q2, q3⟩ => ?_)
    rw [hz, q1, q2, q3]
    clear hz q1 q2 q3
    refine zA_if_eqB 25 dX10_where_15 (by decide) (fun g1 => ?_) (fun g1 => ?_)
    · refine zA_iconst (-1) dX10_where_25 ic_m1 ?_
      exact zB_iret rfl dX10_where_26 (Or.inr ⟨fun q => (g1) q.2.1, rfl, rfl, rfl, rfl⟩)
    · refine zA_iload_3 dX10_where_18 ?_
      refine zA_cSi (ct_isShut g _ _ _ c) calX10_isShut stX10_isShut lX10_188 dX10_where_19 (by decide) (by simp [Value.category]) rfl (Nat.le_refl _) (Nat.le_refl _) (fun zz gi' gl' gr' ⟨hz, q1, q2, q3⟩ => ?_)
      rw [hz, q1, q2, q3]
      clear hz q1 q2 q3
      refine zA_if_neB 27 dX10_where_22 (by decide) (fun g2 => ?_) (fun g2 => ?_)
      · obtain ⟨w, hw, rfl⟩ := zin_nat g0 (by omega)
        obtain ⟨n, hn, rfl⟩ := zwi_nat g1 (by omega)
        refine zA_aload_0 dX10_where_27 ?_
        refine zA_getR sh_0 fX10_66 dX10_where_28 rfl (rt_0_8 _) ?_
        refine zA_aload_0 dX10_where_31 ?_
        refine zA_getR sh_0 fX10_34 dX10_where_32 rfl (rt_0_4 _) ?_
        refine zA_iload_3 dX10_where_35 ?_
        refine zA_cVv (ct_goThroughA g gi gl r hRs c) calX0_goThrough stX0_goThrough lX10_191 dX10_where_36 (by decide) (by simp [Value.category]) rfl (Nat.le_refl _) (Nat.le_refl _) sh_57 rfl (fun gi' gl' gr' ⟨q1, q2, q3⟩ => ?_)
        rw [q1, q2, q3]
        clear q1 q2 q3
        refine zA_aload_0 dX10_where_39 ?_
        refine zA_getR sh_0 fX10_66 dX10_where_40 rfl (rt_0_8 _) ?_
        refine zA_getR sh_57 fX10_204 dX10_where_43 rfl (rt_57_7 _) ?_
        refine zA_iload_1 dX10_where_46 ?_
        refine zA_iconst (nI 4) dX10_where_47 ic_4 ?_
        refine zA_imulN dX10_where_48 ?_
        refine zA_iload_2 dX10_where_49 ?_
        refine zA_iaddN dX10_where_50 ?_
        refine zA_iald (v := ((fGo 27 c W Pn E K (gi, gl)).1 68 ((w * 4) + n))) ((w * 4) + n) sh_68 dX10_where_51 rfl (by omega) (by decide) rfl ?_
        exact zB_iret rfl dX10_where_52 (Or.inl ⟨⟨g0, g1, g2⟩, by rw [zi_nI (by omega), zi_nI (by omega)], rfl, rfl, rfl⟩)
      · refine zA_iconst (-1) dX10_where_25 ic_m1 ?_
        exact zB_iret rfl dX10_where_26 (Or.inr ⟨fun q => (g2) q.2.2, rfl, rfl, rfl, rfl⟩)
def fPrd (M : zm_I) (p k : Nat) : Int32 := match k with
  | 0 => M 70 p
  | 1 => M 71 p
  | 2 => fLate M p
  | _ => M 72 p
theorem fPrd_0 (M : zm_I) (p : Nat) : fPrd M p 0 = M 70 p := rfl
theorem fPrd_1 (M : zm_I) (p : Nat) : fPrd M p 1 = M 71 p := rfl
theorem fPrd_2 (M : zm_I) (p : Nat) : fPrd M p 2 = fLate M p := rfl
theorem fPrd_3 (M : zm_I) (p : Nat) : fPrd M p 3 = M 72 p := rfl
theorem ct_printed (g : zm_G) (gi : zm_I) (gl : zm_J) (r : Nat) {W Pn E K : Nat} (hRs : zRs 27 W Pn E K gi) (hE24 : E ≤ 24) (a b c : Int32)  : zC_i g yX10_printed mX10_printed 6 [.ref 0, .int a, .int b, .int c] zSH gi gl (zRT r) (fun z gi' gl' gr' => ((zin Pn a ∧ (nI 0 ≤ b ∧ b ≤ nI 255) ∧ (nI 0 ≤ c ∧ c ≤ nI 3)) ∧ z = fPrd (fGo 27 b W Pn E K (gi, gl)).1 (zi a) (zi c) ∧ gi' = (fGo 27 b W Pn E K (gi, gl)).1 ∧ gl' = (fGo 27 b W Pn E K (gi, gl)).2 ∧ gr' = zRT 27) ∨ (¬ ((zin Pn a ∧ (nI 0 ≤ b ∧ b ≤ nI 255) ∧ (nI 0 ≤ c ∧ c ≤ nI 3))) ∧ z = -1 ∧ gi' = gi ∧ gl' = gl ∧ gr' = zRT r)) := by
  have hW := hRs.1
  have hW3 := hRs.2.1
  have hP := hRs.2.2.1
  have hP4 := hRs.2.2.2.1
  have hE := hRs.2.2.2.2.1
  refine zC_i_of [some (.ref 0), some (.int a), some (.int b), some (.int c)] (by decide) rfl rfl (Nat.le_of_ble_eq_true rfl) (fun x => ?_)
  refine zA_aload_0 dX10_printed_0 ?_
  refine zA_getR sh_0 fX10_27 dX10_printed_1 rfl (rt_0_3 _) ?_
  refine zA_iload_1 dX10_printed_4 ?_
  refine zA_cVi (ct_hasPrintZ g gi gl r hP (by omega) a) calX1_hasPrint stX1_hasPrint lX10_167 dX10_printed_5 (by decide) (by simp [Value.category]) rfl (Nat.le_refl _) (Nat.le_refl _) sh_19 rfl (fun zz gi' gl' gr' ⟨hz, q1, q2, q3⟩ => ?_)
  rw [hz, q1, q2, q3]
  clear hz q1 q2 q3
  refine zA_if_eqB 27 dX10_printed_8 (by decide) (fun g0 => ?_) (fun g0 => ?_)
  · refine zA_iconst (-1) dX10_printed_27 ic_m1 ?_
    exact zB_iret rfl dX10_printed_28 (Or.inr ⟨fun q => (g0) q.1, rfl, rfl, rfl, rfl⟩)
  · refine zA_iload_2 dX10_printed_11 ?_
    refine zA_cSi (ct_isShut g _ _ _ b) calX10_isShut stX10_isShut lX10_188 dX10_printed_12 (by decide) (by simp [Value.category]) rfl (Nat.le_refl _) (Nat.le_refl _) (fun zz gi' gl' gr' ⟨hz, q1, q2, q3⟩ => ?_)
    rw [hz, q1, q2, q3]
    clear hz q1 q2 q3
    refine zA_if_eqB 27 dX10_printed_15 (by decide) (fun g1 => ?_) (fun g1 => ?_)
    · refine zA_iconst (-1) dX10_printed_27 ic_m1 ?_
      exact zB_iret rfl dX10_printed_28 (Or.inr ⟨fun q => (g1) q.2.1, rfl, rfl, rfl, rfl⟩)
    · refine zA_iload_3 dX10_printed_18 ?_
      refine zA_iconst (nI 0) dX10_printed_19 ic_0 ?_
      refine zA_iconst (nI 3) dX10_printed_20 ic_3 ?_
      refine zA_cSi (ct_isWithin g _ _ _ c (nI 0) (nI 3)) calX10_isWithin stX10_isWithin lX10_113 dX10_printed_21 (by decide) (by simp [Value.category]) rfl (Nat.le_refl _) (Nat.le_refl _) (fun zz gi' gl' gr' ⟨hz, q1, q2, q3⟩ => ?_)
      rw [hz, q1, q2, q3]
      clear hz q1 q2 q3
      refine zA_if_neB 29 dX10_printed_24 (by decide) (fun g2 => ?_) (fun g2 => ?_)
      · obtain ⟨p, hp, rfl⟩ := zin_nat g0 (by omega)
        obtain ⟨k, hk, rfl⟩ := zwi_nat g2 (by omega)
        refine zA_aload_0 dX10_printed_29 ?_
        refine zA_getR sh_0 fX10_66 dX10_printed_30 rfl (rt_0_8 _) ?_
        refine zA_aload_0 dX10_printed_33 ?_
        refine zA_getR sh_0 fX10_34 dX10_printed_34 rfl (rt_0_4 _) ?_
        refine zA_iload_2 dX10_printed_37 ?_
        refine zA_cVv (ct_goThroughA g gi gl r hRs b) calX0_goThrough stX0_goThrough lX10_191 dX10_printed_38 (by decide) (by simp [Value.category]) rfl (Nat.le_refl _) (Nat.le_refl _) sh_57 rfl (fun gi' gl' gr' ⟨q1, q2, q3⟩ => ?_)
        rw [q1, q2, q3]
        clear q1 q2 q3
        refine zA_iload_3 dX10_printed_41 ?_
        rcases (show k = 0 ∨ k = 1 ∨ k = 2 ∨ k = 3 by omega) with rfl | rfl | rfl | rfl
        · refine zA_tableIn 68 dX10_printed_42 (by decide) (by decide) (off := 26) (by decide) (by decide) ?_
          refine zA_aload_0 dX10_printed_68 ?_
          refine zA_getR sh_0 fX10_66 dX10_printed_69 rfl (rt_0_8 _) ?_
          refine zA_getR sh_57 fX10_207 dX10_printed_72 rfl (rt_57_9 _) ?_
          refine zA_iload_1 dX10_printed_75 ?_
          refine zA_iald (v := ((fGo 27 b W Pn E K (gi, gl)).1 70 p)) p sh_70 dX10_printed_76 rfl (by omega) (by decide) rfl ?_
          exact zB_iret rfl dX10_printed_77 (Or.inl ⟨⟨g0, g1, g2⟩, by rw [zi_nI (n := p) (by omega), zi_nI (n := 0) (by omega)]; exact (fPrd_0 _ _).symm, rfl, rfl, rfl⟩)
        · refine zA_tableIn 78 dX10_printed_42 (by decide) (by decide) (off := 36) (by decide) (by decide) ?_
          refine zA_aload_0 dX10_printed_78 ?_
          refine zA_getR sh_0 fX10_66 dX10_printed_79 rfl (rt_0_8 _) ?_
          refine zA_getR sh_57 fX10_210 dX10_printed_82 rfl (rt_57_10 _) ?_
          refine zA_iload_1 dX10_printed_85 ?_
          refine zA_iald (v := ((fGo 27 b W Pn E K (gi, gl)).1 71 p)) p sh_71 dX10_printed_86 rfl (by omega) (by decide) rfl ?_
          exact zB_iret rfl dX10_printed_87 (Or.inl ⟨⟨g0, g1, g2⟩, by rw [zi_nI (n := p) (by omega), zi_nI (n := 1) (by omega)]; exact (fPrd_1 _ _).symm, rfl, rfl, rfl⟩)
        · refine zA_tableIn 88 dX10_printed_42 (by decide) (by decide) (off := 46) (by decide) (by decide) ?_
          refine zA_aload_0 dX10_printed_88 ?_
          refine zA_getR sh_0 fX10_66 dX10_printed_89 rfl (rt_0_8 _) ?_
          refine zA_iload_1 dX10_printed_92 ?_
          refine zA_cVi (ct_nightsLate g _ _ 27 (p := p) (by omega)) calX0_nightsLate stX0_nightsLate lX10_213 dX10_printed_93 (by decide) (by simp [Value.category]) rfl (Nat.le_refl _) (Nat.le_refl _) sh_57 rfl (fun zz gi' gl' gr' ⟨hz, q1, q2, q3⟩ => ?_)
          rw [hz, q1, q2, q3]
          clear hz q1 q2 q3
          exact zB_iret rfl dX10_printed_96 (Or.inl ⟨⟨g0, g1, g2⟩, by rw [zi_nI (n := p) (by omega), zi_nI (n := 2) (by omega)]; exact (fPrd_2 _ _).symm, rfl, rfl, rfl⟩)
        · refine zA_tableOut 97 dX10_printed_42 (by decide) (by decide) ?_
          refine zA_aload_0 dX10_printed_97 ?_
          refine zA_getR sh_0 fX10_66 dX10_printed_98 rfl (rt_0_8 _) ?_
          refine zA_getR sh_57 fX10_216 dX10_printed_101 rfl (rt_57_11 _) ?_
          refine zA_iload_1 dX10_printed_104 ?_
          refine zA_iald (v := ((fGo 27 b W Pn E K (gi, gl)).1 72 p)) p sh_72 dX10_printed_105 rfl (by omega) (by decide) rfl ?_
          exact zB_iret rfl dX10_printed_106 (Or.inl ⟨⟨g0, g1, g2⟩, by rw [zi_nI (n := p) (by omega), zi_nI (n := 3) (by omega)]; exact (fPrd_3 _ _).symm, rfl, rfl, rfl⟩)
      · refine zA_iconst (-1) dX10_printed_27 ic_m1 ?_
        exact zB_iret rfl dX10_printed_28 (Or.inr ⟨fun q => (g2) q.2.2, rfl, rfl, rfl, rfl⟩)
def fRdd (M : zm_I) (k : Nat) : Int32 := if k = 0 then M 75 7 else if k = 4 then M 75 8 else M 86 (k - 1)
theorem ct_rounded (g : zm_G) (gi : zm_I) (gl : zm_J) (r : Nat) (a : Int32)  : zC_i g yX10_rounded mX10_rounded 1 [.ref 0, .int a] zSH gi gl (zRT r) (fun z gi' gl' gr' => ((¬ gi 75 8 = 0 ∧ (nI 0 ≤ a ∧ a ≤ nI 4)) ∧ z = fRdd gi (zi a) ∧ gi' = gi ∧ gl' = gl ∧ gr' = zRT r) ∨ (¬ ((¬ gi 75 8 = 0 ∧ (nI 0 ≤ a ∧ a ≤ nI 4))) ∧ z = -2147483648 ∧ gi' = gi ∧ gl' = gl ∧ gr' = zRT r)) := by
  refine zC_i_of [some (.ref 0), some (.int a)] (by decide) rfl rfl (Nat.le_of_ble_eq_true rfl) (fun x => ?_)
  refine zA_aload_0 dX10_rounded_0 ?_
  refine zA_getR sh_0 fX10_75 dX10_rounded_1 rfl (rt_0_9 _) ?_
  refine zA_getI (v := (gi 75 8)) sh_75 fX10_240 dX10_rounded_4 rfl rfl ?_
  refine zA_if_eq 19 dX10_rounded_7 (by decide) (fun g0 => ?_) (fun g0 => ?_)
  · refine zA_ldc kX10_200 dX10_rounded_19 ?_
    exact zB_iret rfl dX10_rounded_21 (Or.inr ⟨fun q => q.1 g0, rfl, rfl, rfl, rfl⟩)
  · refine zA_iload_1 dX10_rounded_10 ?_
    refine zA_iconst (nI 0) dX10_rounded_11 ic_0 ?_
    refine zA_iconst (nI 4) dX10_rounded_12 ic_4 ?_
    refine zA_cSi (ct_isWithin g _ _ _ a (nI 0) (nI 4)) calX10_isWithin stX10_isWithin lX10_113 dX10_rounded_13 (by decide) (by simp [Value.category]) rfl (Nat.le_refl _) (Nat.le_refl _) (fun zz gi' gl' gr' ⟨hz, q1, q2, q3⟩ => ?_)
    rw [hz, q1, q2, q3]
    clear hz q1 q2 q3
    refine zA_if_neB 22 dX10_rounded_16 (by decide) (fun g1 => ?_) (fun g1 => ?_)
    · obtain ⟨k, hk, rfl⟩ := zwi_nat g1 (by omega)
      have hzk : zi (nI k) = k := zi_nI (by omega)
      refine zA_iload_1 dX10_rounded_22 ?_
      refine zA_if_ne 34 dX10_rounded_23 (by decide) (fun b0 => ?_) (fun b0 => ?_)
      · have hk0 : ¬ k = 0 := fun z => b0 (by rw [z]; exact nI_0)
        refine zA_iload_1 dX10_rounded_34 ?_
        refine zA_iconst (nI 4) dX10_rounded_35 ic_4 ?_
        refine zA_icmp_neN 49 dX10_rounded_36 (by decide) (by omega) (by omega) (fun b1 => ?_) (fun b1 => ?_)
        · refine zA_aload_0 dX10_rounded_49 ?_
          refine zA_getR sh_0 fX10_75 dX10_rounded_50 rfl (rt_0_9 _) ?_
          refine zA_getR sh_75 fX10_246 dX10_rounded_53 rfl (rt_75_5 _) ?_
          refine zA_iload_1 dX10_rounded_56 ?_
          refine zA_iconst (nI 1) dX10_rounded_57 ic_1 ?_
          refine zA_isubN dX10_rounded_58 (by omega) ?_
          refine zA_iald (v := (gi 86 (k - 1))) (k - 1) sh_86 dX10_rounded_59 rfl (by omega) (by decide) rfl ?_
          exact zB_iret rfl dX10_rounded_60 (Or.inl ⟨⟨g0, g1⟩, by rw [hzk]; unfold fRdd; rw [if_neg hk0, if_neg b1], rfl, rfl, rfl⟩)
        · refine zA_aload_0 dX10_rounded_39 ?_
          refine zA_getR sh_0 fX10_75 dX10_rounded_40 rfl (rt_0_9 _) ?_
          refine zA_getI (v := (gi 75 8)) sh_75 fX10_240 dX10_rounded_43 rfl rfl ?_
          refine zA_goto 60 dX10_rounded_46 (by decide) ?_
          exact zB_iret rfl dX10_rounded_60 (Or.inl ⟨⟨g0, g1⟩, by rw [hzk]; unfold fRdd; rw [if_neg hk0, if_pos b1], rfl, rfl, rfl⟩)
      · refine zA_aload_0 dX10_rounded_26 ?_
        refine zA_getR sh_0 fX10_75 dX10_rounded_27 rfl (rt_0_9 _) ?_
        refine zA_getI (v := (gi 75 7)) sh_75 fX10_243 dX10_rounded_30 rfl rfl ?_
        exact zB_iret rfl dX10_rounded_33 (Or.inl ⟨⟨g0, g1⟩, by rw [hzk]; unfold fRdd; rw [if_pos ((nI_eq (by omega) (by decide)).mp (b0.trans nI_0.symm))], rfl, rfl, rfl⟩)
    · refine zA_ldc kX10_200 dX10_rounded_19 ?_
      exact zB_iret rfl dX10_rounded_21 (Or.inr ⟨fun q => g1 q.2, rfl, rfl, rfl, rfl⟩)
