def rRd0 (gi : zm_I) (Rd : Nat) (a b m : Int32) : zm_I := zs (zs (zs (zs (zs gi 87 2 (nI 0)) 90 Rd a) 91 Rd b) 92 Rd m) 93 Rd (-1)
def rRoad (gi : zm_I) (Ps Rd : Nat) (a b m s : Int32) : zm_I := if s ≤ 0 then zs (rRd0 gi Rd a b m) 87 5 (nI (Rd + 1)) else zs (zs (zs (zs (rRd0 gi Rd a b m) 93 Rd (nI Ps)) 94 Ps s) 87 10 (nI (Ps + 1))) 87 5 (nI (Rd + 1))
theorem ct_rRoad (g : zm_G) (gi : zm_I) (gl : zm_J) (r : Nat) {V : Nat} (hV : gi 87 3 = nI V) (hV8 : V ≤ 8) {Rd Ps : Nat} (hR : gi 87 5 = nI Rd) (hRd : Rd ≤ 14) (hPs : gi 87 10 = nI Ps) (hPs2 : Ps ≤ 2) (a b m s : Int32)  : zC_i g yX11_road mX11_road 1 [.ref 87, .int a, .int b, .int m, .int s] zSH gi gl (zRT r) (fun z gi' gl' gr' => ((zin V a ∧ zin V b ∧ ¬ a = b ∧ (nI 1 ≤ m ∧ m ≤ nI 600) ∧ (nI 0 ≤ s ∧ s ≤ nI 15) ∧ Rd < 14 ∧ (s ≤ 0 ∨ Ps < 2)) ∧ z = nI Rd ∧ gi' = rRoad gi Ps Rd a b m s ∧ gl' = gl ∧ gr' = zRT r) ∨ (¬ ((zin V a ∧ zin V b ∧ ¬ a = b ∧ (nI 1 ≤ m ∧ m ≤ nI 600) ∧ (nI 0 ≤ s ∧ s ≤ nI 15) ∧ Rd < 14 ∧ (s ≤ 0 ∨ Ps < 2))) ∧ z = -1 ∧ gi' = zs gi 87 2 (nI 0) ∧ gl' = gl ∧ gr' = zRT r)) := by
  refine zC_i_of [some (.ref 87), some (.int a), some (.int b), some (.int m), some (.int s)] (by decide) rfl rfl (Nat.le_of_ble_eq_true rfl) (fun x => ?_)
  refine zA_aload_0 dX11_road_0 ?_
  refine zA_iconst (nI 0) dX11_road_1 ic_0 ?_
  refine zS_putI sh_87 fX11_163 dX11_road_2 rfl rfl ?_
  refine zA_aload_0 dX11_road_5 ?_
  refine zA_getI (v := (nI Rd)) sh_87 fX11_180 dX11_road_6 rfl hR ?_
  refine zA_bipush (nI 14) dX11_road_9 bc_14 ?_
  refine zA_icmp_eqN 70 dX11_road_11 (by decide) (by omega) (by omega) (fun g0 => ?_) (fun g0 => ?_)
  · refine zA_iconst (-1) dX11_road_70 ic_m1 ?_
    exact zB_iret rfl dX11_road_71 (Or.inr ⟨fun q => absurd q.2.2.2.2.2.1 (by omega), rfl, rfl, rfl, rfl⟩)
  · refine zA_aload_0 dX11_road_14 ?_
    refine zA_iload_1 dX11_road_15 ?_
    refine zA_cVi (ct_risVillage g (zs gi 87 2 (nI 0)) gl r hV (by omega) a) calX11_isVillage stX11_isVillage lX11_176 dX11_road_16 (by decide) (by simp [Value.category]) rfl (Nat.le_refl _) (Nat.le_refl _) sh_87 rfl (fun zz gi' gl' gr' ⟨hz, q1, q2, q3⟩ => ?_)
    rw [hz, q1, q2, q3]
    clear hz q1 q2 q3
    refine zA_if_eqB 70 dX11_road_19 (by decide) (fun g1 => ?_) (fun g1 => ?_)
    · refine zA_iconst (-1) dX11_road_70 ic_m1 ?_
      exact zB_iret rfl dX11_road_71 (Or.inr ⟨fun q => g1 q.1, rfl, rfl, rfl, rfl⟩)
    · refine zA_aload_0 dX11_road_22 ?_
      refine zA_iload_2 dX11_road_23 ?_
      refine zA_cVi (ct_risVillage g (zs gi 87 2 (nI 0)) gl r hV (by omega) b) calX11_isVillage stX11_isVillage lX11_176 dX11_road_24 (by decide) (by simp [Value.category]) rfl (Nat.le_refl _) (Nat.le_refl _) sh_87 rfl (fun zz gi' gl' gr' ⟨hz, q1, q2, q3⟩ => ?_)
      rw [hz, q1, q2, q3]
      clear hz q1 q2 q3
      refine zA_if_eqB 70 dX11_road_27 (by decide) (fun g2 => ?_) (fun g2 => ?_)
      · refine zA_iconst (-1) dX11_road_70 ic_m1 ?_
        exact zB_iret rfl dX11_road_71 (Or.inr ⟨fun q => g2 q.2.1, rfl, rfl, rfl, rfl⟩)
      · refine zA_iload_1 dX11_road_30 ?_
        refine zA_iload_2 dX11_road_31 ?_
        refine zA_icmp_eq 70 dX11_road_32 (by decide) (fun g3 => ?_) (fun g3 => ?_)
        · refine zA_iconst (-1) dX11_road_70 ic_m1 ?_
          exact zB_iret rfl dX11_road_71 (Or.inr ⟨fun q => absurd g3 q.2.2.1, rfl, rfl, rfl, rfl⟩)
        · refine zA_iload_3 dX11_road_35 ?_
          refine zA_iconst (nI 1) dX11_road_36 ic_1 ?_
          refine zA_sipush (nI 600) dX11_road_37 sc_600 ?_
          refine zA_cSi (ct_rIsIn g _ _ _ m ((nI 1)) ((nI 600))) calX11_isIn stX11_isIn lX11_172 dX11_road_40 (by decide) (by simp [Value.category]) rfl (Nat.le_refl _) (Nat.le_refl _) (fun zz gi' gl' gr' ⟨hz, q1, q2, q3⟩ => ?_)
          rw [hz, q1, q2, q3]
          clear hz q1 q2 q3
          refine zA_if_eqB 70 dX11_road_43 (by decide) (fun g4 => ?_) (fun g4 => ?_)
          · refine zA_iconst (-1) dX11_road_70 ic_m1 ?_
            exact zB_iret rfl dX11_road_71 (Or.inr ⟨fun q => g4 q.2.2.2.1, rfl, rfl, rfl, rfl⟩)
          · refine zA_iload_4 dX11_road_46 ?_
            refine zA_iconst (nI 0) dX11_road_48 ic_0 ?_
            refine zA_bipush (nI 15) dX11_road_49 bc_15 ?_
            refine zA_cSi (ct_rIsIn g _ _ _ s ((nI 0)) ((nI 15))) calX11_isIn stX11_isIn lX11_172 dX11_road_51 (by decide) (by simp [Value.category]) rfl (Nat.le_refl _) (Nat.le_refl _) (fun zz gi' gl' gr' ⟨hz, q1, q2, q3⟩ => ?_)
            rw [hz, q1, q2, q3]
            clear hz q1 q2 q3
            refine zA_if_eqB 70 dX11_road_54 (by decide) (fun g5 => ?_) (fun g5 => ?_)
            · refine zA_iconst (-1) dX11_road_70 ic_m1 ?_
              exact zB_iret rfl dX11_road_71 (Or.inr ⟨fun q => g5 q.2.2.2.2.1, rfl, rfl, rfl, rfl⟩)
            · refine zA_iload_4 dX11_road_57 ?_
              refine zA_if_le 72 dX11_road_59 (by decide) (fun g6 => ?_) (fun g6 => ?_)
              · refine zA_aload_0 dX11_road_72 ?_
                refine zA_getR sh_87 fX11_16 dX11_road_73 rfl (rt_87_6 _) ?_
                refine zA_aload_0 dX11_road_76 ?_
                refine zA_getI (v := (nI Rd)) sh_87 fX11_180 dX11_road_77 rfl hR ?_
                refine zA_iload_1 dX11_road_80 ?_
                refine zS_iast Rd sh_90 dX11_road_81 rfl (by omega) (by decide) ?_
                refine zA_aload_0 dX11_road_82 ?_
                refine zA_getR sh_87 fX11_19 dX11_road_83 rfl (rt_87_7 _) ?_
                refine zA_aload_0 dX11_road_86 ?_
                refine zA_getI (v := (nI Rd)) sh_87 fX11_180 dX11_road_87 rfl hR ?_
                refine zA_iload_2 dX11_road_90 ?_
                refine zS_iast Rd sh_91 dX11_road_91 rfl (by omega) (by decide) ?_
                refine zA_aload_0 dX11_road_92 ?_
                refine zA_getR sh_87 fX11_22 dX11_road_93 rfl (rt_87_8 _) ?_
                refine zA_aload_0 dX11_road_96 ?_
                refine zA_getI (v := (nI Rd)) sh_87 fX11_180 dX11_road_97 rfl hR ?_
                refine zA_iload_3 dX11_road_100 ?_
                refine zS_iast Rd sh_92 dX11_road_101 rfl (by omega) (by decide) ?_
                refine zA_aload_0 dX11_road_102 ?_
                refine zA_getR sh_87 fX11_25 dX11_road_103 rfl (rt_87_9 _) ?_
                refine zA_aload_0 dX11_road_106 ?_
                refine zA_getI (v := (nI Rd)) sh_87 fX11_180 dX11_road_107 rfl hR ?_
                refine zA_iconst (-1) dX11_road_110 ic_m1 ?_
                refine zS_iast Rd sh_93 dX11_road_111 rfl (by omega) (by decide) ?_
                refine zA_iload_4 dX11_road_112 ?_
                refine zA_if_le 151 dX11_road_114 (by decide) (fun g8 => ?_) (fun g8 => ?_)
                · refine zA_aload_0 dX11_road_151 ?_
                  refine zA_dup dX11_road_152 rfl ?_
                  refine zA_getI (v := (nI Rd)) sh_87 fX11_180 dX11_road_153 rfl hR ?_
                  refine zA_iconst (nI 1) dX11_road_156 ic_1 ?_
                  refine zA_iaddN dX11_road_157 ?_
                  refine zS_putI sh_87 fX11_180 dX11_road_158 rfl rfl ?_
                  refine zA_aload_0 dX11_road_161 ?_
                  refine zA_getI (v := (nI (Rd + 1))) sh_87 fX11_180 dX11_road_162 rfl rfl ?_
                  refine zA_iconst (nI 1) dX11_road_165 ic_1 ?_
                  refine zA_isubN dX11_road_166 (by omega) ?_
                  exact zB_iret rfl dX11_road_167 (Or.inl ⟨⟨g1, g2, g3, g4, g5, by omega, Or.inl g6⟩, rfl, by unfold rRoad; rw [if_pos g6]; rfl, rfl, rfl⟩)
                · exact absurd g6 g8
              · refine zA_aload_0 dX11_road_62 ?_
                refine zA_getI (v := (nI Ps)) sh_87 fX11_183 dX11_road_63 rfl hPs ?_
                refine zA_iconst (nI 2) dX11_road_66 ic_2 ?_
                refine zA_icmp_neN 72 dX11_road_67 (by decide) (by omega) (by omega) (fun g7 => ?_) (fun g7 => ?_)
                · refine zA_aload_0 dX11_road_72 ?_
                  refine zA_getR sh_87 fX11_16 dX11_road_73 rfl (rt_87_6 _) ?_
                  refine zA_aload_0 dX11_road_76 ?_
                  refine zA_getI (v := (nI Rd)) sh_87 fX11_180 dX11_road_77 rfl hR ?_
                  refine zA_iload_1 dX11_road_80 ?_
                  refine zS_iast Rd sh_90 dX11_road_81 rfl (by omega) (by decide) ?_
                  refine zA_aload_0 dX11_road_82 ?_
                  refine zA_getR sh_87 fX11_19 dX11_road_83 rfl (rt_87_7 _) ?_
                  refine zA_aload_0 dX11_road_86 ?_
                  refine zA_getI (v := (nI Rd)) sh_87 fX11_180 dX11_road_87 rfl hR ?_
                  refine zA_iload_2 dX11_road_90 ?_
                  refine zS_iast Rd sh_91 dX11_road_91 rfl (by omega) (by decide) ?_
                  refine zA_aload_0 dX11_road_92 ?_
                  refine zA_getR sh_87 fX11_22 dX11_road_93 rfl (rt_87_8 _) ?_
                  refine zA_aload_0 dX11_road_96 ?_
                  refine zA_getI (v := (nI Rd)) sh_87 fX11_180 dX11_road_97 rfl hR ?_
                  refine zA_iload_3 dX11_road_100 ?_
                  refine zS_iast Rd sh_92 dX11_road_101 rfl (by omega) (by decide) ?_
                  refine zA_aload_0 dX11_road_102 ?_
                  refine zA_getR sh_87 fX11_25 dX11_road_103 rfl (rt_87_9 _) ?_
                  refine zA_aload_0 dX11_road_106 ?_
                  refine zA_getI (v := (nI Rd)) sh_87 fX11_180 dX11_road_107 rfl hR ?_
                  refine zA_iconst (-1) dX11_road_110 ic_m1 ?_
                  refine zS_iast Rd sh_93 dX11_road_111 rfl (by omega) (by decide) ?_
                  refine zA_iload_4 dX11_road_112 ?_
                  refine zA_if_le 151 dX11_road_114 (by decide) (fun g8 => ?_) (fun g8 => ?_)
                  · exact absurd g8 g6
                  · refine zA_aload_0 dX11_road_117 ?_
                    refine zA_getR sh_87 fX11_25 dX11_road_118 rfl (rt_87_9 _) ?_
                    refine zA_aload_0 dX11_road_121 ?_
                    refine zA_getI (v := (nI Rd)) sh_87 fX11_180 dX11_road_122 rfl hR ?_
                    refine zA_aload_0 dX11_road_125 ?_
                    refine zA_getI (v := (nI Ps)) sh_87 fX11_183 dX11_road_126 rfl hPs ?_
                    refine zS_iast Rd sh_93 dX11_road_129 rfl (by omega) (by decide) ?_
                    refine zA_aload_0 dX11_road_130 ?_
                    refine zA_getR sh_87 fX11_28 dX11_road_131 rfl (rt_87_11 _) ?_
                    refine zA_aload_0 dX11_road_134 ?_
                    refine zA_getI (v := (nI Ps)) sh_87 fX11_183 dX11_road_135 rfl hPs ?_
                    refine zA_iload_4 dX11_road_138 ?_
                    refine zS_iast Ps sh_94 dX11_road_140 rfl (by omega) (by decide) ?_
                    refine zA_aload_0 dX11_road_141 ?_
                    refine zA_dup dX11_road_142 rfl ?_
                    refine zA_getI (v := (nI Ps)) sh_87 fX11_183 dX11_road_143 rfl hPs ?_
                    refine zA_iconst (nI 1) dX11_road_146 ic_1 ?_
                    refine zA_iaddN dX11_road_147 ?_
                    refine zS_putI sh_87 fX11_183 dX11_road_148 rfl rfl ?_
                    refine zA_aload_0 dX11_road_151 ?_
                    refine zA_dup dX11_road_152 rfl ?_
                    refine zA_getI (v := (nI Rd)) sh_87 fX11_180 dX11_road_153 rfl hR ?_
                    refine zA_iconst (nI 1) dX11_road_156 ic_1 ?_
                    refine zA_iaddN dX11_road_157 ?_
                    refine zS_putI sh_87 fX11_180 dX11_road_158 rfl rfl ?_
                    refine zA_aload_0 dX11_road_161 ?_
                    refine zA_getI (v := (nI (Rd + 1))) sh_87 fX11_180 dX11_road_162 rfl rfl ?_
                    refine zA_iconst (nI 1) dX11_road_165 ic_1 ?_
                    refine zA_isubN dX11_road_166 (by omega) ?_
                    exact zB_iret rfl dX11_road_167 (Or.inl ⟨⟨g1, g2, g3, g4, g5, by omega, Or.inr (by omega)⟩, rfl, by unfold rRoad; rw [if_neg g6]; rfl, rfl, rfl⟩)
                · refine zA_iconst (-1) dX11_road_70 ic_m1 ?_
                  exact zB_iret rfl dX11_road_71 (Or.inr ⟨fun q => q.2.2.2.2.2.2.elim (fun z => g6 z) (fun z => absurd z (by omega)), rfl, rfl, rfl, rfl⟩)
theorem ct_rStrike (g : zm_G) (gi : zm_I) (gl : zm_J) (r : Nat) {T : Nat} (hT : gi 87 22 = nI T) (hT40 : T ≤ 40) (a : Int32)  : zC_i g yX11_strike mX11_strike 0 [.ref 87, .int a] zSH gi gl (zRT r) (fun z gi' gl' gr' => (((nI 0 ≤ a ∧ a ≤ nI T - nI 1) ∧ T < 40) ∧ z = nI T ∧ gi' = zs (zs (zs (zs gi 87 2 (nI 0)) 101 T (-1)) 102 T a) 87 22 (nI (T + 1)) ∧ gl' = gl ∧ gr' = zRT r) ∨ (¬ (((nI 0 ≤ a ∧ a ≤ nI T - nI 1) ∧ T < 40)) ∧ z = -1 ∧ gi' = zs gi 87 2 (nI 0) ∧ gl' = gl ∧ gr' = zRT r)) := by
  have hzi : (nI 0 ≤ a ∧ a ≤ nI T - nI 1) ↔ zin T a := zin_iff (by omega) a
  refine zC_i_of [some (.ref 87), some (.int a)] (by decide) rfl rfl (Nat.le_of_ble_eq_true rfl) (fun x => ?_)
  refine zA_aload_0 dX11_strike_0 ?_
  refine zA_iconst (nI 0) dX11_strike_1 ic_0 ?_
  refine zS_putI sh_87 fX11_163 dX11_strike_2 rfl rfl ?_
  refine zA_iload_1 dX11_strike_5 ?_
  refine zA_if_lt 26 dX11_strike_6 (by decide) (fun g0 => ?_) (fun g0 => ?_)
  · refine zA_iconst (-1) dX11_strike_26 ic_m1 ?_
    exact zB_iret rfl dX11_strike_27 (Or.inr ⟨fun q => absurd g0 (Int32.not_lt.mpr q.1.1), rfl, rfl, rfl, rfl⟩)
  · refine zA_iload_1 dX11_strike_9 ?_
    refine zA_aload_0 dX11_strike_10 ?_
    refine zA_getI (v := (nI T)) sh_87 fX11_436 dX11_strike_11 rfl hT ?_
    refine zA_icmp_ge 26 dX11_strike_14 (by decide) (fun g1 => ?_) (fun g1 => ?_)
    · refine zA_iconst (-1) dX11_strike_26 ic_m1 ?_
      exact zB_iret rfl dX11_strike_27 (Or.inr ⟨fun q => absurd (hzi.mp q.1).2 (Int32.not_lt.mpr g1), rfl, rfl, rfl, rfl⟩)
    · refine zA_aload_0 dX11_strike_17 ?_
      refine zA_getI (v := (nI T)) sh_87 fX11_436 dX11_strike_18 rfl hT ?_
      refine zA_bipush (nI 40) dX11_strike_21 bc_40 ?_
      refine zA_icmp_neN 28 dX11_strike_23 (by decide) (by omega) (by omega) (fun g2 => ?_) (fun g2 => ?_)
      · refine zA_aload_0 dX11_strike_28 ?_
        refine zA_getR sh_87 fX11_49 dX11_strike_29 rfl (rt_87_23 _) ?_
        refine zA_aload_0 dX11_strike_32 ?_
        refine zA_getI (v := (nI T)) sh_87 fX11_436 dX11_strike_33 rfl hT ?_
        refine zA_iconst (-1) dX11_strike_36 ic_m1 ?_
        refine zS_iast T sh_101 dX11_strike_37 rfl (by omega) (by decide) ?_
        refine zA_aload_0 dX11_strike_38 ?_
        refine zA_getR sh_87 fX11_52 dX11_strike_39 rfl (rt_87_24 _) ?_
        refine zA_aload_0 dX11_strike_42 ?_
        refine zA_getI (v := (nI T)) sh_87 fX11_436 dX11_strike_43 rfl hT ?_
        refine zA_iload_1 dX11_strike_46 ?_
        refine zS_iast T sh_102 dX11_strike_47 rfl (by omega) (by decide) ?_
        refine zA_aload_0 dX11_strike_48 ?_
        refine zA_dup dX11_strike_49 rfl ?_
        refine zA_getI (v := (nI T)) sh_87 fX11_436 dX11_strike_50 rfl hT ?_
        refine zA_iconst (nI 1) dX11_strike_53 ic_1 ?_
        refine zA_iaddN dX11_strike_54 ?_
        refine zS_putI sh_87 fX11_436 dX11_strike_55 rfl rfl ?_
        refine zA_aload_0 dX11_strike_58 ?_
        refine zA_getI (v := (nI (T + 1))) sh_87 fX11_436 dX11_strike_59 rfl rfl ?_
        refine zA_iconst (nI 1) dX11_strike_62 ic_1 ?_
        refine zA_isubN dX11_strike_63 (by omega) ?_
        exact zB_iret rfl dX11_strike_64 (Or.inl ⟨⟨hzi.mpr ⟨Int32.not_lt.mp g0, Int32.not_le.mp g1⟩, by omega⟩, rfl, rfl, rfl, rfl⟩)
      · refine zA_iconst (-1) dX11_strike_26 ic_m1 ?_
        exact zB_iret rfl dX11_strike_27 (Or.inr ⟨fun q => absurd q.2 (by omega), rfl, rfl, rfl, rfl⟩)
theorem ct_rLook (g : zm_G) (gi : zm_I) (gl : zm_J) (r : Nat) {V : Nat} (hV : gi 87 3 = nI V) (hV8 : V ≤ 8) (a b : Int32)  : zC_i g yX11_look mX11_look 1 [.ref 87, .int a, .int b] zSH gi gl (zRT r) (fun z gi' gl' gr' => (zin V a ∧ (nI 0 ≤ b ∧ b < nI 8) ∧ z = gi 89 (8 * zi a + zi b) ∧ gi' = zs gi 87 2 (nI 0) ∧ gl' = gl ∧ gr' = zRT r) ∨ (¬ zin V a ∧ z = nI 0 ∧ gi' = zs (zs gi 87 2 (nI 0)) 87 2 (nI 1) ∧ gl' = gl ∧ gr' = zRT r) ∨ (zin V a ∧ ¬ (nI 0 ≤ b ∧ b < nI 8) ∧ z = nI 0 ∧ gi' = zs (zs gi 87 2 (nI 0)) 87 2 (nI 2) ∧ gl' = gl ∧ gr' = zRT r)) := by
  refine zC_i_of [some (.ref 87), some (.int a), some (.int b)] (by decide) rfl rfl (Nat.le_of_ble_eq_true rfl) (fun x => ?_)
  refine zA_aload_0 dX11_look_0 ?_
  refine zA_iconst (nI 0) dX11_look_1 ic_0 ?_
  refine zS_putI sh_87 fX11_163 dX11_look_2 rfl rfl ?_
  refine zA_aload_0 dX11_look_5 ?_
  refine zA_iload_1 dX11_look_6 ?_
  refine zA_cVi (ct_risVillage g (zs gi 87 2 (nI 0)) gl r hV (by omega) a) calX11_isVillage stX11_isVillage lX11_176 dX11_look_7 (by decide) (by simp [Value.category]) rfl (Nat.le_refl _) (Nat.le_refl _) sh_87 rfl (fun zz gi' gl' gr' ⟨hz, q1, q2, q3⟩ => ?_)
  rw [hz, q1, q2, q3]
  clear hz q1 q2 q3
  refine zA_if_neB 19 dX11_look_10 (by decide) (fun g0 => ?_) (fun g0 => ?_)
  · refine zA_iload_2 dX11_look_19 ?_
    refine zA_if_lt 43 dX11_look_20 (by decide) (fun g1 => ?_) (fun g1 => ?_)
    · refine zA_aload_0 dX11_look_43 ?_
      refine zA_iconst (nI 2) dX11_look_44 ic_2 ?_
      refine zA_cVi (ct_rFails g (zs gi 87 2 (nI 0)) gl r (nI 2)) calX11_fails stX11_fails lX11_445 dX11_look_45 (by decide) (by simp [Value.category]) rfl (Nat.le_refl _) (Nat.le_refl _) sh_87 rfl (fun zz gi' gl' gr' ⟨hz, e1, e2, e3⟩ => ?_)
      rw [hz, e1, e2, e3]
      clear hz e1 e2 e3
      exact zB_iret rfl dX11_look_48 (Or.inr (Or.inr ⟨g0, fun q => absurd g1 (Int32.not_lt.mpr q.1), rfl, rfl, rfl, rfl⟩))
    · refine zA_iload_2 dX11_look_23 ?_
      refine zA_bipush (nI 8) dX11_look_24 bc_8 ?_
      refine zA_icmp_ge 43 dX11_look_26 (by decide) (fun g2 => ?_) (fun g2 => ?_)
      · refine zA_aload_0 dX11_look_43 ?_
        refine zA_iconst (nI 2) dX11_look_44 ic_2 ?_
        refine zA_cVi (ct_rFails g (zs gi 87 2 (nI 0)) gl r (nI 2)) calX11_fails stX11_fails lX11_445 dX11_look_45 (by decide) (by simp [Value.category]) rfl (Nat.le_refl _) (Nat.le_refl _) sh_87 rfl (fun zz gi' gl' gr' ⟨hz, e1, e2, e3⟩ => ?_)
        rw [hz, e1, e2, e3]
        clear hz e1 e2 e3
        exact zB_iret rfl dX11_look_48 (Or.inr (Or.inr ⟨g0, fun q => absurd q.2 (Int32.not_lt.mpr g2), rfl, rfl, rfl, rfl⟩))
      · have g3 : zin 8 b := ⟨Int32.not_lt.mp g1, Int32.not_le.mp g2⟩
        clear g1 g2
        obtain ⟨v, hv, rfl⟩ := zin_nat g0 (by omega)
        obtain ⟨k, hk, rfl⟩ := zin_nat g3 (by omega)
        refine zA_aload_0 dX11_look_29 ?_
        refine zA_getR sh_87 fX11_13 dX11_look_30 rfl (rt_87_4 _) ?_
        refine zA_bipush (nI 8) dX11_look_33 bc_8 ?_
        refine zA_iload_1 dX11_look_35 ?_
        refine zA_imulN dX11_look_36 ?_
        refine zA_iload_2 dX11_look_37 ?_
        refine zA_iaddN dX11_look_38 ?_
        refine zA_iald (v := (gi 89 ((8 * v) + k))) ((8 * v) + k) sh_89 dX11_look_39 rfl (by omega) (by decide) rfl ?_
        refine zA_goto 48 dX11_look_40 (by decide) ?_
        exact zB_iret rfl dX11_look_48 (Or.inl ⟨g0, g3, by rw [zi_nI (by omega), zi_nI (by omega)], rfl, rfl, rfl⟩)
  · refine zA_aload_0 dX11_look_13 ?_
    refine zA_iconst (nI 1) dX11_look_14 ic_1 ?_
    refine zA_cVi (ct_rFails g (zs gi 87 2 (nI 0)) gl r (nI 1)) calX11_fails stX11_fails lX11_445 dX11_look_15 (by decide) (by simp [Value.category]) rfl (Nat.le_refl _) (Nat.le_refl _) sh_87 rfl (fun zz gi' gl' gr' ⟨hz, e1, e2, e3⟩ => ?_)
    rw [hz, e1, e2, e3]
    clear hz e1 e2 e3
    exact zB_iret rfl dX11_look_18 (Or.inr (Or.inl ⟨g0, rfl, rfl, rfl, rfl⟩))
def rRdd (M : zm_I) (k : Nat) : Int32 := if k = 0 then M 87 84 else if k = 4 then M 87 85 else M 133 (k - 1)
theorem ct_rRounded (g : zm_G) (gi : zm_I) (gl : zm_J) (r : Nat) (a : Int32)  : zC_i g yX11_rounded mX11_rounded 1 [.ref 87, .int a] zSH gi gl (zRT r) (fun z gi' gl' gr' => ((¬ gi 87 83 = 0 ∧ (nI 0 ≤ a ∧ a ≤ nI 4)) ∧ z = rRdd gi (zi a) ∧ gi' = zs gi 87 2 (nI 0) ∧ gl' = gl ∧ gr' = zRT r) ∨ (¬ ((¬ gi 87 83 = 0 ∧ (nI 0 ≤ a ∧ a ≤ nI 4))) ∧ z = -2147483648 ∧ gi' = zs gi 87 2 (nI 0) ∧ gl' = gl ∧ gr' = zRT r)) := by
  refine zC_i_of [some (.ref 87), some (.int a)] (by decide) rfl rfl (Nat.le_of_ble_eq_true rfl) (fun x => ?_)
  refine zA_aload_0 dX11_rounded_0 ?_
  refine zA_iconst (nI 0) dX11_rounded_1 ic_0 ?_
  refine zS_putI sh_87 fX11_163 dX11_rounded_2 rfl rfl ?_
  refine zA_aload_0 dX11_rounded_5 ?_
  refine zA_getI (v := (gi 87 83)) sh_87 fX11_430 dX11_rounded_6 rfl rfl ?_
  refine zA_if_eq 21 dX11_rounded_9 (by decide) (fun g0 => ?_) (fun g0 => ?_)
  · refine zA_ldcw kX11_419 dX11_rounded_21 ?_
    exact zB_iret rfl dX11_rounded_24 (Or.inr ⟨fun q => q.1 g0, rfl, rfl, rfl, rfl⟩)
  · refine zA_iload_1 dX11_rounded_12 ?_
    refine zA_iconst (nI 0) dX11_rounded_13 ic_0 ?_
    refine zA_iconst (nI 4) dX11_rounded_14 ic_4 ?_
    refine zA_cSi (ct_rIsIn g _ _ _ a ((nI 0)) ((nI 4))) calX11_isIn stX11_isIn lX11_172 dX11_rounded_15 (by decide) (by simp [Value.category]) rfl (Nat.le_refl _) (Nat.le_refl _) (fun zz gi' gl' gr' ⟨hz, q1, q2, q3⟩ => ?_)
    rw [hz, q1, q2, q3]
    clear hz q1 q2 q3
    refine zA_if_neB 25 dX11_rounded_18 (by decide) (fun g1 => ?_) (fun g1 => ?_)
    · obtain ⟨k, hk, rfl⟩ := zwi_nat g1 (by omega)
      have hzk : zi (nI k) = k := zi_nI (by omega)
      refine zA_iload_1 dX11_rounded_25 ?_
      refine zA_if_ne 36 dX11_rounded_26 (by decide) (fun g2 => ?_) (fun g2 => ?_)
      · have k0 : ¬ k = 0 := fun e => g2 (by rw [e]; rfl)
        refine zA_iload_1 dX11_rounded_36 ?_
        refine zA_iconst (nI 4) dX11_rounded_37 ic_4 ?_
        refine zA_icmp_neN 48 dX11_rounded_38 (by decide) (by omega) (by omega) (fun g3 => ?_) (fun g3 => ?_)
        · refine zA_aload_0 dX11_rounded_48 ?_
          refine zA_getR sh_87 fX11_151 dX11_rounded_49 rfl (rt_87_86 _) ?_
          refine zA_iload_1 dX11_rounded_52 ?_
          refine zA_iconst (nI 1) dX11_rounded_53 ic_1 ?_
          refine zA_isubN dX11_rounded_54 (by omega) ?_
          refine zA_iald (v := (gi 133 (k - 1))) (k - 1) sh_133 dX11_rounded_55 rfl (by omega) (by decide) rfl ?_
          exact zB_iret rfl dX11_rounded_56 (Or.inl ⟨⟨g0, g1⟩, by rw [hzk]; unfold rRdd; rw [if_neg k0, if_neg g3], rfl, rfl, rfl⟩)
        · refine zA_aload_0 dX11_rounded_41 ?_
          refine zA_getI (v := (gi 87 85)) sh_87 fX11_433 dX11_rounded_42 rfl rfl ?_
          refine zA_goto 56 dX11_rounded_45 (by decide) ?_
          exact zB_iret rfl dX11_rounded_56 (Or.inl ⟨⟨g0, g1⟩, by rw [hzk, g3]; rfl, rfl, rfl, rfl⟩)
      · have k0 : k = 0 := by
          have h := congrArg zi g2
          rw [hzk] at h
          exact h
        refine zA_aload_0 dX11_rounded_29 ?_
        refine zA_getI (v := (gi 87 84)) sh_87 fX11_427 dX11_rounded_30 rfl rfl ?_
        refine zA_goto 56 dX11_rounded_33 (by decide) ?_
        exact zB_iret rfl dX11_rounded_56 (Or.inl ⟨⟨g0, g1⟩, by rw [hzk, k0]; rfl, rfl, rfl, rfl⟩)
    · refine zA_ldcw kX11_419 dX11_rounded_21 ?_
      exact zB_iret rfl dX11_rounded_24 (Or.inr ⟨fun q => g1 q.2, rfl, rfl, rfl, rfl⟩)
theorem ct_rFault (g : zm_G) (gi : zm_I) (gl : zm_J) (r : Nat) (a : Int32)  : zC_i g yX11_fault mX11_fault 0 [.ref 87, .int a] zSH gi gl (zRT r) (fun z gi' gl' gr' => z = (if a = 0 then gi 87 29 else if a = 1 then gi 87 30 else -1) ∧ gi' = zs gi 87 2 (nI 0) ∧ gl' = gl ∧ gr' = zRT r) := by
  refine zC_i_of [some (.ref 87), some (.int a)] (by decide) rfl rfl (Nat.le_of_ble_eq_true rfl) (fun x => ?_)
  refine zA_aload_0 dX11_fault_0 ?_
  refine zA_iconst (nI 0) dX11_fault_1 ic_0 ?_
  refine zS_putI sh_87 fX11_163 dX11_fault_2 rfl rfl ?_
  refine zA_iload_1 dX11_fault_5 ?_
  refine zA_if_ne 16 dX11_fault_6 (by decide) (fun g0 => ?_) (fun g0 => ?_)
  · refine zA_iload_1 dX11_fault_16 ?_
    refine zA_iconst (nI 1) dX11_fault_17 ic_1 ?_
    refine zA_icmp_ne 28 dX11_fault_18 (by decide) (fun g1 => ?_) (fun g1 => ?_)
    · refine zA_iconst (-1) dX11_fault_28 ic_m1 ?_
      exact zB_iret rfl dX11_fault_29 (⟨by rw [if_neg g0]; exact (if_neg g1).symm, rfl, rfl, rfl⟩)
    · refine zA_aload_0 dX11_fault_21 ?_
      refine zA_getI (v := (gi 87 30)) sh_87 fX11_68 dX11_fault_22 rfl rfl ?_
      refine zA_goto 29 dX11_fault_25 (by decide) ?_
      exact zB_iret rfl dX11_fault_29 (⟨by rw [if_neg g0]; exact (if_pos g1).symm, rfl, rfl, rfl⟩)
  · refine zA_aload_0 dX11_fault_9 ?_
    refine zA_getI (v := (gi 87 29)) sh_87 fX11_215 dX11_fault_10 rfl rfl ?_
    refine zA_goto 29 dX11_fault_13 (by decide) ?_
    exact zB_iret rfl dX11_fault_29 (⟨by rw [if_pos g0], rfl, rfl, rfl⟩)
