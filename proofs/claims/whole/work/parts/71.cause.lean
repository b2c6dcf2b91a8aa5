theorem ct_rCause (g : zm_G) (gi : zm_I) (gl : zm_J) (r : Nat) (C : zm_I) (cl : zm_J) {q W Pn E K w v p s n : Nat} (hS : zSR q W Pn E K C gi) (hD : zDR W Pn C gi) (hN : zNR C gi) (hT : zTR w C gi) (hW3 : W ≤ 3) (hP4 : Pn ≤ 4) (hw : w < W) (hv : v < 8) (hp : p < Pn) (hs : s < 4) (hn : n < 4) (hpl : zi (C 67 w) < 8) (hA : rAt gi) (hF : ∀ k, k < 11 → (k = 10 → 2 ≤ 0) → fFacts C cl v p 74 k = (rNm gi k).toInt64)  : zC_i g yX11_causeOf mX11_causeOf 4 [.ref 87, .int (nI n), .int (nI w), .int (nI v), .int (nI p), .int (C (14 + s) (zi (C 67 w) * 8 + v))] zSH gi gl (zRT r) (fun z gi' gl' gr' => z = (fCau C cl w v p s n).1 ∧ (∃ v, gi' = zs gi 87 60 v) ∧ (∀ q, q ≠ 121 → gl' q = gl q) ∧ gr' = zRT r) := by
  obtain ⟨a1, a2, a3, a4, a5, a6, a7, a8, a9, a10, a11, a12, a13, a14⟩ := hS
  obtain ⟨d1, d2, d3, d4⟩ := hD
  obtain ⟨t1, t2, k, hk2, hk⟩ := hT
  obtain ⟨hf1, hf2⟩ := fFew_far hpl hv (a13 s hs)
  refine zC_i_of [some (.ref 87), some (.int (nI n)), some (.int (nI w)), some (.int (nI v)), some (.int (nI p)), some (.int (C (14 + s) (zi (C 67 w) * 8 + v)))] (by decide) rfl rfl (Nat.le_of_ble_eq_true rfl) (fun x => ?_)
  refine zA_aload_0 dX11_causeOf_0 ?_
  refine zA_getR sh_87 fX11_34 dX11_causeOf_1 rfl (rt_87_14 _) ?_
  refine zA_iload_2 dX11_causeOf_4 ?_
  refine zA_iald (v := (C 21 w)) w sh_96 dX11_causeOf_5 rfl (by omega) (by decide) ((a6 w hw).2) ?_
  refine zA_iload_1 dX11_causeOf_6 ?_
  refine zA_ishr dX11_causeOf_7 ?_
  refine zA_iconst (nI 1) dX11_causeOf_8 ic_1 ?_
  refine zA_iand dX11_causeOf_9 ?_
  refine zA_iconst (nI 1) dX11_causeOf_10 ic_1 ?_
  refine zA_icmp_ne 16 dX11_causeOf_11 (by decide) (fun b1 => ?_) (fun b1 => ?_)
  · refine zA_aload_0 dX11_causeOf_16 ?_
    refine zA_getR sh_87 fX11_127 dX11_causeOf_17 rfl (rt_87_70 _) ?_
    refine zA_iload_2 dX11_causeOf_20 ?_
    refine zA_iald (v := (nI k)) w sh_125 dX11_causeOf_21 rfl (by omega) (by decide) (t2.trans hk) ?_
    refine zA_iconst (nI 2) dX11_causeOf_22 ic_2 ?_
    refine zA_icmp_neN 28 dX11_causeOf_23 (by decide) (by omega) (by omega) (fun b2 => ?_) (fun b2 => ?_)
    · have c2 : C 57 19 < nI 2 := by rw [hk]; exact nI_lt (by omega) (by omega)
      refine zA_aload_0 dX11_causeOf_28 ?_
      refine zA_getR sh_87 fX11_133 dX11_causeOf_29 rfl (rt_87_72 _) ?_
      refine zA_iload_4 dX11_causeOf_32 ?_
      refine zA_iald (v := (C 70 p)) p sh_127 dX11_causeOf_34 rfl (by omega) (by decide) ((d2 p hp).1) ?_
      refine zA_iload_2 dX11_causeOf_35 ?_
      refine zA_icmp_eq 41 dX11_causeOf_36 (by decide) (fun b3 => ?_) (fun b3 => ?_)
      · refine zA_iload_5 dX11_causeOf_41 ?_
        refine zA_ldc kX11_198 dX11_causeOf_43 ?_
        refine zA_topi (b := nI 1000000) (by decide) ?_
        refine zA_icmp_ne 50 dX11_causeOf_45 (by decide) (fun b4 => ?_) (fun b4 => ?_)
        · obtain ⟨c4, c5⟩ := hf2 b4
          refine zA_aload_0 dX11_causeOf_50 ?_
          refine zA_getR sh_87 fX11_124 dX11_causeOf_51 rfl (rt_87_69 _) ?_
          refine zA_iload_2 dX11_causeOf_54 ?_
          refine zA_iald (v := (C 57 18)) w sh_124 dX11_causeOf_55 rfl (by omega) (by decide) t1 ?_
          refine zA_iload_5 dX11_causeOf_56 ?_
          refine zA_iadd dX11_causeOf_58 ?_
          refine zA_aload_0 dX11_causeOf_59 ?_
          refine zA_getR sh_87 fX11_37 dX11_causeOf_60 rfl (rt_87_16 _) ?_
          refine zA_bipush (nI 7) dX11_causeOf_63 bc_7 ?_
          refine zA_iload_4 dX11_causeOf_65 ?_
          refine zA_imulN dX11_causeOf_67 ?_
          refine zA_iconst (nI 2) dX11_causeOf_68 ic_2 ?_
          refine zA_iaddN dX11_causeOf_69 ?_
          refine zA_iald (v := (C (23 + p) 2)) ((7 * p) + 2) sh_97 dX11_causeOf_70 rfl (by omega) (by decide) (a7 p 2 hp (by decide)) ?_
          refine zA_iadd dX11_causeOf_71 ?_
          refine zA_aload_0 dX11_causeOf_72 ?_
          refine zA_getR sh_87 fX11_72 dX11_causeOf_73 rfl (rt_87_36 _) ?_
          refine zA_iconst (nI 0) dX11_causeOf_76 ic_0 ?_
          refine zA_iald (v := (C 36 5)) 0 sh_107 dX11_causeOf_77 rfl (by decide) (by decide) a11.1 ?_
          refine zA_icmp_le 83 dX11_causeOf_78 (by decide) (fun b5 => ?_) (fun b5 => ?_)
          · have c6 : C 57 18 + fFew C (zi (C 67 w)) v s + C (23 + p) 2 ≤ C 36 5 := by rw [c4]; exact b5
            refine zA_aload_0 dX11_causeOf_83 ?_
            refine zA_getR sh_87 fX11_130 dX11_causeOf_84 rfl (rt_87_71 _) ?_
            refine zA_iload_3 dX11_causeOf_87 ?_
            refine zA_zald (v := (zb (zbit (C 57 17) v))) v sh_126 dX11_causeOf_88 rfl (by omega) (by decide) (hN v hv) ?_
            refine zA_if_eqB 95 dX11_causeOf_89 (by decide) (fun b6 => ?_) (fun b6 => ?_)
            · rcases a12 0 (by decide) with ⟨z1, z2⟩ | ⟨s0, m0, f0, k0, k1, k2, k3, k4, k5, k6, k7, k8⟩
              · have c7 : (fWor C (fFacts C cl v p) 0).1 = 1 := by
                  unfold fWor
                  rw [if_pos z1]
                  show (zm_wl.getD 0 0).toInt64 = 1
                  decide
                refine zA_aload_0 dX11_causeOf_95 ?_
                refine zA_getR sh_87 fX11_78 dX11_causeOf_96 rfl (rt_87_38 _) ?_
                refine zA_iconst (nI 2) dX11_causeOf_99 ic_2 ?_
                refine zA_zald (v := (nI 0)) 2 sh_109 dX11_causeOf_100 rfl (by decide) (by decide) z2 ?_
                refine zA_if_eq 119 dX11_causeOf_101 (by decide) (fun _ => ?_) (fun hh => absurd (by decide) hh)
                refine zA_iconst (nI 0) dX11_causeOf_119 ic_0 ?_
                exact zB_iret rfl dX11_causeOf_120 (⟨by unfold fCau; rw [if_neg b1, if_pos c2, if_pos b3, if_neg c5, if_pos c6, if_neg b6]; show nI 0 = if lg_cmp (fWor C (fFacts C cl v p) 0).1 0 = 0 then nI 7 else if lg_cmp (fWor C (fFacts C cl v p) 0).1 (-9223372036854775808) = 0 then nI 7 else nI 0; rw [c7]; decide +kernel, ⟨_, (zs_same rfl).symm⟩, fun _ _ => rfl, rfl⟩)
              · refine zA_aload_0 dX11_causeOf_95 ?_
                refine zA_getR sh_87 fX11_78 dX11_causeOf_96 rfl (rt_87_38 _) ?_
                refine zA_iconst (nI 2) dX11_causeOf_99 ic_2 ?_
                refine zA_zald (v := (nI 1)) 2 sh_109 dX11_causeOf_100 rfl (by decide) (by decide) k5 ?_
                refine zA_if_eq 119 dX11_causeOf_101 (by decide) (fun hh => absurd hh (by decide)) (fun _ => ?_)
                refine zA_aload_0 dX11_causeOf_104 ?_
                refine zA_iconst (nI 0) dX11_causeOf_105 ic_0 ?_
                refine zA_cVl (ct_rValue g gi gl r C (fFacts C cl v p) (l := 0) (by decide) hA hF k0 k1 k2 k3 k4 k6 k7 k8) calX11_valueOf stX11_valueOf lX11_371 dX11_causeOf_106 (by decide) (by simp [Value.category]) rfl (Nat.le_refl _) (Nat.le_refl _) sh_87 rfl (fun zz gi' gl' gr' ⟨hz, e1, e2, e3⟩ => ?_)
                rw [hz, e1, e3]
                clear hz e1 e3
                refine zA_lconst 0 dX11_causeOf_109 (by decide) ?_
                refine zA_lcmp dX11_causeOf_110 ?_
                refine zA_if_ne 119 dX11_causeOf_111 (by decide) (fun b7 => ?_) (fun b7 => ?_)
                · have c7 : (if lg_cmp (fWor C (fFacts C cl v p) 0).1 0 = 0 then nI 7 else if lg_cmp (fWor C (fFacts C cl v p) 0).1 (-9223372036854775808) = 0 then nI 7 else nI 0) = nI 0 := by
                    by_cases e : (fWor C (fFacts C cl v p) 0).1 = zERR
                    · rw [if_pos e] at b7
                      exact absurd (by decide +kernel) b7
                    · rw [if_neg e] at b7
                      rw [if_neg b7]
                      exact if_neg (fun z => e ((lg_cmp_eq _ _).mp z))
                  refine zA_iconst (nI 0) dX11_causeOf_119 ic_0 ?_
                  exact zB_iret rfl dX11_causeOf_120 (⟨by unfold fCau; rw [if_neg b1, if_pos c2, if_pos b3, if_neg c5, if_pos c6, if_neg b6]; exact c7.symm, ⟨_, rfl⟩, e2, rfl⟩)
                · have c7 : (if lg_cmp (fWor C (fFacts C cl v p) 0).1 0 = 0 then nI 7 else if lg_cmp (fWor C (fFacts C cl v p) 0).1 (-9223372036854775808) = 0 then nI 7 else nI 0) = nI 7 := by
                    by_cases e : (fWor C (fFacts C cl v p) 0).1 = zERR
                    · rw [if_neg (by rw [e]; decide +kernel), if_pos (by rw [e]; decide +kernel)]
                    · rw [if_neg e] at b7
                      rw [if_pos b7]
                  refine zA_bipush (nI 7) dX11_causeOf_114 bc_7 ?_
                  refine zA_goto 120 dX11_causeOf_116 (by decide) ?_
                  exact zB_iret rfl dX11_causeOf_120 (⟨by unfold fCau; rw [if_neg b1, if_pos c2, if_pos b3, if_neg c5, if_pos c6, if_neg b6]; exact c7.symm, ⟨_, rfl⟩, e2, rfl⟩)
            · refine zA_bipush (nI 6) dX11_causeOf_92 bc_6 ?_
              exact zB_iret rfl dX11_causeOf_94 (⟨by unfold fCau; rw [if_neg b1, if_pos c2, if_pos b3, if_neg c5, if_pos c6, if_pos b6], ⟨_, (zs_same rfl).symm⟩, fun _ _ => rfl, rfl⟩)
          · have c6 : ¬ C 57 18 + fFew C (zi (C 67 w)) v s + C (23 + p) 2 ≤ C 36 5 := by rw [c4]; exact b5
            refine zA_iconst (nI 5) dX11_causeOf_81 ic_5 ?_
            exact zB_iret rfl dX11_causeOf_82 (⟨by unfold fCau; rw [if_neg b1, if_pos c2, if_pos b3, if_neg c5, if_neg c6], ⟨_, (zs_same rfl).symm⟩, fun _ _ => rfl, rfl⟩)
        · have c4 := hf1 b4
          refine zA_iconst (nI 4) dX11_causeOf_48 ic_4 ?_
          exact zB_iret rfl dX11_causeOf_49 (⟨by unfold fCau; rw [if_neg b1, if_pos c2, if_pos b3, if_pos c4], ⟨_, (zs_same rfl).symm⟩, fun _ _ => rfl, rfl⟩)
      · refine zA_iconst (nI 3) dX11_causeOf_39 ic_3 ?_
        exact zB_iret rfl dX11_causeOf_40 (⟨by unfold fCau; rw [if_neg b1, if_pos c2, if_neg b3], ⟨_, (zs_same rfl).symm⟩, fun _ _ => rfl, rfl⟩)
    · have c2 : ¬ C 57 19 < nI 2 := by rw [hk, b2]; decide
      refine zA_iconst (nI 2) dX11_causeOf_26 ic_2 ?_
      exact zB_iret rfl dX11_causeOf_27 (⟨by unfold fCau; rw [if_neg b1, if_neg c2], ⟨_, (zs_same rfl).symm⟩, fun _ _ => rfl, rfl⟩)
  · refine zA_iconst (nI 1) dX11_causeOf_14 ic_1 ?_
    exact zB_iret rfl dX11_causeOf_15 (⟨by unfold fCau; rw [if_pos b1], ⟨_, (zs_same rfl).symm⟩, fun _ _ => rfl, rfl⟩)
