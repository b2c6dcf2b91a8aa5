def fCau (gi : zm_I) (gl : zm_J) (w v p s n : Nat) : Int32 × zm_J :=
  if zbit (gi 21 w) n then (nI 1, gl)
  else if gi 57 19 < nI 2 then
    (if gi 70 p = nI w then
      (if fFew gi (zi (gi 67 w)) v s = -1 then (nI 4, gl)
      else if gi 57 18 + fFew gi (zi (gi 67 w)) v s + gi (23 + p) 2 ≤ gi 36 5 then
        (if zbit (gi 57 17) v then (nI 6, gl)
        else (if lg_cmp (fWor gi (fFacts gi gl v p) 0).1 0 = 0 then nI 7 else if lg_cmp (fWor gi (fFacts gi gl v p) 0).1 (-9223372036854775808) = 0 then nI 7 else nI 0, va_up (fFacts gi gl v p) 41 (fWor gi (fFacts gi gl v p) 0).2))
      else (nI 5, gl))
    else (nI 3, gl))
  else (nI 2, gl)
def fShow (gi : zm_I) (gl : zm_J) (i v p n : Nat) : zm_I × zm_J :=
  let h := (gl 74 10).toInt32
  let w1 := fWor gi gl 1
  let g1 := va_up gl 41 w1.2
  let pr := fCut w1.1 (nI 999)
  let tk := h * pr
  let w2 := fWor gi g1 2
  let g2 := va_up g1 41 w2.2
  let re := tk * fCut w2.1 (nI 100) / nI 100
  let w3 := fWor gi g2 3
  let g3 := va_up g2 41 w3.2
  let pa := (tk - re) * fCut w3.1 (nI 100) / nI 100
  let w4 := fWor gi g3 4
  let g4 := va_up g3 41 w4.2
  let eg := h * fCut w4.1 (nI 100) / nI 100 * fEggs gi n pr
  (zs (zs (zs (zs (zs (zs (zs (zs (zs (zs (zs (zs (zs (zs gi 60 i h) 61 i tk) 62 i re) 63 i pa) 64 i eg) 66 0 (gi 66 0 + h)) 66 1 (gi 66 1 + (tk - re - pa))) 66 2 (gi 66 2 + nI 1)) 66 4 (gi 66 4 + eg)) 57 18 (gi 57 18 + gi (23 + p) 2)) 57 19 (gi 57 19 + nI 1)) 57 17 (gi 57 17 ||| (nI 1 <<< (nI v &&& 31)))) 72 p (gi 72 p + nI 1)) 73 (p * 8 + v) (gi 73 (p * 8 + v) + h), g4)
theorem ct_causeAgainst (g : zm_G) (gi : zm_I) (gl : zm_J) (r : Nat) {w v p s n : Nat} (hw : w < 3) (hv : v < 8) (hp : p < 4) (hs : s < 4) (hS : gi 57 16 = nI s) (hN : gi 57 15 = nI n) (hn : n < 4) (hpl : zx (gi 67 w) 8) (hg : zx (gi (23 + p) 0) 4) (hL : zLaw gi)  : zC_i g yX0_causeAgainst mX0_causeAgainst 3 [.ref 57, .int (nI w), .int (nI v), .int (nI p)] zSH gi gl (zRT r) (fun z gi' gl' gr' => z = (fCau gi gl w v p s n).1 ∧ gi' = gi ∧ gl' = (fCau gi gl w v p s n).2 ∧ gr' = zRT r) := by
  have hpl2 := hpl.2
  refine zC_i_of [some (.ref 57), some (.int (nI w)), some (.int (nI v)), some (.int (nI p)), none, none, none] (by decide) rfl rfl (Nat.le_of_ble_eq_true rfl) (fun x => ?_)
  refine zA_aload_0 dX0_causeAgainst_0 ?_
  refine zA_getR sh_57 fX0_51 dX0_causeAgainst_1 rfl (rt_57_1 _) ?_
  refine zA_iload_1 dX0_causeAgainst_4 ?_
  refine zA_aload_0 dX0_causeAgainst_5 ?_
  refine zA_getI (v := (nI n)) sh_57 fX0_69 dX0_causeAgainst_6 rfl hN ?_
  refine zA_cVi (ct_isBroken g gi gl r hw (n := n)) calX1_isBroken stX1_isBroken lX0_131 dX0_causeAgainst_9 (by decide) (by simp [Value.category]) rfl (Nat.le_refl _) (Nat.le_refl _) sh_19 rfl (fun zz gi' gl' gr' ⟨hz, e1, e2, e3⟩ => ?_)
  rw [hz, e1, e2, e3]
  clear hz e1 e2 e3
  refine zA_if_eqB 17 dX0_causeAgainst_12 (by decide) (fun b1 => ?_) (fun b1 => ?_)
  · refine zA_aload_0 dX0_causeAgainst_17 ?_
    refine zA_getI (v := (gi 57 19)) sh_57 fX0_137 dX0_causeAgainst_18 rfl rfl ?_
    refine zA_iconst (nI 2) dX0_causeAgainst_21 ic_2 ?_
    refine zA_icmp_lt 27 dX0_causeAgainst_22 (by decide) (fun b2 => ?_) (fun b2 => ?_)
    · refine zA_aload_0 dX0_causeAgainst_27 ?_
      refine zA_getR sh_57 fX0_31 dX0_causeAgainst_28 rfl (rt_57_9 _) ?_
      refine zA_iload_3 dX0_causeAgainst_31 ?_
      refine zA_iald (v := (gi 70 p)) p sh_70 dX0_causeAgainst_32 rfl (by omega) (by decide) rfl ?_
      refine zA_iload_1 dX0_causeAgainst_33 ?_
      refine zA_icmp_eq 39 dX0_causeAgainst_34 (by decide) (fun b3 => ?_) (fun b3 => ?_)
      · refine zA_aload_0 dX0_causeAgainst_39 ?_
        refine zA_getR sh_57 fX0_47 dX0_causeAgainst_40 rfl (rt_57_0 _) ?_
        refine zA_aload_0 dX0_causeAgainst_43 ?_
        refine zA_getR sh_57 fX0_22 dX0_causeAgainst_44 rfl (rt_57_6 _) ?_
        refine zA_iload_1 dX0_causeAgainst_47 ?_
        refine zA_iald (v := (nI (zi (gi 67 w)))) w sh_67 dX0_causeAgainst_48 rfl (by omega) (by decide) hpl.1 ?_
        refine zA_iload_2 dX0_causeAgainst_49 ?_
        refine zA_aload_0 dX0_causeAgainst_50 ?_
        refine zA_getI (v := (nI s)) sh_57 fX0_73 dX0_causeAgainst_51 rfl hS ?_
        refine zA_cVi (ct_fewestMinutes g gi gl r hpl.2 hv hs) calX3_fewestMinutes stX3_fewestMinutes lX0_169 dX0_causeAgainst_54 (by decide) (by simp [Value.category]) rfl (Nat.le_refl _) (Nat.le_refl _) sh_3 rfl (fun zz gi' gl' gr' ⟨hz, e1, e2, e3⟩ => ?_)
        rw [hz, e1, e2, e3]
        clear hz e1 e2 e3
        refine zA_istore_4 dX0_causeAgainst_57 rfl ?_
        refine zA_iload_4 dX0_causeAgainst_59 ?_
        refine zA_iconst (-1) dX0_causeAgainst_61 ic_m1 ?_
        refine zA_icmp_ne 67 dX0_causeAgainst_62 (by decide) (fun b4 => ?_) (fun b4 => ?_)
        · refine zA_aload_0 dX0_causeAgainst_67 ?_
          refine zA_getI (v := (gi 57 18)) sh_57 fX0_134 dX0_causeAgainst_68 rfl rfl ?_
          refine zA_iload_4 dX0_causeAgainst_71 ?_
          refine zA_iadd dX0_causeAgainst_73 ?_
          refine zA_aload_0 dX0_causeAgainst_74 ?_
          refine zA_getR sh_57 fX0_51 dX0_causeAgainst_75 rfl (rt_57_1 _) ?_
          refine zA_getR sh_19 fX0_116 dX0_causeAgainst_78 rfl (rt_19_2 _) ?_
          refine zA_iload_3 dX0_causeAgainst_81 ?_
          refine zA_aald p sh_22 dX0_causeAgainst_82 rfl (by omega) (by decide) (rtr_pf _ (by omega)) ?_
          refine zA_iconst (nI 2) dX0_causeAgainst_83 ic_2 ?_
          refine zA_iald (v := (gi (23 + p) 2)) 2 (shr_pf (by omega)) dX0_causeAgainst_84 rfl (by decide) (by decide) rfl ?_
          refine zA_iadd dX0_causeAgainst_85 ?_
          refine zA_aload_0 dX0_causeAgainst_86 ?_
          refine zA_getR sh_57 fX0_59 dX0_causeAgainst_87 rfl (rt_57_2 _) ?_
          refine zA_getI (v := (gi 36 5)) sh_36 fX0_174 dX0_causeAgainst_90 rfl rfl ?_
          refine zA_icmp_le 98 dX0_causeAgainst_93 (by decide) (fun b5 => ?_) (fun b5 => ?_)
          · refine zA_aload_0 dX0_causeAgainst_98 ?_
            refine zA_getI (v := (gi 57 17)) sh_57 fX0_76 dX0_causeAgainst_99 rfl rfl ?_
            refine zA_iload_2 dX0_causeAgainst_102 ?_
            refine zA_ishr dX0_causeAgainst_103 ?_
            refine zA_iconst (nI 1) dX0_causeAgainst_104 ic_1 ?_
            refine zA_iand dX0_causeAgainst_105 ?_
            refine zA_iconst (nI 1) dX0_causeAgainst_106 ic_1 ?_
            refine zA_icmp_ne 113 dX0_causeAgainst_107 (by decide) (fun b6 => ?_) (fun b6 => ?_)
            · refine zA_aload_0 dX0_causeAgainst_113 ?_
              refine zA_iload_2 dX0_causeAgainst_114 ?_
              refine zA_iload_3 dX0_causeAgainst_115 ?_
              refine zA_cVv (ct_gatherFacts g gi gl r hv hp hg) calX0_gatherFacts stX0_gatherFacts lX0_179 dX0_causeAgainst_116 (by decide) (by simp [Value.category]) rfl (Nat.le_refl _) (Nat.le_refl _) sh_57 rfl (fun gi' gl' gr' ⟨e1, e2, e3⟩ => ?_)
              rw [e1, e2, e3]
              clear e1 e2 e3
              refine zA_aload_0 dX0_causeAgainst_119 ?_
              refine zA_getR sh_57 fX0_59 dX0_causeAgainst_120 rfl (rt_57_2 _) ?_
              refine zA_iconst (nI 0) dX0_causeAgainst_123 ic_0 ?_
              refine zA_aload_0 dX0_causeAgainst_124 ?_
              refine zA_getR sh_57 fX0_43 dX0_causeAgainst_125 rfl (rt_57_13 _) ?_
              refine zA_cVl (ct_worth g gi _ r (l := 0) (by decide) hL) calX4_worth stX4_worth lX0_183 dX0_causeAgainst_128 (by decide) (by simp [Value.category]) rfl (Nat.le_refl _) (Nat.le_refl _) sh_36 rfl (fun zz gi' gl' gr' ⟨hz, e1, e2, e3⟩ => ?_)
              rw [hz, e1, e2, e3]
              clear hz e1 e2 e3
              refine zA_lstore_5 dX0_causeAgainst_131 rfl ?_
              refine zA_lload_5 dX0_causeAgainst_133 ?_
              refine zA_lconst 0 dX0_causeAgainst_135 (by decide) ?_
              refine zA_lcmp dX0_causeAgainst_136 ?_
              refine zA_if_eq 149 dX0_causeAgainst_137 (by decide) (fun b7 => ?_) (fun b7 => ?_)
              · refine zA_bipush (nI 7) dX0_causeAgainst_149 bc_7 ?_
                refine zA_goto 155 dX0_causeAgainst_151 (by decide) ?_
                exact zB_iret rfl dX0_causeAgainst_155 (⟨by unfold fCau; rw [if_neg b1, if_pos b2, if_pos b3, if_neg b4, if_pos b5, if_neg b6, if_pos b7], rfl, by unfold fCau; rw [if_neg b1, if_pos b2, if_pos b3, if_neg b4, if_pos b5, if_neg b6, if_pos b7], rfl⟩)
              · refine zA_lload_5 dX0_causeAgainst_140 ?_
                refine zA_ldc2 kX0_187 dX0_causeAgainst_142 ?_
                refine zA_lcmp dX0_causeAgainst_145 ?_
                refine zA_if_ne 154 dX0_causeAgainst_146 (by decide) (fun b8 => ?_) (fun b8 => ?_)
                · refine zA_iconst (nI 0) dX0_causeAgainst_154 ic_0 ?_
                  exact zB_iret rfl dX0_causeAgainst_155 (⟨by unfold fCau; rw [if_neg b1, if_pos b2, if_pos b3, if_neg b4, if_pos b5, if_neg b6, if_neg b7, if_neg b8], rfl, by unfold fCau; rw [if_neg b1, if_pos b2, if_pos b3, if_neg b4, if_pos b5, if_neg b6, if_neg b7, if_neg b8], rfl⟩)
                · refine zA_bipush (nI 7) dX0_causeAgainst_149 bc_7 ?_
                  refine zA_goto 155 dX0_causeAgainst_151 (by decide) ?_
                  exact zB_iret rfl dX0_causeAgainst_155 (⟨by unfold fCau; rw [if_neg b1, if_pos b2, if_pos b3, if_neg b4, if_pos b5, if_neg b6, if_neg b7, if_pos b8], rfl, by unfold fCau; rw [if_neg b1, if_pos b2, if_pos b3, if_neg b4, if_pos b5, if_neg b6, if_neg b7, if_pos b8], rfl⟩)
            · refine zA_bipush (nI 6) dX0_causeAgainst_110 bc_6 ?_
              exact zB_iret rfl dX0_causeAgainst_112 (⟨by unfold fCau; rw [if_neg b1, if_pos b2, if_pos b3, if_neg b4, if_pos b5, if_pos b6], rfl, by unfold fCau; rw [if_neg b1, if_pos b2, if_pos b3, if_neg b4, if_pos b5, if_pos b6], rfl⟩)
          · refine zA_iconst (nI 5) dX0_causeAgainst_96 ic_5 ?_
            exact zB_iret rfl dX0_causeAgainst_97 (⟨by unfold fCau; rw [if_neg b1, if_pos b2, if_pos b3, if_neg b4, if_neg b5], rfl, by unfold fCau; rw [if_neg b1, if_pos b2, if_pos b3, if_neg b4, if_neg b5], rfl⟩)
        · refine zA_iconst (nI 4) dX0_causeAgainst_65 ic_4 ?_
          exact zB_iret rfl dX0_causeAgainst_66 (⟨by unfold fCau; rw [if_neg b1, if_pos b2, if_pos b3, if_pos b4], rfl, by unfold fCau; rw [if_neg b1, if_pos b2, if_pos b3, if_pos b4], rfl⟩)
      · refine zA_iconst (nI 3) dX0_causeAgainst_37 ic_3 ?_
        exact zB_iret rfl dX0_causeAgainst_38 (⟨by unfold fCau; rw [if_neg b1, if_pos b2, if_neg b3], rfl, by unfold fCau; rw [if_neg b1, if_pos b2, if_neg b3], rfl⟩)
    · refine zA_iconst (nI 2) dX0_causeAgainst_25 ic_2 ?_
      exact zB_iret rfl dX0_causeAgainst_26 (⟨by unfold fCau; rw [if_neg b1, if_neg b2], rfl, by unfold fCau; rw [if_neg b1, if_neg b2], rfl⟩)
  · refine zA_iconst (nI 1) dX0_causeAgainst_15 ic_1 ?_
    exact zB_iret rfl dX0_causeAgainst_16 (⟨by unfold fCau; rw [if_pos b1], rfl, by unfold fCau; rw [if_pos b1], rfl⟩)
theorem ct_show (g : zm_G) (gi : zm_I) (gl : zm_J) (r : Nat) {i v p n : Nat} (hi : i < 27) (hv : v < 8) (hp : p < 4) (hN : gi 57 15 = nI n) (hn : n < 4) (hL : zLaw gi)  : zC_v g yX0_show mX0_show 3 [.ref 57, .int (nI i), .int (nI v), .int (nI p)] zSH gi gl (zRT r) (fun gi' gl' gr' => gi' = (fShow gi gl i v p n).1 ∧ gl' = (fShow gi gl i v p n).2 ∧ gr' = zRT r) := by
  refine zC_v_of [some (.ref 57), some (.int (nI i)), some (.int (nI v)), some (.int (nI p)), none, none, none, none, none, none] (by decide) rfl rfl (Nat.le_of_ble_eq_true rfl) (fun x => ?_)
  refine zA_aload_0 dX0_show_0 ?_
  refine zA_getR sh_57 fX0_43 dX0_show_1 rfl (rt_57_13 _) ?_
  refine zA_bipush (nI 10) dX0_show_4 bc_10 ?_
  refine zA_lald (v := (gl 74 10)) 10 sh_74 dX0_show_6 rfl (by decide) (by decide) rfl ?_
  refine zA_l2i dX0_show_7 ?_
  refine zA_istore_4 dX0_show_8 rfl ?_
  refine zA_aload_0 dX0_show_10 ?_
  refine zA_getR sh_57 fX0_59 dX0_show_11 rfl (rt_57_2 _) ?_
  refine zA_iconst (nI 1) dX0_show_14 ic_1 ?_
  refine zA_aload_0 dX0_show_15 ?_
  refine zA_getR sh_57 fX0_43 dX0_show_16 rfl (rt_57_13 _) ?_
  refine zA_cVl (ct_worth g gi _ r (l := 1) (by decide) hL) calX4_worth stX4_worth lX0_183 dX0_show_19 (by decide) (by simp [Value.category]) rfl (Nat.le_refl _) (Nat.le_refl _) sh_36 rfl (fun zz gi' gl' gr' ⟨hz, e1, e2, e3⟩ => ?_)
  rw [hz, e1, e2, e3]
  clear hz e1 e2 e3
  refine zA_sipush (nI 999) dX0_show_22 sc_999 ?_
  refine zA_cSi (ct_cut g _ _ _ _ _) calX0_cut stX0_cut lX0_203 dX0_show_25 (by decide) (by simp [Value.category]) rfl (Nat.le_refl _) (Nat.le_refl _) (fun zz gi' gl' gr' ⟨hz, e1, e2, e3⟩ => ?_)
  rw [hz, e1, e2, e3]
  clear hz e1 e2 e3
  refine zA_istore_5 dX0_show_28 rfl ?_
  refine zA_iload_4 dX0_show_30 ?_
  refine zA_iload_5 dX0_show_32 ?_
  refine zA_imul dX0_show_34 ?_
  refine zA_istore_6 dX0_show_35 rfl ?_
  refine zA_iload_6 dX0_show_37 ?_
  refine zA_aload_0 dX0_show_39 ?_
  refine zA_getR sh_57 fX0_59 dX0_show_40 rfl (rt_57_2 _) ?_
  refine zA_iconst (nI 2) dX0_show_43 ic_2 ?_
  refine zA_aload_0 dX0_show_44 ?_
  refine zA_getR sh_57 fX0_43 dX0_show_45 rfl (rt_57_13 _) ?_
  refine zA_cVl (ct_worth g gi _ r (l := 2) (by decide) hL) calX4_worth stX4_worth lX0_183 dX0_show_48 (by decide) (by simp [Value.category]) rfl (Nat.le_refl _) (Nat.le_refl _) sh_36 rfl (fun zz gi' gl' gr' ⟨hz, e1, e2, e3⟩ => ?_)
  rw [hz, e1, e2, e3]
  clear hz e1 e2 e3
  refine zA_bipush (nI 100) dX0_show_51 bc_100 ?_
  refine zA_cSi (ct_cut g _ _ _ _ _) calX0_cut stX0_cut lX0_203 dX0_show_53 (by decide) (by simp [Value.category]) rfl (Nat.le_refl _) (Nat.le_refl _) (fun zz gi' gl' gr' ⟨hz, e1, e2, e3⟩ => ?_)
  rw [hz, e1, e2, e3]
  clear hz e1 e2 e3
  refine zA_imul dX0_show_56 ?_
  refine zA_bipush (nI 100) dX0_show_57 bc_100 ?_
  refine zA_idiv dX0_show_59 (by decide) ?_
  refine zA_istore_7 dX0_show_60 rfl ?_
  refine zA_iload_6 dX0_show_62 ?_
  refine zA_iload_7 dX0_show_64 ?_
  refine zA_isub dX0_show_66 ?_
  refine zA_aload_0 dX0_show_67 ?_
  refine zA_getR sh_57 fX0_59 dX0_show_68 rfl (rt_57_2 _) ?_
  refine zA_iconst (nI 3) dX0_show_71 ic_3 ?_
  refine zA_aload_0 dX0_show_72 ?_
  refine zA_getR sh_57 fX0_43 dX0_show_73 rfl (rt_57_13 _) ?_
  refine zA_cVl (ct_worth g gi _ r (l := 3) (by decide) hL) calX4_worth stX4_worth lX0_183 dX0_show_76 (by decide) (by simp [Value.category]) rfl (Nat.le_refl _) (Nat.le_refl _) sh_36 rfl (fun zz gi' gl' gr' ⟨hz, e1, e2, e3⟩ => ?_)
  rw [hz, e1, e2, e3]
  clear hz e1 e2 e3
  refine zA_bipush (nI 100) dX0_show_79 bc_100 ?_
  refine zA_cSi (ct_cut g _ _ _ _ _) calX0_cut stX0_cut lX0_203 dX0_show_81 (by decide) (by simp [Value.category]) rfl (Nat.le_refl _) (Nat.le_refl _) (fun zz gi' gl' gr' ⟨hz, e1, e2, e3⟩ => ?_)
  rw [hz, e1, e2, e3]
  clear hz e1 e2 e3
  refine zA_imul dX0_show_84 ?_
  refine zA_bipush (nI 100) dX0_show_85 bc_100 ?_
  refine zA_idiv dX0_show_87 (by decide) ?_
  refine zA_istore_8 dX0_show_88 rfl ?_
  refine zA_iload_4 dX0_show_90 ?_
  refine zA_aload_0 dX0_show_92 ?_
  refine zA_getR sh_57 fX0_59 dX0_show_93 rfl (rt_57_2 _) ?_
  refine zA_iconst (nI 4) dX0_show_96 ic_4 ?_
  refine zA_aload_0 dX0_show_97 ?_
  refine zA_getR sh_57 fX0_43 dX0_show_98 rfl (rt_57_13 _) ?_
  refine zA_cVl (ct_worth g gi _ r (l := 4) (by decide) hL) calX4_worth stX4_worth lX0_183 dX0_show_101 (by decide) (by simp [Value.category]) rfl (Nat.le_refl _) (Nat.le_refl _) sh_36 rfl (fun zz gi' gl' gr' ⟨hz, e1, e2, e3⟩ => ?_)
  rw [hz, e1, e2, e3]
  clear hz e1 e2 e3
  refine zA_bipush (nI 100) dX0_show_104 bc_100 ?_
  refine zA_cSi (ct_cut g _ _ _ _ _) calX0_cut stX0_cut lX0_203 dX0_show_106 (by decide) (by simp [Value.category]) rfl (Nat.le_refl _) (Nat.le_refl _) (fun zz gi' gl' gr' ⟨hz, e1, e2, e3⟩ => ?_)
  rw [hz, e1, e2, e3]
  clear hz e1 e2 e3
  refine zA_imul dX0_show_109 ?_
  refine zA_bipush (nI 100) dX0_show_110 bc_100 ?_
  refine zA_idiv dX0_show_112 (by decide) ?_
  refine zA_aload_0 dX0_show_113 ?_
  refine zA_iload_5 dX0_show_114 ?_
  refine zA_cVi (ct_eggsEach g gi _ r hn hN _) calX0_eggsEach stX0_eggsEach lX0_207 dX0_show_116 (by decide) (by simp [Value.category]) rfl (Nat.le_refl _) (Nat.le_refl _) sh_57 rfl (fun zz gi' gl' gr' ⟨hz, e1, e2, e3⟩ => ?_)
  rw [hz, e1, e2, e3]
  clear hz e1 e2 e3
  refine zA_imul dX0_show_119 ?_
  refine zA_istore_9 dX0_show_120 rfl ?_
  refine zA_aload_0 dX0_show_122 ?_
  refine zA_getR sh_57 fX0_13 dX0_show_123 rfl (rt_57_4 _) ?_
  refine zA_iconst (nI 1) dX0_show_126 ic_1 ?_
  refine zA_aald 1 sh_58 dX0_show_127 rfl (by decide) (by decide) (rt_58_1 _) ?_
  refine zA_iload_1 dX0_show_128 ?_
  refine zA_iload_4 dX0_show_129 ?_
  refine zS_iast i sh_60 dX0_show_131 rfl (by omega) (by decide) ?_
  refine zA_aload_0 dX0_show_132 ?_
  refine zA_getR sh_57 fX0_13 dX0_show_133 rfl (rt_57_4 _) ?_
  refine zA_iconst (nI 2) dX0_show_136 ic_2 ?_
  refine zA_aald 2 sh_58 dX0_show_137 rfl (by decide) (by decide) (rt_58_2 _) ?_
  refine zA_iload_1 dX0_show_138 ?_
  refine zA_iload_6 dX0_show_139 ?_
  refine zS_iast i sh_61 dX0_show_141 rfl (by omega) (by decide) ?_
  refine zA_aload_0 dX0_show_142 ?_
  refine zA_getR sh_57 fX0_13 dX0_show_143 rfl (rt_57_4 _) ?_
  refine zA_iconst (nI 3) dX0_show_146 ic_3 ?_
  refine zA_aald 3 sh_58 dX0_show_147 rfl (by decide) (by decide) (rt_58_3 _) ?_
  refine zA_iload_1 dX0_show_148 ?_
  refine zA_iload_7 dX0_show_149 ?_
  refine zS_iast i sh_62 dX0_show_151 rfl (by omega) (by decide) ?_
  refine zA_aload_0 dX0_show_152 ?_
  refine zA_getR sh_57 fX0_13 dX0_show_153 rfl (rt_57_4 _) ?_
  refine zA_iconst (nI 4) dX0_show_156 ic_4 ?_
  refine zA_aald 4 sh_58 dX0_show_157 rfl (by decide) (by decide) (rt_58_4 _) ?_
  refine zA_iload_1 dX0_show_158 ?_
  refine zA_iload_8 dX0_show_159 ?_
  refine zS_iast i sh_63 dX0_show_161 rfl (by omega) (by decide) ?_
  refine zA_aload_0 dX0_show_162 ?_
  refine zA_getR sh_57 fX0_13 dX0_show_163 rfl (rt_57_4 _) ?_
  refine zA_iconst (nI 5) dX0_show_166 ic_5 ?_
  refine zA_aald 5 sh_58 dX0_show_167 rfl (by decide) (by decide) (rt_58_5 _) ?_
  refine zA_iload_1 dX0_show_168 ?_
  refine zA_iload_9 dX0_show_169 ?_
  refine zS_iast i sh_64 dX0_show_171 rfl (by omega) (by decide) ?_
  refine zA_aload_0 dX0_show_172 ?_
  refine zA_getR sh_57 fX0_18 dX0_show_173 rfl (rt_57_5 _) ?_
  refine zA_iconst (nI 0) dX0_show_176 ic_0 ?_
  refine zA_dup2 dX0_show_177 rfl rfl ?_
  refine zA_iald (v := (gi 66 0)) 0 sh_66 dX0_show_178 rfl (by decide) (by decide) rfl ?_
  refine zA_iload_4 dX0_show_179 ?_
  refine zA_iadd dX0_show_181 ?_
  refine zS_iast 0 sh_66 dX0_show_182 rfl (by decide) (by decide) ?_
  refine zA_aload_0 dX0_show_183 ?_
  refine zA_getR sh_57 fX0_18 dX0_show_184 rfl (rt_57_5 _) ?_
  refine zA_iconst (nI 1) dX0_show_187 ic_1 ?_
  refine zA_dup2 dX0_show_188 rfl rfl ?_
  refine zA_iald (v := (gi 66 1)) 1 sh_66 dX0_show_189 rfl (by decide) (by decide) rfl ?_
  refine zA_iload_6 dX0_show_190 ?_
  refine zA_iload_7 dX0_show_192 ?_
  refine zA_isub dX0_show_194 ?_
  refine zA_iload_8 dX0_show_195 ?_
  refine zA_isub dX0_show_197 ?_
  refine zA_iadd dX0_show_198 ?_
  refine zS_iast 1 sh_66 dX0_show_199 rfl (by decide) (by decide) ?_
  refine zA_aload_0 dX0_show_200 ?_
  refine zA_getR sh_57 fX0_18 dX0_show_201 rfl (rt_57_5 _) ?_
  refine zA_iconst (nI 2) dX0_show_204 ic_2 ?_
  refine zA_dup2 dX0_show_205 rfl rfl ?_
  refine zA_iald (v := (gi 66 2)) 2 sh_66 dX0_show_206 rfl (by decide) (by decide) rfl ?_
  refine zA_iconst (nI 1) dX0_show_207 ic_1 ?_
  refine zA_iadd dX0_show_208 ?_
  refine zS_iast 2 sh_66 dX0_show_209 rfl (by decide) (by decide) ?_
  refine zA_aload_0 dX0_show_210 ?_
  refine zA_getR sh_57 fX0_18 dX0_show_211 rfl (rt_57_5 _) ?_
  refine zA_iconst (nI 4) dX0_show_214 ic_4 ?_
  refine zA_dup2 dX0_show_215 rfl rfl ?_
  refine zA_iald (v := (gi 66 4)) 4 sh_66 dX0_show_216 rfl (by decide) (by decide) rfl ?_
  refine zA_iload_9 dX0_show_217 ?_
  refine zA_iadd dX0_show_219 ?_
  refine zS_iast 4 sh_66 dX0_show_220 rfl (by decide) (by decide) ?_
  refine zA_aload_0 dX0_show_221 ?_
  refine zA_dup dX0_show_222 rfl ?_
  refine zA_getI (v := (gi 57 18)) sh_57 fX0_134 dX0_show_223 rfl rfl ?_
  refine zA_aload_0 dX0_show_226 ?_
  refine zA_getR sh_57 fX0_51 dX0_show_227 rfl (rt_57_1 _) ?_
  refine zA_getR sh_19 fX0_116 dX0_show_230 rfl (rt_19_2 _) ?_
  refine zA_iload_3 dX0_show_233 ?_
  refine zA_aald p sh_22 dX0_show_234 rfl (by omega) (by decide) (rtr_pf _ (by omega)) ?_
  refine zA_iconst (nI 2) dX0_show_235 ic_2 ?_
  refine zA_iald (v := (gi (23 + p) 2)) 2 (shr_pf (by omega)) dX0_show_236 rfl (by decide) (by decide) (by (repeat rw [zs_nq (by omega)])) ?_
  refine zA_iadd dX0_show_237 ?_
  refine zS_putI sh_57 fX0_134 dX0_show_238 rfl rfl ?_
  refine zA_aload_0 dX0_show_241 ?_
  refine zA_dup dX0_show_242 rfl ?_
  refine zA_getI (v := (gi 57 19)) sh_57 fX0_137 dX0_show_243 rfl rfl ?_
  refine zA_iconst (nI 1) dX0_show_246 ic_1 ?_
  refine zA_iadd dX0_show_247 ?_
  refine zS_putI sh_57 fX0_137 dX0_show_248 rfl rfl ?_
  refine zA_aload_0 dX0_show_251 ?_
  refine zA_dup dX0_show_252 rfl ?_
  refine zA_getI (v := (gi 57 17)) sh_57 fX0_76 dX0_show_253 rfl rfl ?_
  refine zA_iconst (nI 1) dX0_show_256 ic_1 ?_
  refine zA_iload_2 dX0_show_257 ?_
  refine zA_ishl dX0_show_258 ?_
  refine zA_ior dX0_show_259 ?_
  refine zS_putI sh_57 fX0_76 dX0_show_260 rfl rfl ?_
  refine zA_aload_0 dX0_show_263 ?_
  refine zA_getR sh_57 fX0_37 dX0_show_264 rfl (rt_57_11 _) ?_
  refine zA_iload_3 dX0_show_267 ?_
  refine zA_dup2 dX0_show_268 rfl rfl ?_
  refine zA_iald (v := (gi 72 p)) p sh_72 dX0_show_269 rfl (by omega) (by decide) rfl ?_
  refine zA_iconst (nI 1) dX0_show_270 ic_1 ?_
  refine zA_iadd dX0_show_271 ?_
  refine zS_iast p sh_72 dX0_show_272 rfl (by omega) (by decide) ?_
  refine zA_aload_0 dX0_show_273 ?_
  refine zA_getR sh_57 fX0_40 dX0_show_274 rfl (rt_57_12 _) ?_
  refine zA_iload_3 dX0_show_277 ?_
  refine zA_bipush (nI 8) dX0_show_278 bc_8 ?_
  refine zA_imulN dX0_show_280 ?_
  refine zA_iload_2 dX0_show_281 ?_
  refine zA_iaddN dX0_show_282 ?_
  refine zA_dup2 dX0_show_283 rfl rfl ?_
  refine zA_iald (v := (gi 73 ((p * 8) + v))) ((p * 8) + v) sh_73 dX0_show_284 rfl (by omega) (by decide) rfl ?_
  refine zA_iload_4 dX0_show_285 ?_
  refine zA_iadd dX0_show_287 ?_
  refine zS_iast ((p * 8) + v) sh_73 dX0_show_288 rfl (by omega) (by decide) ?_
  exact zB_vret rfl dX0_show_289 (⟨rfl, rfl, rfl⟩)
