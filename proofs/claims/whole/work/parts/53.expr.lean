def fExp (l : Nat) : Nat → Bool → zm_I → Bool × zm_I
  | 0, _, M => (false, fFail M (nI 1))
  | m + 1, p, M => if p = true then (if (fRp (fNx M) (fNx M 50 4) (nI l)).1 = true then fExp l m (decide (¬ fNx M 50 4 = nI 3 ∧ ¬ fNx M 50 4 = nI 4)) (fRp (fNx M) (fNx M 50 4) (nI l)).2 else (false, (fRp (fNx M) (fNx M 50 4) (nI l)).2))
    else if fNx M 50 4 = nI 5 ∧ fNx M 42 4 = 0 then (true, zs (fWw (fNx M) (nI 0)) 47 l (fWw (fNx M) (nI 0) 42 5))
    else if fNx M 50 4 = nI 6 ∧ ¬ fNx M 42 4 ≤ 0 then fExp l m false (fCl (fNx M))
    else if (fRj (fNx M) (fNx M 50 4)).1 = true then fExp l m true (fRj (fNx M) (fNx M 50 4)).2 else (false, (fRj (fNx M) (fNx M 50 4)).2)
def fEx (gi : zm_I) (l : Nat) : Bool × zm_I := fExp l 501 true (zs (zs (zs gi 42 3 (nI 0)) 42 4 (nI 0)) 46 l (gi 42 5))
theorem ct_readExpression (g : zm_G) (gi : zm_I) (gl : zm_J) (r : Nat) (hK : zTok gi) (hR : zRdr gi) {l : Nat} (hl : l < 5)  : zC_i g yX6_readExpression mX6_readExpression 7 [.ref 42, .int (nI l)] zSH gi gl (zRT r) (fun z gi' gl' gr' => z = zb ((fEx gi l).1 = true) ∧ gi' = (fEx gi l).2 ∧ gl' = gl ∧ gr' = zRT r) := by
  refine zC_i_of [some (.ref 42), some (.int (nI l)), none, none, none] (by decide) rfl rfl (Nat.le_of_ble_eq_true rfl) (fun x => ?_)
  refine zA_aload_0 dX6_readExpression_0 ?_
  refine zA_iconst (nI 0) dX6_readExpression_1 ic_0 ?_
  refine zS_putI sh_42 fX6_96 dX6_readExpression_2 rfl rfl ?_
  refine zA_aload_0 dX6_readExpression_5 ?_
  refine zA_iconst (nI 0) dX6_readExpression_6 ic_0 ?_
  refine zS_putI sh_42 fX6_99 dX6_readExpression_7 rfl rfl ?_
  refine zA_aload_0 dX6_readExpression_10 ?_
  refine zA_getR sh_42 fX6_12 dX6_readExpression_11 rfl (rt_42_1 _) ?_
  refine zA_getR sh_43 fX6_102 dX6_readExpression_14 rfl (rt_43_2 _) ?_
  refine zA_iload_1 dX6_readExpression_17 ?_
  refine zA_aload_0 dX6_readExpression_18 ?_
  refine zA_getI (v := (gi 42 5)) sh_42 fX6_42 dX6_readExpression_19 rfl rfl ?_
  refine zS_iast l sh_46 dX6_readExpression_22 rfl (by omega) (by decide) ?_
  refine zA_iconst (nI 1) dX6_readExpression_23 ic_1 ?_
  refine zA_istore_2 dX6_readExpression_24 rfl ?_
  refine zA_iconst (nI 0) dX6_readExpression_25 ic_0 ?_
  refine zA_istore_3 dX6_readExpression_26 rfl ?_
  generalize hV : fEx gi l = V
  unfold fEx at hV
  have key : ∀ (m k : Nat) (p : Bool) (M : zm_I) (l4 : Option Value), k + m = 501 → zTok M → zRdr M → fExp l m p M = V → zB_i x g mX6_readExpression 7 zSH (fun z gi' gl' gr' => z = zb ((V).1 = true) ∧ gi' = (V).2 ∧ gl' = gl ∧ gr' = zRT r) 27 [some (.ref 42), some (.int (nI l)), some (.int (zb (p = true))), some (.int (nI k)), l4] [] M gl (zRT r) := by
    intro m
    induction m with
    | zero =>
      intro k p M l4 hk hT hM hv
      refine zA_iload_3 dX6_readExpression_27 ?_
      refine zA_sipush (nI 500) dX6_readExpression_28 sc_500 ?_
      refine zA_icmp_gtN 167 dX6_readExpression_31 (by decide) (by omega) (by omega) (fun h => ?_) (fun h => ?_)
      · refine zA_aload_0 dX6_readExpression_167 ?_
        refine zA_iconst (nI 1) dX6_readExpression_168 ic_1 ?_
        refine zA_cVi (ct_failed g M gl r (nI 1)) calX6_failed stX6_failed lX6_61 dX6_readExpression_169 (by decide) (by simp [Value.category]) rfl (Nat.le_refl _) (Nat.le_refl _) sh_42 rfl (fun zz gi' gl' gr' ⟨hz, e1, e2, e3⟩ => ?_)
        rw [hz, e1, e2, e3]
        clear hz e1 e2 e3
        rw [← hv]
        exact zB_zret rfl dX6_readExpression_172 (by decide) (⟨(zb_f Bool.false_ne_true).symm, rfl, rfl, rfl⟩)
      · exact absurd h (by omega)
    | succ m ih =>
      intro k p M l4 hk hT hM hv
      refine zA_iload_3 dX6_readExpression_27 ?_
      refine zA_sipush (nI 500) dX6_readExpression_28 sc_500 ?_
      refine zA_icmp_gtN 167 dX6_readExpression_31 (by decide) (by omega) (by omega) (fun h => ?_) (fun h => ?_)
      · exact absurd h (by omega)
      · refine zA_aload_0 dX6_readExpression_34 ?_
        refine zA_getR sh_42 fX6_31 dX6_readExpression_35 rfl (rt_42_0 _) ?_
        refine zA_cVv (ct_adv g M gl r hT) calX9_advance stX9_advance lX6_51 dX6_readExpression_38 (by decide) (by simp [Value.category]) rfl (Nat.le_refl _) (Nat.le_refl _) sh_50 rfl (fun gi' gl' gr' ⟨e1, e2, e3⟩ => ?_)
        rw [e1, e2, e3]
        clear e1 e2 e3
        refine zA_aload_0 dX6_readExpression_41 ?_
        refine zA_getR sh_42 fX6_31 dX6_readExpression_42 rfl (rt_42_0 _) ?_
        refine zA_cVv (ct_readAsPart g (fAv M) gl r (fAv_be hT).1 (fAv_be hT).2.1 (fAv_be hT).2.2.1 (fAv_be hT).2.2.2) calX9_readAsPart stX9_readAsPart lX6_105 dX6_readExpression_45 (by decide) (by simp [Value.category]) rfl (Nat.le_refl _) (Nat.le_refl _) sh_50 rfl (fun gi' gl' gr' ⟨e1, e2, e3⟩ => ?_)
        rw [e1, e2, e3]
        clear e1 e2 e3
        have hTX := zTok_nx hT
        have hRX := zRdr_nx hM
        change (if p = true then _ else _) = V at hv
        have eX : fRap (fAv M) (zi (fAv M 50 2)) (zi (fAv M 50 3)) = fNx M := rfl
        rw [eX]
        clear eX
        generalize fNx M = X at hTX hRX hv ⊢
        refine zA_aload_0 dX6_readExpression_48 ?_
        refine zA_getR sh_42 fX6_31 dX6_readExpression_49 rfl (rt_42_0 _) ?_
        refine zA_getI (v := (X 50 4)) sh_50 fX6_54 dX6_readExpression_52 rfl rfl ?_
        refine zA_istore_4 dX6_readExpression_55 rfl ?_
        refine zA_iload_2 dX6_readExpression_57 ?_
        refine zA_if_eqB 94 dX6_readExpression_58 (by decide) (fun hp => ?_) (fun hp => ?_)
        · rw [if_neg hp] at hv
          refine zA_iload_4 dX6_readExpression_94 ?_
          refine zA_iconst (nI 5) dX6_readExpression_96 ic_5 ?_
          refine zA_icmp_ne 127 dX6_readExpression_97 (by decide) (fun c1 => ?_) (fun c1 => ?_)
          · rw [if_neg (fun q => c1 q.1)] at hv
            refine zA_iload_4 dX6_readExpression_127 ?_
            refine zA_bipush (nI 6) dX6_readExpression_129 bc_6 ?_
            refine zA_icmp_ne 148 dX6_readExpression_131 (by decide) (fun c3 => ?_) (fun c3 => ?_)
            · rw [if_neg (fun q => c3 q.1)] at hv
              refine zA_aload_0 dX6_readExpression_148 ?_
              refine zA_iload_4 dX6_readExpression_149 ?_
              refine zA_cVi (ct_readJoin g X gl r hRX (X 50 4)) calX6_readJoin stX6_readJoin lX6_121 dX6_readExpression_151 (by decide) (by simp [Value.category]) rfl (Nat.le_refl _) (Nat.le_refl _) sh_42 rfl (fun zz gi' gl' gr' ⟨hz, e1, e2, e3⟩ => ?_)
              rw [hz, e1, e2, e3]
              clear hz e1 e2 e3
              refine zA_if_neB 159 dX6_readExpression_154 (by decide) (fun c5 => ?_) (fun c5 => ?_)
              · rw [if_pos c5] at hv
                refine zA_iconst (nI 1) dX6_readExpression_159 ic_1 ?_
                refine zA_istore_2 dX6_readExpression_160 rfl ?_
                refine zA_iinc_3 (v := nI (k + 1)) dX6_readExpression_161 (zn_inc _) rfl ?_
                refine zA_goto 27 dX6_readExpression_164 (by decide) ?_
                have h9 := fun (l4 : Option Value) => ih (k + 1) true (fRj X (X 50 4)).2 l4 (by omega) (zTok_50 hTX (fRj_50 _ _)) (zRdr_rj _ hRX) hv
                exact h9 _
              · rw [if_neg c5] at hv
                rw [← hv]
                refine zA_iconst (nI 0) dX6_readExpression_157 ic_0 ?_
                exact zB_zret rfl dX6_readExpression_158 (by decide) (⟨(zb_f Bool.false_ne_true).symm, rfl, rfl, rfl⟩)
            · refine zA_aload_0 dX6_readExpression_134 ?_
              refine zA_getI (v := (X 42 4)) sh_42 fX6_99 dX6_readExpression_135 rfl rfl ?_
              refine zA_if_le 148 dX6_readExpression_138 (by decide) (fun c4 => ?_) (fun c4 => ?_)
              · rw [if_neg (fun q => q.2 c4)] at hv
                refine zA_aload_0 dX6_readExpression_148 ?_
                refine zA_iload_4 dX6_readExpression_149 ?_
                refine zA_cVi (ct_readJoin g X gl r hRX (X 50 4)) calX6_readJoin stX6_readJoin lX6_121 dX6_readExpression_151 (by decide) (by simp [Value.category]) rfl (Nat.le_refl _) (Nat.le_refl _) sh_42 rfl (fun zz gi' gl' gr' ⟨hz, e1, e2, e3⟩ => ?_)
                rw [hz, e1, e2, e3]
                clear hz e1 e2 e3
                refine zA_if_neB 159 dX6_readExpression_154 (by decide) (fun c5 => ?_) (fun c5 => ?_)
                · rw [if_pos c5] at hv
                  refine zA_iconst (nI 1) dX6_readExpression_159 ic_1 ?_
                  refine zA_istore_2 dX6_readExpression_160 rfl ?_
                  refine zA_iinc_3 (v := nI (k + 1)) dX6_readExpression_161 (zn_inc _) rfl ?_
                  refine zA_goto 27 dX6_readExpression_164 (by decide) ?_
                  have h9 := fun (l4 : Option Value) => ih (k + 1) true (fRj X (X 50 4)).2 l4 (by omega) (zTok_50 hTX (fRj_50 _ _)) (zRdr_rj _ hRX) hv
                  exact h9 _
                · rw [if_neg c5] at hv
                  rw [← hv]
                  refine zA_iconst (nI 0) dX6_readExpression_157 ic_0 ?_
                  exact zB_zret rfl dX6_readExpression_158 (by decide) (⟨(zb_f Bool.false_ne_true).symm, rfl, rfl, rfl⟩)
              · rw [if_pos ⟨c3, c4⟩] at hv
                refine zA_aload_0 dX6_readExpression_141 ?_
                refine zA_cVv (ct_closeBracket g X gl r hRX) calX6_closeBracket stX6_closeBracket lX6_118 dX6_readExpression_142 (by decide) (by simp [Value.category]) rfl (Nat.le_refl _) (Nat.le_refl _) sh_42 rfl (fun gi' gl' gr' ⟨e1, e2, e3⟩ => ?_)
                rw [e1, e2, e3]
                clear e1 e2 e3
                have ep : p = false := Bool.eq_false_iff.mpr hp
                subst ep
                refine zA_goto 161 dX6_readExpression_145 (by decide) ?_
                refine zA_iinc_3 (v := nI (k + 1)) dX6_readExpression_161 (zn_inc _) rfl ?_
                refine zA_goto 27 dX6_readExpression_164 (by decide) ?_
                have h9 := fun (l4 : Option Value) => ih (k + 1) false (fCl X) l4 (by omega) (zTok_50 hTX (fCl_50 _)) (zRdr_cl hRX) hv
                exact h9 _
          · refine zA_aload_0 dX6_readExpression_100 ?_
            refine zA_getI (v := (X 42 4)) sh_42 fX6_99 dX6_readExpression_101 rfl rfl ?_
            refine zA_if_ne 127 dX6_readExpression_104 (by decide) (fun c2 => ?_) (fun c2 => ?_)
            · rw [if_neg (fun q => c2 q.2)] at hv
              refine zA_iload_4 dX6_readExpression_127 ?_
              refine zA_bipush (nI 6) dX6_readExpression_129 bc_6 ?_
              refine zA_icmp_ne 148 dX6_readExpression_131 (by decide) (fun c3 => ?_) (fun c3 => ?_)
              · rw [if_neg (fun q => c3 q.1)] at hv
                refine zA_aload_0 dX6_readExpression_148 ?_
                refine zA_iload_4 dX6_readExpression_149 ?_
                refine zA_cVi (ct_readJoin g X gl r hRX (X 50 4)) calX6_readJoin stX6_readJoin lX6_121 dX6_readExpression_151 (by decide) (by simp [Value.category]) rfl (Nat.le_refl _) (Nat.le_refl _) sh_42 rfl (fun zz gi' gl' gr' ⟨hz, e1, e2, e3⟩ => ?_)
                rw [hz, e1, e2, e3]
                clear hz e1 e2 e3
                refine zA_if_neB 159 dX6_readExpression_154 (by decide) (fun c5 => ?_) (fun c5 => ?_)
                · rw [if_pos c5] at hv
                  refine zA_iconst (nI 1) dX6_readExpression_159 ic_1 ?_
                  refine zA_istore_2 dX6_readExpression_160 rfl ?_
                  refine zA_iinc_3 (v := nI (k + 1)) dX6_readExpression_161 (zn_inc _) rfl ?_
                  refine zA_goto 27 dX6_readExpression_164 (by decide) ?_
                  have h9 := fun (l4 : Option Value) => ih (k + 1) true (fRj X (X 50 4)).2 l4 (by omega) (zTok_50 hTX (fRj_50 _ _)) (zRdr_rj _ hRX) hv
                  exact h9 _
                · rw [if_neg c5] at hv
                  rw [← hv]
                  refine zA_iconst (nI 0) dX6_readExpression_157 ic_0 ?_
                  exact zB_zret rfl dX6_readExpression_158 (by decide) (⟨(zb_f Bool.false_ne_true).symm, rfl, rfl, rfl⟩)
              · refine zA_aload_0 dX6_readExpression_134 ?_
                refine zA_getI (v := (X 42 4)) sh_42 fX6_99 dX6_readExpression_135 rfl rfl ?_
                refine zA_if_le 148 dX6_readExpression_138 (by decide) (fun c4 => ?_) (fun c4 => ?_)
                · rw [if_neg (fun q => q.2 c4)] at hv
                  refine zA_aload_0 dX6_readExpression_148 ?_
                  refine zA_iload_4 dX6_readExpression_149 ?_
                  refine zA_cVi (ct_readJoin g X gl r hRX (X 50 4)) calX6_readJoin stX6_readJoin lX6_121 dX6_readExpression_151 (by decide) (by simp [Value.category]) rfl (Nat.le_refl _) (Nat.le_refl _) sh_42 rfl (fun zz gi' gl' gr' ⟨hz, e1, e2, e3⟩ => ?_)
                  rw [hz, e1, e2, e3]
                  clear hz e1 e2 e3
                  refine zA_if_neB 159 dX6_readExpression_154 (by decide) (fun c5 => ?_) (fun c5 => ?_)
                  · rw [if_pos c5] at hv
                    refine zA_iconst (nI 1) dX6_readExpression_159 ic_1 ?_
                    refine zA_istore_2 dX6_readExpression_160 rfl ?_
                    refine zA_iinc_3 (v := nI (k + 1)) dX6_readExpression_161 (zn_inc _) rfl ?_
                    refine zA_goto 27 dX6_readExpression_164 (by decide) ?_
                    have h9 := fun (l4 : Option Value) => ih (k + 1) true (fRj X (X 50 4)).2 l4 (by omega) (zTok_50 hTX (fRj_50 _ _)) (zRdr_rj _ hRX) hv
                    exact h9 _
                  · rw [if_neg c5] at hv
                    rw [← hv]
                    refine zA_iconst (nI 0) dX6_readExpression_157 ic_0 ?_
                    exact zB_zret rfl dX6_readExpression_158 (by decide) (⟨(zb_f Bool.false_ne_true).symm, rfl, rfl, rfl⟩)
                · rw [if_pos ⟨c3, c4⟩] at hv
                  refine zA_aload_0 dX6_readExpression_141 ?_
                  refine zA_cVv (ct_closeBracket g X gl r hRX) calX6_closeBracket stX6_closeBracket lX6_118 dX6_readExpression_142 (by decide) (by simp [Value.category]) rfl (Nat.le_refl _) (Nat.le_refl _) sh_42 rfl (fun gi' gl' gr' ⟨e1, e2, e3⟩ => ?_)
                  rw [e1, e2, e3]
                  clear e1 e2 e3
                  have ep : p = false := Bool.eq_false_iff.mpr hp
                  subst ep
                  refine zA_goto 161 dX6_readExpression_145 (by decide) ?_
                  refine zA_iinc_3 (v := nI (k + 1)) dX6_readExpression_161 (zn_inc _) rfl ?_
                  refine zA_goto 27 dX6_readExpression_164 (by decide) ?_
                  have h9 := fun (l4 : Option Value) => ih (k + 1) false (fCl X) l4 (by omega) (zTok_50 hTX (fCl_50 _)) (zRdr_cl hRX) hv
                  exact h9 _
            · rw [if_pos ⟨c1, c2⟩] at hv
              rw [← hv]
              refine zA_aload_0 dX6_readExpression_107 ?_
              refine zA_iconst (nI 0) dX6_readExpression_108 ic_0 ?_
              refine zA_cVv (ct_writeWaiting g X gl r hRX (nI 0)) calX6_writeWaiting stX6_writeWaiting lX6_112 dX6_readExpression_109 (by decide) (by simp [Value.category]) rfl (Nat.le_refl _) (Nat.le_refl _) sh_42 rfl (fun gi' gl' gr' ⟨e1, e2, e3⟩ => ?_)
              rw [e1, e2, e3]
              clear e1 e2 e3
              refine zA_aload_0 dX6_readExpression_112 ?_
              refine zA_getR sh_42 fX6_12 dX6_readExpression_113 rfl (rt_42_1 _) ?_
              refine zA_getR sh_43 fX6_115 dX6_readExpression_116 rfl (rt_43_3 _) ?_
              refine zA_iload_1 dX6_readExpression_119 ?_
              refine zA_aload_0 dX6_readExpression_120 ?_
              refine zA_getI (v := ((fWw X (nI 0)) 42 5)) sh_42 fX6_42 dX6_readExpression_121 rfl rfl ?_
              refine zS_iast l sh_47 dX6_readExpression_124 rfl (by omega) (by decide) ?_
              refine zA_iconst (nI 1) dX6_readExpression_125 ic_1 ?_
              exact zB_zret rfl dX6_readExpression_126 (by decide) (⟨(zb_t rfl).symm, rfl, rfl, rfl⟩)
        · rw [if_pos hp] at hv
          refine zA_aload_0 dX6_readExpression_61 ?_
          refine zA_iload_4 dX6_readExpression_62 ?_
          refine zA_iload_1 dX6_readExpression_64 ?_
          refine zA_cVi (ct_readPart g X gl r hRX (X 50 4) (nI l)) calX6_readPart stX6_readPart lX6_108 dX6_readExpression_65 (by decide) (by simp [Value.category]) rfl (Nat.le_refl _) (Nat.le_refl _) sh_42 rfl (fun zz gi' gl' gr' ⟨hz, e1, e2, e3⟩ => ?_)
          rw [hz, e1, e2, e3]
          clear hz e1 e2 e3
          refine zA_if_neB 73 dX6_readExpression_68 (by decide) (fun c => ?_) (fun c => ?_)
          · rw [if_pos c] at hv
            refine zA_iload_4 dX6_readExpression_73 ?_
            refine zA_iconst (nI 3) dX6_readExpression_75 ic_3 ?_
            refine zA_icmp_eq 89 dX6_readExpression_76 (by decide) (fun d1 => ?_) (fun d1 => ?_)
            · have e7 : decide (¬ X 50 4 = nI 3 ∧ ¬ X 50 4 = nI 4) = false := decide_eq_false (fun q => q.1 d1)
              rw [e7] at hv
              refine zA_iconst (nI 0) dX6_readExpression_89 ic_0 ?_
              refine zA_istore_2 dX6_readExpression_90 rfl ?_
              refine zA_goto 161 dX6_readExpression_91 (by decide) ?_
              refine zA_iinc_3 (v := nI (k + 1)) dX6_readExpression_161 (zn_inc _) rfl ?_
              refine zA_goto 27 dX6_readExpression_164 (by decide) ?_
              have h9 := fun (l4 : Option Value) => ih (k + 1) false (fRp X (X 50 4) (nI l)).2 l4 (by omega) (zTok_50 hTX (fRp_50 _ _ _)) (zRdr_rp _ _ hRX) hv
              exact h9 _
            · refine zA_iload_4 dX6_readExpression_79 ?_
              refine zA_iconst (nI 4) dX6_readExpression_81 ic_4 ?_
              refine zA_icmp_eq 89 dX6_readExpression_82 (by decide) (fun d2 => ?_) (fun d2 => ?_)
              · have e7 : decide (¬ X 50 4 = nI 3 ∧ ¬ X 50 4 = nI 4) = false := decide_eq_false (fun q => q.2 d2)
                rw [e7] at hv
                refine zA_iconst (nI 0) dX6_readExpression_89 ic_0 ?_
                refine zA_istore_2 dX6_readExpression_90 rfl ?_
                refine zA_goto 161 dX6_readExpression_91 (by decide) ?_
                refine zA_iinc_3 (v := nI (k + 1)) dX6_readExpression_161 (zn_inc _) rfl ?_
                refine zA_goto 27 dX6_readExpression_164 (by decide) ?_
                have h9 := fun (l4 : Option Value) => ih (k + 1) false (fRp X (X 50 4) (nI l)).2 l4 (by omega) (zTok_50 hTX (fRp_50 _ _ _)) (zRdr_rp _ _ hRX) hv
                exact h9 _
              · have e7 : decide (¬ X 50 4 = nI 3 ∧ ¬ X 50 4 = nI 4) = true := decide_eq_true ⟨d1, d2⟩
                rw [e7] at hv
                refine zA_iconst (nI 1) dX6_readExpression_85 ic_1 ?_
                refine zA_goto 90 dX6_readExpression_86 (by decide) ?_
                refine zA_istore_2 dX6_readExpression_90 rfl ?_
                refine zA_goto 161 dX6_readExpression_91 (by decide) ?_
                refine zA_iinc_3 (v := nI (k + 1)) dX6_readExpression_161 (zn_inc _) rfl ?_
                refine zA_goto 27 dX6_readExpression_164 (by decide) ?_
                have h9 := fun (l4 : Option Value) => ih (k + 1) true (fRp X (X 50 4) (nI l)).2 l4 (by omega) (zTok_50 hTX (fRp_50 _ _ _)) (zRdr_rp _ _ hRX) hv
                exact h9 _
          · rw [if_neg c] at hv
            rw [← hv]
            refine zA_iconst (nI 0) dX6_readExpression_71 ic_0 ?_
            exact zB_zret rfl dX6_readExpression_72 (by decide) (⟨(zb_f Bool.false_ne_true).symm, rfl, rfl, rfl⟩)
  exact key 501 0 true _ none (by omega) (zTok_of hK (by rw [zs_nq (by decide), zs_nq (by decide), zs_nq (by decide)]) (by rw [zs_nq (by decide), zs_nq (by decide), zs_nq (by decide)])) (zRdr_of (zRdr_op (nI 0) (zRdr_set (m := 0) (by decide) hR)) (by rw [zs_nq (by decide)])) hV
