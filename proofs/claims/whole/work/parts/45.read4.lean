/-- the tokens stand at a place of their text -/
def zTok (gi : zm_I) : Prop := zx (gi 50 1) 501 ∧ gi 50 3 = nI (zi (gi 50 3)) ∧ zi (gi 50 3) ≤ zi (gi 50 1)
def fAv (gi : zm_I) : zm_I := fAdv gi (zi (gi 50 1)) (zi (gi 50 3))
theorem ct_adv (g : zm_G) (gi : zm_I) (gl : zm_J) (r : Nat) (h : zTok gi) : zC_v g yX9_advance mX9_advance 2 [.ref 50] zSH gi gl (zRT r) (fun gi' gl' gr' => gi' = fAv gi ∧ gl' = gl ∧ gr' = zRT r) := by
  have k := ct_advance g gi gl r (n := zi (gi 50 1)) (i := zi (gi 50 3)) h.1.1 (by have := h.1.2; omega) h.2.2 (gi 50 2) (gi 50 4) (gi 50 5)
  rw [← h.2.1, fTk_id] at k
  exact k
theorem fSig_le (t : Nat → Int32) {n i : Nat} (h : i < n) : (fSig t n i).1 ≤ n := by
  unfold fSig
  split
  · show i + 1 ≤ n; omega
  · next hh =>
    have h2 : ¬ n ≤ i + 1 := fun q => hh (Or.inl q)
    split
    · show i + 2 ≤ n; omega
    · split
      · show i + 2 ≤ n; omega
      · show i + 1 ≤ n; omega
theorem fTok_le (t : Nat → Int32) {n i : Nat} (h : i ≤ n) : (fTok t n i).1 ≤ n := by
  unfold fTok
  split
  · exact h
  · split
    · have := (fWrd_le t (n - i) i).2; show fWrd t (n - i) i ≤ n; omega
    · split
      · have := (fNum_le t (n - i) i (nI 0)).2; show (fNum t (n - i) i (nI 0)).1 ≤ n; omega
      · exact fSig_le t (by omega)
theorem fAv_q (gi : zm_I) {a : Nat} (h : a ≠ 50) : fAv gi a = gi a := fTk_nq _ _ _ _ _ h
theorem fAv_1 (gi : zm_I) : fAv gi 50 1 = gi 50 1 := rfl
theorem zTok_av {gi : zm_I} (h : zTok gi) : zTok (fAv gi) := by
  have h1 := h.1.2
  have h2 := (fSkp_le (gi 1) (zi (gi 50 1) - zi (gi 50 3)) (zi (gi 50 3))).2
  have h3 := h.2.2
  have e1 : fSkp (gi 1) (zi (gi 50 1) - zi (gi 50 3)) (zi (gi 50 3)) ≤ zi (gi 50 1) := by omega
  have e2 := fTok_le (gi 1) e1
  have e3 : fAv gi 50 3 = nI (fTok (gi 1) (zi (gi 50 1)) (fSkp (gi 1) (zi (gi 50 1) - zi (gi 50 3)) (zi (gi 50 3)))).1 := rfl
  unfold zTok
  rw [fAv_1, e3, zi_nI (by omega)]
  exact ⟨h.1, rfl, e2⟩
theorem zTok_of {gi gi' : zm_I} (h : zTok gi) (e1 : gi' 50 1 = gi 50 1) (e3 : gi' 50 3 = gi 50 3) : zTok gi' := by
  unfold zTok
  rw [e1, e3]
  exact h
theorem zRdr_of {gi gi' : zm_I} (h : zRdr gi) (e : gi' 42 = gi 42) : zRdr gi' := by
  unfold zRdr
  rw [e]
  exact h
abbrev fCan (line v : Int32) : Prop := (line = 0 ∧ nI 60 ≤ v ∧ v ≤ nI 900) ∨ (¬ line = 0 ∧ nI 0 ≤ v ∧ v ≤ nI 99)
def fRsE (M : zm_I) : Bool × zm_I := if fAv M 50 4 = nI 5 then (true, fAv M) else (false, fFail (fAv M) (nI 1))
def fRsM (M : zm_I) (line : Int32) : Bool × zm_I := if M 50 4 = nI 3 then (if fCan line (M 50 5) then fRsE (zs M 43 (if line = 0 then 5 else 6) (M 50 5)) else (false, fFail M (nI 2))) else (false, fFail M (nI 1))
def fRs (gi : zm_I) (line : Int32) : Bool × zm_I := fRsM (fAv gi) line
theorem ct_readSetting (g : zm_G) (gi : zm_I) (gl : zm_J) (r : Nat) (hK : zTok gi) (line : Int32)  : zC_i g yX6_readSetting mX6_readSetting 3 [.ref 42, .int line] zSH gi gl (zRT r) (fun z gi' gl' gr' => z = zb ((fRs gi line).1 = true) ∧ gi' = (fRs gi line).2 ∧ gl' = gl ∧ gr' = zRT r) := by
  refine zC_i_of [some (.ref 42), some (.int line), none] (by decide) rfl rfl (Nat.le_of_ble_eq_true rfl) (fun x => ?_)
  refine zA_aload_0 dX6_readSetting_0 ?_
  refine zA_getR sh_42 fX6_31 dX6_readSetting_1 rfl (rt_42_0 _) ?_
  refine zA_cVv (ct_adv g gi gl r hK) calX9_advance stX9_advance lX6_51 dX6_readSetting_4 (by decide) (by simp [Value.category]) rfl (Nat.le_refl _) (Nat.le_refl _) sh_50 rfl (fun gi' gl' gr' ⟨q1, q2, q3⟩ => ?_)
  rw [q1, q2, q3]
  clear q1 q2 q3
  unfold fRs
  have hM := zTok_av hK
  generalize fAv gi = M at hM ⊢
  refine zA_aload_0 dX6_readSetting_7 ?_
  refine zA_getR sh_42 fX6_31 dX6_readSetting_8 rfl (rt_42_0 _) ?_
  refine zA_getI (v := (M 50 4)) sh_50 fX6_54 dX6_readSetting_11 rfl rfl ?_
  refine zA_iconst (nI 3) dX6_readSetting_14 ic_3 ?_
  refine zA_icmp_eq 24 dX6_readSetting_15 (by decide) (fun c0 => ?_) (fun c0 => ?_)
  · refine zA_iload_1 dX6_readSetting_24 ?_
    refine zA_if_ne 46 dX6_readSetting_25 (by decide) (fun l0 => ?_) (fun l0 => ?_)
    · refine zA_aload_0 dX6_readSetting_46 ?_
      refine zA_getR sh_42 fX6_31 dX6_readSetting_47 rfl (rt_42_0 _) ?_
      refine zA_getI (v := (M 50 5)) sh_50 fX6_83 dX6_readSetting_50 rfl rfl ?_
      refine zA_iconst (nI 0) dX6_readSetting_53 ic_0 ?_
      refine zA_bipush (nI 99) dX6_readSetting_54 bc_99 ?_
      refine zA_cSi (ct_isWithin g _ _ _ (M 50 5) (nI 0) (nI 99)) calX10_isWithin stX10_isWithin lX6_86 dX6_readSetting_56 (by decide) (by simp [Value.category]) rfl (Nat.le_refl _) (Nat.le_refl _) (fun zz gi' gl' gr' ⟨hz, q1, q2, q3⟩ => ?_)
      rw [hz, q1, q2, q3]
      clear hz q1 q2 q3
      refine zA_istore_2 dX6_readSetting_59 rfl ?_
      refine zA_iload_2 dX6_readSetting_60 ?_
      refine zA_if_neB 70 dX6_readSetting_61 (by decide) (fun c1 => ?_) (fun c1 => ?_)
      · have e8 : fRsM M line = fRsE (zs M 43 6 (M 50 5)) := (if_pos c0).trans ((if_pos (Or.inr ⟨l0, c1⟩)).trans (by rw [if_neg l0]))
        rw [e8]
        refine zA_iload_1 dX6_readSetting_70 ?_
        refine zA_if_ne 91 dX6_readSetting_71 (by decide) (fun l1 => ?_) (fun l1 => ?_)
        · refine zA_aload_0 dX6_readSetting_91 ?_
          refine zA_getR sh_42 fX6_12 dX6_readSetting_92 rfl (rt_42_1 _) ?_
          refine zA_aload_0 dX6_readSetting_95 ?_
          refine zA_getR sh_42 fX6_31 dX6_readSetting_96 rfl (rt_42_0 _) ?_
          refine zA_getI (v := (M 50 5)) sh_50 fX6_83 dX6_readSetting_99 rfl rfl ?_
          refine zS_putI sh_43 fX6_93 dX6_readSetting_102 rfl rfl ?_
          refine zA_aload_0 dX6_readSetting_105 ?_
          refine zA_getR sh_42 fX6_31 dX6_readSetting_106 rfl (rt_42_0 _) ?_
          refine zA_cVv (ct_adv g (zs M 43 6 (M 50 5)) gl r (zTok_of hM (by rw [zs_nq (by decide)]) (by rw [zs_nq (by decide)]))) calX9_advance stX9_advance lX6_51 dX6_readSetting_109 (by decide) (by simp [Value.category]) rfl (Nat.le_refl _) (Nat.le_refl _) sh_50 rfl (fun gi' gl' gr' ⟨q1, q2, q3⟩ => ?_)
          rw [q1, q2, q3]
          clear q1 q2 q3
          refine zA_aload_0 dX6_readSetting_112 ?_
          refine zA_getR sh_42 fX6_31 dX6_readSetting_113 rfl (rt_42_0 _) ?_
          refine zA_getI (v := ((fAv (zs M 43 6 (M 50 5))) 50 4)) sh_50 fX6_54 dX6_readSetting_116 rfl rfl ?_
          refine zA_iconst (nI 5) dX6_readSetting_119 ic_5 ?_
          refine zA_icmp_eq 131 dX6_readSetting_120 (by decide) (fun c2 => ?_) (fun c2 => ?_)
          · refine zA_iconst (nI 1) dX6_readSetting_131 ic_1 ?_
            refine zA_goto 136 dX6_readSetting_132 (by decide) ?_
            have e9 : fRsE (zs M 43 6 (M 50 5)) = (true, (fAv (zs M 43 6 (M 50 5)))) := by exact if_pos c2
            rw [e9]
            exact zB_zret rfl dX6_readSetting_136 (by decide) (⟨(zb_t rfl).symm, rfl, rfl, rfl⟩)
          · refine zA_aload_0 dX6_readSetting_123 ?_
            refine zA_iconst (nI 1) dX6_readSetting_124 ic_1 ?_
            refine zA_cVi (ct_failed g (fAv (zs M 43 6 (M 50 5))) gl r (nI 1)) calX6_failed stX6_failed lX6_61 dX6_readSetting_125 (by decide) (by simp [Value.category]) rfl (Nat.le_refl _) (Nat.le_refl _) sh_42 rfl (fun zz gi' gl' gr' ⟨hz, q1, q2, q3⟩ => ?_)
            rw [hz, q1, q2, q3]
            clear hz q1 q2 q3
            refine zA_if_eq 135 dX6_readSetting_128 (by decide) (fun _ => ?_) (fun hh => absurd (by decide) hh)
            refine zA_iconst (nI 0) dX6_readSetting_135 ic_0 ?_
            have e9 : fRsE (zs M 43 6 (M 50 5)) = (false, fFail (fAv (zs M 43 6 (M 50 5))) (nI 1)) := by exact if_neg c2
            rw [e9]
            exact zB_zret rfl dX6_readSetting_136 (by decide) (⟨(zb_f Bool.false_ne_true).symm, rfl, rfl, rfl⟩)
        · exact absurd l1 l0
      · refine zA_aload_0 dX6_readSetting_64 ?_
        refine zA_iconst (nI 2) dX6_readSetting_65 ic_2 ?_
        refine zA_cVi (ct_failed g M gl r (nI 2)) calX6_failed stX6_failed lX6_61 dX6_readSetting_66 (by decide) (by simp [Value.category]) rfl (Nat.le_refl _) (Nat.le_refl _) sh_42 rfl (fun zz gi' gl' gr' ⟨hz, q1, q2, q3⟩ => ?_)
        rw [hz, q1, q2, q3]
        clear hz q1 q2 q3
        have e9 : fRsM M line = (false, fFail M (nI 2)) := by exact (if_pos c0).trans (if_neg (fun q => q.elim (fun q => l0 q.1) (fun q => c1 q.2)))
        rw [e9]
        exact zB_zret rfl dX6_readSetting_69 (by decide) (⟨(zb_f Bool.false_ne_true).symm, rfl, rfl, rfl⟩)
    · refine zA_aload_0 dX6_readSetting_28 ?_
      refine zA_getR sh_42 fX6_31 dX6_readSetting_29 rfl (rt_42_0 _) ?_
      refine zA_getI (v := (M 50 5)) sh_50 fX6_83 dX6_readSetting_32 rfl rfl ?_
      refine zA_bipush (nI 60) dX6_readSetting_35 bc_60 ?_
      refine zA_sipush (nI 900) dX6_readSetting_37 sc_900 ?_
      refine zA_cSi (ct_isWithin g _ _ _ (M 50 5) (nI 60) (nI 900)) calX10_isWithin stX10_isWithin lX6_86 dX6_readSetting_40 (by decide) (by simp [Value.category]) rfl (Nat.le_refl _) (Nat.le_refl _) (fun zz gi' gl' gr' ⟨hz, q1, q2, q3⟩ => ?_)
      rw [hz, q1, q2, q3]
      clear hz q1 q2 q3
      refine zA_goto 59 dX6_readSetting_43 (by decide) ?_
      refine zA_istore_2 dX6_readSetting_59 rfl ?_
      refine zA_iload_2 dX6_readSetting_60 ?_
      refine zA_if_neB 70 dX6_readSetting_61 (by decide) (fun c1 => ?_) (fun c1 => ?_)
      · have e8 : fRsM M line = fRsE (zs M 43 5 (M 50 5)) := (if_pos c0).trans ((if_pos (Or.inl ⟨l0, c1⟩)).trans (by rw [if_pos l0]))
        rw [e8]
        refine zA_iload_1 dX6_readSetting_70 ?_
        refine zA_if_ne 91 dX6_readSetting_71 (by decide) (fun l1 => ?_) (fun l1 => ?_)
        · exact absurd l0 l1
        · refine zA_aload_0 dX6_readSetting_74 ?_
          refine zA_getR sh_42 fX6_12 dX6_readSetting_75 rfl (rt_42_1 _) ?_
          refine zA_aload_0 dX6_readSetting_78 ?_
          refine zA_getR sh_42 fX6_31 dX6_readSetting_79 rfl (rt_42_0 _) ?_
          refine zA_getI (v := (M 50 5)) sh_50 fX6_83 dX6_readSetting_82 rfl rfl ?_
          refine zS_putI sh_43 fX6_90 dX6_readSetting_85 rfl rfl ?_
          refine zA_goto 105 dX6_readSetting_88 (by decide) ?_
          refine zA_aload_0 dX6_readSetting_105 ?_
          refine zA_getR sh_42 fX6_31 dX6_readSetting_106 rfl (rt_42_0 _) ?_
          refine zA_cVv (ct_adv g (zs M 43 5 (M 50 5)) gl r (zTok_of hM (by rw [zs_nq (by decide)]) (by rw [zs_nq (by decide)]))) calX9_advance stX9_advance lX6_51 dX6_readSetting_109 (by decide) (by simp [Value.category]) rfl (Nat.le_refl _) (Nat.le_refl _) sh_50 rfl (fun gi' gl' gr' ⟨q1, q2, q3⟩ => ?_)
          rw [q1, q2, q3]
          clear q1 q2 q3
          refine zA_aload_0 dX6_readSetting_112 ?_
          refine zA_getR sh_42 fX6_31 dX6_readSetting_113 rfl (rt_42_0 _) ?_
          refine zA_getI (v := ((fAv (zs M 43 5 (M 50 5))) 50 4)) sh_50 fX6_54 dX6_readSetting_116 rfl rfl ?_
          refine zA_iconst (nI 5) dX6_readSetting_119 ic_5 ?_
          refine zA_icmp_eq 131 dX6_readSetting_120 (by decide) (fun c2 => ?_) (fun c2 => ?_)
          · refine zA_iconst (nI 1) dX6_readSetting_131 ic_1 ?_
            refine zA_goto 136 dX6_readSetting_132 (by decide) ?_
            have e9 : fRsE (zs M 43 5 (M 50 5)) = (true, (fAv (zs M 43 5 (M 50 5)))) := by exact if_pos c2
            rw [e9]
            exact zB_zret rfl dX6_readSetting_136 (by decide) (⟨(zb_t rfl).symm, rfl, rfl, rfl⟩)
          · refine zA_aload_0 dX6_readSetting_123 ?_
            refine zA_iconst (nI 1) dX6_readSetting_124 ic_1 ?_
            refine zA_cVi (ct_failed g (fAv (zs M 43 5 (M 50 5))) gl r (nI 1)) calX6_failed stX6_failed lX6_61 dX6_readSetting_125 (by decide) (by simp [Value.category]) rfl (Nat.le_refl _) (Nat.le_refl _) sh_42 rfl (fun zz gi' gl' gr' ⟨hz, q1, q2, q3⟩ => ?_)
            rw [hz, q1, q2, q3]
            clear hz q1 q2 q3
            refine zA_if_eq 135 dX6_readSetting_128 (by decide) (fun _ => ?_) (fun hh => absurd (by decide) hh)
            refine zA_iconst (nI 0) dX6_readSetting_135 ic_0 ?_
            have e9 : fRsE (zs M 43 5 (M 50 5)) = (false, fFail (fAv (zs M 43 5 (M 50 5))) (nI 1)) := by exact if_neg c2
            rw [e9]
            exact zB_zret rfl dX6_readSetting_136 (by decide) (⟨(zb_f Bool.false_ne_true).symm, rfl, rfl, rfl⟩)
      · refine zA_aload_0 dX6_readSetting_64 ?_
        refine zA_iconst (nI 2) dX6_readSetting_65 ic_2 ?_
        refine zA_cVi (ct_failed g M gl r (nI 2)) calX6_failed stX6_failed lX6_61 dX6_readSetting_66 (by decide) (by simp [Value.category]) rfl (Nat.le_refl _) (Nat.le_refl _) sh_42 rfl (fun zz gi' gl' gr' ⟨hz, q1, q2, q3⟩ => ?_)
        rw [hz, q1, q2, q3]
        clear hz q1 q2 q3
        have e9 : fRsM M line = (false, fFail M (nI 2)) := by exact (if_pos c0).trans (if_neg (fun q => q.elim (fun q => c1 q.2) (fun q => q.1 l0)))
        rw [e9]
        exact zB_zret rfl dX6_readSetting_69 (by decide) (⟨(zb_f Bool.false_ne_true).symm, rfl, rfl, rfl⟩)
  · refine zA_aload_0 dX6_readSetting_18 ?_
    refine zA_iconst (nI 1) dX6_readSetting_19 ic_1 ?_
    refine zA_cVi (ct_failed g M gl r (nI 1)) calX6_failed stX6_failed lX6_61 dX6_readSetting_20 (by decide) (by simp [Value.category]) rfl (Nat.le_refl _) (Nat.le_refl _) sh_42 rfl (fun zz gi' gl' gr' ⟨hz, q1, q2, q3⟩ => ?_)
    rw [hz, q1, q2, q3]
    clear hz q1 q2 q3
    have e9 : fRsM M line = (false, fFail M (nI 1)) := by exact if_neg c0
    rw [e9]
    exact zB_zret rfl dX6_readSetting_23 (by decide) (⟨(zb_f Bool.false_ne_true).symm, rfl, rfl, rfl⟩)
