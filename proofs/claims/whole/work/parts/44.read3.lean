def fRst (gi : zm_I) : zm_I := zs (zs (zs (zs (va_up (va_up gi 46 (zfill (gi 46) 5 (nI 0))) 47 (zfill (va_up gi 46 (zfill (gi 46) 5 (nI 0)) 47) 5 (nI 0))) 43 5 (nI 600)) 43 6 (nI 5)) 43 7 (nI 0)) 43 8 (nI 0)
theorem ct_reset (g : zm_G) (gi : zm_I) (gl : zm_J) (r : Nat)  : zC_v g yX4_reset mX4_reset 1 [.ref 43] zSH gi gl (zRT r) (fun gi' gl' gr' => gi' = fRst gi ∧ gl' = gl ∧ gr' = zRT r) := by
  refine zC_v_of [some (.ref 43)] (by decide) rfl rfl (Nat.le_of_ble_eq_true rfl) (fun x => ?_)
  refine zA_aload_0 dX4_reset_0 ?_
  refine zA_getR sh_43 fX4_20 dX4_reset_1 rfl (rt_43_2 _) ?_
  refine zA_iconst (nI 0) dX4_reset_4 ic_0 ?_
  refine zA_cSv (ct_fill g gi gl _ (nI 0) sh_46 (by decide)) calJ7_fill_53178 stJ7_fill_53178 lX4_37 dX4_reset_5 (by decide) (by simp [Value.category]) rfl (Nat.le_refl _) (Nat.le_refl _) (fun gi' gl' gr' ⟨q1, q2, q3⟩ => ?_)
  rw [q1, q2, q3]
  clear q1 q2 q3
  refine zA_aload_0 dX4_reset_8 ?_
  refine zA_getR sh_43 fX4_23 dX4_reset_9 rfl (rt_43_3 _) ?_
  refine zA_iconst (nI 0) dX4_reset_12 ic_0 ?_
  refine zA_cSv (ct_fill g (va_up gi 46 (zfill (gi 46) 5 (nI 0))) gl _ (nI 0) sh_47 (by decide)) calJ7_fill_53178 stJ7_fill_53178 lX4_37 dX4_reset_13 (by decide) (by simp [Value.category]) rfl (Nat.le_refl _) (Nat.le_refl _) (fun gi' gl' gr' ⟨q1, q2, q3⟩ => ?_)
  rw [q1, q2, q3]
  clear q1 q2 q3
  refine zA_aload_0 dX4_reset_16 ?_
  refine zA_sipush (nI 600) dX4_reset_17 sc_600 ?_
  refine zS_putI sh_43 fX4_30 dX4_reset_20 rfl rfl ?_
  refine zA_aload_0 dX4_reset_23 ?_
  refine zA_iconst (nI 5) dX4_reset_24 ic_5 ?_
  refine zS_putI sh_43 fX4_34 dX4_reset_25 rfl rfl ?_
  refine zA_aload_0 dX4_reset_28 ?_
  refine zA_iconst (nI 0) dX4_reset_29 ic_0 ?_
  refine zS_putI sh_43 fX4_43 dX4_reset_30 rfl rfl ?_
  refine zA_aload_0 dX4_reset_33 ?_
  refine zA_iconst (nI 0) dX4_reset_34 ic_0 ?_
  refine zS_putI sh_43 fX4_46 dX4_reset_35 rfl rfl ?_
  exact zB_vret rfl dX4_reset_38 (⟨rfl, rfl, rfl⟩)
def fRp (gi : zm_I) (kind line : Int32) : Bool × zm_I :=
  if kind = nI 3 then (if gi 50 5 ≤ nI 99999 then fAnd (fCnK gi) (fun M => fWr M kind (M 50 5)) else (false, fFail gi (nI 2)))
  else if kind = nI 4 then fRn gi line
  else if kind = nI 7 then fOb gi
  else if kind = nI 18 then fAnd (fCnK gi) (fun M => fPw M (nI 22))
  else if kind = nI 10 then (if fNms gi then fAnd (fCnK gi) (fun M => fPw M kind) else (false, fFail gi (nI 1)))
  else (false, fFail gi (nI 1))
theorem zRdr_rp {gi : zm_I} (kind line : Int32) (h : zRdr gi) : zRdr (fRp gi kind line).2 := by
  have hc := zRdr_cnk h
  unfold fRp
  split
  · split
    · exact zRdr_and hc (zRdr_wr _ _ hc)
    · exact zRdr_fail _ h
  · split
    · exact zRdr_rn _ h
    · split
      · exact zRdr_ob h
      · split
        · exact zRdr_and hc (zRdr_pw _ hc)
        · split
          · split
            · exact zRdr_and hc (zRdr_pw _ hc)
            · exact zRdr_fail _ h
          · exact zRdr_fail _ h
theorem ct_readPart (g : zm_G) (gi : zm_I) (gl : zm_J) (r : Nat) (hR : zRdr gi) (kind line : Int32)  : zC_i g yX6_readPart mX6_readPart 3 [.ref 42, .int kind, .int line] zSH gi gl (zRT r) (fun z gi' gl' gr' => z = zb ((fRp gi kind line).1 = true) ∧ gi' = (fRp gi kind line).2 ∧ gl' = gl ∧ gr' = zRT r) := by
  refine zC_i_of [some (.ref 42), some (.int kind), some (.int line)] (by decide) rfl rfl (Nat.le_of_ble_eq_true rfl) (fun x => ?_)
  refine zA_iload_1 dX6_readPart_0 ?_
  by_cases k3 : kind = nI 3
  · refine zA_lookup 52 dX6_readPart_1 (by decide) (off := 51) (by rw [k3]; decide) (by decide) ?_
    refine zA_aload_0 dX6_readPart_52 ?_
    refine zA_getR sh_42 fX6_31 dX6_readPart_53 rfl (rt_42_0 _) ?_
    refine zA_getI (v := (gi 50 5)) sh_50 fX6_83 dX6_readPart_56 rfl rfl ?_
    refine zA_ldc kX6_124 dX6_readPart_59 ?_
    refine zA_topi (b := nI 99999) (by decide) ?_
    refine zA_icmp_le 72 dX6_readPart_61 (by decide) (fun c => ?_) (fun c => ?_)
    · have e8 : fRp gi kind line = fAnd (fCnK gi) (fun M => fWr M kind (M 50 5)) := by unfold fRp; rw [if_pos k3, if_pos c]
      rw [e8]
      refine zA_aload_0 dX6_readPart_72 ?_
      refine zA_cVi (ct_countKnot g gi gl r) calX6_countKnot stX6_countKnot lX6_125 dX6_readPart_73 (by decide) (by simp [Value.category]) rfl (Nat.le_refl _) (Nat.le_refl _) sh_42 rfl (fun zz gi' gl' gr' ⟨hz, q1, q2, q3⟩ => ?_)
      rw [hz, q1, q2, q3]
      clear hz q1 q2 q3
      refine zA_if_eqB 98 dX6_readPart_76 (by decide) (fun d1 => ?_) (fun d1 => ?_)
      · refine zA_iconst (nI 0) dX6_readPart_98 ic_0 ?_
        have e9 : fAnd (fCnK gi) (fun M => fWr M kind (M 50 5)) = (false, (fCnK gi).2) := by exact fAnd_f d1
        rw [e9]
        exact zB_zret rfl dX6_readPart_99 (by decide) (⟨(zb_f Bool.false_ne_true).symm, rfl, rfl, rfl⟩)
      · refine zA_aload_0 dX6_readPart_79 ?_
        refine zA_iload_1 dX6_readPart_80 ?_
        refine zA_aload_0 dX6_readPart_81 ?_
        refine zA_getR sh_42 fX6_31 dX6_readPart_82 rfl (rt_42_0 _) ?_
        refine zA_getI (v := ((fCnK gi).2 50 5)) sh_50 fX6_83 dX6_readPart_85 rfl rfl ?_
        refine zA_cVi (ct_write g (fCnK gi).2 gl r (zRdr_cnk hR) kind ((fCnK gi).2 50 5)) calX6_write stX6_write lX6_128 dX6_readPart_88 (by decide) (by simp [Value.category]) rfl (Nat.le_refl _) (Nat.le_refl _) sh_42 rfl (fun zz gi' gl' gr' ⟨hz, q1, q2, q3⟩ => ?_)
        rw [hz, q1, q2, q3]
        clear hz q1 q2 q3
        refine zA_if_eqB 98 dX6_readPart_91 (by decide) (fun d2 => ?_) (fun d2 => ?_)
        · refine zA_iconst (nI 0) dX6_readPart_98 ic_0 ?_
          have e9 : fAnd (fCnK gi) (fun M => fWr M kind (M 50 5)) = (false, (fWr (fCnK gi).2 kind ((fCnK gi).2 50 5)).2) := by exact (fAnd_t d1).trans (fB_f d2)
          rw [e9]
          exact zB_zret rfl dX6_readPart_99 (by decide) (⟨(zb_f Bool.false_ne_true).symm, rfl, rfl, rfl⟩)
        · refine zA_iconst (nI 1) dX6_readPart_94 ic_1 ?_
          refine zA_goto 99 dX6_readPart_95 (by decide) ?_
          have e9 : fAnd (fCnK gi) (fun M => fWr M kind (M 50 5)) = (true, (fWr (fCnK gi).2 kind ((fCnK gi).2 50 5)).2) := by exact (fAnd_t d1).trans (fB_t d2)
          rw [e9]
          exact zB_zret rfl dX6_readPart_99 (by decide) (⟨(zb_t rfl).symm, rfl, rfl, rfl⟩)
    · refine zA_aload_0 dX6_readPart_64 ?_
      refine zA_iconst (nI 2) dX6_readPart_65 ic_2 ?_
      refine zA_cVi (ct_failed g gi gl r (nI 2)) calX6_failed stX6_failed lX6_61 dX6_readPart_66 (by decide) (by simp [Value.category]) rfl (Nat.le_refl _) (Nat.le_refl _) sh_42 rfl (fun zz gi' gl' gr' ⟨hz, q1, q2, q3⟩ => ?_)
      rw [hz, q1, q2, q3]
      clear hz q1 q2 q3
      refine zA_goto 99 dX6_readPart_69 (by decide) ?_
      have e9 : fRp gi kind line = (false, fFail gi (nI 2)) := by unfold fRp; rw [if_pos k3, if_neg c]
      rw [e9]
      exact zB_zret rfl dX6_readPart_99 (by decide) (⟨(zb_f Bool.false_ne_true).symm, rfl, rfl, rfl⟩)
  by_cases k4 : kind = nI 4
  · refine zA_lookup 100 dX6_readPart_1 (by decide) (off := 99) (by rw [k4]; decide) (by decide) ?_
    refine zA_aload_0 dX6_readPart_100 ?_
    refine zA_iload_2 dX6_readPart_101 ?_
    refine zA_cVi (ct_readName g gi gl r hR line) calX6_readName stX6_readName lX6_131 dX6_readPart_102 (by decide) (by simp [Value.category]) rfl (Nat.le_refl _) (Nat.le_refl _) sh_42 rfl (fun zz gi' gl' gr' ⟨hz, q1, q2, q3⟩ => ?_)
    rw [hz, q1, q2, q3]
    clear hz q1 q2 q3
    have e9 : fRp gi kind line = fRn gi line := by unfold fRp; rw [if_neg k3, if_pos k4]
    rw [e9]
    exact zB_zret rfl dX6_readPart_105 (zb_01 _) (⟨rfl, rfl, rfl, rfl⟩)
  by_cases k7 : kind = nI 7
  · refine zA_lookup 106 dX6_readPart_1 (by decide) (off := 105) (by rw [k7]; decide) (by decide) ?_
    refine zA_aload_0 dX6_readPart_106 ?_
    refine zA_cVi (ct_openBracket g gi gl r hR) calX6_openBracket stX6_openBracket lX6_134 dX6_readPart_107 (by decide) (by simp [Value.category]) rfl (Nat.le_refl _) (Nat.le_refl _) sh_42 rfl (fun zz gi' gl' gr' ⟨hz, q1, q2, q3⟩ => ?_)
    rw [hz, q1, q2, q3]
    clear hz q1 q2 q3
    have e9 : fRp gi kind line = fOb gi := by unfold fRp; rw [if_neg k3, if_neg k4, if_pos k7]
    rw [e9]
    exact zB_zret rfl dX6_readPart_110 (zb_01 _) (⟨rfl, rfl, rfl, rfl⟩)
  by_cases k18 : kind = nI 18
  · refine zA_lookup 111 dX6_readPart_1 (by decide) (off := 110) (by rw [k18]; decide) (by decide) ?_
    have e8 : fRp gi kind line = fAnd (fCnK gi) (fun M => fPw M (nI 22)) := by unfold fRp; rw [if_neg k3, if_neg k4, if_neg k7, if_pos k18]
    rw [e8]
    refine zA_aload_0 dX6_readPart_111 ?_
    refine zA_cVi (ct_countKnot g gi gl r) calX6_countKnot stX6_countKnot lX6_125 dX6_readPart_112 (by decide) (by simp [Value.category]) rfl (Nat.le_refl _) (Nat.le_refl _) sh_42 rfl (fun zz gi' gl' gr' ⟨hz, q1, q2, q3⟩ => ?_)
    rw [hz, q1, q2, q3]
    clear hz q1 q2 q3
    refine zA_if_eqB 131 dX6_readPart_115 (by decide) (fun d1 => ?_) (fun d1 => ?_)
    · refine zA_iconst (nI 0) dX6_readPart_131 ic_0 ?_
      have e9 : fAnd (fCnK gi) (fun M => fPw M (nI 22)) = (false, (fCnK gi).2) := by exact fAnd_f d1
      rw [e9]
      exact zB_zret rfl dX6_readPart_132 (by decide) (⟨(zb_f Bool.false_ne_true).symm, rfl, rfl, rfl⟩)
    · refine zA_aload_0 dX6_readPart_118 ?_
      refine zA_bipush (nI 22) dX6_readPart_119 bc_22 ?_
      refine zA_cVi (ct_putWaiting g (fCnK gi).2 gl r (zRdr_cnk hR) (nI 22)) calX6_putWaiting stX6_putWaiting lX6_137 dX6_readPart_121 (by decide) (by simp [Value.category]) rfl (Nat.le_refl _) (Nat.le_refl _) sh_42 rfl (fun zz gi' gl' gr' ⟨hz, q1, q2, q3⟩ => ?_)
      rw [hz, q1, q2, q3]
      clear hz q1 q2 q3
      refine zA_if_eqB 131 dX6_readPart_124 (by decide) (fun d2 => ?_) (fun d2 => ?_)
      · refine zA_iconst (nI 0) dX6_readPart_131 ic_0 ?_
        have e9 : fAnd (fCnK gi) (fun M => fPw M (nI 22)) = (false, (fPw (fCnK gi).2 (nI 22)).2) := by exact (fAnd_t d1).trans (fB_f d2)
        rw [e9]
        exact zB_zret rfl dX6_readPart_132 (by decide) (⟨(zb_f Bool.false_ne_true).symm, rfl, rfl, rfl⟩)
      · refine zA_iconst (nI 1) dX6_readPart_127 ic_1 ?_
        refine zA_goto 132 dX6_readPart_128 (by decide) ?_
        have e9 : fAnd (fCnK gi) (fun M => fPw M (nI 22)) = (true, (fPw (fCnK gi).2 (nI 22)).2) := by exact (fAnd_t d1).trans (fB_t d2)
        rw [e9]
        exact zB_zret rfl dX6_readPart_132 (by decide) (⟨(zb_t rfl).symm, rfl, rfl, rfl⟩)
  by_cases k10 : kind = nI 10
  · refine zA_lookup 133 dX6_readPart_1 (by decide) (off := 132) (by rw [k10]; decide) (by decide) ?_
    refine zA_aload_0 dX6_readPart_133 ?_
    refine zA_cVi (ct_notMayStand g gi gl r hR) calX6_notMayStand stX6_notMayStand lX6_140 dX6_readPart_134 (by decide) (by simp [Value.category]) rfl (Nat.le_refl _) (Nat.le_refl _) sh_42 rfl (fun zz gi' gl' gr' ⟨hz, q1, q2, q3⟩ => ?_)
    rw [hz, q1, q2, q3]
    clear hz q1 q2 q3
    refine zA_if_eqB 163 dX6_readPart_137 (by decide) (fun c => ?_) (fun c => ?_)
    · refine zA_aload_0 dX6_readPart_163 ?_
      refine zA_iconst (nI 1) dX6_readPart_164 ic_1 ?_
      refine zA_cVi (ct_failed g gi gl r (nI 1)) calX6_failed stX6_failed lX6_61 dX6_readPart_165 (by decide) (by simp [Value.category]) rfl (Nat.le_refl _) (Nat.le_refl _) sh_42 rfl (fun zz gi' gl' gr' ⟨hz, q1, q2, q3⟩ => ?_)
      rw [hz, q1, q2, q3]
      clear hz q1 q2 q3
      have e9 : fRp gi kind line = (false, fFail gi (nI 1)) := by unfold fRp; rw [if_neg k3, if_neg k4, if_neg k7, if_neg k18, if_pos k10, if_neg c]
      rw [e9]
      exact zB_zret rfl dX6_readPart_168 (by decide) (⟨(zb_f Bool.false_ne_true).symm, rfl, rfl, rfl⟩)
    · have e8 : fRp gi kind line = fAnd (fCnK gi) (fun M => fPw M kind) := by unfold fRp; rw [if_neg k3, if_neg k4, if_neg k7, if_neg k18, if_pos k10, if_pos c]
      rw [e8]
      refine zA_aload_0 dX6_readPart_140 ?_
      refine zA_cVi (ct_countKnot g gi gl r) calX6_countKnot stX6_countKnot lX6_125 dX6_readPart_141 (by decide) (by simp [Value.category]) rfl (Nat.le_refl _) (Nat.le_refl _) sh_42 rfl (fun zz gi' gl' gr' ⟨hz, q1, q2, q3⟩ => ?_)
      rw [hz, q1, q2, q3]
      clear hz q1 q2 q3
      refine zA_if_eqB 159 dX6_readPart_144 (by decide) (fun d1 => ?_) (fun d1 => ?_)
      · refine zA_iconst (nI 0) dX6_readPart_159 ic_0 ?_
        refine zA_goto 168 dX6_readPart_160 (by decide) ?_
        have e9 : fAnd (fCnK gi) (fun M => fPw M kind) = (false, (fCnK gi).2) := by exact fAnd_f d1
        rw [e9]
        exact zB_zret rfl dX6_readPart_168 (by decide) (⟨(zb_f Bool.false_ne_true).symm, rfl, rfl, rfl⟩)
      · refine zA_aload_0 dX6_readPart_147 ?_
        refine zA_iload_1 dX6_readPart_148 ?_
        refine zA_cVi (ct_putWaiting g (fCnK gi).2 gl r (zRdr_cnk hR) kind) calX6_putWaiting stX6_putWaiting lX6_137 dX6_readPart_149 (by decide) (by simp [Value.category]) rfl (Nat.le_refl _) (Nat.le_refl _) sh_42 rfl (fun zz gi' gl' gr' ⟨hz, q1, q2, q3⟩ => ?_)
        rw [hz, q1, q2, q3]
        clear hz q1 q2 q3
        refine zA_if_eqB 159 dX6_readPart_152 (by decide) (fun d2 => ?_) (fun d2 => ?_)
        · refine zA_iconst (nI 0) dX6_readPart_159 ic_0 ?_
          refine zA_goto 168 dX6_readPart_160 (by decide) ?_
          have e9 : fAnd (fCnK gi) (fun M => fPw M kind) = (false, (fPw (fCnK gi).2 kind).2) := by exact (fAnd_t d1).trans (fB_f d2)
          rw [e9]
          exact zB_zret rfl dX6_readPart_168 (by decide) (⟨(zb_f Bool.false_ne_true).symm, rfl, rfl, rfl⟩)
        · refine zA_iconst (nI 1) dX6_readPart_155 ic_1 ?_
          refine zA_goto 168 dX6_readPart_156 (by decide) ?_
          have e9 : fAnd (fCnK gi) (fun M => fPw M kind) = (true, (fPw (fCnK gi).2 kind).2) := by exact (fAnd_t d1).trans (fB_t d2)
          rw [e9]
          exact zB_zret rfl dX6_readPart_168 (by decide) (⟨(zb_t rfl).symm, rfl, rfl, rfl⟩)
  have ho : Op.lookupswitch.offset (#[((3 : Int), (51 : Int)), (4, 99), (7, 105), (10, 132), (18, 110)] : Array (Int × Int)).toList 168 kind.toInt = 168 := by
    have e3 : ¬ kind.toInt = 3 := fun z => k3 (Int32.toInt_inj.mp z)
    have e4 : ¬ kind.toInt = 4 := fun z => k4 (Int32.toInt_inj.mp z)
    have e7 : ¬ kind.toInt = 7 := fun z => k7 (Int32.toInt_inj.mp z)
    have e10 : ¬ kind.toInt = 10 := fun z => k10 (Int32.toInt_inj.mp z)
    have e18 : ¬ kind.toInt = 18 := fun z => k18 (Int32.toInt_inj.mp z)
    simp [Op.lookupswitch.offset, e3, e4, e7, e10, e18, eq_comm]
  refine zA_lookup 169 dX6_readPart_1 (by decide) (off := 168) ho (by decide) ?_
  refine zA_aload_0 dX6_readPart_169 ?_
  refine zA_iconst (nI 1) dX6_readPart_170 ic_1 ?_
  refine zA_cVi (ct_failed g gi gl r (nI 1)) calX6_failed stX6_failed lX6_61 dX6_readPart_171 (by decide) (by simp [Value.category]) rfl (Nat.le_refl _) (Nat.le_refl _) sh_42 rfl (fun zz gi' gl' gr' ⟨hz, q1, q2, q3⟩ => ?_)
  rw [hz, q1, q2, q3]
  clear hz q1 q2 q3
  have e9 : fRp gi kind line = (false, fFail gi (nI 1)) := by unfold fRp; rw [if_neg k3, if_neg k4, if_neg k7, if_neg k18, if_neg k10]
  rw [e9]
  exact zB_zret rfl dX6_readPart_174 (by decide) (⟨(zb_f Bool.false_ne_true).symm, rfl, rfl, rfl⟩)
