def fClM (gi : zm_I) : zm_I := zs (fWw gi (nI 0)) 42 4 (fWw gi (nI 0) 42 4 - nI 1)
def fCl (gi : zm_I) : zm_I := if fWw gi (nI 0) 42 3 ≤ 0 then fClM gi else zs (fClM gi) 42 3 (fWw gi (nI 0) 42 3 - nI 1)
theorem zRdr_clM {gi : zm_I} (h : zRdr gi) : zRdr (fClM gi) := by
  unfold zRdr fClM
  rw [zs_nj (by decide), zs_nj (by decide)]
  exact zRdr_ww _ h
theorem zRdr_cl {gi : zm_I} (h : zRdr gi) : zRdr (fCl gi) := by
  unfold fCl
  split
  · exact zRdr_clM h
  · next hh =>
    have h1 := (zRdr_ww (nI 0) h).1
    have h0 : zi (fWw gi (nI 0) 42 3) ≠ 0 := by
      intro e
      rw [h1.1, e] at hh
      exact hh (by decide)
    have e1 : fWw gi (nI 0) 42 3 - nI 1 = nI (zi (fWw gi (nI 0) 42 3) - 1) := by
      rw [h1.1, zi_nI (by have := h1.2; omega)]
      exact pk_sub (by omega)
    rw [e1]
    exact zRdr_set (by have := h1.2; omega) (zRdr_clM h)
def fOb (gi : zm_I) : Bool × zm_I := if gi 42 4 < nI 8 then fPw (zs gi 42 4 (gi 42 4 + nI 1)) (nI 7) else (false, fFail gi (nI 2))
theorem zRdr_op {gi : zm_I} (v : Int32) (h : zRdr gi) : zRdr (zs gi 42 4 v) := by
  unfold zRdr
  rw [zs_nj (by decide), zs_nj (by decide)]
  exact h
theorem zRdr_ob {gi : zm_I} (h : zRdr gi) : zRdr (fOb gi).2 := by
  unfold fOb
  split
  · exact zRdr_pw _ (zRdr_op _ h)
  · exact zRdr_fail _ h
abbrev fNms (gi : zm_I) : Prop := gi 42 3 = 0 ∨ ¬ fRank (nI 10) < fRank (gi 49 (zi (gi 42 3) - 1))
theorem zRdr_and {p : Bool × zm_I} {f : zm_I → Bool × zm_I} (h : zRdr p.2) (hf : zRdr (f p.2).2) : zRdr (fAnd p f).2 := by
  unfold fAnd
  split
  · exact hf
  · exact h
def fRnB (line : Int32) (M : zm_I) : Bool × zm_I := if M 50 5 = nI 10 ∧ (line = 0 ∨ line = nI 1) then (false, fFail M (nI 4)) else fWr M (nI 4) (M 50 5)
def fRn (gi : zm_I) (line : Int32) : Bool × zm_I := fAnd (fCnK gi) (fRnB line)
theorem zRdr_rn {gi : zm_I} (line : Int32) (h : zRdr gi) : zRdr (fRn gi line).2 := by
  refine zRdr_and (zRdr_cnk h) ?_
  unfold fRnB
  split
  · exact zRdr_fail _ (zRdr_cnk h)
  · exact zRdr_wr _ _ (zRdr_cnk h)
def fRjM (M : zm_I) (kind : Int32) : Bool × zm_I := if ¬ M 42 3 ≤ 0 ∧ fRank (M 49 (zi (M 42 3) - 1)) = fRank kind then (false, fFail M (nI 1)) else fAnd (fCnK M) (fun M => fPw M kind)
def fRj (gi : zm_I) (kind : Int32) : Bool × zm_I := if fTwo kind then fRjM (fWw gi (fRank kind)) kind else (false, fFail gi (nI 1))
theorem zRdr_rj {gi : zm_I} (kind : Int32) (h : zRdr gi) : zRdr (fRj gi kind).2 := by
  unfold fRj
  split
  · unfold fRjM
    split
    · exact zRdr_fail _ (zRdr_ww _ h)
    · exact zRdr_and (zRdr_cnk (zRdr_ww _ h)) (zRdr_pw _ (zRdr_cnk (zRdr_ww _ h)))
  · exact zRdr_fail _ h
theorem fAnd_f {p : Bool × zm_I} {f : zm_I → Bool × zm_I} (h : ¬ p.1 = true) : fAnd p f = (false, p.2) := if_neg h
theorem fAnd_t {p : Bool × zm_I} {f : zm_I → Bool × zm_I} (h : p.1 = true) : fAnd p f = f p.2 := if_pos h
theorem fB_t {p : Bool × zm_I} (h : p.1 = true) : p = (true, p.2) := Prod.ext h rfl
theorem fB_f {p : Bool × zm_I} (h : ¬ p.1 = true) : p = (false, p.2) := Prod.ext (Bool.eq_false_iff.mpr h) rfl
theorem zww_sub {n : Nat} {v : Int32} (h : zx v (n + 1)) (hn : n < 2 ^ 20) (h0 : ¬ v ≤ 0) : v - nI 1 = nI (zi v - 1) ∧ zi v - 1 < n := by
  have h1 : zi v ≠ 0 := by
    intro e
    rw [h.1, e] at h0
    exact h0 (by decide)
  have h2 := h.2
  refine ⟨?_, by omega⟩
  have e : v - nI 1 = nI (zi v) - nI 1 := by rw [← h.1]
  rw [e]
  exact pk_sub (by omega)
theorem ct_closeBracket (g : zm_G) (gi : zm_I) (gl : zm_J) (r : Nat) (hR : zRdr gi)  : zC_v g yX6_closeBracket mX6_closeBracket 3 [.ref 42] zSH gi gl (zRT r) (fun gi' gl' gr' => gi' = fCl gi ∧ gl' = gl ∧ gr' = zRT r) := by
  refine zC_v_of [some (.ref 42)] (by decide) rfl rfl (Nat.le_of_ble_eq_true rfl) (fun x => ?_)
  refine zA_aload_0 dX6_closeBracket_0 ?_
  refine zA_iconst (nI 0) dX6_closeBracket_1 ic_0 ?_
  refine zA_cVv (ct_writeWaiting g gi gl r hR (nI 0)) calX6_writeWaiting stX6_writeWaiting lX6_112 dX6_closeBracket_2 (by decide) (by simp [Value.category]) rfl (Nat.le_refl _) (Nat.le_refl _) sh_42 rfl (fun gi' gl' gr' ⟨q1, q2, q3⟩ => ?_)
  rw [q1, q2, q3]
  clear q1 q2 q3
  refine zA_aload_0 dX6_closeBracket_5 ?_
  refine zA_dup dX6_closeBracket_6 rfl ?_
  refine zA_getI (v := ((fWw gi (nI 0)) 42 4)) sh_42 fX6_99 dX6_closeBracket_7 rfl rfl ?_
  refine zA_iconst (nI 1) dX6_closeBracket_10 ic_1 ?_
  refine zA_isub dX6_closeBracket_11 ?_
  refine zS_putI sh_42 fX6_99 dX6_closeBracket_12 rfl rfl ?_
  refine zA_aload_0 dX6_closeBracket_15 ?_
  refine zA_getI (v := ((fWw gi (nI 0)) 42 3)) sh_42 fX6_96 dX6_closeBracket_16 rfl rfl ?_
  refine zA_if_le 32 dX6_closeBracket_19 (by decide) (fun h => ?_) (fun h => ?_)
  · have e9 : fCl gi = fClM gi := if_pos h
    rw [e9]
    exact zB_vret rfl dX6_closeBracket_32 (⟨rfl, rfl, rfl⟩)
  · refine zA_aload_0 dX6_closeBracket_22 ?_
    refine zA_dup dX6_closeBracket_23 rfl ?_
    refine zA_getI (v := ((fWw gi (nI 0)) 42 3)) sh_42 fX6_96 dX6_closeBracket_24 rfl rfl ?_
    refine zA_iconst (nI 1) dX6_closeBracket_27 ic_1 ?_
    refine zA_isub dX6_closeBracket_28 ?_
    refine zS_putI sh_42 fX6_96 dX6_closeBracket_29 rfl rfl ?_
    have e9 : fCl gi = zs (fClM gi) 42 3 (fWw gi (nI 0) 42 3 - nI 1) := if_neg h
    rw [e9]
    exact zB_vret rfl dX6_closeBracket_32 (⟨rfl, rfl, rfl⟩)
theorem ct_openBracket (g : zm_G) (gi : zm_I) (gl : zm_J) (r : Nat) (hR : zRdr gi)  : zC_i g yX6_openBracket mX6_openBracket 2 [.ref 42] zSH gi gl (zRT r) (fun z gi' gl' gr' => z = zb ((fOb gi).1 = true) ∧ gi' = (fOb gi).2 ∧ gl' = gl ∧ gr' = zRT r) := by
  refine zC_i_of [some (.ref 42)] (by decide) rfl rfl (Nat.le_of_ble_eq_true rfl) (fun x => ?_)
  refine zA_aload_0 dX6_openBracket_0 ?_
  refine zA_getI (v := (gi 42 4)) sh_42 fX6_99 dX6_openBracket_1 rfl rfl ?_
  refine zA_bipush (nI 8) dX6_openBracket_4 bc_8 ?_
  refine zA_icmp_lt 15 dX6_openBracket_6 (by decide) (fun h => ?_) (fun h => ?_)
  · refine zA_aload_0 dX6_openBracket_15 ?_
    refine zA_dup dX6_openBracket_16 rfl ?_
    refine zA_getI (v := (gi 42 4)) sh_42 fX6_99 dX6_openBracket_17 rfl rfl ?_
    refine zA_iconst (nI 1) dX6_openBracket_20 ic_1 ?_
    refine zA_iadd dX6_openBracket_21 ?_
    refine zS_putI sh_42 fX6_99 dX6_openBracket_22 rfl rfl ?_
    refine zA_aload_0 dX6_openBracket_25 ?_
    refine zA_bipush (nI 7) dX6_openBracket_26 bc_7 ?_
    refine zA_cVi (ct_putWaiting g (zs gi 42 4 (gi 42 4 + nI 1)) gl r (zRdr_op _ hR) (nI 7)) calX6_putWaiting stX6_putWaiting lX6_137 dX6_openBracket_28 (by decide) (by simp [Value.category]) rfl (Nat.le_refl _) (Nat.le_refl _) sh_42 rfl (fun zz gi' gl' gr' ⟨hz, q1, q2, q3⟩ => ?_)
    rw [hz, q1, q2, q3]
    clear hz q1 q2 q3
    have e9 : fOb gi = fPw (zs gi 42 4 (gi 42 4 + nI 1)) (nI 7) := if_pos h
    rw [e9]
    exact zB_zret rfl dX6_openBracket_31 (zb_01 _) (⟨rfl, rfl, rfl, rfl⟩)
  · refine zA_aload_0 dX6_openBracket_9 ?_
    refine zA_iconst (nI 2) dX6_openBracket_10 ic_2 ?_
    refine zA_cVi (ct_failed g gi gl r (nI 2)) calX6_failed stX6_failed lX6_61 dX6_openBracket_11 (by decide) (by simp [Value.category]) rfl (Nat.le_refl _) (Nat.le_refl _) sh_42 rfl (fun zz gi' gl' gr' ⟨hz, q1, q2, q3⟩ => ?_)
    rw [hz, q1, q2, q3]
    clear hz q1 q2 q3
    have e9 : fOb gi = (false, fFail gi (nI 2)) := by exact if_neg h
    rw [e9]
    exact zB_zret rfl dX6_openBracket_14 (by decide) (⟨(zb_f Bool.false_ne_true).symm, rfl, rfl, rfl⟩)
theorem zww_ne {n : Nat} {v : Int32} (h : zx v n) (hn : n < 2 ^ 20) (h0 : ¬ v = 0) : ¬ v ≤ 0 := by
  intro q
  have h2 : v.toInt ≤ (0 : Int32).toInt := Int32.le_iff_toInt_le.mp q
  have h3 : (0 : Int32).toInt = 0 := by decide
  have h4 : v.toInt = (zi v : Int) := by
    have := congrArg Int32.toInt h.1
    rw [nI_toInt (by have := h.2; omega)] at this
    exact this
  refine h0 ?_
  rw [h.1, show zi v = 0 by omega]
  rfl
theorem ct_notMayStand (g : zm_G) (gi : zm_I) (gl : zm_J) (r : Nat) (hR : zRdr gi)  : zC_i g yX6_notMayStand mX6_notMayStand 1 [.ref 42] zSH gi gl (zRT r) (fun z gi' gl' gr' => z = zb (fNms gi) ∧ gi' = gi ∧ gl' = gl ∧ gr' = zRT r) := by
  refine zC_i_of [some (.ref 42)] (by decide) rfl rfl (Nat.le_of_ble_eq_true rfl) (fun x => ?_)
  refine zA_aload_0 dX6_notMayStand_0 ?_
  refine zA_getI (v := (gi 42 3)) sh_42 fX6_96 dX6_notMayStand_1 rfl rfl ?_
  refine zA_if_eq 29 dX6_notMayStand_4 (by decide) (fun h => ?_) (fun h => ?_)
  · refine zA_iconst (nI 1) dX6_notMayStand_29 ic_1 ?_
    refine zA_goto 34 dX6_notMayStand_30 (by decide) ?_
    exact zB_zret rfl dX6_notMayStand_34 (by decide) (⟨(zb_t (Or.inl h)).symm, rfl, rfl, rfl⟩)
  · have hs := zww_sub hR.1 (by decide) (zww_ne hR.1 (by decide) h)
    have hs2 := hs.2
    refine zA_aload_0 dX6_notMayStand_7 ?_
    refine zA_getR sh_42 fX6_18 dX6_notMayStand_8 rfl (rt_42_2 _) ?_
    refine zA_aload_0 dX6_notMayStand_11 ?_
    refine zA_getI (v := (gi 42 3)) sh_42 fX6_96 dX6_notMayStand_12 rfl rfl ?_
    refine zA_iconst (nI 1) dX6_notMayStand_15 ic_1 ?_
    refine zA_isub dX6_notMayStand_16 ?_
    refine zA_iald (v := (gi 49 (zi (gi 42 3) - 1))) (zi (gi 42 3) - 1) sh_49 dX6_notMayStand_17 hs.1 (by omega) (by decide) rfl ?_
    refine zA_cSi (ct_rank g _ _ _ (gi 49 (zi (gi 42 3) - 1))) calX2_rank stX2_rank lX6_143 dX6_notMayStand_18 (by decide) (by simp [Value.category]) rfl (Nat.le_refl _) (Nat.le_refl _) (fun zz gi' gl' gr' ⟨hz, q1, q2, q3⟩ => ?_)
    rw [hz, q1, q2, q3]
    clear hz q1 q2 q3
    refine zA_bipush (nI 10) dX6_notMayStand_21 bc_10 ?_
    refine zA_cSi (ct_rank g _ _ _ (nI 10)) calX2_rank stX2_rank lX6_143 dX6_notMayStand_23 (by decide) (by simp [Value.category]) rfl (Nat.le_refl _) (Nat.le_refl _) (fun zz gi' gl' gr' ⟨hz, q1, q2, q3⟩ => ?_)
    rw [hz, q1, q2, q3]
    clear hz q1 q2 q3
    refine zA_icmp_gt 33 dX6_notMayStand_26 (by decide) (fun c => ?_) (fun c => ?_)
    · refine zA_iconst (nI 0) dX6_notMayStand_33 ic_0 ?_
      exact zB_zret rfl dX6_notMayStand_34 (by decide) (⟨(zb_f (fun q => q.elim h (fun q => q c))).symm, rfl, rfl, rfl⟩)
    · refine zA_iconst (nI 1) dX6_notMayStand_29 ic_1 ?_
      refine zA_goto 34 dX6_notMayStand_30 (by decide) ?_
      exact zB_zret rfl dX6_notMayStand_34 (by decide) (⟨(zb_t (Or.inr c)).symm, rfl, rfl, rfl⟩)
theorem ct_readName (g : zm_G) (gi : zm_I) (gl : zm_J) (r : Nat) (hR : zRdr gi) (line : Int32)  : zC_i g yX6_readName mX6_readName 2 [.ref 42, .int line] zSH gi gl (zRT r) (fun z gi' gl' gr' => z = zb ((fRn gi line).1 = true) ∧ gi' = (fRn gi line).2 ∧ gl' = gl ∧ gr' = zRT r) := by
  refine zC_i_of [some (.ref 42), some (.int line)] (by decide) rfl rfl (Nat.le_of_ble_eq_true rfl) (fun x => ?_)
  refine zA_aload_0 dX6_readName_0 ?_
  refine zA_cVi (ct_countKnot g gi gl r) calX6_countKnot stX6_countKnot lX6_125 dX6_readName_1 (by decide) (by simp [Value.category]) rfl (Nat.le_refl _) (Nat.le_refl _) sh_42 rfl (fun zz gi' gl' gr' ⟨hz, q1, q2, q3⟩ => ?_)
  rw [hz, q1, q2, q3]
  clear hz q1 q2 q3
  refine zA_if_neB 9 dX6_readName_4 (by decide) (fun h => ?_) (fun h => ?_)
  · have hM := zRdr_cnk hR
    have e8 : fRn gi line = fRnB line (fCnK gi).2 := fAnd_t h
    rw [e8]
    generalize (fCnK gi).2 = M at hM ⊢
    clear e8 h
    refine zA_aload_0 dX6_readName_9 ?_
    refine zA_getR sh_42 fX6_31 dX6_readName_10 rfl (rt_42_0 _) ?_
    refine zA_getI (v := (M 50 5)) sh_50 fX6_83 dX6_readName_13 rfl rfl ?_
    refine zA_bipush (nI 10) dX6_readName_16 bc_10 ?_
    refine zA_icmp_ne 36 dX6_readName_18 (by decide) (fun c1 => ?_) (fun c1 => ?_)
    · refine zA_aload_0 dX6_readName_36 ?_
      refine zA_iconst (nI 4) dX6_readName_37 ic_4 ?_
      refine zA_aload_0 dX6_readName_38 ?_
      refine zA_getR sh_42 fX6_31 dX6_readName_39 rfl (rt_42_0 _) ?_
      refine zA_getI (v := (M 50 5)) sh_50 fX6_83 dX6_readName_42 rfl rfl ?_
      refine zA_cVi (ct_write g M gl r hM (nI 4) (M 50 5)) calX6_write stX6_write lX6_128 dX6_readName_45 (by decide) (by simp [Value.category]) rfl (Nat.le_refl _) (Nat.le_refl _) sh_42 rfl (fun zz gi' gl' gr' ⟨hz, q1, q2, q3⟩ => ?_)
      rw [hz, q1, q2, q3]
      clear hz q1 q2 q3
      have e9 : fRnB line M = fWr M (nI 4) (M 50 5) := if_neg (fun q => c1 q.1)
      rw [e9]
      exact zB_zret rfl dX6_readName_48 (zb_01 _) (⟨rfl, rfl, rfl, rfl⟩)
    · refine zA_iload_1 dX6_readName_21 ?_
      refine zA_if_eq 30 dX6_readName_22 (by decide) (fun c2 => ?_) (fun c2 => ?_)
      · refine zA_aload_0 dX6_readName_30 ?_
        refine zA_iconst (nI 4) dX6_readName_31 ic_4 ?_
        refine zA_cVi (ct_failed g M gl r (nI 4)) calX6_failed stX6_failed lX6_61 dX6_readName_32 (by decide) (by simp [Value.category]) rfl (Nat.le_refl _) (Nat.le_refl _) sh_42 rfl (fun zz gi' gl' gr' ⟨hz, q1, q2, q3⟩ => ?_)
        rw [hz, q1, q2, q3]
        clear hz q1 q2 q3
        have e9 : fRnB line M = (false, fFail M (nI 4)) := by exact if_pos ⟨c1, Or.inl c2⟩
        rw [e9]
        exact zB_zret rfl dX6_readName_35 (by decide) (⟨(zb_f Bool.false_ne_true).symm, rfl, rfl, rfl⟩)
      · refine zA_iload_1 dX6_readName_25 ?_
        refine zA_iconst (nI 1) dX6_readName_26 ic_1 ?_
        refine zA_icmp_ne 36 dX6_readName_27 (by decide) (fun c3 => ?_) (fun c3 => ?_)
        · refine zA_aload_0 dX6_readName_36 ?_
          refine zA_iconst (nI 4) dX6_readName_37 ic_4 ?_
          refine zA_aload_0 dX6_readName_38 ?_
          refine zA_getR sh_42 fX6_31 dX6_readName_39 rfl (rt_42_0 _) ?_
          refine zA_getI (v := (M 50 5)) sh_50 fX6_83 dX6_readName_42 rfl rfl ?_
          refine zA_cVi (ct_write g M gl r hM (nI 4) (M 50 5)) calX6_write stX6_write lX6_128 dX6_readName_45 (by decide) (by simp [Value.category]) rfl (Nat.le_refl _) (Nat.le_refl _) sh_42 rfl (fun zz gi' gl' gr' ⟨hz, q1, q2, q3⟩ => ?_)
          rw [hz, q1, q2, q3]
          clear hz q1 q2 q3
          have e9 : fRnB line M = fWr M (nI 4) (M 50 5) := if_neg (fun q => q.2.elim c2 c3)
          rw [e9]
          exact zB_zret rfl dX6_readName_48 (zb_01 _) (⟨rfl, rfl, rfl, rfl⟩)
        · refine zA_aload_0 dX6_readName_30 ?_
          refine zA_iconst (nI 4) dX6_readName_31 ic_4 ?_
          refine zA_cVi (ct_failed g M gl r (nI 4)) calX6_failed stX6_failed lX6_61 dX6_readName_32 (by decide) (by simp [Value.category]) rfl (Nat.le_refl _) (Nat.le_refl _) sh_42 rfl (fun zz gi' gl' gr' ⟨hz, q1, q2, q3⟩ => ?_)
          rw [hz, q1, q2, q3]
          clear hz q1 q2 q3
          have e9 : fRnB line M = (false, fFail M (nI 4)) := by exact if_pos ⟨c1, Or.inr c3⟩
          rw [e9]
          exact zB_zret rfl dX6_readName_35 (by decide) (⟨(zb_f Bool.false_ne_true).symm, rfl, rfl, rfl⟩)
  · refine zA_iconst (nI 0) dX6_readName_7 ic_0 ?_
    have e9 : fRn gi line = (false, (fCnK gi).2) := by exact fAnd_f h
    rw [e9]
    exact zB_zret rfl dX6_readName_8 (by decide) (⟨(zb_f Bool.false_ne_true).symm, rfl, rfl, rfl⟩)
theorem ct_readJoin (g : zm_G) (gi : zm_I) (gl : zm_J) (r : Nat) (hR : zRdr gi) (kind : Int32)  : zC_i g yX6_readJoin mX6_readJoin 3 [.ref 42, .int kind] zSH gi gl (zRT r) (fun z gi' gl' gr' => z = zb ((fRj gi kind).1 = true) ∧ gi' = (fRj gi kind).2 ∧ gl' = gl ∧ gr' = zRT r) := by
  refine zC_i_of [some (.ref 42), some (.int kind), none] (by decide) rfl rfl (Nat.le_of_ble_eq_true rfl) (fun x => ?_)
  refine zA_iload_1 dX6_readJoin_0 ?_
  refine zA_cSi (ct_joinsTwo g _ _ _ kind) calX2_joinsTwo stX2_joinsTwo lX6_147 dX6_readJoin_1 (by decide) (by simp [Value.category]) rfl (Nat.le_refl _) (Nat.le_refl _) (fun zz gi' gl' gr' ⟨hz, q1, q2, q3⟩ => ?_)
  rw [hz, q1, q2, q3]
  clear hz q1 q2 q3
  refine zA_if_neB 13 dX6_readJoin_4 (by decide) (fun h => ?_) (fun h => ?_)
  · refine zA_iload_1 dX6_readJoin_13 ?_
    refine zA_cSi (ct_rank g _ _ _ kind) calX2_rank stX2_rank lX6_143 dX6_readJoin_14 (by decide) (by simp [Value.category]) rfl (Nat.le_refl _) (Nat.le_refl _) (fun zz gi' gl' gr' ⟨hz, q1, q2, q3⟩ => ?_)
    rw [hz, q1, q2, q3]
    clear hz q1 q2 q3
    refine zA_istore_2 dX6_readJoin_17 rfl ?_
    refine zA_aload_0 dX6_readJoin_18 ?_
    refine zA_iload_2 dX6_readJoin_19 ?_
    refine zA_cVv (ct_writeWaiting g gi gl r hR (fRank kind)) calX6_writeWaiting stX6_writeWaiting lX6_112 dX6_readJoin_20 (by decide) (by simp [Value.category]) rfl (Nat.le_refl _) (Nat.le_refl _) sh_42 rfl (fun gi' gl' gr' ⟨q1, q2, q3⟩ => ?_)
    rw [q1, q2, q3]
    clear q1 q2 q3
    have hM := zRdr_ww (fRank kind) hR
    have e8 : fRj gi kind = fRjM (fWw gi (fRank kind)) kind := if_pos h
    rw [e8]
    generalize fWw gi (fRank kind) = M at hM ⊢
    clear e8
    refine zA_aload_0 dX6_readJoin_23 ?_
    refine zA_getI (v := (M 42 3)) sh_42 fX6_96 dX6_readJoin_24 rfl rfl ?_
    refine zA_if_le 54 dX6_readJoin_27 (by decide) (fun c1 => ?_) (fun c1 => ?_)
    · have e8 : fRjM M kind = fAnd (fCnK M) (fun M => fPw M kind) := if_neg (fun q => q.1 c1)
      rw [e8]
      refine zA_aload_0 dX6_readJoin_54 ?_
      refine zA_cVi (ct_countKnot g M gl r) calX6_countKnot stX6_countKnot lX6_125 dX6_readJoin_55 (by decide) (by simp [Value.category]) rfl (Nat.le_refl _) (Nat.le_refl _) sh_42 rfl (fun zz gi' gl' gr' ⟨hz, q1, q2, q3⟩ => ?_)
      rw [hz, q1, q2, q3]
      clear hz q1 q2 q3
      refine zA_if_eqB 73 dX6_readJoin_58 (by decide) (fun d1 => ?_) (fun d1 => ?_)
      · refine zA_iconst (nI 0) dX6_readJoin_73 ic_0 ?_
        have e9 : fAnd (fCnK M) (fun M => fPw M kind) = (false, (fCnK M).2) := by exact fAnd_f d1
        rw [e9]
        exact zB_zret rfl dX6_readJoin_74 (by decide) (⟨(zb_f Bool.false_ne_true).symm, rfl, rfl, rfl⟩)
      · refine zA_aload_0 dX6_readJoin_61 ?_
        refine zA_iload_1 dX6_readJoin_62 ?_
        refine zA_cVi (ct_putWaiting g (fCnK M).2 gl r (zRdr_cnk hM) kind) calX6_putWaiting stX6_putWaiting lX6_137 dX6_readJoin_63 (by decide) (by simp [Value.category]) rfl (Nat.le_refl _) (Nat.le_refl _) sh_42 rfl (fun zz gi' gl' gr' ⟨hz, q1, q2, q3⟩ => ?_)
        rw [hz, q1, q2, q3]
        clear hz q1 q2 q3
        refine zA_if_eqB 73 dX6_readJoin_66 (by decide) (fun d2 => ?_) (fun d2 => ?_)
        · refine zA_iconst (nI 0) dX6_readJoin_73 ic_0 ?_
          have e9 : fAnd (fCnK M) (fun M => fPw M kind) = (false, (fPw (fCnK M).2 kind).2) := by exact (fAnd_t d1).trans (fB_f d2)
          rw [e9]
          exact zB_zret rfl dX6_readJoin_74 (by decide) (⟨(zb_f Bool.false_ne_true).symm, rfl, rfl, rfl⟩)
        · refine zA_iconst (nI 1) dX6_readJoin_69 ic_1 ?_
          refine zA_goto 74 dX6_readJoin_70 (by decide) ?_
          have e9 : fAnd (fCnK M) (fun M => fPw M kind) = (true, (fPw (fCnK M).2 kind).2) := by exact (fAnd_t d1).trans (fB_t d2)
          rw [e9]
          exact zB_zret rfl dX6_readJoin_74 (by decide) (⟨(zb_t rfl).symm, rfl, rfl, rfl⟩)
    · have hs := zww_sub hM.1 (by decide) c1
      have hs2 := hs.2
      refine zA_aload_0 dX6_readJoin_30 ?_
      refine zA_getR sh_42 fX6_18 dX6_readJoin_31 rfl (rt_42_2 _) ?_
      refine zA_aload_0 dX6_readJoin_34 ?_
      refine zA_getI (v := (M 42 3)) sh_42 fX6_96 dX6_readJoin_35 rfl rfl ?_
      refine zA_iconst (nI 1) dX6_readJoin_38 ic_1 ?_
      refine zA_isub dX6_readJoin_39 ?_
      refine zA_iald (v := (M 49 (zi (M 42 3) - 1))) (zi (M 42 3) - 1) sh_49 dX6_readJoin_40 hs.1 (by omega) (by decide) rfl ?_
      refine zA_cSi (ct_rank g _ _ _ (M 49 (zi (M 42 3) - 1))) calX2_rank stX2_rank lX6_143 dX6_readJoin_41 (by decide) (by simp [Value.category]) rfl (Nat.le_refl _) (Nat.le_refl _) (fun zz gi' gl' gr' ⟨hz, q1, q2, q3⟩ => ?_)
      rw [hz, q1, q2, q3]
      clear hz q1 q2 q3
      refine zA_iload_2 dX6_readJoin_44 ?_
      refine zA_icmp_ne 54 dX6_readJoin_45 (by decide) (fun c2 => ?_) (fun c2 => ?_)
      · have e8 : fRjM M kind = fAnd (fCnK M) (fun M => fPw M kind) := if_neg (fun q => c2 q.2)
        rw [e8]
        refine zA_aload_0 dX6_readJoin_54 ?_
        refine zA_cVi (ct_countKnot g M gl r) calX6_countKnot stX6_countKnot lX6_125 dX6_readJoin_55 (by decide) (by simp [Value.category]) rfl (Nat.le_refl _) (Nat.le_refl _) sh_42 rfl (fun zz gi' gl' gr' ⟨hz, q1, q2, q3⟩ => ?_)
        rw [hz, q1, q2, q3]
        clear hz q1 q2 q3
        refine zA_if_eqB 73 dX6_readJoin_58 (by decide) (fun d1 => ?_) (fun d1 => ?_)
        · refine zA_iconst (nI 0) dX6_readJoin_73 ic_0 ?_
          have e9 : fAnd (fCnK M) (fun M => fPw M kind) = (false, (fCnK M).2) := by exact fAnd_f d1
          rw [e9]
          exact zB_zret rfl dX6_readJoin_74 (by decide) (⟨(zb_f Bool.false_ne_true).symm, rfl, rfl, rfl⟩)
        · refine zA_aload_0 dX6_readJoin_61 ?_
          refine zA_iload_1 dX6_readJoin_62 ?_
          refine zA_cVi (ct_putWaiting g (fCnK M).2 gl r (zRdr_cnk hM) kind) calX6_putWaiting stX6_putWaiting lX6_137 dX6_readJoin_63 (by decide) (by simp [Value.category]) rfl (Nat.le_refl _) (Nat.le_refl _) sh_42 rfl (fun zz gi' gl' gr' ⟨hz, q1, q2, q3⟩ => ?_)
          rw [hz, q1, q2, q3]
          clear hz q1 q2 q3
          refine zA_if_eqB 73 dX6_readJoin_66 (by decide) (fun d2 => ?_) (fun d2 => ?_)
          · refine zA_iconst (nI 0) dX6_readJoin_73 ic_0 ?_
            have e9 : fAnd (fCnK M) (fun M => fPw M kind) = (false, (fPw (fCnK M).2 kind).2) := by exact (fAnd_t d1).trans (fB_f d2)
            rw [e9]
            exact zB_zret rfl dX6_readJoin_74 (by decide) (⟨(zb_f Bool.false_ne_true).symm, rfl, rfl, rfl⟩)
          · refine zA_iconst (nI 1) dX6_readJoin_69 ic_1 ?_
            refine zA_goto 74 dX6_readJoin_70 (by decide) ?_
            have e9 : fAnd (fCnK M) (fun M => fPw M kind) = (true, (fPw (fCnK M).2 kind).2) := by exact (fAnd_t d1).trans (fB_t d2)
            rw [e9]
            exact zB_zret rfl dX6_readJoin_74 (by decide) (⟨(zb_t rfl).symm, rfl, rfl, rfl⟩)
      · refine zA_aload_0 dX6_readJoin_48 ?_
        refine zA_iconst (nI 1) dX6_readJoin_49 ic_1 ?_
        refine zA_cVi (ct_failed g M gl r (nI 1)) calX6_failed stX6_failed lX6_61 dX6_readJoin_50 (by decide) (by simp [Value.category]) rfl (Nat.le_refl _) (Nat.le_refl _) sh_42 rfl (fun zz gi' gl' gr' ⟨hz, q1, q2, q3⟩ => ?_)
        rw [hz, q1, q2, q3]
        clear hz q1 q2 q3
        have e9 : fRjM M kind = (false, fFail M (nI 1)) := by exact if_pos ⟨c1, c2⟩
        rw [e9]
        exact zB_zret rfl dX6_readJoin_53 (by decide) (⟨(zb_f Bool.false_ne_true).symm, rfl, rfl, rfl⟩)
  · refine zA_aload_0 dX6_readJoin_7 ?_
    refine zA_iconst (nI 1) dX6_readJoin_8 ic_1 ?_
    refine zA_cVi (ct_failed g gi gl r (nI 1)) calX6_failed stX6_failed lX6_61 dX6_readJoin_9 (by decide) (by simp [Value.category]) rfl (Nat.le_refl _) (Nat.le_refl _) sh_42 rfl (fun zz gi' gl' gr' ⟨hz, q1, q2, q3⟩ => ?_)
    rw [hz, q1, q2, q3]
    clear hz q1 q2 q3
    have e9 : fRj gi kind = (false, fFail gi (nI 1)) := by exact if_neg h
    rw [e9]
    exact zB_zret rfl dX6_readJoin_12 (by decide) (⟨(zb_f Bool.false_ne_true).symm, rfl, rfl, rfl⟩)
