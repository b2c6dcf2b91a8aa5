/-! the reader -/
def fFail (gi : zm_I) (w : Int32) : zm_I := zs (zs gi 42 7 w) 42 8 (gi 50 2)
def fAnd (p : Bool × zm_I) (f : zm_I → Bool × zm_I) : Bool × zm_I := if p.1 = true then f p.2 else (false, p.2)
def fCnK (gi : zm_I) : Bool × zm_I := if gi 43 8 < nI 64 then (true, zs gi 43 8 (gi 43 8 + nI 1)) else (false, fFail gi (nI 2))
def fPw (gi : zm_I) (k : Int32) : Bool × zm_I := if zi (gi 42 3) < 72 then (true, zs (zs gi 49 (zi (gi 42 3)) k) 42 3 (nI (zi (gi 42 3) + 1))) else (false, fFail gi (nI 2))
def fWr (gi : zm_I) (k v : Int32) : Bool × zm_I := if zi (gi 42 5) < 64 then (true, zs (zs (zs gi 44 (zi (gi 42 5)) k) 45 (zi (gi 42 5)) v) 42 5 (nI (zi (gi 42 5) + 1))) else (false, fFail gi (nI 2))
def zRdr (gi : zm_I) : Prop := zx (gi 42 3) 73 ∧ zx (gi 42 5) 65
theorem zRdr_fail {gi : zm_I} (w : Int32) (h : zRdr gi) : zRdr (fFail gi w) := by
  unfold zRdr fFail
  rw [zs_nj (by decide), zs_nj (by decide), zs_nj (by decide), zs_nj (by decide)]
  exact h
theorem zRdr_cnk {gi : zm_I} (h : zRdr gi) : zRdr (fCnK gi).2 := by
  unfold fCnK
  split
  · show zRdr (zs gi 43 8 _)
    unfold zRdr
    rw [zs_nq (by decide)]
    exact h
  · exact zRdr_fail _ h
theorem zRdr_pw {gi : zm_I} (k : Int32) (h : zRdr gi) : zRdr (fPw gi k).2 := by
  unfold fPw
  split
  · next hl =>
    show zRdr (zs _ 42 3 _)
    unfold zRdr
    rw [zs_eq, zs_nj (by decide), zs_nq (by decide)]
    exact ⟨zx_of (by omega) (by decide), h.2⟩
  · exact zRdr_fail _ h
theorem zRdr_wr {gi : zm_I} (k v : Int32) (h : zRdr gi) : zRdr (fWr gi k v).2 := by
  unfold fWr
  split
  · next hl =>
    show zRdr (zs _ 42 5 _)
    unfold zRdr
    rw [zs_eq, zs_nj (by decide), zs_nq (by decide), zs_nq (by decide)]
    exact ⟨h.1, zx_of (by omega) (by decide)⟩
  · exact zRdr_fail _ h
theorem fFail_3 (gi : zm_I) (w : Int32) : fFail gi w 42 3 = gi 42 3 := by unfold fFail; rw [zs_nj (by decide), zs_nj (by decide)]
theorem fWr_3 (gi : zm_I) (k v : Int32) : (fWr gi k v).2 42 3 = gi 42 3 := by
  unfold fWr
  split
  · show (zs (zs (zs gi 44 (zi (gi 42 5)) k) 45 (zi (gi 42 5)) v) 42 5 (nI (zi (gi 42 5) + 1))) 42 3 = _
    rw [zs_nj (by decide), zs_nq (by decide), zs_nq (by decide)]
  · exact fFail_3 gi (nI 2)
theorem ct_failed (g : zm_G) (gi : zm_I) (gl : zm_J) (r : Nat) (w : Int32)  : zC_i g yX6_failed mX6_failed 0 [.ref 42, .int w] zSH gi gl (zRT r) (fun z gi' gl' gr' => z = nI 0 ∧ gi' = fFail gi w ∧ gl' = gl ∧ gr' = zRT r) := by
  refine zC_i_of [some (.ref 42), some (.int w)] (by decide) rfl rfl (Nat.le_of_ble_eq_true rfl) (fun x => ?_)
  refine zA_aload_0 dX6_failed_0 ?_
  refine zA_iload_1 dX6_failed_1 ?_
  refine zS_putI sh_42 fX6_48 dX6_failed_2 rfl rfl ?_
  refine zA_aload_0 dX6_failed_5 ?_
  refine zA_aload_0 dX6_failed_6 ?_
  refine zA_getR sh_42 fX6_31 dX6_failed_7 rfl (rt_42_0 _) ?_
  refine zA_getI (v := (gi 50 2)) sh_50 fX6_65 dX6_failed_10 rfl rfl ?_
  refine zS_putI sh_42 fX6_22 dX6_failed_13 rfl rfl ?_
  refine zA_iconst (nI 0) dX6_failed_16 ic_0 ?_
  exact zB_zret rfl dX6_failed_17 (by decide) (⟨rfl, rfl, rfl, rfl⟩)
theorem ct_countKnot (g : zm_G) (gi : zm_I) (gl : zm_J) (r : Nat)  : zC_i g yX6_countKnot mX6_countKnot 1 [.ref 42] zSH gi gl (zRT r) (fun z gi' gl' gr' => z = zb ((fCnK gi).1 = true) ∧ gi' = (fCnK gi).2 ∧ gl' = gl ∧ gr' = zRT r) := by
  refine zC_i_of [some (.ref 42)] (by decide) rfl rfl (Nat.le_of_ble_eq_true rfl) (fun x => ?_)
  refine zA_aload_0 dX6_countKnot_0 ?_
  refine zA_getR sh_42 fX6_12 dX6_countKnot_1 rfl (rt_42_1 _) ?_
  refine zA_getI (v := (gi 43 8)) sh_43 fX6_150 dX6_countKnot_4 rfl rfl ?_
  refine zA_bipush (nI 64) dX6_countKnot_7 bc_64 ?_
  refine zA_icmp_lt 18 dX6_countKnot_9 (by decide) (fun h => ?_) (fun h => ?_)
  · refine zA_aload_0 dX6_countKnot_18 ?_
    refine zA_getR sh_42 fX6_12 dX6_countKnot_19 rfl (rt_42_1 _) ?_
    refine zA_dup dX6_countKnot_22 rfl ?_
    refine zA_getI (v := (gi 43 8)) sh_43 fX6_150 dX6_countKnot_23 rfl rfl ?_
    refine zA_iconst (nI 1) dX6_countKnot_26 ic_1 ?_
    refine zA_iadd dX6_countKnot_27 ?_
    refine zS_putI sh_43 fX6_150 dX6_countKnot_28 rfl rfl ?_
    refine zA_iconst (nI 1) dX6_countKnot_31 ic_1 ?_
    have e9 : fCnK gi = (true, zs gi 43 8 (gi 43 8 + nI 1)) := by unfold fCnK; rw [if_pos h]
    rw [e9]
    exact zB_zret rfl dX6_countKnot_32 (by decide) (⟨(zb_t rfl).symm, rfl, rfl, rfl⟩)
  · refine zA_aload_0 dX6_countKnot_12 ?_
    refine zA_iconst (nI 2) dX6_countKnot_13 ic_2 ?_
    refine zA_cVi (ct_failed g gi gl r (nI 2)) calX6_failed stX6_failed lX6_61 dX6_countKnot_14 (by decide) (by simp [Value.category]) rfl (Nat.le_refl _) (Nat.le_refl _) sh_42 rfl (fun zz gi' gl' gr' ⟨hz, q1, q2, q3⟩ => ?_)
    rw [hz, q1, q2, q3]
    clear hz q1 q2 q3
    have e9 : fCnK gi = (false, fFail gi (nI 2)) := by unfold fCnK; rw [if_neg h]
    rw [e9]
    exact zB_zret rfl dX6_countKnot_17 (by decide) (⟨(zb_f Bool.false_ne_true).symm, rfl, rfl, rfl⟩)
theorem ct_putWaiting (g : zm_G) (gi : zm_I) (gl : zm_J) (r : Nat) (hR : zRdr gi) (k : Int32)  : zC_i g yX6_putWaiting mX6_putWaiting 1 [.ref 42, .int k] zSH gi gl (zRT r) (fun z gi' gl' gr' => z = zb ((fPw gi k).1 = true) ∧ gi' = (fPw gi k).2 ∧ gl' = gl ∧ gr' = zRT r) := by
  have hl := hR.1.2
  refine zC_i_of [some (.ref 42), some (.int k)] (by decide) rfl rfl (Nat.le_of_ble_eq_true rfl) (fun x => ?_)
  refine zA_aload_0 dX6_putWaiting_0 ?_
  refine zA_getI (v := (nI (zi (gi 42 3)))) sh_42 fX6_96 dX6_putWaiting_1 rfl hR.1.1 ?_
  refine zA_aload_0 dX6_putWaiting_4 ?_
  refine zA_getR sh_42 fX6_18 dX6_putWaiting_5 rfl (rt_42_2 _) ?_
  refine zA_alen 0 sh_49 (fun _ => rfl) dX6_putWaiting_8 rfl ?_
  refine zA_icmp_ltN 18 dX6_putWaiting_9 (by decide) (by omega) (by omega) (fun h => ?_) (fun h => ?_)
  · refine zA_aload_0 dX6_putWaiting_18 ?_
    refine zA_getR sh_42 fX6_18 dX6_putWaiting_19 rfl (rt_42_2 _) ?_
    refine zA_aload_0 dX6_putWaiting_22 ?_
    refine zA_getI (v := (nI (zi (gi 42 3)))) sh_42 fX6_96 dX6_putWaiting_23 rfl hR.1.1 ?_
    refine zA_iload_1 dX6_putWaiting_26 ?_
    refine zS_iast (zi (gi 42 3)) sh_49 dX6_putWaiting_27 rfl (by omega) (by decide) ?_
    refine zA_aload_0 dX6_putWaiting_28 ?_
    refine zA_dup dX6_putWaiting_29 rfl ?_
    refine zA_getI (v := (nI (zi (gi 42 3)))) sh_42 fX6_96 dX6_putWaiting_30 rfl (by (repeat rw [zs_nq (by omega)]); exact hR.1.1) ?_
    refine zA_iconst (nI 1) dX6_putWaiting_33 ic_1 ?_
    refine zA_iaddN dX6_putWaiting_34 ?_
    refine zS_putI sh_42 fX6_96 dX6_putWaiting_35 rfl rfl ?_
    refine zA_iconst (nI 1) dX6_putWaiting_38 ic_1 ?_
    have e9 : fPw gi k = (true, zs (zs gi 49 (zi (gi 42 3)) k) 42 3 (nI (zi (gi 42 3) + 1))) := by unfold fPw; rw [if_pos h]
    rw [e9]
    exact zB_zret rfl dX6_putWaiting_39 (by decide) (⟨(zb_t rfl).symm, rfl, rfl, rfl⟩)
  · refine zA_aload_0 dX6_putWaiting_12 ?_
    refine zA_iconst (nI 2) dX6_putWaiting_13 ic_2 ?_
    refine zA_cVi (ct_failed g gi gl r (nI 2)) calX6_failed stX6_failed lX6_61 dX6_putWaiting_14 (by decide) (by simp [Value.category]) rfl (Nat.le_refl _) (Nat.le_refl _) sh_42 rfl (fun zz gi' gl' gr' ⟨hz, q1, q2, q3⟩ => ?_)
    rw [hz, q1, q2, q3]
    clear hz q1 q2 q3
    have e9 : fPw gi k = (false, fFail gi (nI 2)) := by unfold fPw; rw [if_neg (by omega)]
    rw [e9]
    exact zB_zret rfl dX6_putWaiting_17 (by decide) (⟨(zb_f Bool.false_ne_true).symm, rfl, rfl, rfl⟩)
theorem ct_write (g : zm_G) (gi : zm_I) (gl : zm_J) (r : Nat) (hR : zRdr gi) (k v : Int32)  : zC_i g yX6_write mX6_write 1 [.ref 42, .int k, .int v] zSH gi gl (zRT r) (fun z gi' gl' gr' => z = zb ((fWr gi k v).1 = true) ∧ gi' = (fWr gi k v).2 ∧ gl' = gl ∧ gr' = zRT r) := by
  have hl := hR.2.2
  refine zC_i_of [some (.ref 42), some (.int k), some (.int v)] (by decide) rfl rfl (Nat.le_of_ble_eq_true rfl) (fun x => ?_)
  refine zA_aload_0 dX6_write_0 ?_
  refine zA_getI (v := (nI (zi (gi 42 5)))) sh_42 fX6_42 dX6_write_1 rfl hR.2.1 ?_
  refine zA_bipush (nI 64) dX6_write_4 bc_64 ?_
  refine zA_icmp_ltN 15 dX6_write_6 (by decide) (by omega) (by omega) (fun h => ?_) (fun h => ?_)
  · refine zA_aload_0 dX6_write_15 ?_
    refine zA_getR sh_42 fX6_12 dX6_write_16 rfl (rt_42_1 _) ?_
    refine zA_getR sh_43 fX6_153 dX6_write_19 rfl (rt_43_0 _) ?_
    refine zA_aload_0 dX6_write_22 ?_
    refine zA_getI (v := (nI (zi (gi 42 5)))) sh_42 fX6_42 dX6_write_23 rfl hR.2.1 ?_
    refine zA_iload_1 dX6_write_26 ?_
    refine zS_iast (zi (gi 42 5)) sh_44 dX6_write_27 rfl (by omega) (by decide) ?_
    refine zA_aload_0 dX6_write_28 ?_
    refine zA_getR sh_42 fX6_12 dX6_write_29 rfl (rt_42_1 _) ?_
    refine zA_getR sh_43 fX6_156 dX6_write_32 rfl (rt_43_1 _) ?_
    refine zA_aload_0 dX6_write_35 ?_
    refine zA_getI (v := (nI (zi (gi 42 5)))) sh_42 fX6_42 dX6_write_36 rfl (by (repeat rw [zs_nq (by omega)]); exact hR.2.1) ?_
    refine zA_iload_2 dX6_write_39 ?_
    refine zS_iast (zi (gi 42 5)) sh_45 dX6_write_40 rfl (by omega) (by decide) ?_
    refine zA_aload_0 dX6_write_41 ?_
    refine zA_dup dX6_write_42 rfl ?_
    refine zA_getI (v := (nI (zi (gi 42 5)))) sh_42 fX6_42 dX6_write_43 rfl (by (repeat rw [zs_nq (by omega)]); exact hR.2.1) ?_
    refine zA_iconst (nI 1) dX6_write_46 ic_1 ?_
    refine zA_iaddN dX6_write_47 ?_
    refine zS_putI sh_42 fX6_42 dX6_write_48 rfl rfl ?_
    refine zA_iconst (nI 1) dX6_write_51 ic_1 ?_
    have e9 : fWr gi k v = (true, zs (zs (zs gi 44 (zi (gi 42 5)) k) 45 (zi (gi 42 5)) v) 42 5 (nI (zi (gi 42 5) + 1))) := by unfold fWr; rw [if_pos h]
    rw [e9]
    exact zB_zret rfl dX6_write_52 (by decide) (⟨(zb_t rfl).symm, rfl, rfl, rfl⟩)
  · refine zA_aload_0 dX6_write_9 ?_
    refine zA_iconst (nI 2) dX6_write_10 ic_2 ?_
    refine zA_cVi (ct_failed g gi gl r (nI 2)) calX6_failed stX6_failed lX6_61 dX6_write_11 (by decide) (by simp [Value.category]) rfl (Nat.le_refl _) (Nat.le_refl _) sh_42 rfl (fun zz gi' gl' gr' ⟨hz, q1, q2, q3⟩ => ?_)
    rw [hz, q1, q2, q3]
    clear hz q1 q2 q3
    have e9 : fWr gi k v = (false, fFail gi (nI 2)) := by unfold fWr; rw [if_neg (by omega)]
    rw [e9]
    exact zB_zret rfl dX6_write_14 (by decide) (⟨(zb_f Bool.false_ne_true).symm, rfl, rfl, rfl⟩)
abbrev fStay (k rank : Int32) : Prop := k = nI 7 ∨ fRank k < rank ∨ (rank = nI 4 ∧ fRank k = rank)
def fWwS (gi : zm_I) (m : Nat) : zm_I := (fWr (zs gi 42 3 (nI m)) (gi 49 m) (nI 0)).2
def fWwL (rank : Int32) : Nat → zm_I → zm_I
  | 0, gi => gi
  | m + 1, gi => if fStay (gi 49 m) rank then gi else fWwL rank m (fWwS gi m)
def fWw (gi : zm_I) (rank : Int32) : zm_I := fWwL rank (zi (gi 42 3)) gi
theorem zRdr_set {gi : zm_I} {m : Nat} (hm : m < 73) (h : zRdr gi) : zRdr (zs gi 42 3 (nI m)) := by
  unfold zRdr
  rw [zs_eq, zs_nj (by decide)]
  exact ⟨zx_of hm (by decide), h.2⟩
theorem zRdr_wwS {gi : zm_I} {m : Nat} (hm : m < 73) (h : zRdr gi) : zRdr (fWwS gi m) := zRdr_wr _ _ (zRdr_set hm h)
theorem fWwS_3 (gi : zm_I) (m : Nat) : fWwS gi m 42 3 = nI m := by unfold fWwS; rw [fWr_3, zs_eq]
theorem zRdr_wwL (rank : Int32) : ∀ (m : Nat) (gi : zm_I), m ≤ 72 → zRdr gi → zRdr (fWwL rank m gi)
  | 0, gi, _, h => h
  | m + 1, gi, hm, h => by
    show zRdr (if _ then _ else _)
    split
    · exact h
    · exact zRdr_wwL rank m _ (by omega) (zRdr_wwS (by omega) h)
theorem zRdr_ww {gi : zm_I} (rank : Int32) (h : zRdr gi) : zRdr (fWw gi rank) := zRdr_wwL rank _ gi (by have := h.1.2; omega) h
theorem zww_pos {m : Nat} (h : m + 1 ≤ 72) : ¬ nI (m + 1) ≤ 0 := by
  intro q
  have h2 : (nI (m + 1)).toInt ≤ (0 : Int32).toInt := Int32.le_iff_toInt_le.mp q
  rw [nI_toInt (by omega)] at h2
  have h3 : (0 : Int32).toInt = 0 := by decide
  omega
theorem ct_writeWaiting (g : zm_G) (gi : zm_I) (gl : zm_J) (r : Nat) (hR : zRdr gi) (rank : Int32)  : zC_v g yX6_writeWaiting mX6_writeWaiting 2 [.ref 42, .int rank] zSH gi gl (zRT r) (fun gi' gl' gr' => gi' = fWw gi rank ∧ gl' = gl ∧ gr' = zRT r) := by
  have hl := hR.1.2
  refine zC_v_of [some (.ref 42), some (.int rank), none, none] (by decide) rfl rfl (Nat.le_of_ble_eq_true rfl) (fun x => ?_)
  unfold fWw
  generalize he : fWwL rank (zi (gi 42 3)) gi = e
  have key : ∀ (m : Nat) (M : zm_I) (l2 l3 : Option Value), m ≤ 72 → zRdr M → M 42 3 = nI m → fWwL rank m M = e → zB_v x g mX6_writeWaiting 2 zSH (fun gi' gl' gr' => gi' = e ∧ gl' = gl ∧ gr' = zRT r) 0 [some (.ref 42), some (.int rank), l2, l3] [] M gl (zRT r) := by
    intro m
    induction m with
    | zero =>
      intro M l2 l3 hm hM h3 hv
      refine zA_aload_0 dX6_writeWaiting_0 ?_
      refine zA_getI (v := (nI 0)) sh_42 fX6_96 dX6_writeWaiting_1 rfl h3 ?_
      refine zA_if_le 77 dX6_writeWaiting_4 (by decide) (fun _ => ?_) (fun hh => absurd (by decide) hh)
      have hv2 : M = e := hv
      rw [hv2]
      exact zB_vret rfl dX6_writeWaiting_77 (⟨rfl, rfl, rfl⟩)
    | succ m ih =>
      intro M l2 l3 hm hM h3 hv
      refine zA_aload_0 dX6_writeWaiting_0 ?_
      refine zA_getI (v := (nI (m + 1))) sh_42 fX6_96 dX6_writeWaiting_1 rfl h3 ?_
      refine zA_if_le 77 dX6_writeWaiting_4 (by decide) (fun h => ?_) (fun h => ?_)
      · exact absurd h (zww_pos (by omega))
      · refine zA_aload_0 dX6_writeWaiting_7 ?_
        refine zA_getR sh_42 fX6_18 dX6_writeWaiting_8 rfl (rt_42_2 _) ?_
        refine zA_aload_0 dX6_writeWaiting_11 ?_
        refine zA_getI (v := (nI (m + 1))) sh_42 fX6_96 dX6_writeWaiting_12 rfl h3 ?_
        refine zA_iconst (nI 1) dX6_writeWaiting_15 ic_1 ?_
        refine zA_isubN dX6_writeWaiting_16 (by omega) ?_
        refine zA_iald (v := (M 49 m)) m sh_49 dX6_writeWaiting_17 rfl (by omega) (by decide) rfl ?_
        refine zA_istore_2 dX6_writeWaiting_18 rfl ?_
        refine zA_iload_2 dX6_writeWaiting_19 ?_
        refine zA_bipush (nI 7) dX6_writeWaiting_20 bc_7 ?_
        refine zA_icmp_eq 46 dX6_writeWaiting_22 (by decide) (fun c1 => ?_) (fun c1 => ?_)
        · refine zA_iconst (nI 1) dX6_writeWaiting_46 ic_1 ?_
          refine zA_goto 51 dX6_writeWaiting_47 (by decide) ?_
          refine zA_istore_3 dX6_writeWaiting_51 rfl ?_
          refine zA_iload_3 dX6_writeWaiting_52 ?_
          refine zA_if_eq 57 dX6_writeWaiting_53 (by decide) (fun hh => absurd hh (by decide)) (fun _ => ?_)
          have hv2 : M = e := (if_pos (Or.inl c1)).symm.trans hv
          rw [hv2]
          exact zB_vret rfl dX6_writeWaiting_56 (⟨rfl, rfl, rfl⟩)
        · refine zA_iload_2 dX6_writeWaiting_25 ?_
          refine zA_cSi (ct_rank g _ _ _ (M 49 m)) calX2_rank stX2_rank lX6_143 dX6_writeWaiting_26 (by decide) (by simp [Value.category]) rfl (Nat.le_refl _) (Nat.le_refl _) (fun zz gi' gl' gr' ⟨hz, q1, q2, q3⟩ => ?_)
          rw [hz, q1, q2, q3]
          clear hz q1 q2 q3
          refine zA_iload_1 dX6_writeWaiting_29 ?_
          refine zA_icmp_lt 46 dX6_writeWaiting_30 (by decide) (fun c2 => ?_) (fun c2 => ?_)
          · refine zA_iconst (nI 1) dX6_writeWaiting_46 ic_1 ?_
            refine zA_goto 51 dX6_writeWaiting_47 (by decide) ?_
            refine zA_istore_3 dX6_writeWaiting_51 rfl ?_
            refine zA_iload_3 dX6_writeWaiting_52 ?_
            refine zA_if_eq 57 dX6_writeWaiting_53 (by decide) (fun hh => absurd hh (by decide)) (fun _ => ?_)
            have hv2 : M = e := (if_pos (Or.inr (Or.inl c2))).symm.trans hv
            rw [hv2]
            exact zB_vret rfl dX6_writeWaiting_56 (⟨rfl, rfl, rfl⟩)
          · refine zA_iload_1 dX6_writeWaiting_33 ?_
            refine zA_iconst (nI 4) dX6_writeWaiting_34 ic_4 ?_
            refine zA_icmp_ne 50 dX6_writeWaiting_35 (by decide) (fun c3 => ?_) (fun c3 => ?_)
            · refine zA_iconst (nI 0) dX6_writeWaiting_50 ic_0 ?_
              refine zA_istore_3 dX6_writeWaiting_51 rfl ?_
              refine zA_iload_3 dX6_writeWaiting_52 ?_
              refine zA_if_eq 57 dX6_writeWaiting_53 (by decide) (fun _ => ?_) (fun hh => absurd (by decide) hh)
              refine zA_aload_0 dX6_writeWaiting_57 ?_
              refine zA_dup dX6_writeWaiting_58 rfl ?_
              refine zA_getI (v := (nI (m + 1))) sh_42 fX6_96 dX6_writeWaiting_59 rfl h3 ?_
              refine zA_iconst (nI 1) dX6_writeWaiting_62 ic_1 ?_
              refine zA_isubN dX6_writeWaiting_63 (by omega) ?_
              refine zS_putI sh_42 fX6_96 dX6_writeWaiting_64 rfl rfl ?_
              refine zA_aload_0 dX6_writeWaiting_67 ?_
              refine zA_iload_2 dX6_writeWaiting_68 ?_
              refine zA_iconst (nI 0) dX6_writeWaiting_69 ic_0 ?_
              have hns : ¬ fStay (M 49 m) rank := fun q => q.elim c1 (fun q => q.elim c2 (fun q => c3 q.1))
              refine zA_cVi (ct_write g (zs M 42 3 (nI m)) gl r (zRdr_set (by omega) hM) (M 49 m) (nI 0)) calX6_write stX6_write lX6_128 dX6_writeWaiting_70 (by decide) (by simp [Value.category]) rfl (Nat.le_refl _) (Nat.le_refl _) sh_42 rfl (fun zz gi' gl' gr' ⟨hz, q1, q2, q3⟩ => ?_)
              rw [hz, q1, q2, q3]
              clear hz q1 q2 q3
              refine zA_pop dX6_writeWaiting_73 rfl ?_
              refine zA_goto 0 dX6_writeWaiting_74 (by decide) ?_
              exact ih (fWwS M m) _ _ (by omega) (zRdr_wwS (by omega) hM) (fWwS_3 M m) ((if_neg hns).symm.trans hv)
            · refine zA_iload_2 dX6_writeWaiting_38 ?_
              refine zA_cSi (ct_rank g _ _ _ (M 49 m)) calX2_rank stX2_rank lX6_143 dX6_writeWaiting_39 (by decide) (by simp [Value.category]) rfl (Nat.le_refl _) (Nat.le_refl _) (fun zz gi' gl' gr' ⟨hz, q1, q2, q3⟩ => ?_)
              rw [hz, q1, q2, q3]
              clear hz q1 q2 q3
              refine zA_iload_1 dX6_writeWaiting_42 ?_
              refine zA_icmp_ne 50 dX6_writeWaiting_43 (by decide) (fun c4 => ?_) (fun c4 => ?_)
              · refine zA_iconst (nI 0) dX6_writeWaiting_50 ic_0 ?_
                refine zA_istore_3 dX6_writeWaiting_51 rfl ?_
                refine zA_iload_3 dX6_writeWaiting_52 ?_
                refine zA_if_eq 57 dX6_writeWaiting_53 (by decide) (fun _ => ?_) (fun hh => absurd (by decide) hh)
                refine zA_aload_0 dX6_writeWaiting_57 ?_
                refine zA_dup dX6_writeWaiting_58 rfl ?_
                refine zA_getI (v := (nI (m + 1))) sh_42 fX6_96 dX6_writeWaiting_59 rfl h3 ?_
                refine zA_iconst (nI 1) dX6_writeWaiting_62 ic_1 ?_
                refine zA_isubN dX6_writeWaiting_63 (by omega) ?_
                refine zS_putI sh_42 fX6_96 dX6_writeWaiting_64 rfl rfl ?_
                refine zA_aload_0 dX6_writeWaiting_67 ?_
                refine zA_iload_2 dX6_writeWaiting_68 ?_
                refine zA_iconst (nI 0) dX6_writeWaiting_69 ic_0 ?_
                have hns : ¬ fStay (M 49 m) rank := fun q => q.elim c1 (fun q => q.elim c2 (fun q => c4 q.2))
                refine zA_cVi (ct_write g (zs M 42 3 (nI m)) gl r (zRdr_set (by omega) hM) (M 49 m) (nI 0)) calX6_write stX6_write lX6_128 dX6_writeWaiting_70 (by decide) (by simp [Value.category]) rfl (Nat.le_refl _) (Nat.le_refl _) sh_42 rfl (fun zz gi' gl' gr' ⟨hz, q1, q2, q3⟩ => ?_)
                rw [hz, q1, q2, q3]
                clear hz q1 q2 q3
                refine zA_pop dX6_writeWaiting_73 rfl ?_
                refine zA_goto 0 dX6_writeWaiting_74 (by decide) ?_
                exact ih (fWwS M m) _ _ (by omega) (zRdr_wwS (by omega) hM) (fWwS_3 M m) ((if_neg hns).symm.trans hv)
              · refine zA_iconst (nI 1) dX6_writeWaiting_46 ic_1 ?_
                refine zA_goto 51 dX6_writeWaiting_47 (by decide) ?_
                refine zA_istore_3 dX6_writeWaiting_51 rfl ?_
                refine zA_iload_3 dX6_writeWaiting_52 ?_
                refine zA_if_eq 57 dX6_writeWaiting_53 (by decide) (fun hh => absurd hh (by decide)) (fun _ => ?_)
                have hv2 : M = e := (if_pos (Or.inr (Or.inr ⟨c3, c4⟩))).symm.trans hv
                rw [hv2]
                exact zB_vret rfl dX6_writeWaiting_56 (⟨rfl, rfl, rfl⟩)
  exact key _ gi none none (by omega) hR hR.1.1 he
