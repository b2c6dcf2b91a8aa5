/-! ===== the reference's reader, small methods ===== -/
def rWrong (gi : zm_I) (w : Int32) : zm_I := zs (zs gi 87 29 w) 87 30 (gi 87 35)
theorem ct_rWrong (g : zm_G) (gi : zm_I) (gl : zm_J) (r : Nat) (w : Int32)  : zC_i g yX11_wrong mX11_wrong 0 [.ref 87, .int w] zSH gi gl (zRT r) (fun z gi' gl' gr' => z = nI 0 ∧ gi' = rWrong gi w ∧ gl' = gl ∧ gr' = zRT r) := by
  refine zC_i_of [some (.ref 87), some (.int w)] (by decide) rfl rfl (Nat.le_of_ble_eq_true rfl) (fun x => ?_)
  refine zA_aload_0 dX11_wrong_0 ?_
  refine zA_iload_1 dX11_wrong_1 ?_
  refine zS_putI sh_87 fX11_215 dX11_wrong_2 rfl rfl ?_
  refine zA_aload_0 dX11_wrong_5 ?_
  refine zA_aload_0 dX11_wrong_6 ?_
  refine zA_getI (v := (gi 87 35)) sh_87 fX11_218 dX11_wrong_7 rfl rfl ?_
  refine zS_putI sh_87 fX11_68 dX11_wrong_10 rfl rfl ?_
  refine zA_iconst (nI 0) dX11_wrong_13 ic_0 ?_
  exact zB_zret rfl dX11_wrong_14 (by decide) (⟨rfl, rfl, rfl, rfl⟩)
theorem ct_rIsSign (g : zm_G) (gi : zm_I) (gl : zm_J) (r : Nat) (c : Int32)  : zC_i g yX11_isSign mX11_isSign 0 [.ref 87, .int c] zSH gi gl (zRT r) (fun z gi' gl' gr' => z = zb (gi 87 33 = nI 3 ∧ gi 87 34 = c) ∧ gi' = gi ∧ gl' = gl ∧ gr' = zRT r) := by
  refine zC_i_of [some (.ref 87), some (.int c)] (by decide) rfl rfl (Nat.le_of_ble_eq_true rfl) (fun x => ?_)
  refine zA_aload_0 dX11_isSign_0 ?_
  refine zA_getI (v := (gi 87 33)) sh_87 fX11_231 dX11_isSign_1 rfl rfl ?_
  refine zA_iconst (nI 3) dX11_isSign_4 ic_3 ?_
  refine zA_icmp_ne 20 dX11_isSign_5 (by decide) (fun h1 => ?_) (fun h1 => ?_)
  · refine zA_iconst (nI 0) dX11_isSign_20 ic_0 ?_
    exact zB_zret rfl dX11_isSign_21 (by decide) (⟨(zb_f (fun q => h1 q.1)).symm, rfl, rfl, rfl⟩)
  · refine zA_aload_0 dX11_isSign_8 ?_
    refine zA_getI (v := (gi 87 34)) sh_87 fX11_241 dX11_isSign_9 rfl rfl ?_
    refine zA_iload_1 dX11_isSign_12 ?_
    refine zA_icmp_ne 20 dX11_isSign_13 (by decide) (fun h2 => ?_) (fun h2 => ?_)
    · refine zA_iconst (nI 0) dX11_isSign_20 ic_0 ?_
      exact zB_zret rfl dX11_isSign_21 (by decide) (⟨(zb_f (fun q => h2 q.2)).symm, rfl, rfl, rfl⟩)
    · refine zA_iconst (nI 1) dX11_isSign_16 ic_1 ?_
      refine zA_goto 21 dX11_isSign_17 (by decide) ?_
      exact zB_zret rfl dX11_isSign_21 (by decide) (⟨(zb_t ⟨h1, h2⟩).symm, rfl, rfl, rfl⟩)
def rNn (gi : zm_I) : Int32 := if gi 87 33 = nI 1 then (if gi 87 34 = 0 then nI 8 else if gi 87 34 < nI 10 then -1 else gi 87 34 - nI 10) else -1
theorem ct_rNameNow (g : zm_G) (gi : zm_I) (gl : zm_J) (r : Nat)  : zC_i g yX11_nameNow mX11_nameNow 0 [.ref 87] zSH gi gl (zRT r) (fun z gi' gl' gr' => z = rNn gi ∧ gi' = gi ∧ gl' = gl ∧ gr' = zRT r) := by
  refine zC_i_of [some (.ref 87)] (by decide) rfl rfl (Nat.le_of_ble_eq_true rfl) (fun x => ?_)
  refine zA_aload_0 dX11_nameNow_0 ?_
  refine zA_getI (v := (gi 87 33)) sh_87 fX11_231 dX11_nameNow_1 rfl rfl ?_
  refine zA_iconst (nI 1) dX11_nameNow_4 ic_1 ?_
  refine zA_icmp_eq 12 dX11_nameNow_5 (by decide) (fun h1 => ?_) (fun h1 => ?_)
  · refine zA_aload_0 dX11_nameNow_12 ?_
    refine zA_getI (v := (gi 87 34)) sh_87 fX11_241 dX11_nameNow_13 rfl rfl ?_
    refine zA_if_ne 24 dX11_nameNow_16 (by decide) (fun h2 => ?_) (fun h2 => ?_)
    · refine zA_aload_0 dX11_nameNow_24 ?_
      refine zA_getI (v := (gi 87 34)) sh_87 fX11_241 dX11_nameNow_25 rfl rfl ?_
      refine zA_bipush (nI 10) dX11_nameNow_28 bc_10 ?_
      refine zA_icmp_lt 43 dX11_nameNow_30 (by decide) (fun h3 => ?_) (fun h3 => ?_)
      · refine zA_iconst (-1) dX11_nameNow_43 ic_m1 ?_
        exact zB_iret rfl dX11_nameNow_44 (⟨by unfold rNn; rw [if_pos h1, if_neg h2, if_pos h3], rfl, rfl, rfl⟩)
      · refine zA_aload_0 dX11_nameNow_33 ?_
        refine zA_getI (v := (gi 87 34)) sh_87 fX11_241 dX11_nameNow_34 rfl rfl ?_
        refine zA_bipush (nI 10) dX11_nameNow_37 bc_10 ?_
        refine zA_isub dX11_nameNow_39 ?_
        refine zA_goto 44 dX11_nameNow_40 (by decide) ?_
        exact zB_iret rfl dX11_nameNow_44 (⟨by unfold rNn; rw [if_pos h1, if_neg h2, if_neg h3], rfl, rfl, rfl⟩)
    · refine zA_bipush (nI 8) dX11_nameNow_19 bc_8 ?_
      refine zA_goto 44 dX11_nameNow_21 (by decide) ?_
      exact zB_iret rfl dX11_nameNow_44 (⟨by unfold rNn; rw [if_pos h1, if_pos h2], rfl, rfl, rfl⟩)
  · refine zA_iconst (-1) dX11_nameNow_8 ic_m1 ?_
    refine zA_goto 44 dX11_nameNow_9 (by decide) ?_
    exact zB_iret rfl dX11_nameNow_44 (⟨by unfold rNn; rw [if_neg h1], rfl, rfl, rfl⟩)
def rWt (k : Int32) : Int32 := if k = nI 100 then nI 0 else if k = nI 15 then nI 1 else if k = nI 14 then nI 2 else if k = nI 13 then nI 3 else if k < nI 7 then nI 4 else if k < nI 9 then nI 5 else if k < nI 12 then nI 6 else nI 7
theorem ct_rWeight (g : zm_G) {sh : List zm_K} (gi : zm_I) (gl : zm_J) (gr : zm_R) (k : Int32)  : zC_i g yX11_weight mX11_weight 0 [.int k] sh gi gl gr (fun z gi' gl' gr' => z = rWt k ∧ gi' = gi ∧ gl' = gl ∧ gr' = gr) := by
  refine zC_i_of [some (.int k)] (by decide) rfl rfl (Nat.le_of_ble_eq_true rfl) (fun x => ?_)
  refine zA_iload_0 dX11_weight_0 ?_
  refine zA_bipush (nI 100) dX11_weight_1 bc_100 ?_
  refine zA_icmp_ne 10 dX11_weight_3 (by decide) (fun h0 => ?_) (fun h0 => ?_)
  · refine zA_iload_0 dX11_weight_10 ?_
    refine zA_bipush (nI 15) dX11_weight_11 bc_15 ?_
    refine zA_icmp_ne 20 dX11_weight_13 (by decide) (fun h1 => ?_) (fun h1 => ?_)
    · refine zA_iload_0 dX11_weight_20 ?_
      refine zA_bipush (nI 14) dX11_weight_21 bc_14 ?_
      refine zA_icmp_ne 30 dX11_weight_23 (by decide) (fun h2 => ?_) (fun h2 => ?_)
      · refine zA_iload_0 dX11_weight_30 ?_
        refine zA_bipush (nI 13) dX11_weight_31 bc_13 ?_
        refine zA_icmp_ne 40 dX11_weight_33 (by decide) (fun h3 => ?_) (fun h3 => ?_)
        · refine zA_iload_0 dX11_weight_40 ?_
          refine zA_bipush (nI 7) dX11_weight_41 bc_7 ?_
          refine zA_icmp_ge 50 dX11_weight_43 (by decide) (fun h4 => ?_) (fun h4 => ?_)
          · refine zA_iload_0 dX11_weight_50 ?_
            refine zA_bipush (nI 9) dX11_weight_51 bc_9 ?_
            refine zA_icmp_ge 60 dX11_weight_53 (by decide) (fun h5 => ?_) (fun h5 => ?_)
            · refine zA_iload_0 dX11_weight_60 ?_
              refine zA_bipush (nI 12) dX11_weight_61 bc_12 ?_
              refine zA_icmp_ge 71 dX11_weight_63 (by decide) (fun h6 => ?_) (fun h6 => ?_)
              · refine zA_bipush (nI 7) dX11_weight_71 bc_7 ?_
                exact zB_iret rfl dX11_weight_73 (⟨by unfold rWt; rw [if_neg h0, if_neg h1, if_neg h2, if_neg h3, if_neg (Int32.not_lt.mpr h4), if_neg (Int32.not_lt.mpr h5), if_neg (Int32.not_lt.mpr h6)], rfl, rfl, rfl⟩)
              · refine zA_bipush (nI 6) dX11_weight_66 bc_6 ?_
                refine zA_goto 73 dX11_weight_68 (by decide) ?_
                exact zB_iret rfl dX11_weight_73 (⟨by unfold rWt; rw [if_neg h0, if_neg h1, if_neg h2, if_neg h3, if_neg (Int32.not_lt.mpr h4), if_neg (Int32.not_lt.mpr h5), if_pos (Int32.not_le.mp h6)], rfl, rfl, rfl⟩)
            · refine zA_iconst (nI 5) dX11_weight_56 ic_5 ?_
              refine zA_goto 73 dX11_weight_57 (by decide) ?_
              exact zB_iret rfl dX11_weight_73 (⟨by unfold rWt; rw [if_neg h0, if_neg h1, if_neg h2, if_neg h3, if_neg (Int32.not_lt.mpr h4), if_pos (Int32.not_le.mp h5)], rfl, rfl, rfl⟩)
          · refine zA_iconst (nI 4) dX11_weight_46 ic_4 ?_
            refine zA_goto 73 dX11_weight_47 (by decide) ?_
            exact zB_iret rfl dX11_weight_73 (⟨by unfold rWt; rw [if_neg h0, if_neg h1, if_neg h2, if_neg h3, if_pos (Int32.not_le.mp h4)], rfl, rfl, rfl⟩)
        · refine zA_iconst (nI 3) dX11_weight_36 ic_3 ?_
          refine zA_goto 73 dX11_weight_37 (by decide) ?_
          exact zB_iret rfl dX11_weight_73 (⟨by unfold rWt; rw [if_neg h0, if_neg h1, if_neg h2, if_pos h3], rfl, rfl, rfl⟩)
      · refine zA_iconst (nI 2) dX11_weight_26 ic_2 ?_
        refine zA_goto 73 dX11_weight_27 (by decide) ?_
        exact zB_iret rfl dX11_weight_73 (⟨by unfold rWt; rw [if_neg h0, if_neg h1, if_pos h2], rfl, rfl, rfl⟩)
    · refine zA_iconst (nI 1) dX11_weight_16 ic_1 ?_
      refine zA_goto 73 dX11_weight_17 (by decide) ?_
      exact zB_iret rfl dX11_weight_73 (⟨by unfold rWt; rw [if_neg h0, if_pos h1], rfl, rfl, rfl⟩)
  · refine zA_iconst (nI 0) dX11_weight_6 ic_0 ?_
    refine zA_goto 73 dX11_weight_7 (by decide) ?_
    exact zB_iret rfl dX11_weight_73 (⟨by unfold rWt; rw [if_pos h0], rfl, rfl, rfl⟩)
def rGrM (gi : zm_I) (q : Nat) (k v : Int32) : zm_I := zs (zs (zs (zs (zs gi 87 47 (nI (q + 1))) 110 (64 + q) k) 111 (64 + q) (-1)) 112 (64 + q) (-1)) 113 (64 + q) v
def rDoM (gi : zm_I) (q h : Nat) (a : Int32) : zm_I := zs (zs (zs (zs gi 114 (64 + q) a) 87 48 (nI (q + 1))) 119 h a) 87 53 (nI (h + 1))
def rWfM (gi : zm_I) (s : Nat) (k a : Int32) : zm_I := zs (zs (zs gi 117 s k) 118 s a) 87 51 (nI (s + 1))
theorem ct_rGrown (g : zm_G) (gi : zm_I) (gl : zm_J) (r : Nat) {q : Nat} (hq : gi 87 47 = nI q) (hq64 : q ≤ 64) (k v : Int32)  : zC_i g yX11_grown mX11_grown 1 [.ref 87, .int k, .int v] zSH gi gl (zRT r) (fun z gi' gl' gr' => (q = 64 ∧ z = -1 ∧ gi' = rWrong gi (nI 2) ∧ gl' = gl ∧ gr' = zRT r) ∨ (q < 64 ∧ z = nI (64 + q) ∧ gi' = rGrM gi q k v ∧ gl' = gl ∧ gr' = zRT r)) := by
  refine zC_i_of [some (.ref 87), some (.int k), some (.int v), none] (by decide) rfl rfl (Nat.le_of_ble_eq_true rfl) (fun x => ?_)
  refine zA_aload_0 dX11_grown_0 ?_
  refine zA_getI (v := (nI q)) sh_87 fX11_252 dX11_grown_1 rfl hq ?_
  refine zA_bipush (nI 64) dX11_grown_4 bc_64 ?_
  refine zA_icmp_neN 17 dX11_grown_6 (by decide) (by omega) (by omega) (fun h => ?_) (fun h => ?_)
  · refine zA_bipush (nI 64) dX11_grown_17 bc_64 ?_
    refine zA_aload_0 dX11_grown_19 ?_
    refine zA_getI (v := (nI q)) sh_87 fX11_252 dX11_grown_20 rfl hq ?_
    refine zA_iaddN dX11_grown_23 ?_
    refine zA_istore_3 dX11_grown_24 rfl ?_
    refine zA_aload_0 dX11_grown_25 ?_
    refine zA_dup dX11_grown_26 rfl ?_
    refine zA_getI (v := (nI q)) sh_87 fX11_252 dX11_grown_27 rfl hq ?_
    refine zA_iconst (nI 1) dX11_grown_30 ic_1 ?_
    refine zA_iaddN dX11_grown_31 ?_
    refine zS_putI sh_87 fX11_252 dX11_grown_32 rfl rfl ?_
    refine zA_aload_0 dX11_grown_35 ?_
    refine zA_getR sh_87 fX11_81 dX11_grown_36 rfl (rt_87_39 _) ?_
    refine zA_iload_3 dX11_grown_39 ?_
    refine zA_iload_1 dX11_grown_40 ?_
    refine zS_iast (64 + q) sh_110 dX11_grown_41 rfl (by omega) (by decide) ?_
    refine zA_aload_0 dX11_grown_42 ?_
    refine zA_getR sh_87 fX11_84 dX11_grown_43 rfl (rt_87_40 _) ?_
    refine zA_iload_3 dX11_grown_46 ?_
    refine zA_iconst (-1) dX11_grown_47 ic_m1 ?_
    refine zS_iast (64 + q) sh_111 dX11_grown_48 rfl (by omega) (by decide) ?_
    refine zA_aload_0 dX11_grown_49 ?_
    refine zA_getR sh_87 fX11_87 dX11_grown_50 rfl (rt_87_41 _) ?_
    refine zA_iload_3 dX11_grown_53 ?_
    refine zA_iconst (-1) dX11_grown_54 ic_m1 ?_
    refine zS_iast (64 + q) sh_112 dX11_grown_55 rfl (by omega) (by decide) ?_
    refine zA_aload_0 dX11_grown_56 ?_
    refine zA_getR sh_87 fX11_90 dX11_grown_57 rfl (rt_87_42 _) ?_
    refine zA_iload_3 dX11_grown_60 ?_
    refine zA_iload_2 dX11_grown_61 ?_
    refine zS_iast (64 + q) sh_113 dX11_grown_62 rfl (by omega) (by decide) ?_
    refine zA_iload_3 dX11_grown_63 ?_
    exact zB_iret rfl dX11_grown_64 (Or.inr ⟨by omega, rfl, rfl, rfl, rfl⟩)
  · refine zA_aload_0 dX11_grown_9 ?_
    refine zA_iconst (nI 2) dX11_grown_10 ic_2 ?_
    refine zA_cVi (ct_rWrong g gi gl r (nI 2)) calX11_wrong stX11_wrong lX11_255 dX11_grown_11 (by decide) (by simp [Value.category]) rfl (Nat.le_refl _) (Nat.le_refl _) sh_87 rfl (fun zz gi' gl' gr' ⟨hz, e1, e2, e3⟩ => ?_)
    rw [hz, e1, e2, e3]
    clear hz e1 e2 e3
    refine zA_istore_3 dX11_grown_14 rfl ?_
    refine zA_iconst (-1) dX11_grown_15 ic_m1 ?_
    exact zB_iret rfl dX11_grown_16 (Or.inl ⟨h, rfl, rfl, rfl, rfl⟩)
theorem ct_rDone (g : zm_G) (gi : zm_I) (gl : zm_J) (r : Nat) {q h : Nat} (hq : gi 87 48 = nI q) (hq64 : q < 64) (hh : gi 87 53 = nI h) (hh2 : h < 100) (a : Int32)  : zC_v g yX11_done mX11_done 0 [.ref 87, .int a] zSH gi gl (zRT r) (fun gi' gl' gr' => gi' = rDoM gi q h a ∧ gl' = gl ∧ gr' = zRT r) := by
  refine zC_v_of [some (.ref 87), some (.int a)] (by decide) rfl rfl (Nat.le_of_ble_eq_true rfl) (fun x => ?_)
  refine zA_aload_0 dX11_done_0 ?_
  refine zA_getR sh_87 fX11_93 dX11_done_1 rfl (rt_87_43 _) ?_
  refine zA_bipush (nI 64) dX11_done_4 bc_64 ?_
  refine zA_aload_0 dX11_done_6 ?_
  refine zA_getI (v := (nI q)) sh_87 fX11_258 dX11_done_7 rfl hq ?_
  refine zA_iaddN dX11_done_10 ?_
  refine zA_iload_1 dX11_done_11 ?_
  refine zS_iast (64 + q) sh_114 dX11_done_12 rfl (by omega) (by decide) ?_
  refine zA_aload_0 dX11_done_13 ?_
  refine zA_dup dX11_done_14 rfl ?_
  refine zA_getI (v := (nI q)) sh_87 fX11_258 dX11_done_15 rfl hq ?_
  refine zA_iconst (nI 1) dX11_done_18 ic_1 ?_
  refine zA_iaddN dX11_done_19 ?_
  refine zS_putI sh_87 fX11_258 dX11_done_20 rfl rfl ?_
  refine zA_aload_0 dX11_done_23 ?_
  refine zA_getR sh_87 fX11_108 dX11_done_24 rfl (rt_87_52 _) ?_
  refine zA_aload_0 dX11_done_27 ?_
  refine zA_getI (v := (nI h)) sh_87 fX11_261 dX11_done_28 rfl hh ?_
  refine zA_iload_1 dX11_done_31 ?_
  refine zS_iast h sh_119 dX11_done_32 rfl (by omega) (by decide) ?_
  refine zA_aload_0 dX11_done_33 ?_
  refine zA_dup dX11_done_34 rfl ?_
  refine zA_getI (v := (nI h)) sh_87 fX11_261 dX11_done_35 rfl hh ?_
  refine zA_iconst (nI 1) dX11_done_38 ic_1 ?_
  refine zA_iaddN dX11_done_39 ?_
  refine zS_putI sh_87 fX11_261 dX11_done_40 rfl rfl ?_
  exact zB_vret rfl dX11_done_43 (⟨rfl, rfl, rfl⟩)
theorem ct_rDrop (g : zm_G) (gi : zm_I) (gl : zm_J) (r : Nat) {h : Nat} (hh : gi 87 53 = nI (h + 1)) (hh2 : h < 100)  : zC_i g yX11_drop mX11_drop 0 [.ref 87] zSH gi gl (zRT r) (fun z gi' gl' gr' => z = gi 119 h ∧ gi' = zs gi 87 53 (nI h) ∧ gl' = gl ∧ gr' = zRT r) := by
  refine zC_i_of [some (.ref 87)] (by decide) rfl rfl (Nat.le_of_ble_eq_true rfl) (fun x => ?_)
  refine zA_aload_0 dX11_drop_0 ?_
  refine zA_dup dX11_drop_1 rfl ?_
  refine zA_getI (v := (nI (h + 1))) sh_87 fX11_261 dX11_drop_2 rfl hh ?_
  refine zA_iconst (nI 1) dX11_drop_5 ic_1 ?_
  refine zA_isubN dX11_drop_6 (by omega) ?_
  rw [show h + 1 - 1 = h by omega]
  refine zS_putI sh_87 fX11_261 dX11_drop_7 rfl rfl ?_
  refine zA_aload_0 dX11_drop_10 ?_
  refine zA_getR sh_87 fX11_108 dX11_drop_11 rfl (rt_87_52 _) ?_
  refine zA_aload_0 dX11_drop_14 ?_
  refine zA_getI (v := (nI h)) sh_87 fX11_261 dX11_drop_15 rfl rfl ?_
  refine zA_iald (v := (gi 119 h)) h sh_119 dX11_drop_18 rfl (by omega) (by decide) rfl ?_
  exact zB_iret rfl dX11_drop_19 (⟨rfl, rfl, rfl, rfl⟩)
theorem ct_rWaitFor (g : zm_G) (gi : zm_I) (gl : zm_J) (r : Nat) {s : Nat} (hs : gi 87 51 = nI s) (hs2 : s < 100) (k a : Int32)  : zC_v g yX11_waitFor mX11_waitFor 0 [.ref 87, .int k, .int a] zSH gi gl (zRT r) (fun gi' gl' gr' => gi' = rWfM gi s k a ∧ gl' = gl ∧ gr' = zRT r) := by
  refine zC_v_of [some (.ref 87), some (.int k), some (.int a)] (by decide) rfl rfl (Nat.le_of_ble_eq_true rfl) (fun x => ?_)
  refine zA_aload_0 dX11_waitFor_0 ?_
  refine zA_getR sh_87 fX11_102 dX11_waitFor_1 rfl (rt_87_49 _) ?_
  refine zA_aload_0 dX11_waitFor_4 ?_
  refine zA_getI (v := (nI s)) sh_87 fX11_264 dX11_waitFor_5 rfl hs ?_
  refine zA_iload_1 dX11_waitFor_8 ?_
  refine zS_iast s sh_117 dX11_waitFor_9 rfl (by omega) (by decide) ?_
  refine zA_aload_0 dX11_waitFor_10 ?_
  refine zA_getR sh_87 fX11_105 dX11_waitFor_11 rfl (rt_87_50 _) ?_
  refine zA_aload_0 dX11_waitFor_14 ?_
  refine zA_getI (v := (nI s)) sh_87 fX11_264 dX11_waitFor_15 rfl hs ?_
  refine zA_iload_2 dX11_waitFor_18 ?_
  refine zS_iast s sh_118 dX11_waitFor_19 rfl (by omega) (by decide) ?_
  refine zA_aload_0 dX11_waitFor_20 ?_
  refine zA_dup dX11_waitFor_21 rfl ?_
  refine zA_getI (v := (nI s)) sh_87 fX11_264 dX11_waitFor_22 rfl hs ?_
  refine zA_iconst (nI 1) dX11_waitFor_25 ic_1 ?_
  refine zA_iaddN dX11_waitFor_26 ?_
  refine zS_putI sh_87 fX11_264 dX11_waitFor_27 rfl rfl ?_
  exact zB_vret rfl dX11_waitFor_30 (⟨rfl, rfl, rfl⟩)
def rSn (gi : zm_I) : Int32 := if gi 87 33 = nI 1 then (if gi 87 34 = nI 8 then nI 14 else if gi 87 34 = nI 7 then nI 15 else -1) else if gi 87 33 = nI 3 then (if gi 87 34 < nI 12 then gi 87 34 else -1) else -1
theorem ct_rSignNow (g : zm_G) (gi : zm_I) (gl : zm_J) (r : Nat)  : zC_i g yX11_signNow mX11_signNow 0 [.ref 87] zSH gi gl (zRT r) (fun z gi' gl' gr' => z = rSn gi ∧ gi' = gi ∧ gl' = gl ∧ gr' = zRT r) := by
  refine zC_i_of [some (.ref 87)] (by decide) rfl rfl (Nat.le_of_ble_eq_true rfl) (fun x => ?_)
  refine zA_aload_0 dX11_signNow_0 ?_
  refine zA_getI (v := (gi 87 33)) sh_87 fX11_231 dX11_signNow_1 rfl rfl ?_
  refine zA_iconst (nI 1) dX11_signNow_4 ic_1 ?_
  refine zA_icmp_ne 38 dX11_signNow_5 (by decide) (fun h1 => ?_) (fun h1 => ?_)
  · refine zA_aload_0 dX11_signNow_38 ?_
    refine zA_getI (v := (gi 87 33)) sh_87 fX11_231 dX11_signNow_39 rfl rfl ?_
    refine zA_iconst (nI 3) dX11_signNow_42 ic_3 ?_
    refine zA_icmp_ne 62 dX11_signNow_43 (by decide) (fun h2 => ?_) (fun h2 => ?_)
    · refine zA_iconst (-1) dX11_signNow_62 ic_m1 ?_
      exact zB_iret rfl dX11_signNow_63 (⟨by unfold rSn; rw [if_neg h1, if_neg h2], rfl, rfl, rfl⟩)
    · refine zA_aload_0 dX11_signNow_46 ?_
      refine zA_getI (v := (gi 87 34)) sh_87 fX11_241 dX11_signNow_47 rfl rfl ?_
      refine zA_bipush (nI 12) dX11_signNow_50 bc_12 ?_
      refine zA_icmp_ge 62 dX11_signNow_52 (by decide) (fun h3 => ?_) (fun h3 => ?_)
      · refine zA_iconst (-1) dX11_signNow_62 ic_m1 ?_
        exact zB_iret rfl dX11_signNow_63 (⟨by unfold rSn; rw [if_neg h1, if_pos h2, if_neg (Int32.not_lt.mpr h3)], rfl, rfl, rfl⟩)
      · refine zA_aload_0 dX11_signNow_55 ?_
        refine zA_getI (v := (gi 87 34)) sh_87 fX11_241 dX11_signNow_56 rfl rfl ?_
        refine zA_goto 63 dX11_signNow_59 (by decide) ?_
        exact zB_iret rfl dX11_signNow_63 (⟨by unfold rSn; rw [if_neg h1, if_pos h2, if_pos (Int32.not_le.mp h3)], rfl, rfl, rfl⟩)
  · refine zA_aload_0 dX11_signNow_8 ?_
    refine zA_getI (v := (gi 87 34)) sh_87 fX11_241 dX11_signNow_9 rfl rfl ?_
    refine zA_bipush (nI 8) dX11_signNow_12 bc_8 ?_
    refine zA_icmp_ne 22 dX11_signNow_14 (by decide) (fun h2 => ?_) (fun h2 => ?_)
    · refine zA_aload_0 dX11_signNow_22 ?_
      refine zA_getI (v := (gi 87 34)) sh_87 fX11_241 dX11_signNow_23 rfl rfl ?_
      refine zA_bipush (nI 7) dX11_signNow_26 bc_7 ?_
      refine zA_icmp_ne 36 dX11_signNow_28 (by decide) (fun h3 => ?_) (fun h3 => ?_)
      · refine zA_iconst (-1) dX11_signNow_36 ic_m1 ?_
        exact zB_iret rfl dX11_signNow_37 (⟨by unfold rSn; rw [if_pos h1, if_neg h2, if_neg h3], rfl, rfl, rfl⟩)
      · refine zA_bipush (nI 15) dX11_signNow_31 bc_15 ?_
        refine zA_goto 37 dX11_signNow_33 (by decide) ?_
        exact zB_iret rfl dX11_signNow_37 (⟨by unfold rSn; rw [if_pos h1, if_neg h2, if_pos h3], rfl, rfl, rfl⟩)
    · refine zA_bipush (nI 14) dX11_signNow_17 bc_14 ?_
      refine zA_goto 37 dX11_signNow_19 (by decide) ?_
      exact zB_iret rfl dX11_signNow_37 (⟨by unfold rSn; rw [if_pos h1, if_pos h2], rfl, rfl, rfl⟩)
def rPl (gi : zm_I) : zm_I := (zs (zs (zs (zs (zs (zs (zs (zs (zs (zs (zs (zs (zs (zs (zs (zs gi 108 0 ((nI 0))) 108 1 ((nI 0))) 108 2 ((nI 0))) 108 3 ((nI 0))) 108 4 ((nI 0))) 108 5 ((nI 0))) 108 6 ((nI 0))) 116 5 ((nI 0))) 116 6 ((nI 0))) 116 7 ((nI 0))) 116 8 ((nI 0))) 116 9 ((nI 0))) 107 2 ((nI 600))) 107 3 ((nI 5))) 87 47 ((nI 0))) 87 48 ((nI 0)))
theorem ct_rPlain (g : zm_G) (gi : zm_I) (gl : zm_J) (r : Nat)  : zC_v g yX11_plain mX11_plain 0 [.ref 87] zSH gi gl (zRT r) (fun gi' gl' gr' => gi' = rPl gi ∧ gl' = gl ∧ gr' = zRT r) := by
  refine zC_v_of [some (.ref 87), none] (by decide) rfl rfl (Nat.le_of_ble_eq_true rfl) (fun x => ?_)
  refine zA_iconst (nI 0) dX11_plain_0 ic_0 ?_
  refine zA_istore_1 dX11_plain_1 rfl ?_
  refine zA_iload_1 dX11_plain_2 ?_
  refine zA_bipush (nI 7) dX11_plain_3 bc_7 ?_
  refine zA_icmp_geN 21 dX11_plain_5 (by decide) (by decide) (by decide) (fun hh => absurd hh (by decide)) (fun _ => ?_)
  refine zA_aload_0 dX11_plain_8 ?_
  refine zA_getR sh_87 fX11_75 dX11_plain_9 rfl (rt_87_37 _) ?_
  refine zA_iload_1 dX11_plain_12 ?_
  refine zA_iconst (nI 0) dX11_plain_13 ic_0 ?_
  refine zS_zast 0 sh_108 dX11_plain_14 rfl (by decide) (by decide) (by decide) ?_
  refine zA_iinc_1 (v := nI (0 + 1)) dX11_plain_15 (zn_inc _) rfl ?_
  refine zA_goto 2 dX11_plain_18 (by decide) ?_
  refine zA_iload_1 dX11_plain_2 ?_
  refine zA_bipush (nI 7) dX11_plain_3 bc_7 ?_
  refine zA_icmp_geN 21 dX11_plain_5 (by decide) (by decide) (by decide) (fun hh => absurd hh (by decide)) (fun _ => ?_)
  refine zA_aload_0 dX11_plain_8 ?_
  refine zA_getR sh_87 fX11_75 dX11_plain_9 rfl (rt_87_37 _) ?_
  refine zA_iload_1 dX11_plain_12 ?_
  refine zA_iconst (nI 0) dX11_plain_13 ic_0 ?_
  refine zS_zast 1 sh_108 dX11_plain_14 rfl (by decide) (by decide) (by decide) ?_
  refine zA_iinc_1 (v := nI (1 + 1)) dX11_plain_15 (zn_inc _) rfl ?_
  refine zA_goto 2 dX11_plain_18 (by decide) ?_
  refine zA_iload_1 dX11_plain_2 ?_
  refine zA_bipush (nI 7) dX11_plain_3 bc_7 ?_
  refine zA_icmp_geN 21 dX11_plain_5 (by decide) (by decide) (by decide) (fun hh => absurd hh (by decide)) (fun _ => ?_)
  refine zA_aload_0 dX11_plain_8 ?_
  refine zA_getR sh_87 fX11_75 dX11_plain_9 rfl (rt_87_37 _) ?_
  refine zA_iload_1 dX11_plain_12 ?_
  refine zA_iconst (nI 0) dX11_plain_13 ic_0 ?_
  refine zS_zast 2 sh_108 dX11_plain_14 rfl (by decide) (by decide) (by decide) ?_
  refine zA_iinc_1 (v := nI (2 + 1)) dX11_plain_15 (zn_inc _) rfl ?_
  refine zA_goto 2 dX11_plain_18 (by decide) ?_
  refine zA_iload_1 dX11_plain_2 ?_
  refine zA_bipush (nI 7) dX11_plain_3 bc_7 ?_
  refine zA_icmp_geN 21 dX11_plain_5 (by decide) (by decide) (by decide) (fun hh => absurd hh (by decide)) (fun _ => ?_)
  refine zA_aload_0 dX11_plain_8 ?_
  refine zA_getR sh_87 fX11_75 dX11_plain_9 rfl (rt_87_37 _) ?_
  refine zA_iload_1 dX11_plain_12 ?_
  refine zA_iconst (nI 0) dX11_plain_13 ic_0 ?_
  refine zS_zast 3 sh_108 dX11_plain_14 rfl (by decide) (by decide) (by decide) ?_
  refine zA_iinc_1 (v := nI (3 + 1)) dX11_plain_15 (zn_inc _) rfl ?_
  refine zA_goto 2 dX11_plain_18 (by decide) ?_
  refine zA_iload_1 dX11_plain_2 ?_
  refine zA_bipush (nI 7) dX11_plain_3 bc_7 ?_
  refine zA_icmp_geN 21 dX11_plain_5 (by decide) (by decide) (by decide) (fun hh => absurd hh (by decide)) (fun _ => ?_)
  refine zA_aload_0 dX11_plain_8 ?_
  refine zA_getR sh_87 fX11_75 dX11_plain_9 rfl (rt_87_37 _) ?_
  refine zA_iload_1 dX11_plain_12 ?_
  refine zA_iconst (nI 0) dX11_plain_13 ic_0 ?_
  refine zS_zast 4 sh_108 dX11_plain_14 rfl (by decide) (by decide) (by decide) ?_
  refine zA_iinc_1 (v := nI (4 + 1)) dX11_plain_15 (zn_inc _) rfl ?_
  refine zA_goto 2 dX11_plain_18 (by decide) ?_
  refine zA_iload_1 dX11_plain_2 ?_
  refine zA_bipush (nI 7) dX11_plain_3 bc_7 ?_
  refine zA_icmp_geN 21 dX11_plain_5 (by decide) (by decide) (by decide) (fun hh => absurd hh (by decide)) (fun _ => ?_)
  refine zA_aload_0 dX11_plain_8 ?_
  refine zA_getR sh_87 fX11_75 dX11_plain_9 rfl (rt_87_37 _) ?_
  refine zA_iload_1 dX11_plain_12 ?_
  refine zA_iconst (nI 0) dX11_plain_13 ic_0 ?_
  refine zS_zast 5 sh_108 dX11_plain_14 rfl (by decide) (by decide) (by decide) ?_
  refine zA_iinc_1 (v := nI (5 + 1)) dX11_plain_15 (zn_inc _) rfl ?_
  refine zA_goto 2 dX11_plain_18 (by decide) ?_
  refine zA_iload_1 dX11_plain_2 ?_
  refine zA_bipush (nI 7) dX11_plain_3 bc_7 ?_
  refine zA_icmp_geN 21 dX11_plain_5 (by decide) (by decide) (by decide) (fun hh => absurd hh (by decide)) (fun _ => ?_)
  refine zA_aload_0 dX11_plain_8 ?_
  refine zA_getR sh_87 fX11_75 dX11_plain_9 rfl (rt_87_37 _) ?_
  refine zA_iload_1 dX11_plain_12 ?_
  refine zA_iconst (nI 0) dX11_plain_13 ic_0 ?_
  refine zS_zast 6 sh_108 dX11_plain_14 rfl (by decide) (by decide) (by decide) ?_
  refine zA_iinc_1 (v := nI (6 + 1)) dX11_plain_15 (zn_inc _) rfl ?_
  refine zA_goto 2 dX11_plain_18 (by decide) ?_
  refine zA_iload_1 dX11_plain_2 ?_
  refine zA_bipush (nI 7) dX11_plain_3 bc_7 ?_
  refine zA_icmp_geN 21 dX11_plain_5 (by decide) (by decide) (by decide) (fun _ => ?_) (fun hh => absurd hh (by decide))
  refine zA_iconst (nI 5) dX11_plain_21 ic_5 ?_
  refine zA_istore_1 dX11_plain_22 rfl ?_
  refine zA_iload_1 dX11_plain_23 ?_
  refine zA_bipush (nI 10) dX11_plain_24 bc_10 ?_
  refine zA_icmp_geN 42 dX11_plain_26 (by decide) (by decide) (by decide) (fun hh => absurd hh (by decide)) (fun _ => ?_)
  refine zA_aload_0 dX11_plain_29 ?_
  refine zA_getR sh_87 fX11_99 dX11_plain_30 rfl (rt_87_45 _) ?_
  refine zA_iload_1 dX11_plain_33 ?_
  refine zA_iconst (nI 0) dX11_plain_34 ic_0 ?_
  refine zS_iast 5 sh_116 dX11_plain_35 rfl (by decide) (by decide) ?_
  refine zA_iinc_1 (v := nI (5 + 1)) dX11_plain_36 (zn_inc _) rfl ?_
  refine zA_goto 23 dX11_plain_39 (by decide) ?_
  refine zA_iload_1 dX11_plain_23 ?_
  refine zA_bipush (nI 10) dX11_plain_24 bc_10 ?_
  refine zA_icmp_geN 42 dX11_plain_26 (by decide) (by decide) (by decide) (fun hh => absurd hh (by decide)) (fun _ => ?_)
  refine zA_aload_0 dX11_plain_29 ?_
  refine zA_getR sh_87 fX11_99 dX11_plain_30 rfl (rt_87_45 _) ?_
  refine zA_iload_1 dX11_plain_33 ?_
  refine zA_iconst (nI 0) dX11_plain_34 ic_0 ?_
  refine zS_iast 6 sh_116 dX11_plain_35 rfl (by decide) (by decide) ?_
  refine zA_iinc_1 (v := nI (6 + 1)) dX11_plain_36 (zn_inc _) rfl ?_
  refine zA_goto 23 dX11_plain_39 (by decide) ?_
  refine zA_iload_1 dX11_plain_23 ?_
  refine zA_bipush (nI 10) dX11_plain_24 bc_10 ?_
  refine zA_icmp_geN 42 dX11_plain_26 (by decide) (by decide) (by decide) (fun hh => absurd hh (by decide)) (fun _ => ?_)
  refine zA_aload_0 dX11_plain_29 ?_
  refine zA_getR sh_87 fX11_99 dX11_plain_30 rfl (rt_87_45 _) ?_
  refine zA_iload_1 dX11_plain_33 ?_
  refine zA_iconst (nI 0) dX11_plain_34 ic_0 ?_
  refine zS_iast 7 sh_116 dX11_plain_35 rfl (by decide) (by decide) ?_
  refine zA_iinc_1 (v := nI (7 + 1)) dX11_plain_36 (zn_inc _) rfl ?_
  refine zA_goto 23 dX11_plain_39 (by decide) ?_
  refine zA_iload_1 dX11_plain_23 ?_
  refine zA_bipush (nI 10) dX11_plain_24 bc_10 ?_
  refine zA_icmp_geN 42 dX11_plain_26 (by decide) (by decide) (by decide) (fun hh => absurd hh (by decide)) (fun _ => ?_)
  refine zA_aload_0 dX11_plain_29 ?_
  refine zA_getR sh_87 fX11_99 dX11_plain_30 rfl (rt_87_45 _) ?_
  refine zA_iload_1 dX11_plain_33 ?_
  refine zA_iconst (nI 0) dX11_plain_34 ic_0 ?_
  refine zS_iast 8 sh_116 dX11_plain_35 rfl (by decide) (by decide) ?_
  refine zA_iinc_1 (v := nI (8 + 1)) dX11_plain_36 (zn_inc _) rfl ?_
  refine zA_goto 23 dX11_plain_39 (by decide) ?_
  refine zA_iload_1 dX11_plain_23 ?_
  refine zA_bipush (nI 10) dX11_plain_24 bc_10 ?_
  refine zA_icmp_geN 42 dX11_plain_26 (by decide) (by decide) (by decide) (fun hh => absurd hh (by decide)) (fun _ => ?_)
  refine zA_aload_0 dX11_plain_29 ?_
  refine zA_getR sh_87 fX11_99 dX11_plain_30 rfl (rt_87_45 _) ?_
  refine zA_iload_1 dX11_plain_33 ?_
  refine zA_iconst (nI 0) dX11_plain_34 ic_0 ?_
  refine zS_iast 9 sh_116 dX11_plain_35 rfl (by decide) (by decide) ?_
  refine zA_iinc_1 (v := nI (9 + 1)) dX11_plain_36 (zn_inc _) rfl ?_
  refine zA_goto 23 dX11_plain_39 (by decide) ?_
  refine zA_iload_1 dX11_plain_23 ?_
  refine zA_bipush (nI 10) dX11_plain_24 bc_10 ?_
  refine zA_icmp_geN 42 dX11_plain_26 (by decide) (by decide) (by decide) (fun _ => ?_) (fun hh => absurd hh (by decide))
  refine zA_aload_0 dX11_plain_42 ?_
  refine zA_getR sh_87 fX11_72 dX11_plain_43 rfl (rt_87_36 _) ?_
  refine zA_iconst (nI 2) dX11_plain_46 ic_2 ?_
  refine zA_sipush (nI 600) dX11_plain_47 sc_600 ?_
  refine zS_iast 2 sh_107 dX11_plain_50 rfl (by decide) (by decide) ?_
  refine zA_aload_0 dX11_plain_51 ?_
  refine zA_getR sh_87 fX11_72 dX11_plain_52 rfl (rt_87_36 _) ?_
  refine zA_iconst (nI 3) dX11_plain_55 ic_3 ?_
  refine zA_iconst (nI 5) dX11_plain_56 ic_5 ?_
  refine zS_iast 3 sh_107 dX11_plain_57 rfl (by decide) (by decide) ?_
  refine zA_aload_0 dX11_plain_58 ?_
  refine zA_iconst (nI 0) dX11_plain_59 ic_0 ?_
  refine zS_putI sh_87 fX11_252 dX11_plain_60 rfl rfl ?_
  refine zA_aload_0 dX11_plain_63 ?_
  refine zA_iconst (nI 0) dX11_plain_64 ic_0 ?_
  refine zS_putI sh_87 fX11_258 dX11_plain_65 rfl rfl ?_
  exact zB_vret rfl dX11_plain_68 (⟨rfl, rfl, rfl⟩)
def rKpS (M : zm_I) (k : Nat) : zm_I := zs (zs (zs (zs (zs M 110 k (M 110 (64 + k))) 111 k (M 111 (64 + k) - nI 64)) 112 k (M 112 (64 + k) - nI 64)) 113 k (M 113 (64 + k))) 114 k (M 114 (64 + k) - nI 64)
def rKp0 (gi : zm_I) (q : Nat) : zm_I := (zs (zs (zs (zs (zs (zs (zs (zs (zs (zs (zs (zs (zs (zs (zs (zs (zs (zs (zs (zs gi 107 0 ((gi 107 2))) 107 1 ((gi 107 3))) 109 0 ((gi 108 0))) 109 1 ((gi 108 1))) 109 2 ((gi 108 2))) 109 3 ((gi 108 3))) 109 4 ((gi 108 4))) 109 5 ((gi 108 5))) 109 6 ((gi 108 6))) 115 0 ((gi 115 5))) 116 0 ((gi 116 5))) 115 1 ((gi 115 6))) 116 1 ((gi 116 6))) 115 2 ((gi 115 7))) 116 2 ((gi 116 7))) 115 3 ((gi 115 8))) 116 3 ((gi 116 8))) 115 4 ((gi 115 9))) 116 4 ((gi 116 9))) 87 46 ((nI q)))
theorem ct_rKeep (g : zm_G) (gi : zm_I) (gl : zm_J) (r : Nat) {q : Nat} (hq : gi 87 47 = nI q) (hq64 : q ≤ 64) (hz : ∀ j, gi 108 j = 0 ∨ gi 108 j = 1)  : zC_v g yX11_keep mX11_keep 0 [.ref 87] zSH gi gl (zRT r) (fun gi' gl' gr' => gi' = zit rKpS (rKp0 gi q) q ∧ gl' = gl ∧ gr' = zRT r) := by
  refine zC_v_of [some (.ref 87), none] (by decide) rfl rfl (Nat.le_of_ble_eq_true rfl) (fun x => ?_)
  refine zA_aload_0 dX11_keep_0 ?_
  refine zA_getR sh_87 fX11_72 dX11_keep_1 rfl (rt_87_36 _) ?_
  refine zA_iconst (nI 0) dX11_keep_4 ic_0 ?_
  refine zA_aload_0 dX11_keep_5 ?_
  refine zA_getR sh_87 fX11_72 dX11_keep_6 rfl (rt_87_36 _) ?_
  refine zA_iconst (nI 2) dX11_keep_9 ic_2 ?_
  refine zA_iald (v := (gi 107 2)) 2 sh_107 dX11_keep_10 rfl (by decide) (by decide) rfl ?_
  refine zS_iast 0 sh_107 dX11_keep_11 rfl (by decide) (by decide) ?_
  refine zA_aload_0 dX11_keep_12 ?_
  refine zA_getR sh_87 fX11_72 dX11_keep_13 rfl (rt_87_36 _) ?_
  refine zA_iconst (nI 1) dX11_keep_16 ic_1 ?_
  refine zA_aload_0 dX11_keep_17 ?_
  refine zA_getR sh_87 fX11_72 dX11_keep_18 rfl (rt_87_36 _) ?_
  refine zA_iconst (nI 3) dX11_keep_21 ic_3 ?_
  refine zA_iald (v := (gi 107 3)) 3 sh_107 dX11_keep_22 rfl (by decide) (by decide) rfl ?_
  refine zS_iast 1 sh_107 dX11_keep_23 rfl (by decide) (by decide) ?_
  refine zA_iconst (nI 0) dX11_keep_24 ic_0 ?_
  refine zA_istore_1 dX11_keep_25 rfl ?_
  refine zA_iload_1 dX11_keep_26 ?_
  refine zA_bipush (nI 7) dX11_keep_27 bc_7 ?_
  refine zA_icmp_geN 50 dX11_keep_29 (by decide) (by decide) (by decide) (fun hh => absurd hh (by decide)) (fun _ => ?_)
  refine zA_aload_0 dX11_keep_32 ?_
  refine zA_getR sh_87 fX11_78 dX11_keep_33 rfl (rt_87_38 _) ?_
  refine zA_iload_1 dX11_keep_36 ?_
  refine zA_aload_0 dX11_keep_37 ?_
  refine zA_getR sh_87 fX11_75 dX11_keep_38 rfl (rt_87_37 _) ?_
  refine zA_iload_1 dX11_keep_41 ?_
  refine zA_zald (v := (gi 108 0)) 0 sh_108 dX11_keep_42 rfl (by decide) (by decide) rfl ?_
  refine zS_zast 0 sh_109 dX11_keep_43 rfl (by decide) (by decide) (hz _) ?_
  refine zA_iinc_1 (v := nI (0 + 1)) dX11_keep_44 (zn_inc _) rfl ?_
  refine zA_goto 26 dX11_keep_47 (by decide) ?_
  refine zA_iload_1 dX11_keep_26 ?_
  refine zA_bipush (nI 7) dX11_keep_27 bc_7 ?_
  refine zA_icmp_geN 50 dX11_keep_29 (by decide) (by decide) (by decide) (fun hh => absurd hh (by decide)) (fun _ => ?_)
  refine zA_aload_0 dX11_keep_32 ?_
  refine zA_getR sh_87 fX11_78 dX11_keep_33 rfl (rt_87_38 _) ?_
  refine zA_iload_1 dX11_keep_36 ?_
  refine zA_aload_0 dX11_keep_37 ?_
  refine zA_getR sh_87 fX11_75 dX11_keep_38 rfl (rt_87_37 _) ?_
  refine zA_iload_1 dX11_keep_41 ?_
  refine zA_zald (v := (gi 108 1)) 1 sh_108 dX11_keep_42 rfl (by decide) (by decide) rfl ?_
  refine zS_zast 1 sh_109 dX11_keep_43 rfl (by decide) (by decide) (hz _) ?_
  refine zA_iinc_1 (v := nI (1 + 1)) dX11_keep_44 (zn_inc _) rfl ?_
  refine zA_goto 26 dX11_keep_47 (by decide) ?_
  refine zA_iload_1 dX11_keep_26 ?_
  refine zA_bipush (nI 7) dX11_keep_27 bc_7 ?_
  refine zA_icmp_geN 50 dX11_keep_29 (by decide) (by decide) (by decide) (fun hh => absurd hh (by decide)) (fun _ => ?_)
  refine zA_aload_0 dX11_keep_32 ?_
  refine zA_getR sh_87 fX11_78 dX11_keep_33 rfl (rt_87_38 _) ?_
  refine zA_iload_1 dX11_keep_36 ?_
  refine zA_aload_0 dX11_keep_37 ?_
  refine zA_getR sh_87 fX11_75 dX11_keep_38 rfl (rt_87_37 _) ?_
  refine zA_iload_1 dX11_keep_41 ?_
  refine zA_zald (v := (gi 108 2)) 2 sh_108 dX11_keep_42 rfl (by decide) (by decide) rfl ?_
  refine zS_zast 2 sh_109 dX11_keep_43 rfl (by decide) (by decide) (hz _) ?_
  refine zA_iinc_1 (v := nI (2 + 1)) dX11_keep_44 (zn_inc _) rfl ?_
  refine zA_goto 26 dX11_keep_47 (by decide) ?_
  refine zA_iload_1 dX11_keep_26 ?_
  refine zA_bipush (nI 7) dX11_keep_27 bc_7 ?_
  refine zA_icmp_geN 50 dX11_keep_29 (by decide) (by decide) (by decide) (fun hh => absurd hh (by decide)) (fun _ => ?_)
  refine zA_aload_0 dX11_keep_32 ?_
  refine zA_getR sh_87 fX11_78 dX11_keep_33 rfl (rt_87_38 _) ?_
  refine zA_iload_1 dX11_keep_36 ?_
  refine zA_aload_0 dX11_keep_37 ?_
  refine zA_getR sh_87 fX11_75 dX11_keep_38 rfl (rt_87_37 _) ?_
  refine zA_iload_1 dX11_keep_41 ?_
  refine zA_zald (v := (gi 108 3)) 3 sh_108 dX11_keep_42 rfl (by decide) (by decide) rfl ?_
  refine zS_zast 3 sh_109 dX11_keep_43 rfl (by decide) (by decide) (hz _) ?_
  refine zA_iinc_1 (v := nI (3 + 1)) dX11_keep_44 (zn_inc _) rfl ?_
  refine zA_goto 26 dX11_keep_47 (by decide) ?_
  refine zA_iload_1 dX11_keep_26 ?_
  refine zA_bipush (nI 7) dX11_keep_27 bc_7 ?_
  refine zA_icmp_geN 50 dX11_keep_29 (by decide) (by decide) (by decide) (fun hh => absurd hh (by decide)) (fun _ => ?_)
  refine zA_aload_0 dX11_keep_32 ?_
  refine zA_getR sh_87 fX11_78 dX11_keep_33 rfl (rt_87_38 _) ?_
  refine zA_iload_1 dX11_keep_36 ?_
  refine zA_aload_0 dX11_keep_37 ?_
  refine zA_getR sh_87 fX11_75 dX11_keep_38 rfl (rt_87_37 _) ?_
  refine zA_iload_1 dX11_keep_41 ?_
  refine zA_zald (v := (gi 108 4)) 4 sh_108 dX11_keep_42 rfl (by decide) (by decide) rfl ?_
  refine zS_zast 4 sh_109 dX11_keep_43 rfl (by decide) (by decide) (hz _) ?_
  refine zA_iinc_1 (v := nI (4 + 1)) dX11_keep_44 (zn_inc _) rfl ?_
  refine zA_goto 26 dX11_keep_47 (by decide) ?_
  refine zA_iload_1 dX11_keep_26 ?_
  refine zA_bipush (nI 7) dX11_keep_27 bc_7 ?_
  refine zA_icmp_geN 50 dX11_keep_29 (by decide) (by decide) (by decide) (fun hh => absurd hh (by decide)) (fun _ => ?_)
  refine zA_aload_0 dX11_keep_32 ?_
  refine zA_getR sh_87 fX11_78 dX11_keep_33 rfl (rt_87_38 _) ?_
  refine zA_iload_1 dX11_keep_36 ?_
  refine zA_aload_0 dX11_keep_37 ?_
  refine zA_getR sh_87 fX11_75 dX11_keep_38 rfl (rt_87_37 _) ?_
  refine zA_iload_1 dX11_keep_41 ?_
  refine zA_zald (v := (gi 108 5)) 5 sh_108 dX11_keep_42 rfl (by decide) (by decide) rfl ?_
  refine zS_zast 5 sh_109 dX11_keep_43 rfl (by decide) (by decide) (hz _) ?_
  refine zA_iinc_1 (v := nI (5 + 1)) dX11_keep_44 (zn_inc _) rfl ?_
  refine zA_goto 26 dX11_keep_47 (by decide) ?_
  refine zA_iload_1 dX11_keep_26 ?_
  refine zA_bipush (nI 7) dX11_keep_27 bc_7 ?_
  refine zA_icmp_geN 50 dX11_keep_29 (by decide) (by decide) (by decide) (fun hh => absurd hh (by decide)) (fun _ => ?_)
  refine zA_aload_0 dX11_keep_32 ?_
  refine zA_getR sh_87 fX11_78 dX11_keep_33 rfl (rt_87_38 _) ?_
  refine zA_iload_1 dX11_keep_36 ?_
  refine zA_aload_0 dX11_keep_37 ?_
  refine zA_getR sh_87 fX11_75 dX11_keep_38 rfl (rt_87_37 _) ?_
  refine zA_iload_1 dX11_keep_41 ?_
  refine zA_zald (v := (gi 108 6)) 6 sh_108 dX11_keep_42 rfl (by decide) (by decide) rfl ?_
  refine zS_zast 6 sh_109 dX11_keep_43 rfl (by decide) (by decide) (hz _) ?_
  refine zA_iinc_1 (v := nI (6 + 1)) dX11_keep_44 (zn_inc _) rfl ?_
  refine zA_goto 26 dX11_keep_47 (by decide) ?_
  refine zA_iload_1 dX11_keep_26 ?_
  refine zA_bipush (nI 7) dX11_keep_27 bc_7 ?_
  refine zA_icmp_geN 50 dX11_keep_29 (by decide) (by decide) (by decide) (fun _ => ?_) (fun hh => absurd hh (by decide))
  refine zA_iconst (nI 0) dX11_keep_50 ic_0 ?_
  refine zA_istore_1 dX11_keep_51 rfl ?_
  refine zA_iload_1 dX11_keep_52 ?_
  refine zA_iconst (nI 5) dX11_keep_53 ic_5 ?_
  refine zA_icmp_geN 91 dX11_keep_54 (by decide) (by decide) (by decide) (fun hh => absurd hh (by decide)) (fun _ => ?_)
  refine zA_aload_0 dX11_keep_57 ?_
  refine zA_getR sh_87 fX11_96 dX11_keep_58 rfl (rt_87_44 _) ?_
  refine zA_iload_1 dX11_keep_61 ?_
  refine zA_aload_0 dX11_keep_62 ?_
  refine zA_getR sh_87 fX11_96 dX11_keep_63 rfl (rt_87_44 _) ?_
  refine zA_iconst (nI 5) dX11_keep_66 ic_5 ?_
  refine zA_iload_1 dX11_keep_67 ?_
  refine zA_iaddN dX11_keep_68 ?_
  refine zA_iald (v := (gi 115 5)) 5 sh_115 dX11_keep_69 rfl (by decide) (by decide) rfl ?_
  refine zS_iast 0 sh_115 dX11_keep_70 rfl (by decide) (by decide) ?_
  refine zA_aload_0 dX11_keep_71 ?_
  refine zA_getR sh_87 fX11_99 dX11_keep_72 rfl (rt_87_45 _) ?_
  refine zA_iload_1 dX11_keep_75 ?_
  refine zA_aload_0 dX11_keep_76 ?_
  refine zA_getR sh_87 fX11_99 dX11_keep_77 rfl (rt_87_45 _) ?_
  refine zA_iconst (nI 5) dX11_keep_80 ic_5 ?_
  refine zA_iload_1 dX11_keep_81 ?_
  refine zA_iaddN dX11_keep_82 ?_
  refine zA_iald (v := (gi 116 5)) 5 sh_116 dX11_keep_83 rfl (by decide) (by decide) rfl ?_
  refine zS_iast 0 sh_116 dX11_keep_84 rfl (by decide) (by decide) ?_
  refine zA_iinc_1 (v := nI (0 + 1)) dX11_keep_85 (zn_inc _) rfl ?_
  refine zA_goto 52 dX11_keep_88 (by decide) ?_
  refine zA_iload_1 dX11_keep_52 ?_
  refine zA_iconst (nI 5) dX11_keep_53 ic_5 ?_
  refine zA_icmp_geN 91 dX11_keep_54 (by decide) (by decide) (by decide) (fun hh => absurd hh (by decide)) (fun _ => ?_)
  refine zA_aload_0 dX11_keep_57 ?_
  refine zA_getR sh_87 fX11_96 dX11_keep_58 rfl (rt_87_44 _) ?_
  refine zA_iload_1 dX11_keep_61 ?_
  refine zA_aload_0 dX11_keep_62 ?_
  refine zA_getR sh_87 fX11_96 dX11_keep_63 rfl (rt_87_44 _) ?_
  refine zA_iconst (nI 5) dX11_keep_66 ic_5 ?_
  refine zA_iload_1 dX11_keep_67 ?_
  refine zA_iaddN dX11_keep_68 ?_
  refine zA_iald (v := (gi 115 6)) 6 sh_115 dX11_keep_69 rfl (by decide) (by decide) rfl ?_
  refine zS_iast 1 sh_115 dX11_keep_70 rfl (by decide) (by decide) ?_
  refine zA_aload_0 dX11_keep_71 ?_
  refine zA_getR sh_87 fX11_99 dX11_keep_72 rfl (rt_87_45 _) ?_
  refine zA_iload_1 dX11_keep_75 ?_
  refine zA_aload_0 dX11_keep_76 ?_
  refine zA_getR sh_87 fX11_99 dX11_keep_77 rfl (rt_87_45 _) ?_
  refine zA_iconst (nI 5) dX11_keep_80 ic_5 ?_
  refine zA_iload_1 dX11_keep_81 ?_
  refine zA_iaddN dX11_keep_82 ?_
  refine zA_iald (v := (gi 116 6)) 6 sh_116 dX11_keep_83 rfl (by decide) (by decide) rfl ?_
  refine zS_iast 1 sh_116 dX11_keep_84 rfl (by decide) (by decide) ?_
  refine zA_iinc_1 (v := nI (1 + 1)) dX11_keep_85 (zn_inc _) rfl ?_
  refine zA_goto 52 dX11_keep_88 (by decide) ?_
  refine zA_iload_1 dX11_keep_52 ?_
  refine zA_iconst (nI 5) dX11_keep_53 ic_5 ?_
  refine zA_icmp_geN 91 dX11_keep_54 (by decide) (by decide) (by decide) (fun hh => absurd hh (by decide)) (fun _ => ?_)
  refine zA_aload_0 dX11_keep_57 ?_
  refine zA_getR sh_87 fX11_96 dX11_keep_58 rfl (rt_87_44 _) ?_
  refine zA_iload_1 dX11_keep_61 ?_
  refine zA_aload_0 dX11_keep_62 ?_
  refine zA_getR sh_87 fX11_96 dX11_keep_63 rfl (rt_87_44 _) ?_
  refine zA_iconst (nI 5) dX11_keep_66 ic_5 ?_
  refine zA_iload_1 dX11_keep_67 ?_
  refine zA_iaddN dX11_keep_68 ?_
  refine zA_iald (v := (gi 115 7)) 7 sh_115 dX11_keep_69 rfl (by decide) (by decide) rfl ?_
  refine zS_iast 2 sh_115 dX11_keep_70 rfl (by decide) (by decide) ?_
  refine zA_aload_0 dX11_keep_71 ?_
  refine zA_getR sh_87 fX11_99 dX11_keep_72 rfl (rt_87_45 _) ?_
  refine zA_iload_1 dX11_keep_75 ?_
  refine zA_aload_0 dX11_keep_76 ?_
  refine zA_getR sh_87 fX11_99 dX11_keep_77 rfl (rt_87_45 _) ?_
  refine zA_iconst (nI 5) dX11_keep_80 ic_5 ?_
  refine zA_iload_1 dX11_keep_81 ?_
  refine zA_iaddN dX11_keep_82 ?_
  refine zA_iald (v := (gi 116 7)) 7 sh_116 dX11_keep_83 rfl (by decide) (by decide) rfl ?_
  refine zS_iast 2 sh_116 dX11_keep_84 rfl (by decide) (by decide) ?_
  refine zA_iinc_1 (v := nI (2 + 1)) dX11_keep_85 (zn_inc _) rfl ?_
  refine zA_goto 52 dX11_keep_88 (by decide) ?_
  refine zA_iload_1 dX11_keep_52 ?_
  refine zA_iconst (nI 5) dX11_keep_53 ic_5 ?_
  refine zA_icmp_geN 91 dX11_keep_54 (by decide) (by decide) (by decide) (fun hh => absurd hh (by decide)) (fun _ => ?_)
  refine zA_aload_0 dX11_keep_57 ?_
  refine zA_getR sh_87 fX11_96 dX11_keep_58 rfl (rt_87_44 _) ?_
  refine zA_iload_1 dX11_keep_61 ?_
  refine zA_aload_0 dX11_keep_62 ?_
  refine zA_getR sh_87 fX11_96 dX11_keep_63 rfl (rt_87_44 _) ?_
  refine zA_iconst (nI 5) dX11_keep_66 ic_5 ?_
  refine zA_iload_1 dX11_keep_67 ?_
  refine zA_iaddN dX11_keep_68 ?_
  refine zA_iald (v := (gi 115 8)) 8 sh_115 dX11_keep_69 rfl (by decide) (by decide) rfl ?_
  refine zS_iast 3 sh_115 dX11_keep_70 rfl (by decide) (by decide) ?_
  refine zA_aload_0 dX11_keep_71 ?_
  refine zA_getR sh_87 fX11_99 dX11_keep_72 rfl (rt_87_45 _) ?_
  refine zA_iload_1 dX11_keep_75 ?_
  refine zA_aload_0 dX11_keep_76 ?_
  refine zA_getR sh_87 fX11_99 dX11_keep_77 rfl (rt_87_45 _) ?_
  refine zA_iconst (nI 5) dX11_keep_80 ic_5 ?_
  refine zA_iload_1 dX11_keep_81 ?_
  refine zA_iaddN dX11_keep_82 ?_
  refine zA_iald (v := (gi 116 8)) 8 sh_116 dX11_keep_83 rfl (by decide) (by decide) rfl ?_
  refine zS_iast 3 sh_116 dX11_keep_84 rfl (by decide) (by decide) ?_
  refine zA_iinc_1 (v := nI (3 + 1)) dX11_keep_85 (zn_inc _) rfl ?_
  refine zA_goto 52 dX11_keep_88 (by decide) ?_
  refine zA_iload_1 dX11_keep_52 ?_
  refine zA_iconst (nI 5) dX11_keep_53 ic_5 ?_
  refine zA_icmp_geN 91 dX11_keep_54 (by decide) (by decide) (by decide) (fun hh => absurd hh (by decide)) (fun _ => ?_)
  refine zA_aload_0 dX11_keep_57 ?_
  refine zA_getR sh_87 fX11_96 dX11_keep_58 rfl (rt_87_44 _) ?_
  refine zA_iload_1 dX11_keep_61 ?_
  refine zA_aload_0 dX11_keep_62 ?_
  refine zA_getR sh_87 fX11_96 dX11_keep_63 rfl (rt_87_44 _) ?_
  refine zA_iconst (nI 5) dX11_keep_66 ic_5 ?_
  refine zA_iload_1 dX11_keep_67 ?_
  refine zA_iaddN dX11_keep_68 ?_
  refine zA_iald (v := (gi 115 9)) 9 sh_115 dX11_keep_69 rfl (by decide) (by decide) rfl ?_
  refine zS_iast 4 sh_115 dX11_keep_70 rfl (by decide) (by decide) ?_
  refine zA_aload_0 dX11_keep_71 ?_
  refine zA_getR sh_87 fX11_99 dX11_keep_72 rfl (rt_87_45 _) ?_
  refine zA_iload_1 dX11_keep_75 ?_
  refine zA_aload_0 dX11_keep_76 ?_
  refine zA_getR sh_87 fX11_99 dX11_keep_77 rfl (rt_87_45 _) ?_
  refine zA_iconst (nI 5) dX11_keep_80 ic_5 ?_
  refine zA_iload_1 dX11_keep_81 ?_
  refine zA_iaddN dX11_keep_82 ?_
  refine zA_iald (v := (gi 116 9)) 9 sh_116 dX11_keep_83 rfl (by decide) (by decide) rfl ?_
  refine zS_iast 4 sh_116 dX11_keep_84 rfl (by decide) (by decide) ?_
  refine zA_iinc_1 (v := nI (4 + 1)) dX11_keep_85 (zn_inc _) rfl ?_
  refine zA_goto 52 dX11_keep_88 (by decide) ?_
  refine zA_iload_1 dX11_keep_52 ?_
  refine zA_iconst (nI 5) dX11_keep_53 ic_5 ?_
  refine zA_icmp_geN 91 dX11_keep_54 (by decide) (by decide) (by decide) (fun _ => ?_) (fun hh => absurd hh (by decide))
  refine zA_aload_0 dX11_keep_91 ?_
  refine zA_aload_0 dX11_keep_92 ?_
  refine zA_getI (v := (nI q)) sh_87 fX11_252 dX11_keep_93 rfl hq ?_
  refine zS_putI sh_87 fX11_326 dX11_keep_96 rfl rfl ?_
  refine zA_iconst (nI 0) dX11_keep_99 ic_0 ?_
  refine zA_istore_1 dX11_keep_100 rfl ?_
  refine zA_gi (gi2 := rKp0 gi q) rfl ?_
  have h46 : ∀ k, zit rKpS (rKp0 gi q) k 87 46 = nI q := fun k => by
    rw [zit_nq (fun M i => by unfold rKpS; rw [zs_nq (by decide), zs_nq (by decide), zs_nq (by decide), zs_nq (by decide), zs_nq (by decide)]) _ k]
    rfl
  have key : ∀ (m k : Nat), k + m = q → zB_v x g mX11_keep 0 zSH (fun gi' gl' gr' => gi' = zit rKpS (rKp0 gi q) q ∧ gl' = gl ∧ gr' = zRT r) 101 [some (.ref 87), some (.int (nI k))] [] ((zit rKpS (rKp0 gi q) k)) gl (zRT r) := by
    intro m
    induction m with
    | zero =>
      intro k hk
      refine zA_iload_1 dX11_keep_101 ?_
      refine zA_aload_0 dX11_keep_102 ?_
      refine zA_getI (v := (nI q)) sh_87 fX11_326 dX11_keep_103 rfl (h46 k) ?_
      refine zA_icmp_geN 199 dX11_keep_106 (by decide) (by omega) (by omega) (fun h => ?_) (fun h => ?_)
      · have e9 : k = q := by omega
        rw [e9]
        exact zB_vret rfl dX11_keep_199 (⟨rfl, rfl, rfl⟩)
      · exact absurd h (by omega)
    | succ m ih =>
      intro k hk
      have hn : zit rKpS (rKp0 gi q) (k + 1) = rKpS (zit rKpS (rKp0 gi q) k) k := rfl
      have ih2 := ih (k + 1) (by omega)
      have h47 := h46 k
      rw [hn] at ih2
      generalize zit rKpS (rKp0 gi q) k = M at ih2 h47 ⊢
      refine zA_iload_1 dX11_keep_101 ?_
      refine zA_aload_0 dX11_keep_102 ?_
      refine zA_getI (v := (nI q)) sh_87 fX11_326 dX11_keep_103 rfl h47 ?_
      refine zA_icmp_geN 199 dX11_keep_106 (by decide) (by omega) (by omega) (fun h => ?_) (fun h => ?_)
      · exact absurd h (by omega)
      · refine zA_aload_0 dX11_keep_109 ?_
        refine zA_getR sh_87 fX11_81 dX11_keep_110 rfl (rt_87_39 _) ?_
        refine zA_iload_1 dX11_keep_113 ?_
        refine zA_aload_0 dX11_keep_114 ?_
        refine zA_getR sh_87 fX11_81 dX11_keep_115 rfl (rt_87_39 _) ?_
        refine zA_bipush (nI 64) dX11_keep_118 bc_64 ?_
        refine zA_iload_1 dX11_keep_120 ?_
        refine zA_iaddN dX11_keep_121 ?_
        refine zA_iald (v := (M 110 (64 + k))) (64 + k) sh_110 dX11_keep_122 rfl (by omega) (by decide) rfl ?_
        refine zS_iast k sh_110 dX11_keep_123 rfl (by omega) (by decide) ?_
        refine zA_aload_0 dX11_keep_124 ?_
        refine zA_getR sh_87 fX11_84 dX11_keep_125 rfl (rt_87_40 _) ?_
        refine zA_iload_1 dX11_keep_128 ?_
        refine zA_aload_0 dX11_keep_129 ?_
        refine zA_getR sh_87 fX11_84 dX11_keep_130 rfl (rt_87_40 _) ?_
        refine zA_bipush (nI 64) dX11_keep_133 bc_64 ?_
        refine zA_iload_1 dX11_keep_135 ?_
        refine zA_iaddN dX11_keep_136 ?_
        refine zA_iald (v := (M 111 (64 + k))) (64 + k) sh_111 dX11_keep_137 rfl (by omega) (by decide) rfl ?_
        refine zA_bipush (nI 64) dX11_keep_138 bc_64 ?_
        refine zA_isub dX11_keep_140 ?_
        refine zS_iast k sh_111 dX11_keep_141 rfl (by omega) (by decide) ?_
        refine zA_aload_0 dX11_keep_142 ?_
        refine zA_getR sh_87 fX11_87 dX11_keep_143 rfl (rt_87_41 _) ?_
        refine zA_iload_1 dX11_keep_146 ?_
        refine zA_aload_0 dX11_keep_147 ?_
        refine zA_getR sh_87 fX11_87 dX11_keep_148 rfl (rt_87_41 _) ?_
        refine zA_bipush (nI 64) dX11_keep_151 bc_64 ?_
        refine zA_iload_1 dX11_keep_153 ?_
        refine zA_iaddN dX11_keep_154 ?_
        refine zA_iald (v := (M 112 (64 + k))) (64 + k) sh_112 dX11_keep_155 rfl (by omega) (by decide) rfl ?_
        refine zA_bipush (nI 64) dX11_keep_156 bc_64 ?_
        refine zA_isub dX11_keep_158 ?_
        refine zS_iast k sh_112 dX11_keep_159 rfl (by omega) (by decide) ?_
        refine zA_aload_0 dX11_keep_160 ?_
        refine zA_getR sh_87 fX11_90 dX11_keep_161 rfl (rt_87_42 _) ?_
        refine zA_iload_1 dX11_keep_164 ?_
        refine zA_aload_0 dX11_keep_165 ?_
        refine zA_getR sh_87 fX11_90 dX11_keep_166 rfl (rt_87_42 _) ?_
        refine zA_bipush (nI 64) dX11_keep_169 bc_64 ?_
        refine zA_iload_1 dX11_keep_171 ?_
        refine zA_iaddN dX11_keep_172 ?_
        refine zA_iald (v := (M 113 (64 + k))) (64 + k) sh_113 dX11_keep_173 rfl (by omega) (by decide) rfl ?_
        refine zS_iast k sh_113 dX11_keep_174 rfl (by omega) (by decide) ?_
        refine zA_aload_0 dX11_keep_175 ?_
        refine zA_getR sh_87 fX11_93 dX11_keep_176 rfl (rt_87_43 _) ?_
        refine zA_iload_1 dX11_keep_179 ?_
        refine zA_aload_0 dX11_keep_180 ?_
        refine zA_getR sh_87 fX11_93 dX11_keep_181 rfl (rt_87_43 _) ?_
        refine zA_bipush (nI 64) dX11_keep_184 bc_64 ?_
        refine zA_iload_1 dX11_keep_186 ?_
        refine zA_iaddN dX11_keep_187 ?_
        refine zA_iald (v := (M 114 (64 + k))) (64 + k) sh_114 dX11_keep_188 rfl (by omega) (by decide) rfl ?_
        refine zA_bipush (nI 64) dX11_keep_189 bc_64 ?_
        refine zA_isub dX11_keep_191 ?_
        refine zS_iast k sh_114 dX11_keep_192 rfl (by omega) (by decide) ?_
        refine zA_iinc_1 (v := nI (k + 1)) dX11_keep_193 (zn_inc _) rfl ?_
        refine zA_goto 101 dX11_keep_196 (by decide) ?_
        exact ih2
  exact key q 0 (by omega)
