def fFew (gi : zm_I) (a b s : Nat) : Int32 := if 1000000 ≤ gi (14 + s) (a * 8 + b) then -1 else gi (14 + s) (a * 8 + b)
theorem ct_fewestMinutes (g : zm_G) (gi : zm_I) (gl : zm_J) (r : Nat) {a b s : Nat} (ha : a < 8) (hb : b < 8) (hs : s < 4)  : zC_i g yX3_fewestMinutes mX3_fewestMinutes 0 [.ref 3, .int (nI a), .int (nI b), .int (nI s)] zSH gi gl (zRT r) (fun z gi' gl' gr' => z = fFew gi a b s ∧ gi' = gi ∧ gl' = gl ∧ gr' = zRT r) := by
  refine zC_i_of [some (.ref 3), some (.int (nI a)), some (.int (nI b)), some (.int (nI s)), none] (by decide) rfl rfl (Nat.le_of_ble_eq_true rfl) (fun x => ?_)
  refine zA_aload_0 dX3_fewestMinutes_0 ?_
  refine zA_getR sh_3 fX3_16 dX3_fewestMinutes_1 rfl (rt_3_1 _) ?_
  refine zA_iload_3 dX3_fewestMinutes_4 ?_
  refine zA_aald s sh_13 dX3_fewestMinutes_5 rfl (by omega) (by decide) (rtr_fe _ (by omega)) ?_
  refine zA_iload_1 dX3_fewestMinutes_6 ?_
  refine zA_bipush (nI 8) dX3_fewestMinutes_7 bc_8 ?_
  refine zA_imulN dX3_fewestMinutes_9 ?_
  refine zA_iload_2 dX3_fewestMinutes_10 ?_
  refine zA_iaddN dX3_fewestMinutes_11 ?_
  refine zA_iald (v := (gi (14 + s) ((a * 8) + b))) ((a * 8) + b) (shr_fe (by omega)) dX3_fewestMinutes_12 rfl (by omega) (by decide) rfl ?_
  refine zA_istore_4 dX3_fewestMinutes_13 rfl ?_
  refine zA_iload_4 dX3_fewestMinutes_15 ?_
  refine zA_ldc kX3_23 dX3_fewestMinutes_17 ?_
  refine zA_icmp_lt 26 dX3_fewestMinutes_19 (by decide) (fun h0 => ?_) (fun h0 => ?_)
  · refine zA_iload_4 dX3_fewestMinutes_26 ?_
    exact zB_iret rfl dX3_fewestMinutes_28 (⟨(if_neg (Int32.not_le.mpr h0)).symm, rfl, rfl, rfl⟩)
  · refine zA_iconst (-1) dX3_fewestMinutes_22 ic_m1 ?_
    refine zA_goto 28 dX3_fewestMinutes_23 (by decide) ?_
    exact zB_iret rfl dX3_fewestMinutes_28 (⟨(if_pos (Int32.not_lt.mp h0)).symm, rfl, rfl, rfl⟩)
def fVilRow (gi : zm_I) (V : Nat) (p s t c : Int32) : zm_I := zs (zs (zs (zs (zs (zs (zs (zs gi (5 + V) 0 p) (5 + V) 1 s) (5 + V) 2 t) (5 + V) 3 c) (5 + V) 4 (nI 50)) (5 + V) 5 (nI 50)) (5 + V) 6 (nI 50)) (5 + V) 7 (nI 50)
theorem ct_addVillage (g : zm_G) (gi : zm_I) (gl : zm_J) (r : Nat) {V : Nat} (hV : gi 3 3 = nI V) (hv : V < 8) (p s t c : Int32)  : zC_i g yX3_addVillage mX3_addVillage 0 [.ref 3, .int p, .int s, .int t, .int c] zSH gi gl (zRT r) (fun z gi' gl' gr' => z = nI V ∧ gi' = zs (fVilRow gi V p s t c) 3 3 (nI (V + 1)) ∧ gl' = gl ∧ gr' = zRT r) := by
  refine zC_i_of [some (.ref 3), some (.int p), some (.int s), some (.int t), some (.int c), none, none] (by decide) rfl rfl (Nat.le_of_ble_eq_true rfl) (fun x => ?_)
  refine zA_aload_0 dX3_addVillage_0 ?_
  refine zA_getR sh_3 fX3_11 dX3_addVillage_1 rfl (rt_3_0 _) ?_
  refine zA_aload_0 dX3_addVillage_4 ?_
  refine zA_getI (v := (nI V)) sh_3 fX3_30 dX3_addVillage_5 rfl hV ?_
  refine zA_aald V sh_4 dX3_addVillage_8 rfl (by omega) (by decide) (rtr_fa _ (by omega)) ?_
  refine zA_astore_5 dX3_addVillage_9 rfl ?_
  refine zA_aload_5 dX3_addVillage_11 ?_
  refine zA_iconst (nI 0) dX3_addVillage_13 ic_0 ?_
  refine zA_iload_1 dX3_addVillage_14 ?_
  refine zS_iast 0 (shr_fa (by omega)) dX3_addVillage_15 rfl (by decide) (by decide) ?_
  refine zA_aload_5 dX3_addVillage_16 ?_
  refine zA_iconst (nI 1) dX3_addVillage_18 ic_1 ?_
  refine zA_iload_2 dX3_addVillage_19 ?_
  refine zS_iast 1 (shr_fa (by omega)) dX3_addVillage_20 rfl (by decide) (by decide) ?_
  refine zA_aload_5 dX3_addVillage_21 ?_
  refine zA_iconst (nI 2) dX3_addVillage_23 ic_2 ?_
  refine zA_iload_3 dX3_addVillage_24 ?_
  refine zS_iast 2 (shr_fa (by omega)) dX3_addVillage_25 rfl (by decide) (by decide) ?_
  refine zA_aload_5 dX3_addVillage_26 ?_
  refine zA_iconst (nI 3) dX3_addVillage_28 ic_3 ?_
  refine zA_iload_4 dX3_addVillage_29 ?_
  refine zS_iast 3 (shr_fa (by omega)) dX3_addVillage_31 rfl (by decide) (by decide) ?_
  refine zA_iconst (nI 0) dX3_addVillage_32 ic_0 ?_
  refine zA_istore_6 dX3_addVillage_33 rfl ?_
  refine zA_iload_6 dX3_addVillage_35 ?_
  refine zA_iconst (nI 4) dX3_addVillage_37 ic_4 ?_
  refine zA_icmp_geN 56 dX3_addVillage_38 (by decide) (by decide) (by decide) (fun hh => absurd hh (by decide)) (fun _ => ?_)
  refine zA_aload_5 dX3_addVillage_41 ?_
  refine zA_iconst (nI 4) dX3_addVillage_43 ic_4 ?_
  refine zA_iload_6 dX3_addVillage_44 ?_
  refine zA_iaddN dX3_addVillage_46 ?_
  refine zA_bipush (nI 50) dX3_addVillage_47 bc_50 ?_
  refine zS_iast 4 (shr_fa (by omega)) dX3_addVillage_49 rfl (by decide) (by decide) ?_
  refine zA_iinc_6 (v := nI (0 + 1)) dX3_addVillage_50 (zn_inc _) rfl ?_
  refine zA_goto 35 dX3_addVillage_53 (by decide) ?_
  refine zA_iload_6 dX3_addVillage_35 ?_
  refine zA_iconst (nI 4) dX3_addVillage_37 ic_4 ?_
  refine zA_icmp_geN 56 dX3_addVillage_38 (by decide) (by decide) (by decide) (fun hh => absurd hh (by decide)) (fun _ => ?_)
  refine zA_aload_5 dX3_addVillage_41 ?_
  refine zA_iconst (nI 4) dX3_addVillage_43 ic_4 ?_
  refine zA_iload_6 dX3_addVillage_44 ?_
  refine zA_iaddN dX3_addVillage_46 ?_
  refine zA_bipush (nI 50) dX3_addVillage_47 bc_50 ?_
  refine zS_iast 5 (shr_fa (by omega)) dX3_addVillage_49 rfl (by decide) (by decide) ?_
  refine zA_iinc_6 (v := nI (1 + 1)) dX3_addVillage_50 (zn_inc _) rfl ?_
  refine zA_goto 35 dX3_addVillage_53 (by decide) ?_
  refine zA_iload_6 dX3_addVillage_35 ?_
  refine zA_iconst (nI 4) dX3_addVillage_37 ic_4 ?_
  refine zA_icmp_geN 56 dX3_addVillage_38 (by decide) (by decide) (by decide) (fun hh => absurd hh (by decide)) (fun _ => ?_)
  refine zA_aload_5 dX3_addVillage_41 ?_
  refine zA_iconst (nI 4) dX3_addVillage_43 ic_4 ?_
  refine zA_iload_6 dX3_addVillage_44 ?_
  refine zA_iaddN dX3_addVillage_46 ?_
  refine zA_bipush (nI 50) dX3_addVillage_47 bc_50 ?_
  refine zS_iast 6 (shr_fa (by omega)) dX3_addVillage_49 rfl (by decide) (by decide) ?_
  refine zA_iinc_6 (v := nI (2 + 1)) dX3_addVillage_50 (zn_inc _) rfl ?_
  refine zA_goto 35 dX3_addVillage_53 (by decide) ?_
  refine zA_iload_6 dX3_addVillage_35 ?_
  refine zA_iconst (nI 4) dX3_addVillage_37 ic_4 ?_
  refine zA_icmp_geN 56 dX3_addVillage_38 (by decide) (by decide) (by decide) (fun hh => absurd hh (by decide)) (fun _ => ?_)
  refine zA_aload_5 dX3_addVillage_41 ?_
  refine zA_iconst (nI 4) dX3_addVillage_43 ic_4 ?_
  refine zA_iload_6 dX3_addVillage_44 ?_
  refine zA_iaddN dX3_addVillage_46 ?_
  refine zA_bipush (nI 50) dX3_addVillage_47 bc_50 ?_
  refine zS_iast 7 (shr_fa (by omega)) dX3_addVillage_49 rfl (by decide) (by decide) ?_
  refine zA_iinc_6 (v := nI (3 + 1)) dX3_addVillage_50 (zn_inc _) rfl ?_
  refine zA_goto 35 dX3_addVillage_53 (by decide) ?_
  refine zA_iload_6 dX3_addVillage_35 ?_
  refine zA_iconst (nI 4) dX3_addVillage_37 ic_4 ?_
  refine zA_icmp_geN 56 dX3_addVillage_38 (by decide) (by decide) (by decide) (fun _ => ?_) (fun hh => absurd hh (by decide))
  refine zA_aload_0 dX3_addVillage_56 ?_
  refine zA_dup dX3_addVillage_57 rfl ?_
  refine zA_getI (v := (nI V)) sh_3 fX3_30 dX3_addVillage_58 rfl (by (repeat rw [zs_nq (by omega)]); exact hV) ?_
  refine zA_iconst (nI 1) dX3_addVillage_61 ic_1 ?_
  refine zA_iaddN dX3_addVillage_62 ?_
  refine zS_putI sh_3 fX3_30 dX3_addVillage_63 rfl rfl ?_
  refine zA_aload_0 dX3_addVillage_66 ?_
  refine zA_getI (v := (nI (V + 1))) sh_3 fX3_30 dX3_addVillage_67 rfl rfl ?_
  refine zA_iconst (nI 1) dX3_addVillage_70 ic_1 ?_
  refine zA_isubN dX3_addVillage_71 (by omega) ?_
  exact zB_iret rfl dX3_addVillage_72 (⟨rfl, rfl, rfl, rfl⟩)
abbrev zbit (x : Int32) (n : Nat) : Prop := (x >>> (nI n &&& 31)) &&& nI 1 = nI 1
theorem ct_isBroken (g : zm_G) (gi : zm_I) (gl : zm_J) (r : Nat) {v n : Nat} (hv : v < 3)  : zC_i g yX1_isBroken mX1_isBroken 0 [.ref 19, .int (nI v), .int (nI n)] zSH gi gl (zRT r) (fun z gi' gl' gr' => z = zb (zbit (gi 21 v) n) ∧ gi' = gi ∧ gl' = gl ∧ gr' = zRT r) := by
  refine zC_i_of [some (.ref 19), some (.int (nI v)), some (.int (nI n))] (by decide) rfl rfl (Nat.le_of_ble_eq_true rfl) (fun x => ?_)
  refine zA_aload_0 dX1_isBroken_0 ?_
  refine zA_getR sh_19 fX1_15 dX1_isBroken_1 rfl (rt_19_1 _) ?_
  refine zA_iload_1 dX1_isBroken_4 ?_
  refine zA_iald (v := (gi 21 v)) v sh_21 dX1_isBroken_5 rfl (by omega) (by decide) rfl ?_
  refine zA_iload_2 dX1_isBroken_6 ?_
  refine zA_ishr dX1_isBroken_7 ?_
  refine zA_iconst (nI 1) dX1_isBroken_8 ic_1 ?_
  refine zA_iand dX1_isBroken_9 ?_
  refine zA_iconst (nI 1) dX1_isBroken_10 ic_1 ?_
  refine zA_icmp_ne 18 dX1_isBroken_11 (by decide) (fun h0 => ?_) (fun h0 => ?_)
  · refine zA_iconst (nI 0) dX1_isBroken_18 ic_0 ?_
    exact zB_zret rfl dX1_isBroken_19 (by decide) (⟨(zb_f h0).symm, rfl, rfl, rfl⟩)
  · refine zA_iconst (nI 1) dX1_isBroken_14 ic_1 ?_
    refine zA_goto 19 dX1_isBroken_15 (by decide) ?_
    exact zB_zret rfl dX1_isBroken_19 (by decide) (⟨(zb_t h0).symm, rfl, rfl, rfl⟩)
theorem ct_addVan (g : zm_G) (gi : zm_I) (gl : zm_J) (r : Nat) {W : Nat} (hW : gi 19 3 = nI W) (hw : W < 3) (v : Int32)  : zC_i g yX1_addVan mX1_addVan 0 [.ref 19, .int v] zSH gi gl (zRT r) (fun z gi' gl' gr' => z = nI W ∧ gi' = zs (zs gi 20 W v) 19 3 (nI (W + 1)) ∧ gl' = gl ∧ gr' = zRT r) := by
  refine zC_i_of [some (.ref 19), some (.int v)] (by decide) rfl rfl (Nat.le_of_ble_eq_true rfl) (fun x => ?_)
  refine zA_aload_0 dX1_addVan_0 ?_
  refine zA_getR sh_19 fX1_9 dX1_addVan_1 rfl (rt_19_0 _) ?_
  refine zA_aload_0 dX1_addVan_4 ?_
  refine zA_getI (v := (nI W)) sh_19 fX1_23 dX1_addVan_5 rfl hW ?_
  refine zA_iload_1 dX1_addVan_8 ?_
  refine zS_iast W sh_20 dX1_addVan_9 rfl (by omega) (by decide) ?_
  refine zA_aload_0 dX1_addVan_10 ?_
  refine zA_dup dX1_addVan_11 rfl ?_
  refine zA_getI (v := (nI W)) sh_19 fX1_23 dX1_addVan_12 rfl hW ?_
  refine zA_iconst (nI 1) dX1_addVan_15 ic_1 ?_
  refine zA_iaddN dX1_addVan_16 ?_
  refine zS_putI sh_19 fX1_23 dX1_addVan_17 rfl rfl ?_
  refine zA_aload_0 dX1_addVan_20 ?_
  refine zA_getI (v := (nI (W + 1))) sh_19 fX1_23 dX1_addVan_21 rfl rfl ?_
  refine zA_iconst (nI 1) dX1_addVan_24 ic_1 ?_
  refine zA_isubN dX1_addVan_25 (by omega) ?_
  exact zB_iret rfl dX1_addVan_26 (⟨rfl, rfl, rfl, rfl⟩)
def fPrRow (gi : zm_I) (W : Nat) (ge ag mi va ho du fi : Int32) : zm_I := (zs (zs (zs (zs (zs (zs (zs gi (23 + W) 0 ge) (23 + W) 1 ag) (23 + W) 2 mi) (23 + W) 3 va) (23 + W) 4 ho) (23 + W) 5 du) (23 + W) 6 fi)
theorem ct_addPrint (g : zm_G) (gi : zm_I) (gl : zm_J) (r : Nat) {W : Nat} (hW : gi 19 4 = nI W) (hw : W < 4) (ge ag mi va ho du fi : Int32)  : zC_i g yX1_addPrint mX1_addPrint 0 [.ref 19, .int ge, .int ag, .int mi, .int va, .int ho, .int du, .int fi] zSH gi gl (zRT r) (fun z gi' gl' gr' => z = nI W ∧ gi' = zs (fPrRow gi W ge ag mi va ho du fi) 19 4 (nI (W + 1)) ∧ gl' = gl ∧ gr' = zRT r) := by
  refine zC_i_of [some (.ref 19), some (.int ge), some (.int ag), some (.int mi), some (.int va), some (.int ho), some (.int du), some (.int fi), none] (by decide) rfl rfl (Nat.le_of_ble_eq_true rfl) (fun x => ?_)
  refine zA_aload_0 dX1_addPrint_0 ?_
  refine zA_getR sh_19 fX1_20 dX1_addPrint_1 rfl (rt_19_2 _) ?_
  refine zA_aload_0 dX1_addPrint_4 ?_
  refine zA_getI (v := (nI W)) sh_19 fX1_31 dX1_addPrint_5 rfl hW ?_
  refine zA_aald W sh_22 dX1_addPrint_8 rfl (by omega) (by decide) (rtr_pf _ (by omega)) ?_
  refine zA_astore_8 dX1_addPrint_9 rfl ?_
  refine zA_aload_8 dX1_addPrint_11 ?_
  refine zA_iconst (nI 0) dX1_addPrint_13 ic_0 ?_
  refine zA_iload_1 dX1_addPrint_14 ?_
  refine zS_iast 0 (shr_pf (by omega)) dX1_addPrint_15 rfl (by decide) (by decide) ?_
  refine zA_aload_8 dX1_addPrint_16 ?_
  refine zA_iconst (nI 1) dX1_addPrint_18 ic_1 ?_
  refine zA_iload_2 dX1_addPrint_19 ?_
  refine zS_iast 1 (shr_pf (by omega)) dX1_addPrint_20 rfl (by decide) (by decide) ?_
  refine zA_aload_8 dX1_addPrint_21 ?_
  refine zA_iconst (nI 2) dX1_addPrint_23 ic_2 ?_
  refine zA_iload_3 dX1_addPrint_24 ?_
  refine zS_iast 2 (shr_pf (by omega)) dX1_addPrint_25 rfl (by decide) (by decide) ?_
  refine zA_aload_8 dX1_addPrint_26 ?_
  refine zA_iconst (nI 3) dX1_addPrint_28 ic_3 ?_
  refine zA_iload_4 dX1_addPrint_29 ?_
  refine zS_iast 3 (shr_pf (by omega)) dX1_addPrint_31 rfl (by decide) (by decide) ?_
  refine zA_aload_8 dX1_addPrint_32 ?_
  refine zA_iconst (nI 4) dX1_addPrint_34 ic_4 ?_
  refine zA_iload_5 dX1_addPrint_35 ?_
  refine zS_iast 4 (shr_pf (by omega)) dX1_addPrint_37 rfl (by decide) (by decide) ?_
  refine zA_aload_8 dX1_addPrint_38 ?_
  refine zA_iconst (nI 5) dX1_addPrint_40 ic_5 ?_
  refine zA_iload_6 dX1_addPrint_41 ?_
  refine zS_iast 5 (shr_pf (by omega)) dX1_addPrint_43 rfl (by decide) (by decide) ?_
  refine zA_aload_8 dX1_addPrint_44 ?_
  refine zA_bipush (nI 6) dX1_addPrint_46 bc_6 ?_
  refine zA_iload_7 dX1_addPrint_48 ?_
  refine zS_iast 6 (shr_pf (by omega)) dX1_addPrint_50 rfl (by decide) (by decide) ?_
  refine zA_aload_0 dX1_addPrint_51 ?_
  refine zA_dup dX1_addPrint_52 rfl ?_
  refine zA_getI (v := (nI W)) sh_19 fX1_31 dX1_addPrint_53 rfl (by (repeat rw [zs_nq (by omega)]); exact hW) ?_
  refine zA_iconst (nI 1) dX1_addPrint_56 ic_1 ?_
  refine zA_iaddN dX1_addPrint_57 ?_
  refine zS_putI sh_19 fX1_31 dX1_addPrint_58 rfl rfl ?_
  refine zA_aload_0 dX1_addPrint_61 ?_
  refine zA_getI (v := (nI (W + 1))) sh_19 fX1_31 dX1_addPrint_62 rfl rfl ?_
  refine zA_iconst (nI 1) dX1_addPrint_65 ic_1 ?_
  refine zA_isubN dX1_addPrint_66 (by omega) ?_
  exact zB_iret rfl dX1_addPrint_67 (⟨rfl, rfl, rfl, rfl⟩)
