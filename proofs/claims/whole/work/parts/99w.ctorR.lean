theorem ct_rPlainI (g : zm_G) (gi : zm_I) (gl : zm_J) (gr : zm_R) (r36 : gr 87 36 = some 107) (r37 : gr 87 37 = some 108) (r45 : gr 87 45 = some 116)  : zC_v g yX11_plain mX11_plain 0 [.ref 87] (zSH.take 135) gi gl gr (fun gi' gl' gr' => gi' = rPl gi ∧ gl' = gl ∧ gr' = gr) := by
  refine zC_v_of [some (.ref 87), none] (by decide) rfl rfl (Nat.le_of_ble_eq_true rfl) (fun x => ?_)
  refine zA_iconst (nI 0) dX11_plain_0 ic_0 ?_
  refine zA_istore_1 dX11_plain_1 rfl ?_
  refine zA_iload_1 dX11_plain_2 ?_
  refine zA_bipush (nI 7) dX11_plain_3 bc_7 ?_
  refine zA_icmp_geN 21 dX11_plain_5 (by decide) (by decide) (by decide) (fun hh => absurd hh (by decide)) (fun _ => ?_)
  refine zA_aload_0 dX11_plain_8 ?_
  refine zA_getR (zsht (n := 135) sh_87 (by decide)) fX11_75 dX11_plain_9 rfl r37 ?_
  refine zA_iload_1 dX11_plain_12 ?_
  refine zA_iconst (nI 0) dX11_plain_13 ic_0 ?_
  refine zS_zast 0 (zsht (n := 135) sh_108 (by decide)) dX11_plain_14 rfl (by decide) (by decide) (by decide) ?_
  refine zA_iinc_1 (v := nI (0 + 1)) dX11_plain_15 (zn_inc _) rfl ?_
  refine zA_goto 2 dX11_plain_18 (by decide) ?_
  refine zA_iload_1 dX11_plain_2 ?_
  refine zA_bipush (nI 7) dX11_plain_3 bc_7 ?_
  refine zA_icmp_geN 21 dX11_plain_5 (by decide) (by decide) (by decide) (fun hh => absurd hh (by decide)) (fun _ => ?_)
  refine zA_aload_0 dX11_plain_8 ?_
  refine zA_getR (zsht (n := 135) sh_87 (by decide)) fX11_75 dX11_plain_9 rfl r37 ?_
  refine zA_iload_1 dX11_plain_12 ?_
  refine zA_iconst (nI 0) dX11_plain_13 ic_0 ?_
  refine zS_zast 1 (zsht (n := 135) sh_108 (by decide)) dX11_plain_14 rfl (by decide) (by decide) (by decide) ?_
  refine zA_iinc_1 (v := nI (1 + 1)) dX11_plain_15 (zn_inc _) rfl ?_
  refine zA_goto 2 dX11_plain_18 (by decide) ?_
  refine zA_iload_1 dX11_plain_2 ?_
  refine zA_bipush (nI 7) dX11_plain_3 bc_7 ?_
  refine zA_icmp_geN 21 dX11_plain_5 (by decide) (by decide) (by decide) (fun hh => absurd hh (by decide)) (fun _ => ?_)
  refine zA_aload_0 dX11_plain_8 ?_
  refine zA_getR (zsht (n := 135) sh_87 (by decide)) fX11_75 dX11_plain_9 rfl r37 ?_
  refine zA_iload_1 dX11_plain_12 ?_
  refine zA_iconst (nI 0) dX11_plain_13 ic_0 ?_
  refine zS_zast 2 (zsht (n := 135) sh_108 (by decide)) dX11_plain_14 rfl (by decide) (by decide) (by decide) ?_
  refine zA_iinc_1 (v := nI (2 + 1)) dX11_plain_15 (zn_inc _) rfl ?_
  refine zA_goto 2 dX11_plain_18 (by decide) ?_
  refine zA_iload_1 dX11_plain_2 ?_
  refine zA_bipush (nI 7) dX11_plain_3 bc_7 ?_
  refine zA_icmp_geN 21 dX11_plain_5 (by decide) (by decide) (by decide) (fun hh => absurd hh (by decide)) (fun _ => ?_)
  refine zA_aload_0 dX11_plain_8 ?_
  refine zA_getR (zsht (n := 135) sh_87 (by decide)) fX11_75 dX11_plain_9 rfl r37 ?_
  refine zA_iload_1 dX11_plain_12 ?_
  refine zA_iconst (nI 0) dX11_plain_13 ic_0 ?_
  refine zS_zast 3 (zsht (n := 135) sh_108 (by decide)) dX11_plain_14 rfl (by decide) (by decide) (by decide) ?_
  refine zA_iinc_1 (v := nI (3 + 1)) dX11_plain_15 (zn_inc _) rfl ?_
  refine zA_goto 2 dX11_plain_18 (by decide) ?_
  refine zA_iload_1 dX11_plain_2 ?_
  refine zA_bipush (nI 7) dX11_plain_3 bc_7 ?_
  refine zA_icmp_geN 21 dX11_plain_5 (by decide) (by decide) (by decide) (fun hh => absurd hh (by decide)) (fun _ => ?_)
  refine zA_aload_0 dX11_plain_8 ?_
  refine zA_getR (zsht (n := 135) sh_87 (by decide)) fX11_75 dX11_plain_9 rfl r37 ?_
  refine zA_iload_1 dX11_plain_12 ?_
  refine zA_iconst (nI 0) dX11_plain_13 ic_0 ?_
  refine zS_zast 4 (zsht (n := 135) sh_108 (by decide)) dX11_plain_14 rfl (by decide) (by decide) (by decide) ?_
  refine zA_iinc_1 (v := nI (4 + 1)) dX11_plain_15 (zn_inc _) rfl ?_
  refine zA_goto 2 dX11_plain_18 (by decide) ?_
  refine zA_iload_1 dX11_plain_2 ?_
  refine zA_bipush (nI 7) dX11_plain_3 bc_7 ?_
  refine zA_icmp_geN 21 dX11_plain_5 (by decide) (by decide) (by decide) (fun hh => absurd hh (by decide)) (fun _ => ?_)
  refine zA_aload_0 dX11_plain_8 ?_
  refine zA_getR (zsht (n := 135) sh_87 (by decide)) fX11_75 dX11_plain_9 rfl r37 ?_
  refine zA_iload_1 dX11_plain_12 ?_
  refine zA_iconst (nI 0) dX11_plain_13 ic_0 ?_
  refine zS_zast 5 (zsht (n := 135) sh_108 (by decide)) dX11_plain_14 rfl (by decide) (by decide) (by decide) ?_
  refine zA_iinc_1 (v := nI (5 + 1)) dX11_plain_15 (zn_inc _) rfl ?_
  refine zA_goto 2 dX11_plain_18 (by decide) ?_
  refine zA_iload_1 dX11_plain_2 ?_
  refine zA_bipush (nI 7) dX11_plain_3 bc_7 ?_
  refine zA_icmp_geN 21 dX11_plain_5 (by decide) (by decide) (by decide) (fun hh => absurd hh (by decide)) (fun _ => ?_)
  refine zA_aload_0 dX11_plain_8 ?_
  refine zA_getR (zsht (n := 135) sh_87 (by decide)) fX11_75 dX11_plain_9 rfl r37 ?_
  refine zA_iload_1 dX11_plain_12 ?_
  refine zA_iconst (nI 0) dX11_plain_13 ic_0 ?_
  refine zS_zast 6 (zsht (n := 135) sh_108 (by decide)) dX11_plain_14 rfl (by decide) (by decide) (by decide) ?_
  refine zA_iinc_1 (v := nI (6 + 1)) dX11_plain_15 (zn_inc _) rfl ?_
  refine zA_goto 2 dX11_plain_18 (by decide) ?_
  refine zA_iload_1 dX11_plain_2 ?_
  refine zA_bipush (nI 7) dX11_plain_3 bc_7 ?_
  refine zA_icmp_geN 21 dX11_plain_5 (by decide) (by decide) (by decide) (fun _ => ?_) (fun hh => absurd hh (by decide))
  refine zA_iconst (nI 5) dX11_plain_21 ic_5 ?_
  refine zA_istore_1 dX11_plain_22 rfl ?_
  refine zA_iload_1 dX11_plain_23 ?_
  refine zA_bipush (nI 10) dX11_plain_24 bc_10 ?_
  refine zA_icmp_geN 42 dX11_plain_26 (by decide) (by decide) (by decide) (fun hh => absurd hh (by decide)) (fun _ => ?_)
  refine zA_aload_0 dX11_plain_29 ?_
  refine zA_getR (zsht (n := 135) sh_87 (by decide)) fX11_99 dX11_plain_30 rfl r45 ?_
  refine zA_iload_1 dX11_plain_33 ?_
  refine zA_iconst (nI 0) dX11_plain_34 ic_0 ?_
  refine zS_iast 5 (zsht (n := 135) sh_116 (by decide)) dX11_plain_35 rfl (by decide) (by decide) ?_
  refine zA_iinc_1 (v := nI (5 + 1)) dX11_plain_36 (zn_inc _) rfl ?_
  refine zA_goto 23 dX11_plain_39 (by decide) ?_
  refine zA_iload_1 dX11_plain_23 ?_
  refine zA_bipush (nI 10) dX11_plain_24 bc_10 ?_
  refine zA_icmp_geN 42 dX11_plain_26 (by decide) (by decide) (by decide) (fun hh => absurd hh (by decide)) (fun _ => ?_)
  refine zA_aload_0 dX11_plain_29 ?_
  refine zA_getR (zsht (n := 135) sh_87 (by decide)) fX11_99 dX11_plain_30 rfl r45 ?_
  refine zA_iload_1 dX11_plain_33 ?_
  refine zA_iconst (nI 0) dX11_plain_34 ic_0 ?_
  refine zS_iast 6 (zsht (n := 135) sh_116 (by decide)) dX11_plain_35 rfl (by decide) (by decide) ?_
  refine zA_iinc_1 (v := nI (6 + 1)) dX11_plain_36 (zn_inc _) rfl ?_
  refine zA_goto 23 dX11_plain_39 (by decide) ?_
  refine zA_iload_1 dX11_plain_23 ?_
  refine zA_bipush (nI 10) dX11_plain_24 bc_10 ?_
  refine zA_icmp_geN 42 dX11_plain_26 (by decide) (by decide) (by decide) (fun hh => absurd hh (by decide)) (fun _ => ?_)
  refine zA_aload_0 dX11_plain_29 ?_
  refine zA_getR (zsht (n := 135) sh_87 (by decide)) fX11_99 dX11_plain_30 rfl r45 ?_
  refine zA_iload_1 dX11_plain_33 ?_
  refine zA_iconst (nI 0) dX11_plain_34 ic_0 ?_
  refine zS_iast 7 (zsht (n := 135) sh_116 (by decide)) dX11_plain_35 rfl (by decide) (by decide) ?_
  refine zA_iinc_1 (v := nI (7 + 1)) dX11_plain_36 (zn_inc _) rfl ?_
  refine zA_goto 23 dX11_plain_39 (by decide) ?_
  refine zA_iload_1 dX11_plain_23 ?_
  refine zA_bipush (nI 10) dX11_plain_24 bc_10 ?_
  refine zA_icmp_geN 42 dX11_plain_26 (by decide) (by decide) (by decide) (fun hh => absurd hh (by decide)) (fun _ => ?_)
  refine zA_aload_0 dX11_plain_29 ?_
  refine zA_getR (zsht (n := 135) sh_87 (by decide)) fX11_99 dX11_plain_30 rfl r45 ?_
  refine zA_iload_1 dX11_plain_33 ?_
  refine zA_iconst (nI 0) dX11_plain_34 ic_0 ?_
  refine zS_iast 8 (zsht (n := 135) sh_116 (by decide)) dX11_plain_35 rfl (by decide) (by decide) ?_
  refine zA_iinc_1 (v := nI (8 + 1)) dX11_plain_36 (zn_inc _) rfl ?_
  refine zA_goto 23 dX11_plain_39 (by decide) ?_
  refine zA_iload_1 dX11_plain_23 ?_
  refine zA_bipush (nI 10) dX11_plain_24 bc_10 ?_
  refine zA_icmp_geN 42 dX11_plain_26 (by decide) (by decide) (by decide) (fun hh => absurd hh (by decide)) (fun _ => ?_)
  refine zA_aload_0 dX11_plain_29 ?_
  refine zA_getR (zsht (n := 135) sh_87 (by decide)) fX11_99 dX11_plain_30 rfl r45 ?_
  refine zA_iload_1 dX11_plain_33 ?_
  refine zA_iconst (nI 0) dX11_plain_34 ic_0 ?_
  refine zS_iast 9 (zsht (n := 135) sh_116 (by decide)) dX11_plain_35 rfl (by decide) (by decide) ?_
  refine zA_iinc_1 (v := nI (9 + 1)) dX11_plain_36 (zn_inc _) rfl ?_
  refine zA_goto 23 dX11_plain_39 (by decide) ?_
  refine zA_iload_1 dX11_plain_23 ?_
  refine zA_bipush (nI 10) dX11_plain_24 bc_10 ?_
  refine zA_icmp_geN 42 dX11_plain_26 (by decide) (by decide) (by decide) (fun _ => ?_) (fun hh => absurd hh (by decide))
  refine zA_aload_0 dX11_plain_42 ?_
  refine zA_getR (zsht (n := 135) sh_87 (by decide)) fX11_72 dX11_plain_43 rfl r36 ?_
  refine zA_iconst (nI 2) dX11_plain_46 ic_2 ?_
  refine zA_sipush (nI 600) dX11_plain_47 sc_600 ?_
  refine zS_iast 2 (zsht (n := 135) sh_107 (by decide)) dX11_plain_50 rfl (by decide) (by decide) ?_
  refine zA_aload_0 dX11_plain_51 ?_
  refine zA_getR (zsht (n := 135) sh_87 (by decide)) fX11_72 dX11_plain_52 rfl r36 ?_
  refine zA_iconst (nI 3) dX11_plain_55 ic_3 ?_
  refine zA_iconst (nI 5) dX11_plain_56 ic_5 ?_
  refine zS_iast 3 (zsht (n := 135) sh_107 (by decide)) dX11_plain_57 rfl (by decide) (by decide) ?_
  refine zA_aload_0 dX11_plain_58 ?_
  refine zA_iconst (nI 0) dX11_plain_59 ic_0 ?_
  refine zS_putI (zsht (n := 135) sh_87 (by decide)) fX11_252 dX11_plain_60 rfl rfl ?_
  refine zA_aload_0 dX11_plain_63 ?_
  refine zA_iconst (nI 0) dX11_plain_64 ic_0 ?_
  refine zS_putI (zsht (n := 135) sh_87 (by decide)) fX11_258 dX11_plain_65 rfl rfl ?_
  exact zB_vret rfl dX11_plain_68 (⟨rfl, rfl, rfl⟩)
theorem ct_rKeepI (g : zm_G) (gi : zm_I) (gl : zm_J) (gr : zm_R) (r36 : gr 87 36 = some 107) (r37 : gr 87 37 = some 108) (r38 : gr 87 38 = some 109) (r39 : gr 87 39 = some 110) (r40 : gr 87 40 = some 111) (r41 : gr 87 41 = some 112) (r42 : gr 87 42 = some 113) (r43 : gr 87 43 = some 114) (r44 : gr 87 44 = some 115) (r45 : gr 87 45 = some 116) {q : Nat} (hq : gi 87 47 = nI q) (hq64 : q ≤ 64) (hz : ∀ j, gi 108 j = 0 ∨ gi 108 j = 1)  : zC_v g yX11_keep mX11_keep 0 [.ref 87] (zSH.take 135) gi gl gr (fun gi' gl' gr' => gi' = zit rKpS (rKp0 gi q) q ∧ gl' = gl ∧ gr' = gr) := by
  refine zC_v_of [some (.ref 87), none] (by decide) rfl rfl (Nat.le_of_ble_eq_true rfl) (fun x => ?_)
  refine zA_aload_0 dX11_keep_0 ?_
  refine zA_getR (zsht (n := 135) sh_87 (by decide)) fX11_72 dX11_keep_1 rfl r36 ?_
  refine zA_iconst (nI 0) dX11_keep_4 ic_0 ?_
  refine zA_aload_0 dX11_keep_5 ?_
  refine zA_getR (zsht (n := 135) sh_87 (by decide)) fX11_72 dX11_keep_6 rfl r36 ?_
  refine zA_iconst (nI 2) dX11_keep_9 ic_2 ?_
  refine zA_iald (v := (gi 107 2)) 2 (zsht (n := 135) sh_107 (by decide)) dX11_keep_10 rfl (by decide) (by decide) rfl ?_
  refine zS_iast 0 (zsht (n := 135) sh_107 (by decide)) dX11_keep_11 rfl (by decide) (by decide) ?_
  refine zA_aload_0 dX11_keep_12 ?_
  refine zA_getR (zsht (n := 135) sh_87 (by decide)) fX11_72 dX11_keep_13 rfl r36 ?_
  refine zA_iconst (nI 1) dX11_keep_16 ic_1 ?_
  refine zA_aload_0 dX11_keep_17 ?_
  refine zA_getR (zsht (n := 135) sh_87 (by decide)) fX11_72 dX11_keep_18 rfl r36 ?_
  refine zA_iconst (nI 3) dX11_keep_21 ic_3 ?_
  refine zA_iald (v := (gi 107 3)) 3 (zsht (n := 135) sh_107 (by decide)) dX11_keep_22 rfl (by decide) (by decide) rfl ?_
  refine zS_iast 1 (zsht (n := 135) sh_107 (by decide)) dX11_keep_23 rfl (by decide) (by decide) ?_
  refine zA_iconst (nI 0) dX11_keep_24 ic_0 ?_
  refine zA_istore_1 dX11_keep_25 rfl ?_
  refine zA_iload_1 dX11_keep_26 ?_
  refine zA_bipush (nI 7) dX11_keep_27 bc_7 ?_
  refine zA_icmp_geN 50 dX11_keep_29 (by decide) (by decide) (by decide) (fun hh => absurd hh (by decide)) (fun _ => ?_)
  refine zA_aload_0 dX11_keep_32 ?_
  refine zA_getR (zsht (n := 135) sh_87 (by decide)) fX11_78 dX11_keep_33 rfl r38 ?_
  refine zA_iload_1 dX11_keep_36 ?_
  refine zA_aload_0 dX11_keep_37 ?_
  refine zA_getR (zsht (n := 135) sh_87 (by decide)) fX11_75 dX11_keep_38 rfl r37 ?_
  refine zA_iload_1 dX11_keep_41 ?_
  refine zA_zald (v := (gi 108 0)) 0 (zsht (n := 135) sh_108 (by decide)) dX11_keep_42 rfl (by decide) (by decide) rfl ?_
  refine zS_zast 0 (zsht (n := 135) sh_109 (by decide)) dX11_keep_43 rfl (by decide) (by decide) (hz _) ?_
  refine zA_iinc_1 (v := nI (0 + 1)) dX11_keep_44 (zn_inc _) rfl ?_
  refine zA_goto 26 dX11_keep_47 (by decide) ?_
  refine zA_iload_1 dX11_keep_26 ?_
  refine zA_bipush (nI 7) dX11_keep_27 bc_7 ?_
  refine zA_icmp_geN 50 dX11_keep_29 (by decide) (by decide) (by decide) (fun hh => absurd hh (by decide)) (fun _ => ?_)
  refine zA_aload_0 dX11_keep_32 ?_
  refine zA_getR (zsht (n := 135) sh_87 (by decide)) fX11_78 dX11_keep_33 rfl r38 ?_
  refine zA_iload_1 dX11_keep_36 ?_
  refine zA_aload_0 dX11_keep_37 ?_
  refine zA_getR (zsht (n := 135) sh_87 (by decide)) fX11_75 dX11_keep_38 rfl r37 ?_
  refine zA_iload_1 dX11_keep_41 ?_
  refine zA_zald (v := (gi 108 1)) 1 (zsht (n := 135) sh_108 (by decide)) dX11_keep_42 rfl (by decide) (by decide) rfl ?_
  refine zS_zast 1 (zsht (n := 135) sh_109 (by decide)) dX11_keep_43 rfl (by decide) (by decide) (hz _) ?_
  refine zA_iinc_1 (v := nI (1 + 1)) dX11_keep_44 (zn_inc _) rfl ?_
  refine zA_goto 26 dX11_keep_47 (by decide) ?_
  refine zA_iload_1 dX11_keep_26 ?_
  refine zA_bipush (nI 7) dX11_keep_27 bc_7 ?_
  refine zA_icmp_geN 50 dX11_keep_29 (by decide) (by decide) (by decide) (fun hh => absurd hh (by decide)) (fun _ => ?_)
  refine zA_aload_0 dX11_keep_32 ?_
  refine zA_getR (zsht (n := 135) sh_87 (by decide)) fX11_78 dX11_keep_33 rfl r38 ?_
  refine zA_iload_1 dX11_keep_36 ?_
  refine zA_aload_0 dX11_keep_37 ?_
  refine zA_getR (zsht (n := 135) sh_87 (by decide)) fX11_75 dX11_keep_38 rfl r37 ?_
  refine zA_iload_1 dX11_keep_41 ?_
  refine zA_zald (v := (gi 108 2)) 2 (zsht (n := 135) sh_108 (by decide)) dX11_keep_42 rfl (by decide) (by decide) rfl ?_
  refine zS_zast 2 (zsht (n := 135) sh_109 (by decide)) dX11_keep_43 rfl (by decide) (by decide) (hz _) ?_
  refine zA_iinc_1 (v := nI (2 + 1)) dX11_keep_44 (zn_inc _) rfl ?_
  refine zA_goto 26 dX11_keep_47 (by decide) ?_
  refine zA_iload_1 dX11_keep_26 ?_
  refine zA_bipush (nI 7) dX11_keep_27 bc_7 ?_
  refine zA_icmp_geN 50 dX11_keep_29 (by decide) (by decide) (by decide) (fun hh => absurd hh (by decide)) (fun _ => ?_)
  refine zA_aload_0 dX11_keep_32 ?_
  refine zA_getR (zsht (n := 135) sh_87 (by decide)) fX11_78 dX11_keep_33 rfl r38 ?_
  refine zA_iload_1 dX11_keep_36 ?_
  refine zA_aload_0 dX11_keep_37 ?_
  refine zA_getR (zsht (n := 135) sh_87 (by decide)) fX11_75 dX11_keep_38 rfl r37 ?_
  refine zA_iload_1 dX11_keep_41 ?_
  refine zA_zald (v := (gi 108 3)) 3 (zsht (n := 135) sh_108 (by decide)) dX11_keep_42 rfl (by decide) (by decide) rfl ?_
  refine zS_zast 3 (zsht (n := 135) sh_109 (by decide)) dX11_keep_43 rfl (by decide) (by decide) (hz _) ?_
  refine zA_iinc_1 (v := nI (3 + 1)) dX11_keep_44 (zn_inc _) rfl ?_
  refine zA_goto 26 dX11_keep_47 (by decide) ?_
  refine zA_iload_1 dX11_keep_26 ?_
  refine zA_bipush (nI 7) dX11_keep_27 bc_7 ?_
  refine zA_icmp_geN 50 dX11_keep_29 (by decide) (by decide) (by decide) (fun hh => absurd hh (by decide)) (fun _ => ?_)
  refine zA_aload_0 dX11_keep_32 ?_
  refine zA_getR (zsht (n := 135) sh_87 (by decide)) fX11_78 dX11_keep_33 rfl r38 ?_
  refine zA_iload_1 dX11_keep_36 ?_
  refine zA_aload_0 dX11_keep_37 ?_
  refine zA_getR (zsht (n := 135) sh_87 (by decide)) fX11_75 dX11_keep_38 rfl r37 ?_
  refine zA_iload_1 dX11_keep_41 ?_
  refine zA_zald (v := (gi 108 4)) 4 (zsht (n := 135) sh_108 (by decide)) dX11_keep_42 rfl (by decide) (by decide) rfl ?_
  refine zS_zast 4 (zsht (n := 135) sh_109 (by decide)) dX11_keep_43 rfl (by decide) (by decide) (hz _) ?_
  refine zA_iinc_1 (v := nI (4 + 1)) dX11_keep_44 (zn_inc _) rfl ?_
  refine zA_goto 26 dX11_keep_47 (by decide) ?_
  refine zA_iload_1 dX11_keep_26 ?_
  refine zA_bipush (nI 7) dX11_keep_27 bc_7 ?_
  refine zA_icmp_geN 50 dX11_keep_29 (by decide) (by decide) (by decide) (fun hh => absurd hh (by decide)) (fun _ => ?_)
  refine zA_aload_0 dX11_keep_32 ?_
  refine zA_getR (zsht (n := 135) sh_87 (by decide)) fX11_78 dX11_keep_33 rfl r38 ?_
  refine zA_iload_1 dX11_keep_36 ?_
  refine zA_aload_0 dX11_keep_37 ?_
  refine zA_getR (zsht (n := 135) sh_87 (by decide)) fX11_75 dX11_keep_38 rfl r37 ?_
  refine zA_iload_1 dX11_keep_41 ?_
  refine zA_zald (v := (gi 108 5)) 5 (zsht (n := 135) sh_108 (by decide)) dX11_keep_42 rfl (by decide) (by decide) rfl ?_
  refine zS_zast 5 (zsht (n := 135) sh_109 (by decide)) dX11_keep_43 rfl (by decide) (by decide) (hz _) ?_
  refine zA_iinc_1 (v := nI (5 + 1)) dX11_keep_44 (zn_inc _) rfl ?_
  refine zA_goto 26 dX11_keep_47 (by decide) ?_
  refine zA_iload_1 dX11_keep_26 ?_
  refine zA_bipush (nI 7) dX11_keep_27 bc_7 ?_
  refine zA_icmp_geN 50 dX11_keep_29 (by decide) (by decide) (by decide) (fun hh => absurd hh (by decide)) (fun _ => ?_)
  refine zA_aload_0 dX11_keep_32 ?_
  refine zA_getR (zsht (n := 135) sh_87 (by decide)) fX11_78 dX11_keep_33 rfl r38 ?_
  refine zA_iload_1 dX11_keep_36 ?_
  refine zA_aload_0 dX11_keep_37 ?_
  refine zA_getR (zsht (n := 135) sh_87 (by decide)) fX11_75 dX11_keep_38 rfl r37 ?_
  refine zA_iload_1 dX11_keep_41 ?_
  refine zA_zald (v := (gi 108 6)) 6 (zsht (n := 135) sh_108 (by decide)) dX11_keep_42 rfl (by decide) (by decide) rfl ?_
  refine zS_zast 6 (zsht (n := 135) sh_109 (by decide)) dX11_keep_43 rfl (by decide) (by decide) (hz _) ?_
  refine zA_iinc_1 (v := nI (6 + 1)) dX11_keep_44 (zn_inc _) rfl ?_
  refine zA_goto 26 dX11_keep_47 (by decide) ?_
  refine zA_iload_1 dX11_keep_26 ?_
  refine zA_bipush (nI 7) dX11_keep_27 bc_7 ?_
  refine zA_icmp_geN 50 dX11_keep_29 (by decide) (by decide) (by decide) (fun _ => ?_) (fun hh => absurd hh (by decide))
  refine zA_iconst (nI 0) dX11_keep_50 ic_0 ?_
  refine zA_istore_1 dX11_keep_51 rfl ?_
  refine zA_iload_1 dX11_keep_52 ?_
  refine zA_iconst (nI 5) dX11_keep_53 ic_5 ?_
  refine zA_icmp_geN 91 dX11_keep_54 (by decide) (by decide) (by decide) (fun hh => absurd hh (by decide)) (fun _ => ?_)
  refine zA_aload_0 dX11_keep_57 ?_
  refine zA_getR (zsht (n := 135) sh_87 (by decide)) fX11_96 dX11_keep_58 rfl r44 ?_
  refine zA_iload_1 dX11_keep_61 ?_
  refine zA_aload_0 dX11_keep_62 ?_
  refine zA_getR (zsht (n := 135) sh_87 (by decide)) fX11_96 dX11_keep_63 rfl r44 ?_
  refine zA_iconst (nI 5) dX11_keep_66 ic_5 ?_
  refine zA_iload_1 dX11_keep_67 ?_
  refine zA_iaddN dX11_keep_68 ?_
  refine zA_iald (v := (gi 115 5)) 5 (zsht (n := 135) sh_115 (by decide)) dX11_keep_69 rfl (by decide) (by decide) rfl ?_
  refine zS_iast 0 (zsht (n := 135) sh_115 (by decide)) dX11_keep_70 rfl (by decide) (by decide) ?_
  refine zA_aload_0 dX11_keep_71 ?_
  refine zA_getR (zsht (n := 135) sh_87 (by decide)) fX11_99 dX11_keep_72 rfl r45 ?_
  refine zA_iload_1 dX11_keep_75 ?_
  refine zA_aload_0 dX11_keep_76 ?_
  refine zA_getR (zsht (n := 135) sh_87 (by decide)) fX11_99 dX11_keep_77 rfl r45 ?_
  refine zA_iconst (nI 5) dX11_keep_80 ic_5 ?_
  refine zA_iload_1 dX11_keep_81 ?_
  refine zA_iaddN dX11_keep_82 ?_
  refine zA_iald (v := (gi 116 5)) 5 (zsht (n := 135) sh_116 (by decide)) dX11_keep_83 rfl (by decide) (by decide) rfl ?_
  refine zS_iast 0 (zsht (n := 135) sh_116 (by decide)) dX11_keep_84 rfl (by decide) (by decide) ?_
  refine zA_iinc_1 (v := nI (0 + 1)) dX11_keep_85 (zn_inc _) rfl ?_
  refine zA_goto 52 dX11_keep_88 (by decide) ?_
  refine zA_iload_1 dX11_keep_52 ?_
  refine zA_iconst (nI 5) dX11_keep_53 ic_5 ?_
  refine zA_icmp_geN 91 dX11_keep_54 (by decide) (by decide) (by decide) (fun hh => absurd hh (by decide)) (fun _ => ?_)
  refine zA_aload_0 dX11_keep_57 ?_
  refine zA_getR (zsht (n := 135) sh_87 (by decide)) fX11_96 dX11_keep_58 rfl r44 ?_
  refine zA_iload_1 dX11_keep_61 ?_
  refine zA_aload_0 dX11_keep_62 ?_
  refine zA_getR (zsht (n := 135) sh_87 (by decide)) fX11_96 dX11_keep_63 rfl r44 ?_
  refine zA_iconst (nI 5) dX11_keep_66 ic_5 ?_
  refine zA_iload_1 dX11_keep_67 ?_
  refine zA_iaddN dX11_keep_68 ?_
  refine zA_iald (v := (gi 115 6)) 6 (zsht (n := 135) sh_115 (by decide)) dX11_keep_69 rfl (by decide) (by decide) rfl ?_
  refine zS_iast 1 (zsht (n := 135) sh_115 (by decide)) dX11_keep_70 rfl (by decide) (by decide) ?_
  refine zA_aload_0 dX11_keep_71 ?_
  refine zA_getR (zsht (n := 135) sh_87 (by decide)) fX11_99 dX11_keep_72 rfl r45 ?_
  refine zA_iload_1 dX11_keep_75 ?_
  refine zA_aload_0 dX11_keep_76 ?_
  refine zA_getR (zsht (n := 135) sh_87 (by decide)) fX11_99 dX11_keep_77 rfl r45 ?_
  refine zA_iconst (nI 5) dX11_keep_80 ic_5 ?_
  refine zA_iload_1 dX11_keep_81 ?_
  refine zA_iaddN dX11_keep_82 ?_
  refine zA_iald (v := (gi 116 6)) 6 (zsht (n := 135) sh_116 (by decide)) dX11_keep_83 rfl (by decide) (by decide) rfl ?_
  refine zS_iast 1 (zsht (n := 135) sh_116 (by decide)) dX11_keep_84 rfl (by decide) (by decide) ?_
  refine zA_iinc_1 (v := nI (1 + 1)) dX11_keep_85 (zn_inc _) rfl ?_
  refine zA_goto 52 dX11_keep_88 (by decide) ?_
  refine zA_iload_1 dX11_keep_52 ?_
  refine zA_iconst (nI 5) dX11_keep_53 ic_5 ?_
  refine zA_icmp_geN 91 dX11_keep_54 (by decide) (by decide) (by decide) (fun hh => absurd hh (by decide)) (fun _ => ?_)
  refine zA_aload_0 dX11_keep_57 ?_
  refine zA_getR (zsht (n := 135) sh_87 (by decide)) fX11_96 dX11_keep_58 rfl r44 ?_
  refine zA_iload_1 dX11_keep_61 ?_
  refine zA_aload_0 dX11_keep_62 ?_
  refine zA_getR (zsht (n := 135) sh_87 (by decide)) fX11_96 dX11_keep_63 rfl r44 ?_
  refine zA_iconst (nI 5) dX11_keep_66 ic_5 ?_
  refine zA_iload_1 dX11_keep_67 ?_
  refine zA_iaddN dX11_keep_68 ?_
  refine zA_iald (v := (gi 115 7)) 7 (zsht (n := 135) sh_115 (by decide)) dX11_keep_69 rfl (by decide) (by decide) rfl ?_
  refine zS_iast 2 (zsht (n := 135) sh_115 (by decide)) dX11_keep_70 rfl (by decide) (by decide) ?_
  refine zA_aload_0 dX11_keep_71 ?_
  refine zA_getR (zsht (n := 135) sh_87 (by decide)) fX11_99 dX11_keep_72 rfl r45 ?_
  refine zA_iload_1 dX11_keep_75 ?_
  refine zA_aload_0 dX11_keep_76 ?_
  refine zA_getR (zsht (n := 135) sh_87 (by decide)) fX11_99 dX11_keep_77 rfl r45 ?_
  refine zA_iconst (nI 5) dX11_keep_80 ic_5 ?_
  refine zA_iload_1 dX11_keep_81 ?_
  refine zA_iaddN dX11_keep_82 ?_
  refine zA_iald (v := (gi 116 7)) 7 (zsht (n := 135) sh_116 (by decide)) dX11_keep_83 rfl (by decide) (by decide) rfl ?_
  refine zS_iast 2 (zsht (n := 135) sh_116 (by decide)) dX11_keep_84 rfl (by decide) (by decide) ?_
  refine zA_iinc_1 (v := nI (2 + 1)) dX11_keep_85 (zn_inc _) rfl ?_
  refine zA_goto 52 dX11_keep_88 (by decide) ?_
  refine zA_iload_1 dX11_keep_52 ?_
  refine zA_iconst (nI 5) dX11_keep_53 ic_5 ?_
  refine zA_icmp_geN 91 dX11_keep_54 (by decide) (by decide) (by decide) (fun hh => absurd hh (by decide)) (fun _ => ?_)
  refine zA_aload_0 dX11_keep_57 ?_
  refine zA_getR (zsht (n := 135) sh_87 (by decide)) fX11_96 dX11_keep_58 rfl r44 ?_
  refine zA_iload_1 dX11_keep_61 ?_
  refine zA_aload_0 dX11_keep_62 ?_
  refine zA_getR (zsht (n := 135) sh_87 (by decide)) fX11_96 dX11_keep_63 rfl r44 ?_
  refine zA_iconst (nI 5) dX11_keep_66 ic_5 ?_
  refine zA_iload_1 dX11_keep_67 ?_
  refine zA_iaddN dX11_keep_68 ?_
  refine zA_iald (v := (gi 115 8)) 8 (zsht (n := 135) sh_115 (by decide)) dX11_keep_69 rfl (by decide) (by decide) rfl ?_
  refine zS_iast 3 (zsht (n := 135) sh_115 (by decide)) dX11_keep_70 rfl (by decide) (by decide) ?_
  refine zA_aload_0 dX11_keep_71 ?_
  refine zA_getR (zsht (n := 135) sh_87 (by decide)) fX11_99 dX11_keep_72 rfl r45 ?_
  refine zA_iload_1 dX11_keep_75 ?_
  refine zA_aload_0 dX11_keep_76 ?_
  refine zA_getR (zsht (n := 135) sh_87 (by decide)) fX11_99 dX11_keep_77 rfl r45 ?_
  refine zA_iconst (nI 5) dX11_keep_80 ic_5 ?_
  refine zA_iload_1 dX11_keep_81 ?_
  refine zA_iaddN dX11_keep_82 ?_
  refine zA_iald (v := (gi 116 8)) 8 (zsht (n := 135) sh_116 (by decide)) dX11_keep_83 rfl (by decide) (by decide) rfl ?_
  refine zS_iast 3 (zsht (n := 135) sh_116 (by decide)) dX11_keep_84 rfl (by decide) (by decide) ?_
  refine zA_iinc_1 (v := nI (3 + 1)) dX11_keep_85 (zn_inc _) rfl ?_
  refine zA_goto 52 dX11_keep_88 (by decide) ?_
  refine zA_iload_1 dX11_keep_52 ?_
  refine zA_iconst (nI 5) dX11_keep_53 ic_5 ?_
  refine zA_icmp_geN 91 dX11_keep_54 (by decide) (by decide) (by decide) (fun hh => absurd hh (by decide)) (fun _ => ?_)
  refine zA_aload_0 dX11_keep_57 ?_
  refine zA_getR (zsht (n := 135) sh_87 (by decide)) fX11_96 dX11_keep_58 rfl r44 ?_
  refine zA_iload_1 dX11_keep_61 ?_
  refine zA_aload_0 dX11_keep_62 ?_
  refine zA_getR (zsht (n := 135) sh_87 (by decide)) fX11_96 dX11_keep_63 rfl r44 ?_
  refine zA_iconst (nI 5) dX11_keep_66 ic_5 ?_
  refine zA_iload_1 dX11_keep_67 ?_
  refine zA_iaddN dX11_keep_68 ?_
  refine zA_iald (v := (gi 115 9)) 9 (zsht (n := 135) sh_115 (by decide)) dX11_keep_69 rfl (by decide) (by decide) rfl ?_
  refine zS_iast 4 (zsht (n := 135) sh_115 (by decide)) dX11_keep_70 rfl (by decide) (by decide) ?_
  refine zA_aload_0 dX11_keep_71 ?_
  refine zA_getR (zsht (n := 135) sh_87 (by decide)) fX11_99 dX11_keep_72 rfl r45 ?_
  refine zA_iload_1 dX11_keep_75 ?_
  refine zA_aload_0 dX11_keep_76 ?_
  refine zA_getR (zsht (n := 135) sh_87 (by decide)) fX11_99 dX11_keep_77 rfl r45 ?_
  refine zA_iconst (nI 5) dX11_keep_80 ic_5 ?_
  refine zA_iload_1 dX11_keep_81 ?_
  refine zA_iaddN dX11_keep_82 ?_
  refine zA_iald (v := (gi 116 9)) 9 (zsht (n := 135) sh_116 (by decide)) dX11_keep_83 rfl (by decide) (by decide) rfl ?_
  refine zS_iast 4 (zsht (n := 135) sh_116 (by decide)) dX11_keep_84 rfl (by decide) (by decide) ?_
  refine zA_iinc_1 (v := nI (4 + 1)) dX11_keep_85 (zn_inc _) rfl ?_
  refine zA_goto 52 dX11_keep_88 (by decide) ?_
  refine zA_iload_1 dX11_keep_52 ?_
  refine zA_iconst (nI 5) dX11_keep_53 ic_5 ?_
  refine zA_icmp_geN 91 dX11_keep_54 (by decide) (by decide) (by decide) (fun _ => ?_) (fun hh => absurd hh (by decide))
  refine zA_aload_0 dX11_keep_91 ?_
  refine zA_aload_0 dX11_keep_92 ?_
  refine zA_getI (v := (nI q)) (zsht (n := 135) sh_87 (by decide)) fX11_252 dX11_keep_93 rfl hq ?_
  refine zS_putI (zsht (n := 135) sh_87 (by decide)) fX11_326 dX11_keep_96 rfl rfl ?_
  refine zA_iconst (nI 0) dX11_keep_99 ic_0 ?_
  refine zA_istore_1 dX11_keep_100 rfl ?_
  refine zA_gi (gi2 := rKp0 gi q) rfl ?_
  have h46 : ∀ k, zit rKpS (rKp0 gi q) k 87 46 = nI q := fun k => by
    rw [zit_nq (fun M i => by unfold rKpS; rw [zs_nq (by decide), zs_nq (by decide), zs_nq (by decide), zs_nq (by decide), zs_nq (by decide)]) _ k]
    rfl
  have key : ∀ (m k : Nat), k + m = q → zB_v x g mX11_keep 0 (zSH.take 135) (fun gi' gl' gr' => gi' = zit rKpS (rKp0 gi q) q ∧ gl' = gl ∧ gr' = gr) 101 [some (.ref 87), some (.int (nI k))] [] ((zit rKpS (rKp0 gi q) k)) gl gr := by
    intro m
    induction m with
    | zero =>
      intro k hk
      refine zA_iload_1 dX11_keep_101 ?_
      refine zA_aload_0 dX11_keep_102 ?_
      refine zA_getI (v := (nI q)) (zsht (n := 135) sh_87 (by decide)) fX11_326 dX11_keep_103 rfl (h46 k) ?_
      refine zA_icmp_geN 199 dX11_keep_106 (by decide) (by omega) (by omega) (fun h => ?_) (fun h => ?_)
      · have e9 : k = q := by omega
        rw [e9]
        exact zB_vret rfl dX11_keep_199 (⟨rfl, rfl, rfl⟩)
      · exact absurd h (by omega)
    | succ m ih =>
      intro k hk
      have hn : zit rKpS (rKp0 gi q) (k + 1) = rKpS (zit rKpS (rKp0 gi q) k) k := rfl
      have ih2 := ih (k + 1) (by omega)
      have h47 := h46 k
      rw [hn] at ih2
      generalize zit rKpS (rKp0 gi q) k = M at ih2 h47 ⊢
      refine zA_iload_1 dX11_keep_101 ?_
      refine zA_aload_0 dX11_keep_102 ?_
      refine zA_getI (v := (nI q)) (zsht (n := 135) sh_87 (by decide)) fX11_326 dX11_keep_103 rfl h47 ?_
      refine zA_icmp_geN 199 dX11_keep_106 (by decide) (by omega) (by omega) (fun h => ?_) (fun h => ?_)
      · exact absurd h (by omega)
      · refine zA_aload_0 dX11_keep_109 ?_
        refine zA_getR (zsht (n := 135) sh_87 (by decide)) fX11_81 dX11_keep_110 rfl r39 ?_
        refine zA_iload_1 dX11_keep_113 ?_
        refine zA_aload_0 dX11_keep_114 ?_
        refine zA_getR (zsht (n := 135) sh_87 (by decide)) fX11_81 dX11_keep_115 rfl r39 ?_
        refine zA_bipush (nI 64) dX11_keep_118 bc_64 ?_
        refine zA_iload_1 dX11_keep_120 ?_
        refine zA_iaddN dX11_keep_121 ?_
        refine zA_iald (v := (M 110 (64 + k))) (64 + k) (zsht (n := 135) sh_110 (by decide)) dX11_keep_122 rfl (by omega) (by decide) rfl ?_
        refine zS_iast k (zsht (n := 135) sh_110 (by decide)) dX11_keep_123 rfl (by omega) (by decide) ?_
        refine zA_aload_0 dX11_keep_124 ?_
        refine zA_getR (zsht (n := 135) sh_87 (by decide)) fX11_84 dX11_keep_125 rfl r40 ?_
        refine zA_iload_1 dX11_keep_128 ?_
        refine zA_aload_0 dX11_keep_129 ?_
        refine zA_getR (zsht (n := 135) sh_87 (by decide)) fX11_84 dX11_keep_130 rfl r40 ?_
        refine zA_bipush (nI 64) dX11_keep_133 bc_64 ?_
        refine zA_iload_1 dX11_keep_135 ?_
        refine zA_iaddN dX11_keep_136 ?_
        refine zA_iald (v := (M 111 (64 + k))) (64 + k) (zsht (n := 135) sh_111 (by decide)) dX11_keep_137 rfl (by omega) (by decide) rfl ?_
        refine zA_bipush (nI 64) dX11_keep_138 bc_64 ?_
        refine zA_isub dX11_keep_140 ?_
        refine zS_iast k (zsht (n := 135) sh_111 (by decide)) dX11_keep_141 rfl (by omega) (by decide) ?_
        refine zA_aload_0 dX11_keep_142 ?_
        refine zA_getR (zsht (n := 135) sh_87 (by decide)) fX11_87 dX11_keep_143 rfl r41 ?_
        refine zA_iload_1 dX11_keep_146 ?_
        refine zA_aload_0 dX11_keep_147 ?_
        refine zA_getR (zsht (n := 135) sh_87 (by decide)) fX11_87 dX11_keep_148 rfl r41 ?_
        refine zA_bipush (nI 64) dX11_keep_151 bc_64 ?_
        refine zA_iload_1 dX11_keep_153 ?_
        refine zA_iaddN dX11_keep_154 ?_
        refine zA_iald (v := (M 112 (64 + k))) (64 + k) (zsht (n := 135) sh_112 (by decide)) dX11_keep_155 rfl (by omega) (by decide) rfl ?_
        refine zA_bipush (nI 64) dX11_keep_156 bc_64 ?_
        refine zA_isub dX11_keep_158 ?_
        refine zS_iast k (zsht (n := 135) sh_112 (by decide)) dX11_keep_159 rfl (by omega) (by decide) ?_
        refine zA_aload_0 dX11_keep_160 ?_
        refine zA_getR (zsht (n := 135) sh_87 (by decide)) fX11_90 dX11_keep_161 rfl r42 ?_
        refine zA_iload_1 dX11_keep_164 ?_
        refine zA_aload_0 dX11_keep_165 ?_
        refine zA_getR (zsht (n := 135) sh_87 (by decide)) fX11_90 dX11_keep_166 rfl r42 ?_
        refine zA_bipush (nI 64) dX11_keep_169 bc_64 ?_
        refine zA_iload_1 dX11_keep_171 ?_
        refine zA_iaddN dX11_keep_172 ?_
        refine zA_iald (v := (M 113 (64 + k))) (64 + k) (zsht (n := 135) sh_113 (by decide)) dX11_keep_173 rfl (by omega) (by decide) rfl ?_
        refine zS_iast k (zsht (n := 135) sh_113 (by decide)) dX11_keep_174 rfl (by omega) (by decide) ?_
        refine zA_aload_0 dX11_keep_175 ?_
        refine zA_getR (zsht (n := 135) sh_87 (by decide)) fX11_93 dX11_keep_176 rfl r43 ?_
        refine zA_iload_1 dX11_keep_179 ?_
        refine zA_aload_0 dX11_keep_180 ?_
        refine zA_getR (zsht (n := 135) sh_87 (by decide)) fX11_93 dX11_keep_181 rfl r43 ?_
        refine zA_bipush (nI 64) dX11_keep_184 bc_64 ?_
        refine zA_iload_1 dX11_keep_186 ?_
        refine zA_iaddN dX11_keep_187 ?_
        refine zA_iald (v := (M 114 (64 + k))) (64 + k) (zsht (n := 135) sh_114 (by decide)) dX11_keep_188 rfl (by omega) (by decide) rfl ?_
        refine zA_bipush (nI 64) dX11_keep_189 bc_64 ?_
        refine zA_isub dX11_keep_191 ?_
        refine zS_iast k (zsht (n := 135) sh_114 (by decide)) dX11_keep_192 rfl (by omega) (by decide) ?_
        refine zA_iinc_1 (v := nI (k + 1)) dX11_keep_193 (zn_inc _) rfl ?_
        refine zA_goto 101 dX11_keep_196 (by decide) ?_
        exact ih2
  exact key q 0 (by omega)

def fI_X11_init_87 (gi : zm_I) : zm_I := (rKp0 (rPl ((zs (zs (zs (zs (zs (zs (zs (zs (zs (zs (zs (zs (zs (zs (zs (zs (zs (zs (zs (zs (zs (zs (zs (zs (zs (zs (zs (zs (zs (zs (zs (zs (zs (zs (zs (zs (zs (zs (zs (zs (zs (zs (zs (zs (zs (zs (zs (zs (zs (zs (zs (zs (zs (zs (zs (zs (zs (zs (zs (zs (zs (zs (zs (zs (zs (zs (zs (zs (zs (zs (zs (zs (zs (zs (zs (zs (zs (zs (zs (zs (zs (zs (zs (zs (zs (zs (zs (zs (zs (zs (zs (zs (zs (zs (zs (zs (zs (zs (zs (zs (zs (zs (zs (zs (zs (zs (zs (zs (zs (zs (zs (zs (zs (zs (zs (zs (zs (zs (zs (zs gi 98 0 ((nI 1))) 98 1 ((nI 1))) 98 2 ((nI 1))) 98 3 ((nI 1))) 106 0 ((nI 110))) 106 1 ((nI 105))) 106 2 ((nI 103))) 106 3 ((nI 104))) 106 4 ((nI 116))) 106 5 ((nI 32))) 106 6 ((nI 102))) 106 7 ((nI 117))) 106 8 ((nI 101))) 106 9 ((nI 108))) 106 10 ((nI 32))) 106 11 ((nI 97))) 106 12 ((nI 108))) 106 13 ((nI 108))) 106 14 ((nI 111))) 106 15 ((nI 119))) 106 16 ((nI 32))) 106 17 ((nI 112))) 106 18 ((nI 114))) 106 19 ((nI 105))) 106 20 ((nI 99))) 106 21 ((nI 101))) 106 22 ((nI 32))) 106 23 ((nI 114))) 106 24 ((nI 101))) 106 25 ((nI 110))) 106 26 ((nI 116))) 106 27 ((nI 101))) 106 28 ((nI 114))) 106 29 ((nI 32))) 106 30 ((nI 112))) 106 31 ((nI 97))) 106 32 ((nI 114))) 106 33 ((nI 105))) 106 34 ((nI 115))) 106 35 ((nI 104))) 106 36 ((nI 32))) 106 37 ((nI 101))) 106 38 ((nI 103))) 106 39 ((nI 103))) 106 40 ((nI 115))) 106 41 ((nI 32))) 106 42 ((nI 111))) 106 43 ((nI 114))) 106 44 ((nI 32))) 106 45 ((nI 97))) 106 46 ((nI 110))) 106 47 ((nI 100))) 106 48 ((nI 32))) 106 49 ((nI 110))) 106 50 ((nI 111))) 106 51 ((nI 116))) 106 52 ((nI 32))) 106 53 ((nI 112))) 106 54 ((nI 101))) 106 55 ((nI 111))) 106 56 ((nI 112))) 106 57 ((nI 108))) 106 58 ((nI 101))) 106 59 ((nI 32))) 106 60 ((nI 115))) 106 61 ((nI 101))) 106 62 ((nI 97))) 106 63 ((nI 116))) 106 64 ((nI 115))) 106 65 ((nI 32))) 106 66 ((nI 115))) 106 67 ((nI 116))) 106 68 ((nI 114))) 106 69 ((nI 105))) 106 70 ((nI 99))) 106 71 ((nI 116))) 106 72 ((nI 32))) 106 73 ((nI 99))) 106 74 ((nI 104))) 106 75 ((nI 105))) 106 76 ((nI 108))) 106 77 ((nI 100))) 106 78 ((nI 32))) 106 79 ((nI 108))) 106 80 ((nI 105))) 106 81 ((nI 107))) 106 82 ((nI 101))) 106 83 ((nI 32))) 106 84 ((nI 103))) 106 85 ((nI 101))) 106 86 ((nI 110))) 106 87 ((nI 114))) 106 88 ((nI 101))) 106 89 ((nI 32))) 106 90 ((nI 97))) 106 91 ((nI 103))) 106 92 ((nI 101))) 106 93 ((nI 32))) 106 94 ((nI 109))) 106 95 ((nI 105))) 106 96 ((nI 110))) 106 97 ((nI 117))) 106 98 ((nI 116))) 106 99 ((nI 101))) 106 100 ((nI 115))) 106 101 ((nI 32))) 106 102 ((nI 63))) 106 103 ((nI 32))) 106 104 ((nI 119))) 106 105 ((nI 111))) 106 106 ((nI 114))) 106 107 ((nI 110))) 106 108 ((nI 32))) 106 109 ((nI 104))) 106 110 ((nI 101))) 106 111 ((nI 97))) 106 112 ((nI 100))) 106 113 ((nI 115))) 106 114 ((nI 32))) 87 30 (((-1)))))) 0)
def rI_X11_init_87 (gr : zm_R) : zm_R := (zr (zr (zr (zr (zr (zr (zr (zr (zr (zr (zr (zr (zr (zr (zr (zr (zr (zr (zr (zr (zr (zr (zr (zr (zr (zr (zr (zr (zr (zr (zr (zr (zr (zr (zr (zr (zr (zr (zr (zr (zr (zr (zr (zr (zr (zr (zr gr 87 0 88) 87 4 89) 87 6 90) 87 7 91) 87 8 92) 87 9 93) 87 11 94) 87 13 95) 87 14 96) 87 16 97) 87 17 98) 87 19 99) 87 21 100) 87 23 101) 87 24 102) 87 25 103) 87 26 104) 87 27 105) 87 28 106) 87 36 107) 87 37 108) 87 38 109) 87 39 110) 87 40 111) 87 41 112) 87 42 113) 87 43 114) 87 44 115) 87 45 116) 87 49 117) 87 50 118) 87 52 119) 87 54 120) 87 59 121) 87 67 122) 87 68 123) 87 69 124) 87 70 125) 87 71 126) 87 72 127) 87 73 128) 87 74 129) 87 75 130) 87 76 131) 87 77 132) 87 86 133) 87 87 134)
set_option maxRecDepth 100000 in
set_option maxHeartbeats 4000000 in
theorem ci_X11_init_87 (g : zm_G) (gi : zm_I) (gl : zm_J) (gr : zm_R) (hz : ∀ k, 88 ≤ k → gi k = fun _ => 0) (hl : ∀ k, 88 ≤ k → gl k = fun _ => 0) (hO : zOkR 88 gr) : zC_n g yX11_init mX11_init 1 47 2761 [.ref 87] 88 gi gl gr 135 (fun gi' gl' gr' => gi' = fI_X11_init_87 gi ∧ gl' = gl ∧ gr' = rI_X11_init_87 gr ∧ zOkR 135 gr' ∧ ∀ k, 135 ≤ k → gi' k = fun _ => 0) := by
  refine zC_n_of [some (.ref 87)] (by decide) rfl rfl (Nat.le_of_ble_eq_true rfl) (fun x hname hGX => ?_)
  have hz0 := hz
  refine zA_aload_0 dX11_init_0 ?_
  refine zA_objI (zm_inT 1185 (by decide +kernel) (by decide +kernel)) oi_in oi_co dX11_init_1 (by decide) (by simp [Value.category]) ?_
  refine zA_aload_0 dX11_init_4 ?_
  refine zA_sipush (nI 500) dX11_init_5 sc_500 ?_
  refine zN_newa (n := 88) (i := 0) sh_88 (by decide) rfl rfl rfl ar_int dX11_init_8 (by decide) (by decide) (by decide) (by decide) (zOkR_mono hO (by decide)) (by decide) (fun k hk => hz k (Nat.le_trans (by decide) hk)) (fun k hk => hl k (Nat.le_trans (by decide) hk)) (fun _ _ => rfl) ?_
  refine zN_putR (n := 89) (show x.meth.name = "<init>" from hname) (by decide) sh_87 (by decide) (by decide) fX11_7 dX11_init_10 rfl rfl (fun C T N h => by cases h; exact zm_inT 1194 (by decide +kernel) (by decide +kernel)) (zOkR_mono hO (by decide)) (fun hO => ?_)
  refine zA_aload_0 dX11_init_13 ?_
  refine zA_bipush (nI 64) dX11_init_14 bc_64 ?_
  refine zN_newa (n := 89) (i := 0) sh_89 (by decide) rfl rfl rfl ar_int dX11_init_16 (by decide) (by decide) (by decide) (by decide) (zOkR_mono hO (by decide)) (by decide) (fun k hk => hz k (Nat.le_trans (by decide) hk)) (fun k hk => hl k (Nat.le_trans (by decide) hk)) (fun _ _ => rfl) ?_
  refine zN_putR (n := 90) (show x.meth.name = "<init>" from hname) (by decide) sh_87 (by decide) (by decide) fX11_13 dX11_init_18 rfl rfl (fun C T N h => by cases h; exact zm_inT 1198 (by decide +kernel) (by decide +kernel)) (zOkR_mono hO (by decide)) (fun hO => ?_)
  refine zA_aload_0 dX11_init_21 ?_
  refine zA_bipush (nI 14) dX11_init_22 bc_14 ?_
  refine zN_newa (n := 90) (i := 0) sh_90 (by decide) rfl rfl rfl ar_int dX11_init_24 (by decide) (by decide) (by decide) (by decide) (zOkR_mono hO (by decide)) (by decide) (fun k hk => hz k (Nat.le_trans (by decide) hk)) (fun k hk => hl k (Nat.le_trans (by decide) hk)) (fun _ _ => rfl) ?_
  refine zN_putR (n := 91) (show x.meth.name = "<init>" from hname) (by decide) sh_87 (by decide) (by decide) fX11_16 dX11_init_26 rfl rfl (fun C T N h => by cases h; exact zm_inT 1200 (by decide +kernel) (by decide +kernel)) (zOkR_mono hO (by decide)) (fun hO => ?_)
  refine zA_aload_0 dX11_init_29 ?_
  refine zA_bipush (nI 14) dX11_init_30 bc_14 ?_
  refine zN_newa (n := 91) (i := 0) sh_91 (by decide) rfl rfl rfl ar_int dX11_init_32 (by decide) (by decide) (by decide) (by decide) (zOkR_mono hO (by decide)) (by decide) (fun k hk => hz k (Nat.le_trans (by decide) hk)) (fun k hk => hl k (Nat.le_trans (by decide) hk)) (fun _ _ => rfl) ?_
  refine zN_putR (n := 92) (show x.meth.name = "<init>" from hname) (by decide) sh_87 (by decide) (by decide) fX11_19 dX11_init_34 rfl rfl (fun C T N h => by cases h; exact zm_inT 1201 (by decide +kernel) (by decide +kernel)) (zOkR_mono hO (by decide)) (fun hO => ?_)
  refine zA_aload_0 dX11_init_37 ?_
  refine zA_bipush (nI 14) dX11_init_38 bc_14 ?_
  refine zN_newa (n := 92) (i := 0) sh_92 (by decide) rfl rfl rfl ar_int dX11_init_40 (by decide) (by decide) (by decide) (by decide) (zOkR_mono hO (by decide)) (by decide) (fun k hk => hz k (Nat.le_trans (by decide) hk)) (fun k hk => hl k (Nat.le_trans (by decide) hk)) (fun _ _ => rfl) ?_
  refine zN_putR (n := 93) (show x.meth.name = "<init>" from hname) (by decide) sh_87 (by decide) (by decide) fX11_22 dX11_init_42 rfl rfl (fun C T N h => by cases h; exact zm_inT 1202 (by decide +kernel) (by decide +kernel)) (zOkR_mono hO (by decide)) (fun hO => ?_)
  refine zA_aload_0 dX11_init_45 ?_
  refine zA_bipush (nI 14) dX11_init_46 bc_14 ?_
  refine zN_newa (n := 93) (i := 0) sh_93 (by decide) rfl rfl rfl ar_int dX11_init_48 (by decide) (by decide) (by decide) (by decide) (zOkR_mono hO (by decide)) (by decide) (fun k hk => hz k (Nat.le_trans (by decide) hk)) (fun k hk => hl k (Nat.le_trans (by decide) hk)) (fun _ _ => rfl) ?_
  refine zN_putR (n := 94) (show x.meth.name = "<init>" from hname) (by decide) sh_87 (by decide) (by decide) fX11_25 dX11_init_50 rfl rfl (fun C T N h => by cases h; exact zm_inT 1203 (by decide +kernel) (by decide +kernel)) (zOkR_mono hO (by decide)) (fun hO => ?_)
  refine zA_aload_0 dX11_init_53 ?_
  refine zA_iconst (nI 2) dX11_init_54 ic_2 ?_
  refine zN_newa (n := 94) (i := 0) sh_94 (by decide) rfl rfl rfl ar_int dX11_init_55 (by decide) (by decide) (by decide) (by decide) (zOkR_mono hO (by decide)) (by decide) (fun k hk => hz k (Nat.le_trans (by decide) hk)) (fun k hk => hl k (Nat.le_trans (by decide) hk)) (fun _ _ => rfl) ?_
  refine zN_putR (n := 95) (show x.meth.name = "<init>" from hname) (by decide) sh_87 (by decide) (by decide) fX11_28 dX11_init_57 rfl rfl (fun C T N h => by cases h; exact zm_inT 1205 (by decide +kernel) (by decide +kernel)) (zOkR_mono hO (by decide)) (fun hO => ?_)
  refine zA_aload_0 dX11_init_60 ?_
  refine zA_iconst (nI 3) dX11_init_61 ic_3 ?_
  refine zN_newa (n := 95) (i := 0) sh_95 (by decide) rfl rfl rfl ar_int dX11_init_62 (by decide) (by decide) (by decide) (by decide) (zOkR_mono hO (by decide)) (by decide) (fun k hk => hz k (Nat.le_trans (by decide) hk)) (fun k hk => hl k (Nat.le_trans (by decide) hk)) (fun _ _ => rfl) ?_
  refine zN_putR (n := 96) (show x.meth.name = "<init>" from hname) (by decide) sh_87 (by decide) (by decide) fX11_31 dX11_init_64 rfl rfl (fun C T N h => by cases h; exact zm_inT 1207 (by decide +kernel) (by decide +kernel)) (zOkR_mono hO (by decide)) (fun hO => ?_)
  refine zA_aload_0 dX11_init_67 ?_
  refine zA_iconst (nI 3) dX11_init_68 ic_3 ?_
  refine zN_newa (n := 96) (i := 0) sh_96 (by decide) rfl rfl rfl ar_int dX11_init_69 (by decide) (by decide) (by decide) (by decide) (zOkR_mono hO (by decide)) (by decide) (fun k hk => hz k (Nat.le_trans (by decide) hk)) (fun k hk => hl k (Nat.le_trans (by decide) hk)) (fun _ _ => rfl) ?_
  refine zN_putR (n := 97) (show x.meth.name = "<init>" from hname) (by decide) sh_87 (by decide) (by decide) fX11_34 dX11_init_71 rfl rfl (fun C T N h => by cases h; exact zm_inT 1208 (by decide +kernel) (by decide +kernel)) (zOkR_mono hO (by decide)) (fun hO => ?_)
  refine zA_aload_0 dX11_init_74 ?_
  refine zA_bipush (nI 28) dX11_init_75 bc_28 ?_
  refine zN_newa (n := 97) (i := 0) sh_97 (by decide) rfl rfl rfl ar_int dX11_init_77 (by decide) (by decide) (by decide) (by decide) (zOkR_mono hO (by decide)) (by decide) (fun k hk => hz k (Nat.le_trans (by decide) hk)) (fun k hk => hl k (Nat.le_trans (by decide) hk)) (fun _ _ => rfl) ?_
  refine zN_putR (n := 98) (show x.meth.name = "<init>" from hname) (by decide) sh_87 (by decide) (by decide) fX11_37 dX11_init_79 rfl rfl (fun C T N h => by cases h; exact zm_inT 1210 (by decide +kernel) (by decide +kernel)) (zOkR_mono hO (by decide)) (fun hO => ?_)
  refine zA_aload_0 dX11_init_82 ?_
  refine zA_iconst (nI 4) dX11_init_83 ic_4 ?_
  refine zN_newa (n := 98) (i := 0) sh_98 (by decide) rfl rfl rfl ar_int dX11_init_84 (by decide) (by decide) (by decide) (by decide) (zOkR_mono hO (by decide)) (by decide) (fun k hk => hz k (Nat.le_trans (by decide) hk)) (fun k hk => hl k (Nat.le_trans (by decide) hk)) (fun _ _ => rfl) ?_
  refine zA_dup dX11_init_86 rfl ?_
  refine zA_iconst (nI 0) dX11_init_87 ic_0 ?_
  refine zA_iconst (nI 1) dX11_init_88 ic_1 ?_
  refine zS_iast 0 (zsht (n := 99) sh_98 (by decide)) dX11_init_89 rfl (by decide) (by decide) ?_
  refine zA_dup dX11_init_90 rfl ?_
  refine zA_iconst (nI 1) dX11_init_91 ic_1 ?_
  refine zA_iconst (nI 1) dX11_init_92 ic_1 ?_
  refine zS_iast 1 (zsht (n := 99) sh_98 (by decide)) dX11_init_93 rfl (by decide) (by decide) ?_
  refine zA_dup dX11_init_94 rfl ?_
  refine zA_iconst (nI 2) dX11_init_95 ic_2 ?_
  refine zA_iconst (nI 1) dX11_init_96 ic_1 ?_
  refine zS_iast 2 (zsht (n := 99) sh_98 (by decide)) dX11_init_97 rfl (by decide) (by decide) ?_
  refine zA_dup dX11_init_98 rfl ?_
  refine zA_iconst (nI 3) dX11_init_99 ic_3 ?_
  refine zA_iconst (nI 1) dX11_init_100 ic_1 ?_
  refine zS_iast 3 (zsht (n := 99) sh_98 (by decide)) dX11_init_101 rfl (by decide) (by decide) ?_
  refine zN_putR (n := 99) (show x.meth.name = "<init>" from hname) (by decide) sh_87 (by decide) (by decide) fX11_40 dX11_init_102 rfl rfl (fun C T N h => by cases h; exact zm_inT 1211 (by decide +kernel) (by decide +kernel)) (zOkR_mono hO (by decide)) (fun hO => ?_)
  refine zA_aload_0 dX11_init_105 ?_
  refine zA_bipush (nI 108) dX11_init_106 bc_108 ?_
  have hz : ∀ k, 99 ≤ k → ((zs (zs (zs (zs gi 98 0 ((nI 1))) 98 1 ((nI 1))) 98 2 ((nI 1))) 98 3 ((nI 1)))) k = fun _ => 0 := fun k hk => by
    repeat rw [zs_nq (by omega)]
    exact hz0 k (by omega)
  refine zN_newa (n := 99) (i := 0) sh_99 (by decide) rfl rfl rfl ar_int dX11_init_108 (by decide) (by decide) (by decide) (by decide) (zOkR_mono hO (by decide)) (by decide) (fun k hk => hz k (Nat.le_trans (by decide) hk)) (fun k hk => hl k (Nat.le_trans (by decide) hk)) (fun _ _ => rfl) ?_
  refine zN_putR (n := 100) (show x.meth.name = "<init>" from hname) (by decide) sh_87 (by decide) (by decide) fX11_43 dX11_init_110 rfl rfl (fun C T N h => by cases h; exact zm_inT 1213 (by decide +kernel) (by decide +kernel)) (zOkR_mono hO (by decide)) (fun hO => ?_)
  refine zA_aload_0 dX11_init_113 ?_
  refine zA_bipush (nI 36) dX11_init_114 bc_36 ?_
  refine zN_newa (n := 100) (i := 0) sh_100 (by decide) rfl rfl rfl ar_int dX11_init_116 (by decide) (by decide) (by decide) (by decide) (zOkR_mono hO (by decide)) (by decide) (fun k hk => hz k (Nat.le_trans (by decide) hk)) (fun k hk => hl k (Nat.le_trans (by decide) hk)) (fun _ _ => rfl) ?_
  refine zN_putR (n := 101) (show x.meth.name = "<init>" from hname) (by decide) sh_87 (by decide) (by decide) fX11_46 dX11_init_118 rfl rfl (fun C T N h => by cases h; exact zm_inT 1215 (by decide +kernel) (by decide +kernel)) (zOkR_mono hO (by decide)) (fun hO => ?_)
  refine zA_aload_0 dX11_init_121 ?_
  refine zA_bipush (nI 40) dX11_init_122 bc_40 ?_
  refine zN_newa (n := 101) (i := 0) sh_101 (by decide) rfl rfl rfl ar_int dX11_init_124 (by decide) (by decide) (by decide) (by decide) (zOkR_mono hO (by decide)) (by decide) (fun k hk => hz k (Nat.le_trans (by decide) hk)) (fun k hk => hl k (Nat.le_trans (by decide) hk)) (fun _ _ => rfl) ?_
  refine zN_putR (n := 102) (show x.meth.name = "<init>" from hname) (by decide) sh_87 (by decide) (by decide) fX11_49 dX11_init_126 rfl rfl (fun C T N h => by cases h; exact zm_inT 1217 (by decide +kernel) (by decide +kernel)) (zOkR_mono hO (by decide)) (fun hO => ?_)
  refine zA_aload_0 dX11_init_129 ?_
  refine zA_bipush (nI 40) dX11_init_130 bc_40 ?_
  refine zN_newa (n := 102) (i := 0) sh_102 (by decide) rfl rfl rfl ar_int dX11_init_132 (by decide) (by decide) (by decide) (by decide) (zOkR_mono hO (by decide)) (by decide) (fun k hk => hz k (Nat.le_trans (by decide) hk)) (fun k hk => hl k (Nat.le_trans (by decide) hk)) (fun _ _ => rfl) ?_
  refine zN_putR (n := 103) (show x.meth.name = "<init>" from hname) (by decide) sh_87 (by decide) (by decide) fX11_52 dX11_init_134 rfl rfl (fun C T N h => by cases h; exact zm_inT 1218 (by decide +kernel) (by decide +kernel)) (zOkR_mono hO (by decide)) (fun hO => ?_)
  refine zA_aload_0 dX11_init_137 ?_
  refine zA_bipush (nI 40) dX11_init_138 bc_40 ?_
  refine zN_newa (n := 103) (i := 0) sh_103 (by decide) rfl rfl rfl ar_int dX11_init_140 (by decide) (by decide) (by decide) (by decide) (zOkR_mono hO (by decide)) (by decide) (fun k hk => hz k (Nat.le_trans (by decide) hk)) (fun k hk => hl k (Nat.le_trans (by decide) hk)) (fun _ _ => rfl) ?_
  refine zN_putR (n := 104) (show x.meth.name = "<init>" from hname) (by decide) sh_87 (by decide) (by decide) fX11_55 dX11_init_142 rfl rfl (fun C T N h => by cases h; exact zm_inT 1219 (by decide +kernel) (by decide +kernel)) (zOkR_mono hO (by decide)) (fun hO => ?_)
  refine zA_aload_0 dX11_init_145 ?_
  refine zA_bipush (nI 40) dX11_init_146 bc_40 ?_
  refine zN_newa (n := 104) (i := 2) sh_104 (by decide) rfl rfl rfl ar_boolean dX11_init_148 (by decide) (by decide) (by decide) (by decide) (zOkR_mono hO (by decide)) (by decide) (fun k hk => hz k (Nat.le_trans (by decide) hk)) (fun k hk => hl k (Nat.le_trans (by decide) hk)) (fun _ _ => rfl) ?_
  refine zN_putR (n := 105) (show x.meth.name = "<init>" from hname) (by decide) sh_87 (by decide) (by decide) fX11_58 dX11_init_150 rfl rfl (fun C T N h => by cases h; exact zm_inT 1220 (by decide +kernel) (by decide +kernel)) (zOkR_mono hO (by decide)) (fun hO => ?_)
  refine zA_aload_0 dX11_init_153 ?_
  refine zA_sipush (nI 256) dX11_init_154 sc_256 ?_
  refine zN_newa (n := 105) (i := 0) sh_105 (by decide) rfl rfl rfl ar_int dX11_init_157 (by decide) (by decide) (by decide) (by decide) (zOkR_mono hO (by decide)) (by decide) (fun k hk => hz k (Nat.le_trans (by decide) hk)) (fun k hk => hl k (Nat.le_trans (by decide) hk)) (fun _ _ => rfl) ?_
  refine zN_putR (n := 106) (show x.meth.name = "<init>" from hname) (by decide) sh_87 (by decide) (by decide) fX11_62 dX11_init_159 rfl rfl (fun C T N h => by cases h; exact zm_inT 1221 (by decide +kernel) (by decide +kernel)) (zOkR_mono hO (by decide)) (fun hO => ?_)
  refine zA_aload_0 dX11_init_162 ?_
  refine zA_bipush (nI 115) dX11_init_163 bc_115 ?_
  refine zN_newa (n := 106) (i := 0) sh_106 (by decide) rfl rfl rfl ar_int dX11_init_165 (by decide) (by decide) (by decide) (by decide) (zOkR_mono hO (by decide)) (by decide) (fun k hk => hz k (Nat.le_trans (by decide) hk)) (fun k hk => hl k (Nat.le_trans (by decide) hk)) (fun _ _ => rfl) ?_
  refine zA_dup dX11_init_167 rfl ?_
  refine zA_iconst (nI 0) dX11_init_168 ic_0 ?_
  refine zA_bipush (nI 110) dX11_init_169 bc_110 ?_
  refine zS_iast 0 (zsht (n := 107) sh_106 (by decide)) dX11_init_171 rfl (by decide) (by decide) ?_
  refine zA_dup dX11_init_172 rfl ?_
  refine zA_iconst (nI 1) dX11_init_173 ic_1 ?_
  refine zA_bipush (nI 105) dX11_init_174 bc_105 ?_
  refine zS_iast 1 (zsht (n := 107) sh_106 (by decide)) dX11_init_176 rfl (by decide) (by decide) ?_
  refine zA_dup dX11_init_177 rfl ?_
  refine zA_iconst (nI 2) dX11_init_178 ic_2 ?_
  refine zA_bipush (nI 103) dX11_init_179 bc_103 ?_
  refine zS_iast 2 (zsht (n := 107) sh_106 (by decide)) dX11_init_181 rfl (by decide) (by decide) ?_
  refine zA_dup dX11_init_182 rfl ?_
  refine zA_iconst (nI 3) dX11_init_183 ic_3 ?_
  refine zA_bipush (nI 104) dX11_init_184 bc_104 ?_
  refine zS_iast 3 (zsht (n := 107) sh_106 (by decide)) dX11_init_186 rfl (by decide) (by decide) ?_
  refine zA_dup dX11_init_187 rfl ?_
  refine zA_iconst (nI 4) dX11_init_188 ic_4 ?_
  refine zA_bipush (nI 116) dX11_init_189 bc_116 ?_
  refine zS_iast 4 (zsht (n := 107) sh_106 (by decide)) dX11_init_191 rfl (by decide) (by decide) ?_
  refine zA_dup dX11_init_192 rfl ?_
  refine zA_iconst (nI 5) dX11_init_193 ic_5 ?_
  refine zA_bipush (nI 32) dX11_init_194 bc_32 ?_
  refine zS_iast 5 (zsht (n := 107) sh_106 (by decide)) dX11_init_196 rfl (by decide) (by decide) ?_
  refine zA_dup dX11_init_197 rfl ?_
  refine zA_bipush (nI 6) dX11_init_198 bc_6 ?_
  refine zA_bipush (nI 102) dX11_init_200 bc_102 ?_
  refine zS_iast 6 (zsht (n := 107) sh_106 (by decide)) dX11_init_202 rfl (by decide) (by decide) ?_
  refine zA_dup dX11_init_203 rfl ?_
  refine zA_bipush (nI 7) dX11_init_204 bc_7 ?_
  refine zA_bipush (nI 117) dX11_init_206 bc_117 ?_
  refine zS_iast 7 (zsht (n := 107) sh_106 (by decide)) dX11_init_208 rfl (by decide) (by decide) ?_
  refine zA_dup dX11_init_209 rfl ?_
  refine zA_bipush (nI 8) dX11_init_210 bc_8 ?_
  refine zA_bipush (nI 101) dX11_init_212 bc_101 ?_
  refine zS_iast 8 (zsht (n := 107) sh_106 (by decide)) dX11_init_214 rfl (by decide) (by decide) ?_
  refine zA_dup dX11_init_215 rfl ?_
  refine zA_bipush (nI 9) dX11_init_216 bc_9 ?_
  refine zA_bipush (nI 108) dX11_init_218 bc_108 ?_
  refine zS_iast 9 (zsht (n := 107) sh_106 (by decide)) dX11_init_220 rfl (by decide) (by decide) ?_
  refine zA_dup dX11_init_221 rfl ?_
  refine zA_bipush (nI 10) dX11_init_222 bc_10 ?_
  refine zA_bipush (nI 32) dX11_init_224 bc_32 ?_
  refine zS_iast 10 (zsht (n := 107) sh_106 (by decide)) dX11_init_226 rfl (by decide) (by decide) ?_
  refine zA_dup dX11_init_227 rfl ?_
  refine zA_bipush (nI 11) dX11_init_228 bc_11 ?_
  refine zA_bipush (nI 97) dX11_init_230 bc_97 ?_
  refine zS_iast 11 (zsht (n := 107) sh_106 (by decide)) dX11_init_232 rfl (by decide) (by decide) ?_
  refine zA_dup dX11_init_233 rfl ?_
  refine zA_bipush (nI 12) dX11_init_234 bc_12 ?_
  refine zA_bipush (nI 108) dX11_init_236 bc_108 ?_
  refine zS_iast 12 (zsht (n := 107) sh_106 (by decide)) dX11_init_238 rfl (by decide) (by decide) ?_
  refine zA_dup dX11_init_239 rfl ?_
  refine zA_bipush (nI 13) dX11_init_240 bc_13 ?_
  refine zA_bipush (nI 108) dX11_init_242 bc_108 ?_
  refine zS_iast 13 (zsht (n := 107) sh_106 (by decide)) dX11_init_244 rfl (by decide) (by decide) ?_
  refine zA_dup dX11_init_245 rfl ?_
  refine zA_bipush (nI 14) dX11_init_246 bc_14 ?_
  refine zA_bipush (nI 111) dX11_init_248 bc_111 ?_
  refine zS_iast 14 (zsht (n := 107) sh_106 (by decide)) dX11_init_250 rfl (by decide) (by decide) ?_
  refine zA_dup dX11_init_251 rfl ?_
  refine zA_bipush (nI 15) dX11_init_252 bc_15 ?_
  refine zA_bipush (nI 119) dX11_init_254 bc_119 ?_
  refine zS_iast 15 (zsht (n := 107) sh_106 (by decide)) dX11_init_256 rfl (by decide) (by decide) ?_
  refine zA_dup dX11_init_257 rfl ?_
  refine zA_bipush (nI 16) dX11_init_258 bc_16 ?_
  refine zA_bipush (nI 32) dX11_init_260 bc_32 ?_
  refine zS_iast 16 (zsht (n := 107) sh_106 (by decide)) dX11_init_262 rfl (by decide) (by decide) ?_
  refine zA_dup dX11_init_263 rfl ?_
  refine zA_bipush (nI 17) dX11_init_264 bc_17 ?_
  refine zA_bipush (nI 112) dX11_init_266 bc_112 ?_
  refine zS_iast 17 (zsht (n := 107) sh_106 (by decide)) dX11_init_268 rfl (by decide) (by decide) ?_
  refine zA_dup dX11_init_269 rfl ?_
  refine zA_bipush (nI 18) dX11_init_270 bc_18 ?_
  refine zA_bipush (nI 114) dX11_init_272 bc_114 ?_
  refine zS_iast 18 (zsht (n := 107) sh_106 (by decide)) dX11_init_274 rfl (by decide) (by decide) ?_
  refine zA_dup dX11_init_275 rfl ?_
  refine zA_bipush (nI 19) dX11_init_276 bc_19 ?_
  refine zA_bipush (nI 105) dX11_init_278 bc_105 ?_
  refine zS_iast 19 (zsht (n := 107) sh_106 (by decide)) dX11_init_280 rfl (by decide) (by decide) ?_
  refine zA_dup dX11_init_281 rfl ?_
  refine zA_bipush (nI 20) dX11_init_282 bc_20 ?_
  refine zA_bipush (nI 99) dX11_init_284 bc_99 ?_
  refine zS_iast 20 (zsht (n := 107) sh_106 (by decide)) dX11_init_286 rfl (by decide) (by decide) ?_
  refine zA_dup dX11_init_287 rfl ?_
  refine zA_bipush (nI 21) dX11_init_288 bc_21 ?_
  refine zA_bipush (nI 101) dX11_init_290 bc_101 ?_
  refine zS_iast 21 (zsht (n := 107) sh_106 (by decide)) dX11_init_292 rfl (by decide) (by decide) ?_
  refine zA_dup dX11_init_293 rfl ?_
  refine zA_bipush (nI 22) dX11_init_294 bc_22 ?_
  refine zA_bipush (nI 32) dX11_init_296 bc_32 ?_
  refine zS_iast 22 (zsht (n := 107) sh_106 (by decide)) dX11_init_298 rfl (by decide) (by decide) ?_
  refine zA_dup dX11_init_299 rfl ?_
  refine zA_bipush (nI 23) dX11_init_300 bc_23 ?_
  refine zA_bipush (nI 114) dX11_init_302 bc_114 ?_
  refine zS_iast 23 (zsht (n := 107) sh_106 (by decide)) dX11_init_304 rfl (by decide) (by decide) ?_
  refine zA_dup dX11_init_305 rfl ?_
  refine zA_bipush (nI 24) dX11_init_306 bc_24 ?_
  refine zA_bipush (nI 101) dX11_init_308 bc_101 ?_
  refine zS_iast 24 (zsht (n := 107) sh_106 (by decide)) dX11_init_310 rfl (by decide) (by decide) ?_
  refine zA_dup dX11_init_311 rfl ?_
  refine zA_bipush (nI 25) dX11_init_312 bc_25 ?_
  refine zA_bipush (nI 110) dX11_init_314 bc_110 ?_
  refine zS_iast 25 (zsht (n := 107) sh_106 (by decide)) dX11_init_316 rfl (by decide) (by decide) ?_
  refine zA_dup dX11_init_317 rfl ?_
  refine zA_bipush (nI 26) dX11_init_318 bc_26 ?_
  refine zA_bipush (nI 116) dX11_init_320 bc_116 ?_
  refine zS_iast 26 (zsht (n := 107) sh_106 (by decide)) dX11_init_322 rfl (by decide) (by decide) ?_
  refine zA_dup dX11_init_323 rfl ?_
  refine zA_bipush (nI 27) dX11_init_324 bc_27 ?_
  refine zA_bipush (nI 101) dX11_init_326 bc_101 ?_
  refine zS_iast 27 (zsht (n := 107) sh_106 (by decide)) dX11_init_328 rfl (by decide) (by decide) ?_
  refine zA_dup dX11_init_329 rfl ?_
  refine zA_bipush (nI 28) dX11_init_330 bc_28 ?_
  refine zA_bipush (nI 114) dX11_init_332 bc_114 ?_
  refine zS_iast 28 (zsht (n := 107) sh_106 (by decide)) dX11_init_334 rfl (by decide) (by decide) ?_
  refine zA_dup dX11_init_335 rfl ?_
  refine zA_bipush (nI 29) dX11_init_336 bc_29 ?_
  refine zA_bipush (nI 32) dX11_init_338 bc_32 ?_
  refine zS_iast 29 (zsht (n := 107) sh_106 (by decide)) dX11_init_340 rfl (by decide) (by decide) ?_
  refine zA_dup dX11_init_341 rfl ?_
  refine zA_bipush (nI 30) dX11_init_342 bc_30 ?_
  refine zA_bipush (nI 112) dX11_init_344 bc_112 ?_
  refine zS_iast 30 (zsht (n := 107) sh_106 (by decide)) dX11_init_346 rfl (by decide) (by decide) ?_
  refine zA_dup dX11_init_347 rfl ?_
  refine zA_bipush (nI 31) dX11_init_348 bc_31 ?_
  refine zA_bipush (nI 97) dX11_init_350 bc_97 ?_
  refine zS_iast 31 (zsht (n := 107) sh_106 (by decide)) dX11_init_352 rfl (by decide) (by decide) ?_
  refine zA_dup dX11_init_353 rfl ?_
  refine zA_bipush (nI 32) dX11_init_354 bc_32 ?_
  refine zA_bipush (nI 114) dX11_init_356 bc_114 ?_
  refine zS_iast 32 (zsht (n := 107) sh_106 (by decide)) dX11_init_358 rfl (by decide) (by decide) ?_
  refine zA_dup dX11_init_359 rfl ?_
  refine zA_bipush (nI 33) dX11_init_360 bc_33 ?_
  refine zA_bipush (nI 105) dX11_init_362 bc_105 ?_
  refine zS_iast 33 (zsht (n := 107) sh_106 (by decide)) dX11_init_364 rfl (by decide) (by decide) ?_
  refine zA_dup dX11_init_365 rfl ?_
  refine zA_bipush (nI 34) dX11_init_366 bc_34 ?_
  refine zA_bipush (nI 115) dX11_init_368 bc_115 ?_
  refine zS_iast 34 (zsht (n := 107) sh_106 (by decide)) dX11_init_370 rfl (by decide) (by decide) ?_
  refine zA_dup dX11_init_371 rfl ?_
  refine zA_bipush (nI 35) dX11_init_372 bc_35 ?_
  refine zA_bipush (nI 104) dX11_init_374 bc_104 ?_
  refine zS_iast 35 (zsht (n := 107) sh_106 (by decide)) dX11_init_376 rfl (by decide) (by decide) ?_
  refine zA_dup dX11_init_377 rfl ?_
  refine zA_bipush (nI 36) dX11_init_378 bc_36 ?_
  refine zA_bipush (nI 32) dX11_init_380 bc_32 ?_
  refine zS_iast 36 (zsht (n := 107) sh_106 (by decide)) dX11_init_382 rfl (by decide) (by decide) ?_
  refine zA_dup dX11_init_383 rfl ?_
  refine zA_bipush (nI 37) dX11_init_384 bc_37 ?_
  refine zA_bipush (nI 101) dX11_init_386 bc_101 ?_
  refine zS_iast 37 (zsht (n := 107) sh_106 (by decide)) dX11_init_388 rfl (by decide) (by decide) ?_
  refine zA_dup dX11_init_389 rfl ?_
  refine zA_bipush (nI 38) dX11_init_390 bc_38 ?_
  refine zA_bipush (nI 103) dX11_init_392 bc_103 ?_
  refine zS_iast 38 (zsht (n := 107) sh_106 (by decide)) dX11_init_394 rfl (by decide) (by decide) ?_
  refine zA_dup dX11_init_395 rfl ?_
  refine zA_bipush (nI 39) dX11_init_396 bc_39 ?_
  refine zA_bipush (nI 103) dX11_init_398 bc_103 ?_
  refine zS_iast 39 (zsht (n := 107) sh_106 (by decide)) dX11_init_400 rfl (by decide) (by decide) ?_
  refine zA_dup dX11_init_401 rfl ?_
  refine zA_bipush (nI 40) dX11_init_402 bc_40 ?_
  refine zA_bipush (nI 115) dX11_init_404 bc_115 ?_
  refine zS_iast 40 (zsht (n := 107) sh_106 (by decide)) dX11_init_406 rfl (by decide) (by decide) ?_
  refine zA_dup dX11_init_407 rfl ?_
  refine zA_bipush (nI 41) dX11_init_408 bc_41 ?_
  refine zA_bipush (nI 32) dX11_init_410 bc_32 ?_
  refine zS_iast 41 (zsht (n := 107) sh_106 (by decide)) dX11_init_412 rfl (by decide) (by decide) ?_
  refine zA_dup dX11_init_413 rfl ?_
  refine zA_bipush (nI 42) dX11_init_414 bc_42 ?_
  refine zA_bipush (nI 111) dX11_init_416 bc_111 ?_
  refine zS_iast 42 (zsht (n := 107) sh_106 (by decide)) dX11_init_418 rfl (by decide) (by decide) ?_
  refine zA_dup dX11_init_419 rfl ?_
  refine zA_bipush (nI 43) dX11_init_420 bc_43 ?_
  refine zA_bipush (nI 114) dX11_init_422 bc_114 ?_
  refine zS_iast 43 (zsht (n := 107) sh_106 (by decide)) dX11_init_424 rfl (by decide) (by decide) ?_
  refine zA_dup dX11_init_425 rfl ?_
  refine zA_bipush (nI 44) dX11_init_426 bc_44 ?_
  refine zA_bipush (nI 32) dX11_init_428 bc_32 ?_
  refine zS_iast 44 (zsht (n := 107) sh_106 (by decide)) dX11_init_430 rfl (by decide) (by decide) ?_
  refine zA_dup dX11_init_431 rfl ?_
  refine zA_bipush (nI 45) dX11_init_432 bc_45 ?_
  refine zA_bipush (nI 97) dX11_init_434 bc_97 ?_
  refine zS_iast 45 (zsht (n := 107) sh_106 (by decide)) dX11_init_436 rfl (by decide) (by decide) ?_
  refine zA_dup dX11_init_437 rfl ?_
  refine zA_bipush (nI 46) dX11_init_438 bc_46 ?_
  refine zA_bipush (nI 110) dX11_init_440 bc_110 ?_
  refine zS_iast 46 (zsht (n := 107) sh_106 (by decide)) dX11_init_442 rfl (by decide) (by decide) ?_
  refine zA_dup dX11_init_443 rfl ?_
  refine zA_bipush (nI 47) dX11_init_444 bc_47 ?_
  refine zA_bipush (nI 100) dX11_init_446 bc_100 ?_
  refine zS_iast 47 (zsht (n := 107) sh_106 (by decide)) dX11_init_448 rfl (by decide) (by decide) ?_
  refine zA_dup dX11_init_449 rfl ?_
  refine zA_bipush (nI 48) dX11_init_450 bc_48 ?_
  refine zA_bipush (nI 32) dX11_init_452 bc_32 ?_
  refine zS_iast 48 (zsht (n := 107) sh_106 (by decide)) dX11_init_454 rfl (by decide) (by decide) ?_
  refine zA_dup dX11_init_455 rfl ?_
  refine zA_bipush (nI 49) dX11_init_456 bc_49 ?_
  refine zA_bipush (nI 110) dX11_init_458 bc_110 ?_
  refine zS_iast 49 (zsht (n := 107) sh_106 (by decide)) dX11_init_460 rfl (by decide) (by decide) ?_
  refine zA_dup dX11_init_461 rfl ?_
  refine zA_bipush (nI 50) dX11_init_462 bc_50 ?_
  refine zA_bipush (nI 111) dX11_init_464 bc_111 ?_
  refine zS_iast 50 (zsht (n := 107) sh_106 (by decide)) dX11_init_466 rfl (by decide) (by decide) ?_
  refine zA_dup dX11_init_467 rfl ?_
  refine zA_bipush (nI 51) dX11_init_468 bc_51 ?_
  refine zA_bipush (nI 116) dX11_init_470 bc_116 ?_
  refine zS_iast 51 (zsht (n := 107) sh_106 (by decide)) dX11_init_472 rfl (by decide) (by decide) ?_
  refine zA_dup dX11_init_473 rfl ?_
  refine zA_bipush (nI 52) dX11_init_474 bc_52 ?_
  refine zA_bipush (nI 32) dX11_init_476 bc_32 ?_
  refine zS_iast 52 (zsht (n := 107) sh_106 (by decide)) dX11_init_478 rfl (by decide) (by decide) ?_
  refine zA_dup dX11_init_479 rfl ?_
  refine zA_bipush (nI 53) dX11_init_480 bc_53 ?_
  refine zA_bipush (nI 112) dX11_init_482 bc_112 ?_
  refine zS_iast 53 (zsht (n := 107) sh_106 (by decide)) dX11_init_484 rfl (by decide) (by decide) ?_
  refine zA_dup dX11_init_485 rfl ?_
  refine zA_bipush (nI 54) dX11_init_486 bc_54 ?_
  refine zA_bipush (nI 101) dX11_init_488 bc_101 ?_
  refine zS_iast 54 (zsht (n := 107) sh_106 (by decide)) dX11_init_490 rfl (by decide) (by decide) ?_
  refine zA_dup dX11_init_491 rfl ?_
  refine zA_bipush (nI 55) dX11_init_492 bc_55 ?_
  refine zA_bipush (nI 111) dX11_init_494 bc_111 ?_
  refine zS_iast 55 (zsht (n := 107) sh_106 (by decide)) dX11_init_496 rfl (by decide) (by decide) ?_
  refine zA_dup dX11_init_497 rfl ?_
  refine zA_bipush (nI 56) dX11_init_498 bc_56 ?_
  refine zA_bipush (nI 112) dX11_init_500 bc_112 ?_
  refine zS_iast 56 (zsht (n := 107) sh_106 (by decide)) dX11_init_502 rfl (by decide) (by decide) ?_
  refine zA_dup dX11_init_503 rfl ?_
  refine zA_bipush (nI 57) dX11_init_504 bc_57 ?_
  refine zA_bipush (nI 108) dX11_init_506 bc_108 ?_
  refine zS_iast 57 (zsht (n := 107) sh_106 (by decide)) dX11_init_508 rfl (by decide) (by decide) ?_
  refine zA_dup dX11_init_509 rfl ?_
  refine zA_bipush (nI 58) dX11_init_510 bc_58 ?_
  refine zA_bipush (nI 101) dX11_init_512 bc_101 ?_
  refine zS_iast 58 (zsht (n := 107) sh_106 (by decide)) dX11_init_514 rfl (by decide) (by decide) ?_
  refine zA_dup dX11_init_515 rfl ?_
  refine zA_bipush (nI 59) dX11_init_516 bc_59 ?_
  refine zA_bipush (nI 32) dX11_init_518 bc_32 ?_
  refine zS_iast 59 (zsht (n := 107) sh_106 (by decide)) dX11_init_520 rfl (by decide) (by decide) ?_
  refine zA_dup dX11_init_521 rfl ?_
  refine zA_bipush (nI 60) dX11_init_522 bc_60 ?_
  refine zA_bipush (nI 115) dX11_init_524 bc_115 ?_
  refine zS_iast 60 (zsht (n := 107) sh_106 (by decide)) dX11_init_526 rfl (by decide) (by decide) ?_
  refine zA_dup dX11_init_527 rfl ?_
  refine zA_bipush (nI 61) dX11_init_528 bc_61 ?_
  refine zA_bipush (nI 101) dX11_init_530 bc_101 ?_
  refine zS_iast 61 (zsht (n := 107) sh_106 (by decide)) dX11_init_532 rfl (by decide) (by decide) ?_
  refine zA_dup dX11_init_533 rfl ?_
  refine zA_bipush (nI 62) dX11_init_534 bc_62 ?_
  refine zA_bipush (nI 97) dX11_init_536 bc_97 ?_
  refine zS_iast 62 (zsht (n := 107) sh_106 (by decide)) dX11_init_538 rfl (by decide) (by decide) ?_
  refine zA_dup dX11_init_539 rfl ?_
  refine zA_bipush (nI 63) dX11_init_540 bc_63 ?_
  refine zA_bipush (nI 116) dX11_init_542 bc_116 ?_
  refine zS_iast 63 (zsht (n := 107) sh_106 (by decide)) dX11_init_544 rfl (by decide) (by decide) ?_
  refine zA_dup dX11_init_545 rfl ?_
  refine zA_bipush (nI 64) dX11_init_546 bc_64 ?_
  refine zA_bipush (nI 115) dX11_init_548 bc_115 ?_
  refine zS_iast 64 (zsht (n := 107) sh_106 (by decide)) dX11_init_550 rfl (by decide) (by decide) ?_
  refine zA_dup dX11_init_551 rfl ?_
  refine zA_bipush (nI 65) dX11_init_552 bc_65 ?_
  refine zA_bipush (nI 32) dX11_init_554 bc_32 ?_
  refine zS_iast 65 (zsht (n := 107) sh_106 (by decide)) dX11_init_556 rfl (by decide) (by decide) ?_
  refine zA_dup dX11_init_557 rfl ?_
  refine zA_bipush (nI 66) dX11_init_558 bc_66 ?_
  refine zA_bipush (nI 115) dX11_init_560 bc_115 ?_
  refine zS_iast 66 (zsht (n := 107) sh_106 (by decide)) dX11_init_562 rfl (by decide) (by decide) ?_
  refine zA_dup dX11_init_563 rfl ?_
  refine zA_bipush (nI 67) dX11_init_564 bc_67 ?_
  refine zA_bipush (nI 116) dX11_init_566 bc_116 ?_
  refine zS_iast 67 (zsht (n := 107) sh_106 (by decide)) dX11_init_568 rfl (by decide) (by decide) ?_
  refine zA_dup dX11_init_569 rfl ?_
  refine zA_bipush (nI 68) dX11_init_570 bc_68 ?_
  refine zA_bipush (nI 114) dX11_init_572 bc_114 ?_
  refine zS_iast 68 (zsht (n := 107) sh_106 (by decide)) dX11_init_574 rfl (by decide) (by decide) ?_
  refine zA_dup dX11_init_575 rfl ?_
  refine zA_bipush (nI 69) dX11_init_576 bc_69 ?_
  refine zA_bipush (nI 105) dX11_init_578 bc_105 ?_
  refine zS_iast 69 (zsht (n := 107) sh_106 (by decide)) dX11_init_580 rfl (by decide) (by decide) ?_
  refine zA_dup dX11_init_581 rfl ?_
  refine zA_bipush (nI 70) dX11_init_582 bc_70 ?_
  refine zA_bipush (nI 99) dX11_init_584 bc_99 ?_
  refine zS_iast 70 (zsht (n := 107) sh_106 (by decide)) dX11_init_586 rfl (by decide) (by decide) ?_
  refine zA_dup dX11_init_587 rfl ?_
  refine zA_bipush (nI 71) dX11_init_588 bc_71 ?_
  refine zA_bipush (nI 116) dX11_init_590 bc_116 ?_
  refine zS_iast 71 (zsht (n := 107) sh_106 (by decide)) dX11_init_592 rfl (by decide) (by decide) ?_
  refine zA_dup dX11_init_593 rfl ?_
  refine zA_bipush (nI 72) dX11_init_594 bc_72 ?_
  refine zA_bipush (nI 32) dX11_init_596 bc_32 ?_
  refine zS_iast 72 (zsht (n := 107) sh_106 (by decide)) dX11_init_598 rfl (by decide) (by decide) ?_
  refine zA_dup dX11_init_599 rfl ?_
  refine zA_bipush (nI 73) dX11_init_600 bc_73 ?_
  refine zA_bipush (nI 99) dX11_init_602 bc_99 ?_
  refine zS_iast 73 (zsht (n := 107) sh_106 (by decide)) dX11_init_604 rfl (by decide) (by decide) ?_
  refine zA_dup dX11_init_605 rfl ?_
  refine zA_bipush (nI 74) dX11_init_606 bc_74 ?_
  refine zA_bipush (nI 104) dX11_init_608 bc_104 ?_
  refine zS_iast 74 (zsht (n := 107) sh_106 (by decide)) dX11_init_610 rfl (by decide) (by decide) ?_
  refine zA_dup dX11_init_611 rfl ?_
  refine zA_bipush (nI 75) dX11_init_612 bc_75 ?_
  refine zA_bipush (nI 105) dX11_init_614 bc_105 ?_
  refine zS_iast 75 (zsht (n := 107) sh_106 (by decide)) dX11_init_616 rfl (by decide) (by decide) ?_
  refine zA_dup dX11_init_617 rfl ?_
  refine zA_bipush (nI 76) dX11_init_618 bc_76 ?_
  refine zA_bipush (nI 108) dX11_init_620 bc_108 ?_
  refine zS_iast 76 (zsht (n := 107) sh_106 (by decide)) dX11_init_622 rfl (by decide) (by decide) ?_
  refine zA_dup dX11_init_623 rfl ?_
  refine zA_bipush (nI 77) dX11_init_624 bc_77 ?_
  refine zA_bipush (nI 100) dX11_init_626 bc_100 ?_
  refine zS_iast 77 (zsht (n := 107) sh_106 (by decide)) dX11_init_628 rfl (by decide) (by decide) ?_
  refine zA_dup dX11_init_629 rfl ?_
  refine zA_bipush (nI 78) dX11_init_630 bc_78 ?_
  refine zA_bipush (nI 32) dX11_init_632 bc_32 ?_
  refine zS_iast 78 (zsht (n := 107) sh_106 (by decide)) dX11_init_634 rfl (by decide) (by decide) ?_
  refine zA_dup dX11_init_635 rfl ?_
  refine zA_bipush (nI 79) dX11_init_636 bc_79 ?_
  refine zA_bipush (nI 108) dX11_init_638 bc_108 ?_
  refine zS_iast 79 (zsht (n := 107) sh_106 (by decide)) dX11_init_640 rfl (by decide) (by decide) ?_
  refine zA_dup dX11_init_641 rfl ?_
  refine zA_bipush (nI 80) dX11_init_642 bc_80 ?_
  refine zA_bipush (nI 105) dX11_init_644 bc_105 ?_
  refine zS_iast 80 (zsht (n := 107) sh_106 (by decide)) dX11_init_646 rfl (by decide) (by decide) ?_
  refine zA_dup dX11_init_647 rfl ?_
  refine zA_bipush (nI 81) dX11_init_648 bc_81 ?_
  refine zA_bipush (nI 107) dX11_init_650 bc_107 ?_
  refine zS_iast 81 (zsht (n := 107) sh_106 (by decide)) dX11_init_652 rfl (by decide) (by decide) ?_
  refine zA_dup dX11_init_653 rfl ?_
  refine zA_bipush (nI 82) dX11_init_654 bc_82 ?_
  refine zA_bipush (nI 101) dX11_init_656 bc_101 ?_
  refine zS_iast 82 (zsht (n := 107) sh_106 (by decide)) dX11_init_658 rfl (by decide) (by decide) ?_
  refine zA_dup dX11_init_659 rfl ?_
  refine zA_bipush (nI 83) dX11_init_660 bc_83 ?_
  refine zA_bipush (nI 32) dX11_init_662 bc_32 ?_
  refine zS_iast 83 (zsht (n := 107) sh_106 (by decide)) dX11_init_664 rfl (by decide) (by decide) ?_
  refine zA_dup dX11_init_665 rfl ?_
  refine zA_bipush (nI 84) dX11_init_666 bc_84 ?_
  refine zA_bipush (nI 103) dX11_init_668 bc_103 ?_
  refine zS_iast 84 (zsht (n := 107) sh_106 (by decide)) dX11_init_670 rfl (by decide) (by decide) ?_
  refine zA_dup dX11_init_671 rfl ?_
  refine zA_bipush (nI 85) dX11_init_672 bc_85 ?_
  refine zA_bipush (nI 101) dX11_init_674 bc_101 ?_
  refine zS_iast 85 (zsht (n := 107) sh_106 (by decide)) dX11_init_676 rfl (by decide) (by decide) ?_
  refine zA_dup dX11_init_677 rfl ?_
  refine zA_bipush (nI 86) dX11_init_678 bc_86 ?_
  refine zA_bipush (nI 110) dX11_init_680 bc_110 ?_
  refine zS_iast 86 (zsht (n := 107) sh_106 (by decide)) dX11_init_682 rfl (by decide) (by decide) ?_
  refine zA_dup dX11_init_683 rfl ?_
  refine zA_bipush (nI 87) dX11_init_684 bc_87 ?_
  refine zA_bipush (nI 114) dX11_init_686 bc_114 ?_
  refine zS_iast 87 (zsht (n := 107) sh_106 (by decide)) dX11_init_688 rfl (by decide) (by decide) ?_
  refine zA_dup dX11_init_689 rfl ?_
  refine zA_bipush (nI 88) dX11_init_690 bc_88 ?_
  refine zA_bipush (nI 101) dX11_init_692 bc_101 ?_
  refine zS_iast 88 (zsht (n := 107) sh_106 (by decide)) dX11_init_694 rfl (by decide) (by decide) ?_
  refine zA_dup dX11_init_695 rfl ?_
  refine zA_bipush (nI 89) dX11_init_696 bc_89 ?_
  refine zA_bipush (nI 32) dX11_init_698 bc_32 ?_
  refine zS_iast 89 (zsht (n := 107) sh_106 (by decide)) dX11_init_700 rfl (by decide) (by decide) ?_
  refine zA_dup dX11_init_701 rfl ?_
  refine zA_bipush (nI 90) dX11_init_702 bc_90 ?_
  refine zA_bipush (nI 97) dX11_init_704 bc_97 ?_
  refine zS_iast 90 (zsht (n := 107) sh_106 (by decide)) dX11_init_706 rfl (by decide) (by decide) ?_
  refine zA_dup dX11_init_707 rfl ?_
  refine zA_bipush (nI 91) dX11_init_708 bc_91 ?_
  refine zA_bipush (nI 103) dX11_init_710 bc_103 ?_
  refine zS_iast 91 (zsht (n := 107) sh_106 (by decide)) dX11_init_712 rfl (by decide) (by decide) ?_
  refine zA_dup dX11_init_713 rfl ?_
  refine zA_bipush (nI 92) dX11_init_714 bc_92 ?_
  refine zA_bipush (nI 101) dX11_init_716 bc_101 ?_
  refine zS_iast 92 (zsht (n := 107) sh_106 (by decide)) dX11_init_718 rfl (by decide) (by decide) ?_
  refine zA_dup dX11_init_719 rfl ?_
  refine zA_bipush (nI 93) dX11_init_720 bc_93 ?_
  refine zA_bipush (nI 32) dX11_init_722 bc_32 ?_
  refine zS_iast 93 (zsht (n := 107) sh_106 (by decide)) dX11_init_724 rfl (by decide) (by decide) ?_
  refine zA_dup dX11_init_725 rfl ?_
  refine zA_bipush (nI 94) dX11_init_726 bc_94 ?_
  refine zA_bipush (nI 109) dX11_init_728 bc_109 ?_
  refine zS_iast 94 (zsht (n := 107) sh_106 (by decide)) dX11_init_730 rfl (by decide) (by decide) ?_
  refine zA_dup dX11_init_731 rfl ?_
  refine zA_bipush (nI 95) dX11_init_732 bc_95 ?_
  refine zA_bipush (nI 105) dX11_init_734 bc_105 ?_
  refine zS_iast 95 (zsht (n := 107) sh_106 (by decide)) dX11_init_736 rfl (by decide) (by decide) ?_
  refine zA_dup dX11_init_737 rfl ?_
  refine zA_bipush (nI 96) dX11_init_738 bc_96 ?_
  refine zA_bipush (nI 110) dX11_init_740 bc_110 ?_
  refine zS_iast 96 (zsht (n := 107) sh_106 (by decide)) dX11_init_742 rfl (by decide) (by decide) ?_
  refine zA_dup dX11_init_743 rfl ?_
  refine zA_bipush (nI 97) dX11_init_744 bc_97 ?_
  refine zA_bipush (nI 117) dX11_init_746 bc_117 ?_
  refine zS_iast 97 (zsht (n := 107) sh_106 (by decide)) dX11_init_748 rfl (by decide) (by decide) ?_
  refine zA_dup dX11_init_749 rfl ?_
  refine zA_bipush (nI 98) dX11_init_750 bc_98 ?_
  refine zA_bipush (nI 116) dX11_init_752 bc_116 ?_
  refine zS_iast 98 (zsht (n := 107) sh_106 (by decide)) dX11_init_754 rfl (by decide) (by decide) ?_
  refine zA_dup dX11_init_755 rfl ?_
  refine zA_bipush (nI 99) dX11_init_756 bc_99 ?_
  refine zA_bipush (nI 101) dX11_init_758 bc_101 ?_
  refine zS_iast 99 (zsht (n := 107) sh_106 (by decide)) dX11_init_760 rfl (by decide) (by decide) ?_
  refine zA_dup dX11_init_761 rfl ?_
  refine zA_bipush (nI 100) dX11_init_762 bc_100 ?_
  refine zA_bipush (nI 115) dX11_init_764 bc_115 ?_
  refine zS_iast 100 (zsht (n := 107) sh_106 (by decide)) dX11_init_766 rfl (by decide) (by decide) ?_
  refine zA_dup dX11_init_767 rfl ?_
  refine zA_bipush (nI 101) dX11_init_768 bc_101 ?_
  refine zA_bipush (nI 32) dX11_init_770 bc_32 ?_
  refine zS_iast 101 (zsht (n := 107) sh_106 (by decide)) dX11_init_772 rfl (by decide) (by decide) ?_
  refine zA_dup dX11_init_773 rfl ?_
  refine zA_bipush (nI 102) dX11_init_774 bc_102 ?_
  refine zA_bipush (nI 63) dX11_init_776 bc_63 ?_
  refine zS_iast 102 (zsht (n := 107) sh_106 (by decide)) dX11_init_778 rfl (by decide) (by decide) ?_
  refine zA_dup dX11_init_779 rfl ?_
  refine zA_bipush (nI 103) dX11_init_780 bc_103 ?_
  refine zA_bipush (nI 32) dX11_init_782 bc_32 ?_
  refine zS_iast 103 (zsht (n := 107) sh_106 (by decide)) dX11_init_784 rfl (by decide) (by decide) ?_
  refine zA_dup dX11_init_785 rfl ?_
  refine zA_bipush (nI 104) dX11_init_786 bc_104 ?_
  refine zA_bipush (nI 119) dX11_init_788 bc_119 ?_
  refine zS_iast 104 (zsht (n := 107) sh_106 (by decide)) dX11_init_790 rfl (by decide) (by decide) ?_
  refine zA_dup dX11_init_791 rfl ?_
  refine zA_bipush (nI 105) dX11_init_792 bc_105 ?_
  refine zA_bipush (nI 111) dX11_init_794 bc_111 ?_
  refine zS_iast 105 (zsht (n := 107) sh_106 (by decide)) dX11_init_796 rfl (by decide) (by decide) ?_
  refine zA_dup dX11_init_797 rfl ?_
  refine zA_bipush (nI 106) dX11_init_798 bc_106 ?_
  refine zA_bipush (nI 114) dX11_init_800 bc_114 ?_
  refine zS_iast 106 (zsht (n := 107) sh_106 (by decide)) dX11_init_802 rfl (by decide) (by decide) ?_
  refine zA_dup dX11_init_803 rfl ?_
  refine zA_bipush (nI 107) dX11_init_804 bc_107 ?_
  refine zA_bipush (nI 110) dX11_init_806 bc_110 ?_
  refine zS_iast 107 (zsht (n := 107) sh_106 (by decide)) dX11_init_808 rfl (by decide) (by decide) ?_
  refine zA_dup dX11_init_809 rfl ?_
  refine zA_bipush (nI 108) dX11_init_810 bc_108 ?_
  refine zA_bipush (nI 32) dX11_init_812 bc_32 ?_
  refine zS_iast 108 (zsht (n := 107) sh_106 (by decide)) dX11_init_814 rfl (by decide) (by decide) ?_
  refine zA_dup dX11_init_815 rfl ?_
  refine zA_bipush (nI 109) dX11_init_816 bc_109 ?_
  refine zA_bipush (nI 104) dX11_init_818 bc_104 ?_
  refine zS_iast 109 (zsht (n := 107) sh_106 (by decide)) dX11_init_820 rfl (by decide) (by decide) ?_
  refine zA_dup dX11_init_821 rfl ?_
  refine zA_bipush (nI 110) dX11_init_822 bc_110 ?_
  refine zA_bipush (nI 101) dX11_init_824 bc_101 ?_
  refine zS_iast 110 (zsht (n := 107) sh_106 (by decide)) dX11_init_826 rfl (by decide) (by decide) ?_
  refine zA_dup dX11_init_827 rfl ?_
  refine zA_bipush (nI 111) dX11_init_828 bc_111 ?_
  refine zA_bipush (nI 97) dX11_init_830 bc_97 ?_
  refine zS_iast 111 (zsht (n := 107) sh_106 (by decide)) dX11_init_832 rfl (by decide) (by decide) ?_
  refine zA_dup dX11_init_833 rfl ?_
  refine zA_bipush (nI 112) dX11_init_834 bc_112 ?_
  refine zA_bipush (nI 100) dX11_init_836 bc_100 ?_
  refine zS_iast 112 (zsht (n := 107) sh_106 (by decide)) dX11_init_838 rfl (by decide) (by decide) ?_
  refine zA_dup dX11_init_839 rfl ?_
  refine zA_bipush (nI 113) dX11_init_840 bc_113 ?_
  refine zA_bipush (nI 115) dX11_init_842 bc_115 ?_
  refine zS_iast 113 (zsht (n := 107) sh_106 (by decide)) dX11_init_844 rfl (by decide) (by decide) ?_
  refine zA_dup dX11_init_845 rfl ?_
  refine zA_bipush (nI 114) dX11_init_846 bc_114 ?_
  refine zA_bipush (nI 32) dX11_init_848 bc_32 ?_
  refine zS_iast 114 (zsht (n := 107) sh_106 (by decide)) dX11_init_850 rfl (by decide) (by decide) ?_
  refine zN_putR (n := 107) (show x.meth.name = "<init>" from hname) (by decide) sh_87 (by decide) (by decide) fX11_65 dX11_init_851 rfl rfl (fun C T N h => by cases h; exact zm_inT 1222 (by decide +kernel) (by decide +kernel)) (zOkR_mono hO (by decide)) (fun hO => ?_)
  refine zA_aload_0 dX11_init_854 ?_
  refine zA_iconst (-1) dX11_init_855 ic_m1 ?_
  refine zS_putI (zsht (n := 107) sh_87 (by decide)) fX11_68 dX11_init_856 rfl rfl ?_
  refine zA_aload_0 dX11_init_859 ?_
  refine zA_iconst (nI 4) dX11_init_860 ic_4 ?_
  have hz : ∀ k, 107 ≤ k → ((zs (zs (zs (zs (zs (zs (zs (zs (zs (zs (zs (zs (zs (zs (zs (zs (zs (zs (zs (zs (zs (zs (zs (zs (zs (zs (zs (zs (zs (zs (zs (zs (zs (zs (zs (zs (zs (zs (zs (zs (zs (zs (zs (zs (zs (zs (zs (zs (zs (zs (zs (zs (zs (zs (zs (zs (zs (zs (zs (zs (zs (zs (zs (zs (zs (zs (zs (zs (zs (zs (zs (zs (zs (zs (zs (zs (zs (zs (zs (zs (zs (zs (zs (zs (zs (zs (zs (zs (zs (zs (zs (zs (zs (zs (zs (zs (zs (zs (zs (zs (zs (zs (zs (zs (zs (zs (zs (zs (zs (zs (zs (zs (zs (zs (zs (zs (zs (zs (zs (zs gi 98 0 ((nI 1))) 98 1 ((nI 1))) 98 2 ((nI 1))) 98 3 ((nI 1))) 106 0 ((nI 110))) 106 1 ((nI 105))) 106 2 ((nI 103))) 106 3 ((nI 104))) 106 4 ((nI 116))) 106 5 ((nI 32))) 106 6 ((nI 102))) 106 7 ((nI 117))) 106 8 ((nI 101))) 106 9 ((nI 108))) 106 10 ((nI 32))) 106 11 ((nI 97))) 106 12 ((nI 108))) 106 13 ((nI 108))) 106 14 ((nI 111))) 106 15 ((nI 119))) 106 16 ((nI 32))) 106 17 ((nI 112))) 106 18 ((nI 114))) 106 19 ((nI 105))) 106 20 ((nI 99))) 106 21 ((nI 101))) 106 22 ((nI 32))) 106 23 ((nI 114))) 106 24 ((nI 101))) 106 25 ((nI 110))) 106 26 ((nI 116))) 106 27 ((nI 101))) 106 28 ((nI 114))) 106 29 ((nI 32))) 106 30 ((nI 112))) 106 31 ((nI 97))) 106 32 ((nI 114))) 106 33 ((nI 105))) 106 34 ((nI 115))) 106 35 ((nI 104))) 106 36 ((nI 32))) 106 37 ((nI 101))) 106 38 ((nI 103))) 106 39 ((nI 103))) 106 40 ((nI 115))) 106 41 ((nI 32))) 106 42 ((nI 111))) 106 43 ((nI 114))) 106 44 ((nI 32))) 106 45 ((nI 97))) 106 46 ((nI 110))) 106 47 ((nI 100))) 106 48 ((nI 32))) 106 49 ((nI 110))) 106 50 ((nI 111))) 106 51 ((nI 116))) 106 52 ((nI 32))) 106 53 ((nI 112))) 106 54 ((nI 101))) 106 55 ((nI 111))) 106 56 ((nI 112))) 106 57 ((nI 108))) 106 58 ((nI 101))) 106 59 ((nI 32))) 106 60 ((nI 115))) 106 61 ((nI 101))) 106 62 ((nI 97))) 106 63 ((nI 116))) 106 64 ((nI 115))) 106 65 ((nI 32))) 106 66 ((nI 115))) 106 67 ((nI 116))) 106 68 ((nI 114))) 106 69 ((nI 105))) 106 70 ((nI 99))) 106 71 ((nI 116))) 106 72 ((nI 32))) 106 73 ((nI 99))) 106 74 ((nI 104))) 106 75 ((nI 105))) 106 76 ((nI 108))) 106 77 ((nI 100))) 106 78 ((nI 32))) 106 79 ((nI 108))) 106 80 ((nI 105))) 106 81 ((nI 107))) 106 82 ((nI 101))) 106 83 ((nI 32))) 106 84 ((nI 103))) 106 85 ((nI 101))) 106 86 ((nI 110))) 106 87 ((nI 114))) 106 88 ((nI 101))) 106 89 ((nI 32))) 106 90 ((nI 97))) 106 91 ((nI 103))) 106 92 ((nI 101))) 106 93 ((nI 32))) 106 94 ((nI 109))) 106 95 ((nI 105))) 106 96 ((nI 110))) 106 97 ((nI 117))) 106 98 ((nI 116))) 106 99 ((nI 101))) 106 100 ((nI 115))) 106 101 ((nI 32))) 106 102 ((nI 63))) 106 103 ((nI 32))) 106 104 ((nI 119))) 106 105 ((nI 111))) 106 106 ((nI 114))) 106 107 ((nI 110))) 106 108 ((nI 32))) 106 109 ((nI 104))) 106 110 ((nI 101))) 106 111 ((nI 97))) 106 112 ((nI 100))) 106 113 ((nI 115))) 106 114 ((nI 32))) 87 30 (((-1))))) k = fun _ => 0 := fun k hk => by
    repeat rw [zs_nq (by omega)]
    exact hz0 k (by omega)
  refine zN_newa (n := 107) (i := 0) sh_107 (by decide) rfl rfl rfl ar_int dX11_init_861 (by decide) (by decide) (by decide) (by decide) (zOkR_mono hO (by decide)) (by decide) (fun k hk => hz k (Nat.le_trans (by decide) hk)) (fun k hk => hl k (Nat.le_trans (by decide) hk)) (fun _ _ => rfl) ?_
  refine zN_putR (n := 108) (show x.meth.name = "<init>" from hname) (by decide) sh_87 (by decide) (by decide) fX11_72 dX11_init_863 rfl rfl (fun C T N h => by cases h; exact zm_inT 1230 (by decide +kernel) (by decide +kernel)) (zOkR_mono hO (by decide)) (fun hO => ?_)
  refine zA_aload_0 dX11_init_866 ?_
  refine zA_bipush (nI 7) dX11_init_867 bc_7 ?_
  refine zN_newa (n := 108) (i := 2) sh_108 (by decide) rfl rfl rfl ar_boolean dX11_init_869 (by decide) (by decide) (by decide) (by decide) (zOkR_mono hO (by decide)) (by decide) (fun k hk => hz k (Nat.le_trans (by decide) hk)) (fun k hk => hl k (Nat.le_trans (by decide) hk)) (fun _ _ => rfl) ?_
  refine zN_putR (n := 109) (show x.meth.name = "<init>" from hname) (by decide) sh_87 (by decide) (by decide) fX11_75 dX11_init_871 rfl rfl (fun C T N h => by cases h; exact zm_inT 1231 (by decide +kernel) (by decide +kernel)) (zOkR_mono hO (by decide)) (fun hO => ?_)
  refine zA_aload_0 dX11_init_874 ?_
  refine zA_bipush (nI 7) dX11_init_875 bc_7 ?_
  refine zN_newa (n := 109) (i := 2) sh_109 (by decide) rfl rfl rfl ar_boolean dX11_init_877 (by decide) (by decide) (by decide) (by decide) (zOkR_mono hO (by decide)) (by decide) (fun k hk => hz k (Nat.le_trans (by decide) hk)) (fun k hk => hl k (Nat.le_trans (by decide) hk)) (fun _ _ => rfl) ?_
  refine zN_putR (n := 110) (show x.meth.name = "<init>" from hname) (by decide) sh_87 (by decide) (by decide) fX11_78 dX11_init_879 rfl rfl (fun C T N h => by cases h; exact zm_inT 1232 (by decide +kernel) (by decide +kernel)) (zOkR_mono hO (by decide)) (fun hO => ?_)
  refine zA_aload_0 dX11_init_882 ?_
  refine zA_sipush (nI 128) dX11_init_883 sc_128 ?_
  refine zN_newa (n := 110) (i := 0) sh_110 (by decide) rfl rfl rfl ar_int dX11_init_886 (by decide) (by decide) (by decide) (by decide) (zOkR_mono hO (by decide)) (by decide) (fun k hk => hz k (Nat.le_trans (by decide) hk)) (fun k hk => hl k (Nat.le_trans (by decide) hk)) (fun _ _ => rfl) ?_
  refine zN_putR (n := 111) (show x.meth.name = "<init>" from hname) (by decide) sh_87 (by decide) (by decide) fX11_81 dX11_init_888 rfl rfl (fun C T N h => by cases h; exact zm_inT 1233 (by decide +kernel) (by decide +kernel)) (zOkR_mono hO (by decide)) (fun hO => ?_)
  refine zA_aload_0 dX11_init_891 ?_
  refine zA_sipush (nI 128) dX11_init_892 sc_128 ?_
  refine zN_newa (n := 111) (i := 0) sh_111 (by decide) rfl rfl rfl ar_int dX11_init_895 (by decide) (by decide) (by decide) (by decide) (zOkR_mono hO (by decide)) (by decide) (fun k hk => hz k (Nat.le_trans (by decide) hk)) (fun k hk => hl k (Nat.le_trans (by decide) hk)) (fun _ _ => rfl) ?_
  refine zN_putR (n := 112) (show x.meth.name = "<init>" from hname) (by decide) sh_87 (by decide) (by decide) fX11_84 dX11_init_897 rfl rfl (fun C T N h => by cases h; exact zm_inT 1234 (by decide +kernel) (by decide +kernel)) (zOkR_mono hO (by decide)) (fun hO => ?_)
  refine zA_aload_0 dX11_init_900 ?_
  refine zA_sipush (nI 128) dX11_init_901 sc_128 ?_
  refine zN_newa (n := 112) (i := 0) sh_112 (by decide) rfl rfl rfl ar_int dX11_init_904 (by decide) (by decide) (by decide) (by decide) (zOkR_mono hO (by decide)) (by decide) (fun k hk => hz k (Nat.le_trans (by decide) hk)) (fun k hk => hl k (Nat.le_trans (by decide) hk)) (fun _ _ => rfl) ?_
  refine zN_putR (n := 113) (show x.meth.name = "<init>" from hname) (by decide) sh_87 (by decide) (by decide) fX11_87 dX11_init_906 rfl rfl (fun C T N h => by cases h; exact zm_inT 1235 (by decide +kernel) (by decide +kernel)) (zOkR_mono hO (by decide)) (fun hO => ?_)
  refine zA_aload_0 dX11_init_909 ?_
  refine zA_sipush (nI 128) dX11_init_910 sc_128 ?_
  refine zN_newa (n := 113) (i := 0) sh_113 (by decide) rfl rfl rfl ar_int dX11_init_913 (by decide) (by decide) (by decide) (by decide) (zOkR_mono hO (by decide)) (by decide) (fun k hk => hz k (Nat.le_trans (by decide) hk)) (fun k hk => hl k (Nat.le_trans (by decide) hk)) (fun _ _ => rfl) ?_
  refine zN_putR (n := 114) (show x.meth.name = "<init>" from hname) (by decide) sh_87 (by decide) (by decide) fX11_90 dX11_init_915 rfl rfl (fun C T N h => by cases h; exact zm_inT 1236 (by decide +kernel) (by decide +kernel)) (zOkR_mono hO (by decide)) (fun hO => ?_)
  refine zA_aload_0 dX11_init_918 ?_
  refine zA_sipush (nI 128) dX11_init_919 sc_128 ?_
  refine zN_newa (n := 114) (i := 0) sh_114 (by decide) rfl rfl rfl ar_int dX11_init_922 (by decide) (by decide) (by decide) (by decide) (zOkR_mono hO (by decide)) (by decide) (fun k hk => hz k (Nat.le_trans (by decide) hk)) (fun k hk => hl k (Nat.le_trans (by decide) hk)) (fun _ _ => rfl) ?_
  refine zN_putR (n := 115) (show x.meth.name = "<init>" from hname) (by decide) sh_87 (by decide) (by decide) fX11_93 dX11_init_924 rfl rfl (fun C T N h => by cases h; exact zm_inT 1237 (by decide +kernel) (by decide +kernel)) (zOkR_mono hO (by decide)) (fun hO => ?_)
  refine zA_aload_0 dX11_init_927 ?_
  refine zA_bipush (nI 10) dX11_init_928 bc_10 ?_
  refine zN_newa (n := 115) (i := 0) sh_115 (by decide) rfl rfl rfl ar_int dX11_init_930 (by decide) (by decide) (by decide) (by decide) (zOkR_mono hO (by decide)) (by decide) (fun k hk => hz k (Nat.le_trans (by decide) hk)) (fun k hk => hl k (Nat.le_trans (by decide) hk)) (fun _ _ => rfl) ?_
  refine zN_putR (n := 116) (show x.meth.name = "<init>" from hname) (by decide) sh_87 (by decide) (by decide) fX11_96 dX11_init_932 rfl rfl (fun C T N h => by cases h; exact zm_inT 1238 (by decide +kernel) (by decide +kernel)) (zOkR_mono hO (by decide)) (fun hO => ?_)
  refine zA_aload_0 dX11_init_935 ?_
  refine zA_bipush (nI 10) dX11_init_936 bc_10 ?_
  refine zN_newa (n := 116) (i := 0) sh_116 (by decide) rfl rfl rfl ar_int dX11_init_938 (by decide) (by decide) (by decide) (by decide) (zOkR_mono hO (by decide)) (by decide) (fun k hk => hz k (Nat.le_trans (by decide) hk)) (fun k hk => hl k (Nat.le_trans (by decide) hk)) (fun _ _ => rfl) ?_
  refine zN_putR (n := 117) (show x.meth.name = "<init>" from hname) (by decide) sh_87 (by decide) (by decide) fX11_99 dX11_init_940 rfl rfl (fun C T N h => by cases h; exact zm_inT 1239 (by decide +kernel) (by decide +kernel)) (zOkR_mono hO (by decide)) (fun hO => ?_)
  refine zA_aload_0 dX11_init_943 ?_
  refine zA_bipush (nI 100) dX11_init_944 bc_100 ?_
  refine zN_newa (n := 117) (i := 0) sh_117 (by decide) rfl rfl rfl ar_int dX11_init_946 (by decide) (by decide) (by decide) (by decide) (zOkR_mono hO (by decide)) (by decide) (fun k hk => hz k (Nat.le_trans (by decide) hk)) (fun k hk => hl k (Nat.le_trans (by decide) hk)) (fun _ _ => rfl) ?_
  refine zN_putR (n := 118) (show x.meth.name = "<init>" from hname) (by decide) sh_87 (by decide) (by decide) fX11_102 dX11_init_948 rfl rfl (fun C T N h => by cases h; exact zm_inT 1243 (by decide +kernel) (by decide +kernel)) (zOkR_mono hO (by decide)) (fun hO => ?_)
  refine zA_aload_0 dX11_init_951 ?_
  refine zA_bipush (nI 100) dX11_init_952 bc_100 ?_
  refine zN_newa (n := 118) (i := 0) sh_118 (by decide) rfl rfl rfl ar_int dX11_init_954 (by decide) (by decide) (by decide) (by decide) (zOkR_mono hO (by decide)) (by decide) (fun k hk => hz k (Nat.le_trans (by decide) hk)) (fun k hk => hl k (Nat.le_trans (by decide) hk)) (fun _ _ => rfl) ?_
  refine zN_putR (n := 119) (show x.meth.name = "<init>" from hname) (by decide) sh_87 (by decide) (by decide) fX11_105 dX11_init_956 rfl rfl (fun C T N h => by cases h; exact zm_inT 1244 (by decide +kernel) (by decide +kernel)) (zOkR_mono hO (by decide)) (fun hO => ?_)
  refine zA_aload_0 dX11_init_959 ?_
  refine zA_bipush (nI 100) dX11_init_960 bc_100 ?_
  refine zN_newa (n := 119) (i := 0) sh_119 (by decide) rfl rfl rfl ar_int dX11_init_962 (by decide) (by decide) (by decide) (by decide) (zOkR_mono hO (by decide)) (by decide) (fun k hk => hz k (Nat.le_trans (by decide) hk)) (fun k hk => hl k (Nat.le_trans (by decide) hk)) (fun _ _ => rfl) ?_
  refine zN_putR (n := 120) (show x.meth.name = "<init>" from hname) (by decide) sh_87 (by decide) (by decide) fX11_108 dX11_init_964 rfl rfl (fun C T N h => by cases h; exact zm_inT 1246 (by decide +kernel) (by decide +kernel)) (zOkR_mono hO (by decide)) (fun hO => ?_)
  refine zA_aload_0 dX11_init_967 ?_
  refine zA_bipush (nI 8) dX11_init_968 bc_8 ?_
  refine zN_newa (n := 120) (i := 2) sh_120 (by decide) rfl rfl rfl ar_boolean dX11_init_970 (by decide) (by decide) (by decide) (by decide) (zOkR_mono hO (by decide)) (by decide) (fun k hk => hz k (Nat.le_trans (by decide) hk)) (fun k hk => hl k (Nat.le_trans (by decide) hk)) (fun _ _ => rfl) ?_
  refine zN_putR (n := 121) (show x.meth.name = "<init>" from hname) (by decide) sh_87 (by decide) (by decide) fX11_111 dX11_init_972 rfl rfl (fun C T N h => by cases h; exact zm_inT 1248 (by decide +kernel) (by decide +kernel)) (zOkR_mono hO (by decide)) (fun hO => ?_)
  refine zA_aload_0 dX11_init_975 ?_
  refine zA_bipush (nI 64) dX11_init_976 bc_64 ?_
  refine zN_newa (n := 121) (i := 3) sh_121 (by decide) rfl rfl rfl ar_long dX11_init_978 (by decide) (by decide) (by decide) (by decide) (zOkR_mono hO (by decide)) (by decide) (fun k hk => hz k (Nat.le_trans (by decide) hk)) (fun k hk => hl k (Nat.le_trans (by decide) hk)) (fun _ _ => rfl) ?_
  refine zN_putR (n := 122) (show x.meth.name = "<init>" from hname) (by decide) sh_87 (by decide) (by decide) fX11_114 dX11_init_980 rfl rfl (fun C T N h => by cases h; exact zm_inT 1253 (by decide +kernel) (by decide +kernel)) (zOkR_mono hO (by decide)) (fun hO => ?_)
  refine zA_aload_0 dX11_init_983 ?_
  refine zA_iconst (nI 3) dX11_init_984 ic_3 ?_
  refine zN_newa (n := 122) (i := 0) sh_122 (by decide) rfl rfl rfl ar_int dX11_init_985 (by decide) (by decide) (by decide) (by decide) (zOkR_mono hO (by decide)) (by decide) (fun k hk => hz k (Nat.le_trans (by decide) hk)) (fun k hk => hl k (Nat.le_trans (by decide) hk)) (fun _ _ => rfl) ?_
  refine zN_putR (n := 123) (show x.meth.name = "<init>" from hname) (by decide) sh_87 (by decide) (by decide) fX11_118 dX11_init_987 rfl rfl (fun C T N h => by cases h; exact zm_inT 1261 (by decide +kernel) (by decide +kernel)) (zOkR_mono hO (by decide)) (fun hO => ?_)
  refine zA_aload_0 dX11_init_990 ?_
  refine zA_iconst (nI 3) dX11_init_991 ic_3 ?_
  refine zN_newa (n := 123) (i := 0) sh_123 (by decide) rfl rfl rfl ar_int dX11_init_992 (by decide) (by decide) (by decide) (by decide) (zOkR_mono hO (by decide)) (by decide) (fun k hk => hz k (Nat.le_trans (by decide) hk)) (fun k hk => hl k (Nat.le_trans (by decide) hk)) (fun _ _ => rfl) ?_
  refine zN_putR (n := 124) (show x.meth.name = "<init>" from hname) (by decide) sh_87 (by decide) (by decide) fX11_121 dX11_init_994 rfl rfl (fun C T N h => by cases h; exact zm_inT 1262 (by decide +kernel) (by decide +kernel)) (zOkR_mono hO (by decide)) (fun hO => ?_)
  refine zA_aload_0 dX11_init_997 ?_
  refine zA_iconst (nI 3) dX11_init_998 ic_3 ?_
  refine zN_newa (n := 124) (i := 0) sh_124 (by decide) rfl rfl rfl ar_int dX11_init_999 (by decide) (by decide) (by decide) (by decide) (zOkR_mono hO (by decide)) (by decide) (fun k hk => hz k (Nat.le_trans (by decide) hk)) (fun k hk => hl k (Nat.le_trans (by decide) hk)) (fun _ _ => rfl) ?_
  refine zN_putR (n := 125) (show x.meth.name = "<init>" from hname) (by decide) sh_87 (by decide) (by decide) fX11_124 dX11_init_1001 rfl rfl (fun C T N h => by cases h; exact zm_inT 1263 (by decide +kernel) (by decide +kernel)) (zOkR_mono hO (by decide)) (fun hO => ?_)
  refine zA_aload_0 dX11_init_1004 ?_
  refine zA_iconst (nI 3) dX11_init_1005 ic_3 ?_
  refine zN_newa (n := 125) (i := 0) sh_125 (by decide) rfl rfl rfl ar_int dX11_init_1006 (by decide) (by decide) (by decide) (by decide) (zOkR_mono hO (by decide)) (by decide) (fun k hk => hz k (Nat.le_trans (by decide) hk)) (fun k hk => hl k (Nat.le_trans (by decide) hk)) (fun _ _ => rfl) ?_
  refine zN_putR (n := 126) (show x.meth.name = "<init>" from hname) (by decide) sh_87 (by decide) (by decide) fX11_127 dX11_init_1008 rfl rfl (fun C T N h => by cases h; exact zm_inT 1264 (by decide +kernel) (by decide +kernel)) (zOkR_mono hO (by decide)) (fun hO => ?_)
  refine zA_aload_0 dX11_init_1011 ?_
  refine zA_bipush (nI 8) dX11_init_1012 bc_8 ?_
  refine zN_newa (n := 126) (i := 2) sh_126 (by decide) rfl rfl rfl ar_boolean dX11_init_1014 (by decide) (by decide) (by decide) (by decide) (zOkR_mono hO (by decide)) (by decide) (fun k hk => hz k (Nat.le_trans (by decide) hk)) (fun k hk => hl k (Nat.le_trans (by decide) hk)) (fun _ _ => rfl) ?_
  refine zN_putR (n := 127) (show x.meth.name = "<init>" from hname) (by decide) sh_87 (by decide) (by decide) fX11_130 dX11_init_1016 rfl rfl (fun C T N h => by cases h; exact zm_inT 1265 (by decide +kernel) (by decide +kernel)) (zOkR_mono hO (by decide)) (fun hO => ?_)
  refine zA_aload_0 dX11_init_1019 ?_
  refine zA_iconst (nI 4) dX11_init_1020 ic_4 ?_
  refine zN_newa (n := 127) (i := 0) sh_127 (by decide) rfl rfl rfl ar_int dX11_init_1021 (by decide) (by decide) (by decide) (by decide) (zOkR_mono hO (by decide)) (by decide) (fun k hk => hz k (Nat.le_trans (by decide) hk)) (fun k hk => hl k (Nat.le_trans (by decide) hk)) (fun _ _ => rfl) ?_
  refine zN_putR (n := 128) (show x.meth.name = "<init>" from hname) (by decide) sh_87 (by decide) (by decide) fX11_133 dX11_init_1023 rfl rfl (fun C T N h => by cases h; exact zm_inT 1266 (by decide +kernel) (by decide +kernel)) (zOkR_mono hO (by decide)) (fun hO => ?_)
  refine zA_aload_0 dX11_init_1026 ?_
  refine zA_iconst (nI 4) dX11_init_1027 ic_4 ?_
  refine zN_newa (n := 128) (i := 0) sh_128 (by decide) rfl rfl rfl ar_int dX11_init_1028 (by decide) (by decide) (by decide) (by decide) (zOkR_mono hO (by decide)) (by decide) (fun k hk => hz k (Nat.le_trans (by decide) hk)) (fun k hk => hl k (Nat.le_trans (by decide) hk)) (fun _ _ => rfl) ?_
  refine zN_putR (n := 129) (show x.meth.name = "<init>" from hname) (by decide) sh_87 (by decide) (by decide) fX11_136 dX11_init_1030 rfl rfl (fun C T N h => by cases h; exact zm_inT 1267 (by decide +kernel) (by decide +kernel)) (zOkR_mono hO (by decide)) (fun hO => ?_)
  refine zA_aload_0 dX11_init_1033 ?_
  refine zA_bipush (nI 32) dX11_init_1034 bc_32 ?_
  refine zN_newa (n := 129) (i := 0) sh_129 (by decide) rfl rfl rfl ar_int dX11_init_1036 (by decide) (by decide) (by decide) (by decide) (zOkR_mono hO (by decide)) (by decide) (fun k hk => hz k (Nat.le_trans (by decide) hk)) (fun k hk => hl k (Nat.le_trans (by decide) hk)) (fun _ _ => rfl) ?_
  refine zN_putR (n := 130) (show x.meth.name = "<init>" from hname) (by decide) sh_87 (by decide) (by decide) fX11_139 dX11_init_1038 rfl rfl (fun C T N h => by cases h; exact zm_inT 1268 (by decide +kernel) (by decide +kernel)) (zOkR_mono hO (by decide)) (fun hO => ?_)
  refine zA_aload_0 dX11_init_1041 ?_
  refine zA_sipush (nI 189) dX11_init_1042 sc_189 ?_
  refine zN_newa (n := 130) (i := 0) sh_130 (by decide) rfl rfl rfl ar_int dX11_init_1045 (by decide) (by decide) (by decide) (by decide) (zOkR_mono hO (by decide)) (by decide) (fun k hk => hz k (Nat.le_trans (by decide) hk)) (fun k hk => hl k (Nat.le_trans (by decide) hk)) (fun _ _ => rfl) ?_
  refine zN_putR (n := 131) (show x.meth.name = "<init>" from hname) (by decide) sh_87 (by decide) (by decide) fX11_142 dX11_init_1047 rfl rfl (fun C T N h => by cases h; exact zm_inT 1269 (by decide +kernel) (by decide +kernel)) (zOkR_mono hO (by decide)) (fun hO => ?_)
  refine zA_aload_0 dX11_init_1050 ?_
  refine zA_bipush (nI 12) dX11_init_1051 bc_12 ?_
  refine zN_newa (n := 131) (i := 0) sh_131 (by decide) rfl rfl rfl ar_int dX11_init_1053 (by decide) (by decide) (by decide) (by decide) (zOkR_mono hO (by decide)) (by decide) (fun k hk => hz k (Nat.le_trans (by decide) hk)) (fun k hk => hl k (Nat.le_trans (by decide) hk)) (fun _ _ => rfl) ?_
  refine zN_putR (n := 132) (show x.meth.name = "<init>" from hname) (by decide) sh_87 (by decide) (by decide) fX11_145 dX11_init_1055 rfl rfl (fun C T N h => by cases h; exact zm_inT 1270 (by decide +kernel) (by decide +kernel)) (zOkR_mono hO (by decide)) (fun hO => ?_)
  refine zA_aload_0 dX11_init_1058 ?_
  refine zA_iconst (nI 4) dX11_init_1059 ic_4 ?_
  refine zN_newa (n := 132) (i := 0) sh_132 (by decide) rfl rfl rfl ar_int dX11_init_1060 (by decide) (by decide) (by decide) (by decide) (zOkR_mono hO (by decide)) (by decide) (fun k hk => hz k (Nat.le_trans (by decide) hk)) (fun k hk => hl k (Nat.le_trans (by decide) hk)) (fun _ _ => rfl) ?_
  refine zN_putR (n := 133) (show x.meth.name = "<init>" from hname) (by decide) sh_87 (by decide) (by decide) fX11_148 dX11_init_1062 rfl rfl (fun C T N h => by cases h; exact zm_inT 1271 (by decide +kernel) (by decide +kernel)) (zOkR_mono hO (by decide)) (fun hO => ?_)
  refine zA_aload_0 dX11_init_1065 ?_
  refine zA_iconst (nI 3) dX11_init_1066 ic_3 ?_
  refine zN_newa (n := 133) (i := 0) sh_133 (by decide) rfl rfl rfl ar_int dX11_init_1067 (by decide) (by decide) (by decide) (by decide) (zOkR_mono hO (by decide)) (by decide) (fun k hk => hz k (Nat.le_trans (by decide) hk)) (fun k hk => hl k (Nat.le_trans (by decide) hk)) (fun _ _ => rfl) ?_
  refine zN_putR (n := 134) (show x.meth.name = "<init>" from hname) (by decide) sh_87 (by decide) (by decide) fX11_151 dX11_init_1069 rfl rfl (fun C T N h => by cases h; exact zm_inT 1280 (by decide +kernel) (by decide +kernel)) (zOkR_mono hO (by decide)) (fun hO => ?_)
  refine zA_aload_0 dX11_init_1072 ?_
  refine zA_bipush (nI 108) dX11_init_1073 bc_108 ?_
  refine zN_newa (n := 134) (i := 0) sh_134 (by decide) rfl rfl rfl ar_int dX11_init_1075 (by decide) (by decide) (by decide) (by decide) (zOkR_mono hO (by decide)) (by decide) (fun k hk => hz k (Nat.le_trans (by decide) hk)) (fun k hk => hl k (Nat.le_trans (by decide) hk)) (fun _ _ => rfl) ?_
  refine zN_putR (n := 135) (show x.meth.name = "<init>" from hname) (by decide) sh_87 (by decide) (by decide) fX11_154 dX11_init_1077 rfl rfl (fun C T N h => by cases h; exact zm_inT 1281 (by decide +kernel) (by decide +kernel)) (zOkR_mono hO (by decide)) (fun hO => ?_)
  refine zA_aload_0 dX11_init_1080 ?_
  refine zA_cVv (ct_rPlainI g ((zs (zs (zs (zs (zs (zs (zs (zs (zs (zs (zs (zs (zs (zs (zs (zs (zs (zs (zs (zs (zs (zs (zs (zs (zs (zs (zs (zs (zs (zs (zs (zs (zs (zs (zs (zs (zs (zs (zs (zs (zs (zs (zs (zs (zs (zs (zs (zs (zs (zs (zs (zs (zs (zs (zs (zs (zs (zs (zs (zs (zs (zs (zs (zs (zs (zs (zs (zs (zs (zs (zs (zs (zs (zs (zs (zs (zs (zs (zs (zs (zs (zs (zs (zs (zs (zs (zs (zs (zs (zs (zs (zs (zs (zs (zs (zs (zs (zs (zs (zs (zs (zs (zs (zs (zs (zs (zs (zs (zs (zs (zs (zs (zs (zs (zs (zs (zs (zs (zs (zs gi 98 0 ((nI 1))) 98 1 ((nI 1))) 98 2 ((nI 1))) 98 3 ((nI 1))) 106 0 ((nI 110))) 106 1 ((nI 105))) 106 2 ((nI 103))) 106 3 ((nI 104))) 106 4 ((nI 116))) 106 5 ((nI 32))) 106 6 ((nI 102))) 106 7 ((nI 117))) 106 8 ((nI 101))) 106 9 ((nI 108))) 106 10 ((nI 32))) 106 11 ((nI 97))) 106 12 ((nI 108))) 106 13 ((nI 108))) 106 14 ((nI 111))) 106 15 ((nI 119))) 106 16 ((nI 32))) 106 17 ((nI 112))) 106 18 ((nI 114))) 106 19 ((nI 105))) 106 20 ((nI 99))) 106 21 ((nI 101))) 106 22 ((nI 32))) 106 23 ((nI 114))) 106 24 ((nI 101))) 106 25 ((nI 110))) 106 26 ((nI 116))) 106 27 ((nI 101))) 106 28 ((nI 114))) 106 29 ((nI 32))) 106 30 ((nI 112))) 106 31 ((nI 97))) 106 32 ((nI 114))) 106 33 ((nI 105))) 106 34 ((nI 115))) 106 35 ((nI 104))) 106 36 ((nI 32))) 106 37 ((nI 101))) 106 38 ((nI 103))) 106 39 ((nI 103))) 106 40 ((nI 115))) 106 41 ((nI 32))) 106 42 ((nI 111))) 106 43 ((nI 114))) 106 44 ((nI 32))) 106 45 ((nI 97))) 106 46 ((nI 110))) 106 47 ((nI 100))) 106 48 ((nI 32))) 106 49 ((nI 110))) 106 50 ((nI 111))) 106 51 ((nI 116))) 106 52 ((nI 32))) 106 53 ((nI 112))) 106 54 ((nI 101))) 106 55 ((nI 111))) 106 56 ((nI 112))) 106 57 ((nI 108))) 106 58 ((nI 101))) 106 59 ((nI 32))) 106 60 ((nI 115))) 106 61 ((nI 101))) 106 62 ((nI 97))) 106 63 ((nI 116))) 106 64 ((nI 115))) 106 65 ((nI 32))) 106 66 ((nI 115))) 106 67 ((nI 116))) 106 68 ((nI 114))) 106 69 ((nI 105))) 106 70 ((nI 99))) 106 71 ((nI 116))) 106 72 ((nI 32))) 106 73 ((nI 99))) 106 74 ((nI 104))) 106 75 ((nI 105))) 106 76 ((nI 108))) 106 77 ((nI 100))) 106 78 ((nI 32))) 106 79 ((nI 108))) 106 80 ((nI 105))) 106 81 ((nI 107))) 106 82 ((nI 101))) 106 83 ((nI 32))) 106 84 ((nI 103))) 106 85 ((nI 101))) 106 86 ((nI 110))) 106 87 ((nI 114))) 106 88 ((nI 101))) 106 89 ((nI 32))) 106 90 ((nI 97))) 106 91 ((nI 103))) 106 92 ((nI 101))) 106 93 ((nI 32))) 106 94 ((nI 109))) 106 95 ((nI 105))) 106 96 ((nI 110))) 106 97 ((nI 117))) 106 98 ((nI 116))) 106 99 ((nI 101))) 106 100 ((nI 115))) 106 101 ((nI 32))) 106 102 ((nI 63))) 106 103 ((nI 32))) 106 104 ((nI 119))) 106 105 ((nI 111))) 106 106 ((nI 114))) 106 107 ((nI 110))) 106 108 ((nI 32))) 106 109 ((nI 104))) 106 110 ((nI 101))) 106 111 ((nI 97))) 106 112 ((nI 100))) 106 113 ((nI 115))) 106 114 ((nI 32))) 87 30 (((-1))))) gl (zr (zr (zr (zr (zr (zr (zr (zr (zr (zr (zr (zr (zr (zr (zr (zr (zr (zr (zr (zr (zr (zr (zr (zr (zr (zr (zr (zr (zr (zr (zr (zr (zr (zr (zr (zr (zr (zr (zr (zr (zr (zr (zr (zr (zr (zr (zr gr 87 0 88) 87 4 89) 87 6 90) 87 7 91) 87 8 92) 87 9 93) 87 11 94) 87 13 95) 87 14 96) 87 16 97) 87 17 98) 87 19 99) 87 21 100) 87 23 101) 87 24 102) 87 25 103) 87 26 104) 87 27 105) 87 28 106) 87 36 107) 87 37 108) 87 38 109) 87 39 110) 87 40 111) 87 41 112) 87 42 113) 87 43 114) 87 44 115) 87 45 116) 87 49 117) 87 50 118) 87 52 119) 87 54 120) 87 59 121) 87 67 122) 87 68 123) 87 69 124) 87 70 125) 87 71 126) 87 72 127) 87 73 128) 87 74 129) 87 75 130) 87 76 131) 87 77 132) 87 86 133) 87 87 134) rfl rfl rfl) calX11_plain stX11_plain lX11_157 dX11_init_1081 (by decide) (by simp [Value.category]) rfl (Nat.le_refl _) (Nat.le_refl _) (zsht (n := 135) sh_87 (by decide)) rfl (fun gi' gl' gr' ⟨e1, e2, e3⟩ => ?_)
  rw [e1, e2, e3]
  clear e1 e2 e3
  refine zA_aload_0 dX11_init_1084 ?_
  refine zA_cVv (ct_rKeepI g (rPl ((zs (zs (zs (zs (zs (zs (zs (zs (zs (zs (zs (zs (zs (zs (zs (zs (zs (zs (zs (zs (zs (zs (zs (zs (zs (zs (zs (zs (zs (zs (zs (zs (zs (zs (zs (zs (zs (zs (zs (zs (zs (zs (zs (zs (zs (zs (zs (zs (zs (zs (zs (zs (zs (zs (zs (zs (zs (zs (zs (zs (zs (zs (zs (zs (zs (zs (zs (zs (zs (zs (zs (zs (zs (zs (zs (zs (zs (zs (zs (zs (zs (zs (zs (zs (zs (zs (zs (zs (zs (zs (zs (zs (zs (zs (zs (zs (zs (zs (zs (zs (zs (zs (zs (zs (zs (zs (zs (zs (zs (zs (zs (zs (zs (zs (zs (zs (zs (zs (zs (zs gi 98 0 ((nI 1))) 98 1 ((nI 1))) 98 2 ((nI 1))) 98 3 ((nI 1))) 106 0 ((nI 110))) 106 1 ((nI 105))) 106 2 ((nI 103))) 106 3 ((nI 104))) 106 4 ((nI 116))) 106 5 ((nI 32))) 106 6 ((nI 102))) 106 7 ((nI 117))) 106 8 ((nI 101))) 106 9 ((nI 108))) 106 10 ((nI 32))) 106 11 ((nI 97))) 106 12 ((nI 108))) 106 13 ((nI 108))) 106 14 ((nI 111))) 106 15 ((nI 119))) 106 16 ((nI 32))) 106 17 ((nI 112))) 106 18 ((nI 114))) 106 19 ((nI 105))) 106 20 ((nI 99))) 106 21 ((nI 101))) 106 22 ((nI 32))) 106 23 ((nI 114))) 106 24 ((nI 101))) 106 25 ((nI 110))) 106 26 ((nI 116))) 106 27 ((nI 101))) 106 28 ((nI 114))) 106 29 ((nI 32))) 106 30 ((nI 112))) 106 31 ((nI 97))) 106 32 ((nI 114))) 106 33 ((nI 105))) 106 34 ((nI 115))) 106 35 ((nI 104))) 106 36 ((nI 32))) 106 37 ((nI 101))) 106 38 ((nI 103))) 106 39 ((nI 103))) 106 40 ((nI 115))) 106 41 ((nI 32))) 106 42 ((nI 111))) 106 43 ((nI 114))) 106 44 ((nI 32))) 106 45 ((nI 97))) 106 46 ((nI 110))) 106 47 ((nI 100))) 106 48 ((nI 32))) 106 49 ((nI 110))) 106 50 ((nI 111))) 106 51 ((nI 116))) 106 52 ((nI 32))) 106 53 ((nI 112))) 106 54 ((nI 101))) 106 55 ((nI 111))) 106 56 ((nI 112))) 106 57 ((nI 108))) 106 58 ((nI 101))) 106 59 ((nI 32))) 106 60 ((nI 115))) 106 61 ((nI 101))) 106 62 ((nI 97))) 106 63 ((nI 116))) 106 64 ((nI 115))) 106 65 ((nI 32))) 106 66 ((nI 115))) 106 67 ((nI 116))) 106 68 ((nI 114))) 106 69 ((nI 105))) 106 70 ((nI 99))) 106 71 ((nI 116))) 106 72 ((nI 32))) 106 73 ((nI 99))) 106 74 ((nI 104))) 106 75 ((nI 105))) 106 76 ((nI 108))) 106 77 ((nI 100))) 106 78 ((nI 32))) 106 79 ((nI 108))) 106 80 ((nI 105))) 106 81 ((nI 107))) 106 82 ((nI 101))) 106 83 ((nI 32))) 106 84 ((nI 103))) 106 85 ((nI 101))) 106 86 ((nI 110))) 106 87 ((nI 114))) 106 88 ((nI 101))) 106 89 ((nI 32))) 106 90 ((nI 97))) 106 91 ((nI 103))) 106 92 ((nI 101))) 106 93 ((nI 32))) 106 94 ((nI 109))) 106 95 ((nI 105))) 106 96 ((nI 110))) 106 97 ((nI 117))) 106 98 ((nI 116))) 106 99 ((nI 101))) 106 100 ((nI 115))) 106 101 ((nI 32))) 106 102 ((nI 63))) 106 103 ((nI 32))) 106 104 ((nI 119))) 106 105 ((nI 111))) 106 106 ((nI 114))) 106 107 ((nI 110))) 106 108 ((nI 32))) 106 109 ((nI 104))) 106 110 ((nI 101))) 106 111 ((nI 97))) 106 112 ((nI 100))) 106 113 ((nI 115))) 106 114 ((nI 32))) 87 30 (((-1)))))) gl (zr (zr (zr (zr (zr (zr (zr (zr (zr (zr (zr (zr (zr (zr (zr (zr (zr (zr (zr (zr (zr (zr (zr (zr (zr (zr (zr (zr (zr (zr (zr (zr (zr (zr (zr (zr (zr (zr (zr (zr (zr (zr (zr (zr (zr (zr (zr gr 87 0 88) 87 4 89) 87 6 90) 87 7 91) 87 8 92) 87 9 93) 87 11 94) 87 13 95) 87 14 96) 87 16 97) 87 17 98) 87 19 99) 87 21 100) 87 23 101) 87 24 102) 87 25 103) 87 26 104) 87 27 105) 87 28 106) 87 36 107) 87 37 108) 87 38 109) 87 39 110) 87 40 111) 87 41 112) 87 42 113) 87 43 114) 87 44 115) 87 45 116) 87 49 117) 87 50 118) 87 52 119) 87 54 120) 87 59 121) 87 67 122) 87 68 123) 87 69 124) 87 70 125) 87 71 126) 87 72 127) 87 73 128) 87 74 129) 87 75 130) 87 76 131) 87 77 132) 87 86 133) 87 87 134) rfl rfl rfl rfl rfl rfl rfl rfl rfl rfl (q := 0) rfl (by decide) (fun j => by
    by_cases c : j < 7
    · rw [rPl_8 _ j c]; exact Or.inl rfl
    · rw [rPl_8n _ j c]; exact Or.inl (congrFun (hz0 108 (by decide)) j))) calX11_keep stX11_keep lX11_160 dX11_init_1085 (by decide) (by simp [Value.category]) rfl (Nat.le_refl _) (Nat.le_refl _) (zsht (n := 135) sh_87 (by decide)) rfl (fun gi' gl' gr' ⟨e1, e2, e3⟩ => ?_)
  rw [e1, e2, e3]
  clear e1 e2 e3
  have hz : ∀ k, 135 ≤ k → rKp0 (rPl ((zs (zs (zs (zs (zs (zs (zs (zs (zs (zs (zs (zs (zs (zs (zs (zs (zs (zs (zs (zs (zs (zs (zs (zs (zs (zs (zs (zs (zs (zs (zs (zs (zs (zs (zs (zs (zs (zs (zs (zs (zs (zs (zs (zs (zs (zs (zs (zs (zs (zs (zs (zs (zs (zs (zs (zs (zs (zs (zs (zs (zs (zs (zs (zs (zs (zs (zs (zs (zs (zs (zs (zs (zs (zs (zs (zs (zs (zs (zs (zs (zs (zs (zs (zs (zs (zs (zs (zs (zs (zs (zs (zs (zs (zs (zs (zs (zs (zs (zs (zs (zs (zs (zs (zs (zs (zs (zs (zs (zs (zs (zs (zs (zs (zs (zs (zs (zs (zs (zs (zs gi 98 0 ((nI 1))) 98 1 ((nI 1))) 98 2 ((nI 1))) 98 3 ((nI 1))) 106 0 ((nI 110))) 106 1 ((nI 105))) 106 2 ((nI 103))) 106 3 ((nI 104))) 106 4 ((nI 116))) 106 5 ((nI 32))) 106 6 ((nI 102))) 106 7 ((nI 117))) 106 8 ((nI 101))) 106 9 ((nI 108))) 106 10 ((nI 32))) 106 11 ((nI 97))) 106 12 ((nI 108))) 106 13 ((nI 108))) 106 14 ((nI 111))) 106 15 ((nI 119))) 106 16 ((nI 32))) 106 17 ((nI 112))) 106 18 ((nI 114))) 106 19 ((nI 105))) 106 20 ((nI 99))) 106 21 ((nI 101))) 106 22 ((nI 32))) 106 23 ((nI 114))) 106 24 ((nI 101))) 106 25 ((nI 110))) 106 26 ((nI 116))) 106 27 ((nI 101))) 106 28 ((nI 114))) 106 29 ((nI 32))) 106 30 ((nI 112))) 106 31 ((nI 97))) 106 32 ((nI 114))) 106 33 ((nI 105))) 106 34 ((nI 115))) 106 35 ((nI 104))) 106 36 ((nI 32))) 106 37 ((nI 101))) 106 38 ((nI 103))) 106 39 ((nI 103))) 106 40 ((nI 115))) 106 41 ((nI 32))) 106 42 ((nI 111))) 106 43 ((nI 114))) 106 44 ((nI 32))) 106 45 ((nI 97))) 106 46 ((nI 110))) 106 47 ((nI 100))) 106 48 ((nI 32))) 106 49 ((nI 110))) 106 50 ((nI 111))) 106 51 ((nI 116))) 106 52 ((nI 32))) 106 53 ((nI 112))) 106 54 ((nI 101))) 106 55 ((nI 111))) 106 56 ((nI 112))) 106 57 ((nI 108))) 106 58 ((nI 101))) 106 59 ((nI 32))) 106 60 ((nI 115))) 106 61 ((nI 101))) 106 62 ((nI 97))) 106 63 ((nI 116))) 106 64 ((nI 115))) 106 65 ((nI 32))) 106 66 ((nI 115))) 106 67 ((nI 116))) 106 68 ((nI 114))) 106 69 ((nI 105))) 106 70 ((nI 99))) 106 71 ((nI 116))) 106 72 ((nI 32))) 106 73 ((nI 99))) 106 74 ((nI 104))) 106 75 ((nI 105))) 106 76 ((nI 108))) 106 77 ((nI 100))) 106 78 ((nI 32))) 106 79 ((nI 108))) 106 80 ((nI 105))) 106 81 ((nI 107))) 106 82 ((nI 101))) 106 83 ((nI 32))) 106 84 ((nI 103))) 106 85 ((nI 101))) 106 86 ((nI 110))) 106 87 ((nI 114))) 106 88 ((nI 101))) 106 89 ((nI 32))) 106 90 ((nI 97))) 106 91 ((nI 103))) 106 92 ((nI 101))) 106 93 ((nI 32))) 106 94 ((nI 109))) 106 95 ((nI 105))) 106 96 ((nI 110))) 106 97 ((nI 117))) 106 98 ((nI 116))) 106 99 ((nI 101))) 106 100 ((nI 115))) 106 101 ((nI 32))) 106 102 ((nI 63))) 106 103 ((nI 32))) 106 104 ((nI 119))) 106 105 ((nI 111))) 106 106 ((nI 114))) 106 107 ((nI 110))) 106 108 ((nI 32))) 106 109 ((nI 104))) 106 110 ((nI 101))) 106 111 ((nI 97))) 106 112 ((nI 100))) 106 113 ((nI 115))) 106 114 ((nI 32))) 87 30 (((-1)))))) 0 k = fun _ => 0 := fun k hk => by
    rw [rKp0_q _ _ (by omega) (by omega) (by omega) (by omega) (by omega), rPl_q _ (by omega) (by omega) (by omega) (by omega)]
    exact hz k (by omega)
  exact zN_ret rfl dX11_init_1088 (by decide) (by decide) ⟨rfl, rfl, rfl, (zOkR_mono hO (by decide)), (fun k hk => hz k (Nat.le_trans (by decide) hk))⟩
