/-! ===== the constructors ===== -/
def zr (gr : zm_R) (q j r : Nat) : zm_R := va_up gr q (va_up (gr q) j (some r))
def zrm (gr : zm_R) (n N : Nat) : zm_R := va_up gr n (fun i => if i < N then some (n + 1 + i) else none)
def fI_X3_init_3 (gi : zm_I) : zm_I := (zs (zs (zs (zs (zs (zs (zs (zs (zfl ((zs (zs (zs (zs (zs (zs (zs (zs (zfl ((zs (zs (zs (zs (zs (zs (zs (zs (zfl ((zs (zs (zs (zs (zs (zs (zs (zs (zfl gi 14 64 ((nI 1000000))) 14 0 ((nI 0))) 14 9 ((nI 0))) 14 18 ((nI 0))) 14 27 ((nI 0))) 14 36 ((nI 0))) 14 45 ((nI 0))) 14 54 ((nI 0))) 14 63 ((nI 0)))) 15 64 ((nI 1000000))) 15 0 ((nI 0))) 15 9 ((nI 0))) 15 18 ((nI 0))) 15 27 ((nI 0))) 15 36 ((nI 0))) 15 45 ((nI 0))) 15 54 ((nI 0))) 15 63 ((nI 0)))) 16 64 ((nI 1000000))) 16 0 ((nI 0))) 16 9 ((nI 0))) 16 18 ((nI 0))) 16 27 ((nI 0))) 16 36 ((nI 0))) 16 45 ((nI 0))) 16 54 ((nI 0))) 16 63 ((nI 0)))) 17 64 ((nI 1000000))) 17 0 ((nI 0))) 17 9 ((nI 0))) 17 18 ((nI 0))) 17 27 ((nI 0))) 17 36 ((nI 0))) 17 45 ((nI 0))) 17 54 ((nI 0))) 17 63 ((nI 0)))
def rI_X3_init_3 (gr : zm_R) : zm_R := (zr (zr (zrm (zr (zrm gr 4 8) 3 0 4) 13 4) 3 1 13) 3 2 18)
set_option maxRecDepth 100000 in
set_option maxHeartbeats 4000000 in
theorem ci_X3_init_3 (g : zm_G) (gi : zm_I) (gl : zm_J) (gr : zm_R) (hz : ∀ k, 4 ≤ k → gi k = fun _ => 0) (hl : ∀ k, 4 ≤ k → gl k = fun _ => 0) (hO : zOkR 4 gr) : zC_n g yX3_init mX3_init 1 15 334 [.ref 3] 4 gi gl gr 19 (fun gi' gl' gr' => gi' = fI_X3_init_3 gi ∧ gl' = gl ∧ gr' = rI_X3_init_3 gr ∧ zOkR 19 gr' ∧ ∀ k, 19 ≤ k → gi' k = fun _ => 0) := by
  refine zC_n_of [some (.ref 3), none, none] (by decide) rfl rfl (Nat.le_of_ble_eq_true rfl) (fun x hname hGX => ?_)
  refine zA_aload_0 dX3_init_0 ?_
  refine zA_objI (zm_inT 154 (by decide +kernel) (by decide +kernel)) oi_in oi_co dX3_init_1 (by decide) (by simp [Value.category]) ?_
  refine zA_aload_0 dX3_init_4 ?_
  refine zA_bipush (nI 8) dX3_init_5 bc_8 ?_
  refine zA_bipush (nI 8) dX3_init_7 bc_8 ?_
  refine zN_mna (n := 4) (N := 8) (K := 8) rfl (by decide) (zm_inT 155 (by decide +kernel) (by decide +kernel)) hGX.1 ar_int dX3_init_9 (by decide) (by decide) (by decide) (by decide) (zOkR_mono hO (by decide)) (by decide) (fun k hk => hz k (Nat.le_trans (by decide) hk)) (fun hO => ?_)
  refine zN_putR (n := 13) (show x.meth.name = "<init>" from hname) (by decide) sh_3 (by decide) (by decide) fX3_11 dX3_init_13 rfl rfl (fun C T N h => by cases h; exact zm_inT 161 (by decide +kernel) (by decide +kernel)) (zOkR_mono hO (by decide)) (fun hO => ?_)
  refine zA_aload_0 dX3_init_16 ?_
  refine zA_iconst (nI 4) dX3_init_17 ic_4 ?_
  refine zA_bipush (nI 64) dX3_init_18 bc_64 ?_
  refine zN_mna (n := 13) (N := 4) (K := 64) rfl (by decide) (zm_inT 155 (by decide +kernel) (by decide +kernel)) hGX.1 ar_int dX3_init_20 (by decide) (by decide) (by decide) (by decide) (zOkR_mono hO (by decide)) (by decide) (fun k hk => hz k (Nat.le_trans (by decide) hk)) (fun hO => ?_)
  refine zN_putR (n := 18) (show x.meth.name = "<init>" from hname) (by decide) sh_3 (by decide) (by decide) fX3_16 dX3_init_24 rfl rfl (fun C T N h => by cases h; exact zm_inT 164 (by decide +kernel) (by decide +kernel)) (zOkR_mono hO (by decide)) (fun hO => ?_)
  refine zA_aload_0 dX3_init_27 ?_
  refine zA_iconst (nI 2) dX3_init_28 ic_2 ?_
  refine zN_newa (n := 18) (i := 0) sh_18 (by decide) rfl rfl rfl ar_int dX3_init_29 (by decide) (by decide) (by decide) (by decide) (zOkR_mono hO (by decide)) (by decide) (fun k hk => hz k (Nat.le_trans (by decide) hk)) (fun k hk => hl k (Nat.le_trans (by decide) hk)) (fun _ _ => rfl) ?_
  refine zN_putR (n := 19) (show x.meth.name = "<init>" from hname) (by decide) sh_3 (by decide) (by decide) fX3_19 dX3_init_31 rfl rfl (fun C T N h => by cases h; exact zm_inT 165 (by decide +kernel) (by decide +kernel)) (zOkR_mono hO (by decide)) (fun hO => ?_)
  refine zA_iconst (nI 0) dX3_init_34 ic_0 ?_
  refine zA_istore_1 dX3_init_35 rfl ?_
  refine zA_iload_1 dX3_init_36 ?_
  refine zA_iconst (nI 4) dX3_init_37 ic_4 ?_
  refine zA_icmp_geN 86 dX3_init_38 (by decide) (by decide) (by decide) (fun hh => absurd hh (by decide)) (fun _ => ?_)
  refine zA_aload_0 dX3_init_41 ?_
  refine zA_getR (zsht (n := 19) sh_3 (by decide)) fX3_16 dX3_init_42 rfl rfl ?_
  refine zA_iload_1 dX3_init_45 ?_
  refine zA_aald 0 (zsht (n := 19) sh_13 (by decide)) dX3_init_46 rfl (by decide) (by decide) rfl ?_
  refine zA_ldc kX3_23 dX3_init_47 ?_
  refine zA_topi (b := nI 1000000) (by decide) ?_
  refine zA_cSv (ct_fill g gi gl _ ((nI 1000000)) (zsht (n := 19) (zsht (n := 19) sh_14 (by decide)) (by decide)) (by decide)) calJ7_fill_53178 stJ7_fill_53178 lX3_24 dX3_init_49 (by decide) (by simp [Value.category]) rfl (Nat.le_refl _) (Nat.le_refl _) (fun gi' gl' gr' ⟨e1, e2, e3⟩ => ?_)
  rw [e1, e2, e3]
  clear e1 e2 e3
  have hz : ∀ k, 19 ≤ k → (zfl gi 14 64 ((nI 1000000))) k = fun _ => 0 := fun k hk => (zm_une (by omega)).trans (hz k (by omega))
  refine zA_iconst (nI 0) dX3_init_52 ic_0 ?_
  refine zA_istore_2 dX3_init_53 rfl ?_
  refine zA_iload_2 dX3_init_54 ?_
  refine zA_bipush (nI 8) dX3_init_55 bc_8 ?_
  refine zA_icmp_geN 80 dX3_init_57 (by decide) (by decide) (by decide) (fun hh => absurd hh (by decide)) (fun _ => ?_)
  refine zA_aload_0 dX3_init_60 ?_
  refine zA_getR (zsht (n := 19) sh_3 (by decide)) fX3_16 dX3_init_61 rfl rfl ?_
  refine zA_iload_1 dX3_init_64 ?_
  refine zA_aald 0 (zsht (n := 19) sh_13 (by decide)) dX3_init_65 rfl (by decide) (by decide) rfl ?_
  refine zA_iload_2 dX3_init_66 ?_
  refine zA_bipush (nI 8) dX3_init_67 bc_8 ?_
  refine zA_imulN dX3_init_69 ?_
  refine zA_iload_2 dX3_init_70 ?_
  refine zA_iaddN dX3_init_71 ?_
  refine zA_iconst (nI 0) dX3_init_72 ic_0 ?_
  refine zS_iast 0 (zsht (n := 19) sh_14 (by decide)) dX3_init_73 rfl (by decide) (by decide) ?_
  refine zA_iinc_2 (v := nI (0 + 1)) dX3_init_74 (zn_inc _) rfl ?_
  refine zA_goto 54 dX3_init_77 (by decide) ?_
  refine zA_iload_2 dX3_init_54 ?_
  refine zA_bipush (nI 8) dX3_init_55 bc_8 ?_
  refine zA_icmp_geN 80 dX3_init_57 (by decide) (by decide) (by decide) (fun hh => absurd hh (by decide)) (fun _ => ?_)
  refine zA_aload_0 dX3_init_60 ?_
  refine zA_getR (zsht (n := 19) sh_3 (by decide)) fX3_16 dX3_init_61 rfl rfl ?_
  refine zA_iload_1 dX3_init_64 ?_
  refine zA_aald 0 (zsht (n := 19) sh_13 (by decide)) dX3_init_65 rfl (by decide) (by decide) rfl ?_
  refine zA_iload_2 dX3_init_66 ?_
  refine zA_bipush (nI 8) dX3_init_67 bc_8 ?_
  refine zA_imulN dX3_init_69 ?_
  refine zA_iload_2 dX3_init_70 ?_
  refine zA_iaddN dX3_init_71 ?_
  refine zA_iconst (nI 0) dX3_init_72 ic_0 ?_
  refine zS_iast 9 (zsht (n := 19) sh_14 (by decide)) dX3_init_73 rfl (by decide) (by decide) ?_
  refine zA_iinc_2 (v := nI (1 + 1)) dX3_init_74 (zn_inc _) rfl ?_
  refine zA_goto 54 dX3_init_77 (by decide) ?_
  refine zA_iload_2 dX3_init_54 ?_
  refine zA_bipush (nI 8) dX3_init_55 bc_8 ?_
  refine zA_icmp_geN 80 dX3_init_57 (by decide) (by decide) (by decide) (fun hh => absurd hh (by decide)) (fun _ => ?_)
  refine zA_aload_0 dX3_init_60 ?_
  refine zA_getR (zsht (n := 19) sh_3 (by decide)) fX3_16 dX3_init_61 rfl rfl ?_
  refine zA_iload_1 dX3_init_64 ?_
  refine zA_aald 0 (zsht (n := 19) sh_13 (by decide)) dX3_init_65 rfl (by decide) (by decide) rfl ?_
  refine zA_iload_2 dX3_init_66 ?_
  refine zA_bipush (nI 8) dX3_init_67 bc_8 ?_
  refine zA_imulN dX3_init_69 ?_
  refine zA_iload_2 dX3_init_70 ?_
  refine zA_iaddN dX3_init_71 ?_
  refine zA_iconst (nI 0) dX3_init_72 ic_0 ?_
  refine zS_iast 18 (zsht (n := 19) sh_14 (by decide)) dX3_init_73 rfl (by decide) (by decide) ?_
  refine zA_iinc_2 (v := nI (2 + 1)) dX3_init_74 (zn_inc _) rfl ?_
  refine zA_goto 54 dX3_init_77 (by decide) ?_
  refine zA_iload_2 dX3_init_54 ?_
  refine zA_bipush (nI 8) dX3_init_55 bc_8 ?_
  refine zA_icmp_geN 80 dX3_init_57 (by decide) (by decide) (by decide) (fun hh => absurd hh (by decide)) (fun _ => ?_)
  refine zA_aload_0 dX3_init_60 ?_
  refine zA_getR (zsht (n := 19) sh_3 (by decide)) fX3_16 dX3_init_61 rfl rfl ?_
  refine zA_iload_1 dX3_init_64 ?_
  refine zA_aald 0 (zsht (n := 19) sh_13 (by decide)) dX3_init_65 rfl (by decide) (by decide) rfl ?_
  refine zA_iload_2 dX3_init_66 ?_
  refine zA_bipush (nI 8) dX3_init_67 bc_8 ?_
  refine zA_imulN dX3_init_69 ?_
  refine zA_iload_2 dX3_init_70 ?_
  refine zA_iaddN dX3_init_71 ?_
  refine zA_iconst (nI 0) dX3_init_72 ic_0 ?_
  refine zS_iast 27 (zsht (n := 19) sh_14 (by decide)) dX3_init_73 rfl (by decide) (by decide) ?_
  refine zA_iinc_2 (v := nI (3 + 1)) dX3_init_74 (zn_inc _) rfl ?_
  refine zA_goto 54 dX3_init_77 (by decide) ?_
  refine zA_iload_2 dX3_init_54 ?_
  refine zA_bipush (nI 8) dX3_init_55 bc_8 ?_
  refine zA_icmp_geN 80 dX3_init_57 (by decide) (by decide) (by decide) (fun hh => absurd hh (by decide)) (fun _ => ?_)
  refine zA_aload_0 dX3_init_60 ?_
  refine zA_getR (zsht (n := 19) sh_3 (by decide)) fX3_16 dX3_init_61 rfl rfl ?_
  refine zA_iload_1 dX3_init_64 ?_
  refine zA_aald 0 (zsht (n := 19) sh_13 (by decide)) dX3_init_65 rfl (by decide) (by decide) rfl ?_
  refine zA_iload_2 dX3_init_66 ?_
  refine zA_bipush (nI 8) dX3_init_67 bc_8 ?_
  refine zA_imulN dX3_init_69 ?_
  refine zA_iload_2 dX3_init_70 ?_
  refine zA_iaddN dX3_init_71 ?_
  refine zA_iconst (nI 0) dX3_init_72 ic_0 ?_
  refine zS_iast 36 (zsht (n := 19) sh_14 (by decide)) dX3_init_73 rfl (by decide) (by decide) ?_
  refine zA_iinc_2 (v := nI (4 + 1)) dX3_init_74 (zn_inc _) rfl ?_
  refine zA_goto 54 dX3_init_77 (by decide) ?_
  refine zA_iload_2 dX3_init_54 ?_
  refine zA_bipush (nI 8) dX3_init_55 bc_8 ?_
  refine zA_icmp_geN 80 dX3_init_57 (by decide) (by decide) (by decide) (fun hh => absurd hh (by decide)) (fun _ => ?_)
  refine zA_aload_0 dX3_init_60 ?_
  refine zA_getR (zsht (n := 19) sh_3 (by decide)) fX3_16 dX3_init_61 rfl rfl ?_
  refine zA_iload_1 dX3_init_64 ?_
  refine zA_aald 0 (zsht (n := 19) sh_13 (by decide)) dX3_init_65 rfl (by decide) (by decide) rfl ?_
  refine zA_iload_2 dX3_init_66 ?_
  refine zA_bipush (nI 8) dX3_init_67 bc_8 ?_
  refine zA_imulN dX3_init_69 ?_
  refine zA_iload_2 dX3_init_70 ?_
  refine zA_iaddN dX3_init_71 ?_
  refine zA_iconst (nI 0) dX3_init_72 ic_0 ?_
  refine zS_iast 45 (zsht (n := 19) sh_14 (by decide)) dX3_init_73 rfl (by decide) (by decide) ?_
  refine zA_iinc_2 (v := nI (5 + 1)) dX3_init_74 (zn_inc _) rfl ?_
  refine zA_goto 54 dX3_init_77 (by decide) ?_
  refine zA_iload_2 dX3_init_54 ?_
  refine zA_bipush (nI 8) dX3_init_55 bc_8 ?_
  refine zA_icmp_geN 80 dX3_init_57 (by decide) (by decide) (by decide) (fun hh => absurd hh (by decide)) (fun _ => ?_)
  refine zA_aload_0 dX3_init_60 ?_
  refine zA_getR (zsht (n := 19) sh_3 (by decide)) fX3_16 dX3_init_61 rfl rfl ?_
  refine zA_iload_1 dX3_init_64 ?_
  refine zA_aald 0 (zsht (n := 19) sh_13 (by decide)) dX3_init_65 rfl (by decide) (by decide) rfl ?_
  refine zA_iload_2 dX3_init_66 ?_
  refine zA_bipush (nI 8) dX3_init_67 bc_8 ?_
  refine zA_imulN dX3_init_69 ?_
  refine zA_iload_2 dX3_init_70 ?_
  refine zA_iaddN dX3_init_71 ?_
  refine zA_iconst (nI 0) dX3_init_72 ic_0 ?_
  refine zS_iast 54 (zsht (n := 19) sh_14 (by decide)) dX3_init_73 rfl (by decide) (by decide) ?_
  refine zA_iinc_2 (v := nI (6 + 1)) dX3_init_74 (zn_inc _) rfl ?_
  refine zA_goto 54 dX3_init_77 (by decide) ?_
  refine zA_iload_2 dX3_init_54 ?_
  refine zA_bipush (nI 8) dX3_init_55 bc_8 ?_
  refine zA_icmp_geN 80 dX3_init_57 (by decide) (by decide) (by decide) (fun hh => absurd hh (by decide)) (fun _ => ?_)
  refine zA_aload_0 dX3_init_60 ?_
  refine zA_getR (zsht (n := 19) sh_3 (by decide)) fX3_16 dX3_init_61 rfl rfl ?_
  refine zA_iload_1 dX3_init_64 ?_
  refine zA_aald 0 (zsht (n := 19) sh_13 (by decide)) dX3_init_65 rfl (by decide) (by decide) rfl ?_
  refine zA_iload_2 dX3_init_66 ?_
  refine zA_bipush (nI 8) dX3_init_67 bc_8 ?_
  refine zA_imulN dX3_init_69 ?_
  refine zA_iload_2 dX3_init_70 ?_
  refine zA_iaddN dX3_init_71 ?_
  refine zA_iconst (nI 0) dX3_init_72 ic_0 ?_
  refine zS_iast 63 (zsht (n := 19) sh_14 (by decide)) dX3_init_73 rfl (by decide) (by decide) ?_
  refine zA_iinc_2 (v := nI (7 + 1)) dX3_init_74 (zn_inc _) rfl ?_
  refine zA_goto 54 dX3_init_77 (by decide) ?_
  refine zA_iload_2 dX3_init_54 ?_
  refine zA_bipush (nI 8) dX3_init_55 bc_8 ?_
  refine zA_icmp_geN 80 dX3_init_57 (by decide) (by decide) (by decide) (fun _ => ?_) (fun hh => absurd hh (by decide))
  refine zA_iinc_1 (v := nI (0 + 1)) dX3_init_80 (zn_inc _) rfl ?_
  refine zA_goto 36 dX3_init_83 (by decide) ?_
  refine zA_iload_1 dX3_init_36 ?_
  refine zA_iconst (nI 4) dX3_init_37 ic_4 ?_
  refine zA_icmp_geN 86 dX3_init_38 (by decide) (by decide) (by decide) (fun hh => absurd hh (by decide)) (fun _ => ?_)
  refine zA_aload_0 dX3_init_41 ?_
  refine zA_getR (zsht (n := 19) sh_3 (by decide)) fX3_16 dX3_init_42 rfl rfl ?_
  refine zA_iload_1 dX3_init_45 ?_
  refine zA_aald 1 (zsht (n := 19) sh_13 (by decide)) dX3_init_46 rfl (by decide) (by decide) rfl ?_
  refine zA_ldc kX3_23 dX3_init_47 ?_
  refine zA_topi (b := nI 1000000) (by decide) ?_
  have hz : ∀ k, 19 ≤ k → ((zs (zs (zs (zs (zs (zs (zs (zs (zfl gi 14 64 ((nI 1000000))) 14 0 ((nI 0))) 14 9 ((nI 0))) 14 18 ((nI 0))) 14 27 ((nI 0))) 14 36 ((nI 0))) 14 45 ((nI 0))) 14 54 ((nI 0))) 14 63 ((nI 0)))) k = fun _ => 0 := fun k hk => by
    repeat rw [zs_nq (by omega)]
    exact hz k (by omega)
  refine zA_cSv (ct_fill g ((zs (zs (zs (zs (zs (zs (zs (zs (zfl gi 14 64 ((nI 1000000))) 14 0 ((nI 0))) 14 9 ((nI 0))) 14 18 ((nI 0))) 14 27 ((nI 0))) 14 36 ((nI 0))) 14 45 ((nI 0))) 14 54 ((nI 0))) 14 63 ((nI 0)))) gl _ ((nI 1000000)) (zsht (n := 19) (zsht (n := 19) sh_15 (by decide)) (by decide)) (by decide)) calJ7_fill_53178 stJ7_fill_53178 lX3_24 dX3_init_49 (by decide) (by simp [Value.category]) rfl (Nat.le_refl _) (Nat.le_refl _) (fun gi' gl' gr' ⟨e1, e2, e3⟩ => ?_)
  rw [e1, e2, e3]
  clear e1 e2 e3
  have hz : ∀ k, 19 ≤ k → (zfl ((zs (zs (zs (zs (zs (zs (zs (zs (zfl gi 14 64 ((nI 1000000))) 14 0 ((nI 0))) 14 9 ((nI 0))) 14 18 ((nI 0))) 14 27 ((nI 0))) 14 36 ((nI 0))) 14 45 ((nI 0))) 14 54 ((nI 0))) 14 63 ((nI 0)))) 15 64 ((nI 1000000))) k = fun _ => 0 := fun k hk => (zm_une (by omega)).trans (hz k (by omega))
  refine zA_iconst (nI 0) dX3_init_52 ic_0 ?_
  refine zA_istore_2 dX3_init_53 rfl ?_
  refine zA_iload_2 dX3_init_54 ?_
  refine zA_bipush (nI 8) dX3_init_55 bc_8 ?_
  refine zA_icmp_geN 80 dX3_init_57 (by decide) (by decide) (by decide) (fun hh => absurd hh (by decide)) (fun _ => ?_)
  refine zA_aload_0 dX3_init_60 ?_
  refine zA_getR (zsht (n := 19) sh_3 (by decide)) fX3_16 dX3_init_61 rfl rfl ?_
  refine zA_iload_1 dX3_init_64 ?_
  refine zA_aald 1 (zsht (n := 19) sh_13 (by decide)) dX3_init_65 rfl (by decide) (by decide) rfl ?_
  refine zA_iload_2 dX3_init_66 ?_
  refine zA_bipush (nI 8) dX3_init_67 bc_8 ?_
  refine zA_imulN dX3_init_69 ?_
  refine zA_iload_2 dX3_init_70 ?_
  refine zA_iaddN dX3_init_71 ?_
  refine zA_iconst (nI 0) dX3_init_72 ic_0 ?_
  refine zS_iast 0 (zsht (n := 19) sh_15 (by decide)) dX3_init_73 rfl (by decide) (by decide) ?_
  refine zA_iinc_2 (v := nI (0 + 1)) dX3_init_74 (zn_inc _) rfl ?_
  refine zA_goto 54 dX3_init_77 (by decide) ?_
  refine zA_iload_2 dX3_init_54 ?_
  refine zA_bipush (nI 8) dX3_init_55 bc_8 ?_
  refine zA_icmp_geN 80 dX3_init_57 (by decide) (by decide) (by decide) (fun hh => absurd hh (by decide)) (fun _ => ?_)
  refine zA_aload_0 dX3_init_60 ?_
  refine zA_getR (zsht (n := 19) sh_3 (by decide)) fX3_16 dX3_init_61 rfl rfl ?_
  refine zA_iload_1 dX3_init_64 ?_
  refine zA_aald 1 (zsht (n := 19) sh_13 (by decide)) dX3_init_65 rfl (by decide) (by decide) rfl ?_
  refine zA_iload_2 dX3_init_66 ?_
  refine zA_bipush (nI 8) dX3_init_67 bc_8 ?_
  refine zA_imulN dX3_init_69 ?_
  refine zA_iload_2 dX3_init_70 ?_
  refine zA_iaddN dX3_init_71 ?_
  refine zA_iconst (nI 0) dX3_init_72 ic_0 ?_
  refine zS_iast 9 (zsht (n := 19) sh_15 (by decide)) dX3_init_73 rfl (by decide) (by decide) ?_
  refine zA_iinc_2 (v := nI (1 + 1)) dX3_init_74 (zn_inc _) rfl ?_
  refine zA_goto 54 dX3_init_77 (by decide) ?_
  refine zA_iload_2 dX3_init_54 ?_
  refine zA_bipush (nI 8) dX3_init_55 bc_8 ?_
  refine zA_icmp_geN 80 dX3_init_57 (by decide) (by decide) (by decide) (fun hh => absurd hh (by decide)) (fun _ => ?_)
  refine zA_aload_0 dX3_init_60 ?_
  refine zA_getR (zsht (n := 19) sh_3 (by decide)) fX3_16 dX3_init_61 rfl rfl ?_
  refine zA_iload_1 dX3_init_64 ?_
  refine zA_aald 1 (zsht (n := 19) sh_13 (by decide)) dX3_init_65 rfl (by decide) (by decide) rfl ?_
  refine zA_iload_2 dX3_init_66 ?_
  refine zA_bipush (nI 8) dX3_init_67 bc_8 ?_
  refine zA_imulN dX3_init_69 ?_
  refine zA_iload_2 dX3_init_70 ?_
  refine zA_iaddN dX3_init_71 ?_
  refine zA_iconst (nI 0) dX3_init_72 ic_0 ?_
  refine zS_iast 18 (zsht (n := 19) sh_15 (by decide)) dX3_init_73 rfl (by decide) (by decide) ?_
  refine zA_iinc_2 (v := nI (2 + 1)) dX3_init_74 (zn_inc _) rfl ?_
  refine zA_goto 54 dX3_init_77 (by decide) ?_
  refine zA_iload_2 dX3_init_54 ?_
  refine zA_bipush (nI 8) dX3_init_55 bc_8 ?_
  refine zA_icmp_geN 80 dX3_init_57 (by decide) (by decide) (by decide) (fun hh => absurd hh (by decide)) (fun _ => ?_)
  refine zA_aload_0 dX3_init_60 ?_
  refine zA_getR (zsht (n := 19) sh_3 (by decide)) fX3_16 dX3_init_61 rfl rfl ?_
  refine zA_iload_1 dX3_init_64 ?_
  refine zA_aald 1 (zsht (n := 19) sh_13 (by decide)) dX3_init_65 rfl (by decide) (by decide) rfl ?_
  refine zA_iload_2 dX3_init_66 ?_
  refine zA_bipush (nI 8) dX3_init_67 bc_8 ?_
  refine zA_imulN dX3_init_69 ?_
  refine zA_iload_2 dX3_init_70 ?_
  refine zA_iaddN dX3_init_71 ?_
  refine zA_iconst (nI 0) dX3_init_72 ic_0 ?_
  refine zS_iast 27 (zsht (n := 19) sh_15 (by decide)) dX3_init_73 rfl (by decide) (by decide) ?_
  refine zA_iinc_2 (v := nI (3 + 1)) dX3_init_74 (zn_inc _) rfl ?_
  refine zA_goto 54 dX3_init_77 (by decide) ?_
  refine zA_iload_2 dX3_init_54 ?_
  refine zA_bipush (nI 8) dX3_init_55 bc_8 ?_
  refine zA_icmp_geN 80 dX3_init_57 (by decide) (by decide) (by decide) (fun hh => absurd hh (by decide)) (fun _ => ?_)
  refine zA_aload_0 dX3_init_60 ?_
  refine zA_getR (zsht (n := 19) sh_3 (by decide)) fX3_16 dX3_init_61 rfl rfl ?_
  refine zA_iload_1 dX3_init_64 ?_
  refine zA_aald 1 (zsht (n := 19) sh_13 (by decide)) dX3_init_65 rfl (by decide) (by decide) rfl ?_
  refine zA_iload_2 dX3_init_66 ?_
  refine zA_bipush (nI 8) dX3_init_67 bc_8 ?_
  refine zA_imulN dX3_init_69 ?_
  refine zA_iload_2 dX3_init_70 ?_
  refine zA_iaddN dX3_init_71 ?_
  refine zA_iconst (nI 0) dX3_init_72 ic_0 ?_
  refine zS_iast 36 (zsht (n := 19) sh_15 (by decide)) dX3_init_73 rfl (by decide) (by decide) ?_
  refine zA_iinc_2 (v := nI (4 + 1)) dX3_init_74 (zn_inc _) rfl ?_
  refine zA_goto 54 dX3_init_77 (by decide) ?_
  refine zA_iload_2 dX3_init_54 ?_
  refine zA_bipush (nI 8) dX3_init_55 bc_8 ?_
  refine zA_icmp_geN 80 dX3_init_57 (by decide) (by decide) (by decide) (fun hh => absurd hh (by decide)) (fun _ => ?_)
  refine zA_aload_0 dX3_init_60 ?_
  refine zA_getR (zsht (n := 19) sh_3 (by decide)) fX3_16 dX3_init_61 rfl rfl ?_
  refine zA_iload_1 dX3_init_64 ?_
  refine zA_aald 1 (zsht (n := 19) sh_13 (by decide)) dX3_init_65 rfl (by decide) (by decide) rfl ?_
  refine zA_iload_2 dX3_init_66 ?_
  refine zA_bipush (nI 8) dX3_init_67 bc_8 ?_
  refine zA_imulN dX3_init_69 ?_
  refine zA_iload_2 dX3_init_70 ?_
  refine zA_iaddN dX3_init_71 ?_
  refine zA_iconst (nI 0) dX3_init_72 ic_0 ?_
  refine zS_iast 45 (zsht (n := 19) sh_15 (by decide)) dX3_init_73 rfl (by decide) (by decide) ?_
  refine zA_iinc_2 (v := nI (5 + 1)) dX3_init_74 (zn_inc _) rfl ?_
  refine zA_goto 54 dX3_init_77 (by decide) ?_
  refine zA_iload_2 dX3_init_54 ?_
  refine zA_bipush (nI 8) dX3_init_55 bc_8 ?_
  refine zA_icmp_geN 80 dX3_init_57 (by decide) (by decide) (by decide) (fun hh => absurd hh (by decide)) (fun _ => ?_)
  refine zA_aload_0 dX3_init_60 ?_
  refine zA_getR (zsht (n := 19) sh_3 (by decide)) fX3_16 dX3_init_61 rfl rfl ?_
  refine zA_iload_1 dX3_init_64 ?_
  refine zA_aald 1 (zsht (n := 19) sh_13 (by decide)) dX3_init_65 rfl (by decide) (by decide) rfl ?_
  refine zA_iload_2 dX3_init_66 ?_
  refine zA_bipush (nI 8) dX3_init_67 bc_8 ?_
  refine zA_imulN dX3_init_69 ?_
  refine zA_iload_2 dX3_init_70 ?_
  refine zA_iaddN dX3_init_71 ?_
  refine zA_iconst (nI 0) dX3_init_72 ic_0 ?_
  refine zS_iast 54 (zsht (n := 19) sh_15 (by decide)) dX3_init_73 rfl (by decide) (by decide) ?_
  refine zA_iinc_2 (v := nI (6 + 1)) dX3_init_74 (zn_inc _) rfl ?_
  refine zA_goto 54 dX3_init_77 (by decide) ?_
  refine zA_iload_2 dX3_init_54 ?_
  refine zA_bipush (nI 8) dX3_init_55 bc_8 ?_
  refine zA_icmp_geN 80 dX3_init_57 (by decide) (by decide) (by decide) (fun hh => absurd hh (by decide)) (fun _ => ?_)
  refine zA_aload_0 dX3_init_60 ?_
  refine zA_getR (zsht (n := 19) sh_3 (by decide)) fX3_16 dX3_init_61 rfl rfl ?_
  refine zA_iload_1 dX3_init_64 ?_
  refine zA_aald 1 (zsht (n := 19) sh_13 (by decide)) dX3_init_65 rfl (by decide) (by decide) rfl ?_
  refine zA_iload_2 dX3_init_66 ?_
  refine zA_bipush (nI 8) dX3_init_67 bc_8 ?_
  refine zA_imulN dX3_init_69 ?_
  refine zA_iload_2 dX3_init_70 ?_
  refine zA_iaddN dX3_init_71 ?_
  refine zA_iconst (nI 0) dX3_init_72 ic_0 ?_
  refine zS_iast 63 (zsht (n := 19) sh_15 (by decide)) dX3_init_73 rfl (by decide) (by decide) ?_
  refine zA_iinc_2 (v := nI (7 + 1)) dX3_init_74 (zn_inc _) rfl ?_
  refine zA_goto 54 dX3_init_77 (by decide) ?_
  refine zA_iload_2 dX3_init_54 ?_
  refine zA_bipush (nI 8) dX3_init_55 bc_8 ?_
  refine zA_icmp_geN 80 dX3_init_57 (by decide) (by decide) (by decide) (fun _ => ?_) (fun hh => absurd hh (by decide))
  refine zA_iinc_1 (v := nI (1 + 1)) dX3_init_80 (zn_inc _) rfl ?_
  refine zA_goto 36 dX3_init_83 (by decide) ?_
  refine zA_iload_1 dX3_init_36 ?_
  refine zA_iconst (nI 4) dX3_init_37 ic_4 ?_
  refine zA_icmp_geN 86 dX3_init_38 (by decide) (by decide) (by decide) (fun hh => absurd hh (by decide)) (fun _ => ?_)
  refine zA_aload_0 dX3_init_41 ?_
  refine zA_getR (zsht (n := 19) sh_3 (by decide)) fX3_16 dX3_init_42 rfl rfl ?_
  refine zA_iload_1 dX3_init_45 ?_
  refine zA_aald 2 (zsht (n := 19) sh_13 (by decide)) dX3_init_46 rfl (by decide) (by decide) rfl ?_
  refine zA_ldc kX3_23 dX3_init_47 ?_
  refine zA_topi (b := nI 1000000) (by decide) ?_
  have hz : ∀ k, 19 ≤ k → ((zs (zs (zs (zs (zs (zs (zs (zs (zfl ((zs (zs (zs (zs (zs (zs (zs (zs (zfl gi 14 64 ((nI 1000000))) 14 0 ((nI 0))) 14 9 ((nI 0))) 14 18 ((nI 0))) 14 27 ((nI 0))) 14 36 ((nI 0))) 14 45 ((nI 0))) 14 54 ((nI 0))) 14 63 ((nI 0)))) 15 64 ((nI 1000000))) 15 0 ((nI 0))) 15 9 ((nI 0))) 15 18 ((nI 0))) 15 27 ((nI 0))) 15 36 ((nI 0))) 15 45 ((nI 0))) 15 54 ((nI 0))) 15 63 ((nI 0)))) k = fun _ => 0 := fun k hk => by
    repeat rw [zs_nq (by omega)]
    exact hz k (by omega)
  refine zA_cSv (ct_fill g ((zs (zs (zs (zs (zs (zs (zs (zs (zfl ((zs (zs (zs (zs (zs (zs (zs (zs (zfl gi 14 64 ((nI 1000000))) 14 0 ((nI 0))) 14 9 ((nI 0))) 14 18 ((nI 0))) 14 27 ((nI 0))) 14 36 ((nI 0))) 14 45 ((nI 0))) 14 54 ((nI 0))) 14 63 ((nI 0)))) 15 64 ((nI 1000000))) 15 0 ((nI 0))) 15 9 ((nI 0))) 15 18 ((nI 0))) 15 27 ((nI 0))) 15 36 ((nI 0))) 15 45 ((nI 0))) 15 54 ((nI 0))) 15 63 ((nI 0)))) gl _ ((nI 1000000)) (zsht (n := 19) (zsht (n := 19) sh_16 (by decide)) (by decide)) (by decide)) calJ7_fill_53178 stJ7_fill_53178 lX3_24 dX3_init_49 (by decide) (by simp [Value.category]) rfl (Nat.le_refl _) (Nat.le_refl _) (fun gi' gl' gr' ⟨e1, e2, e3⟩ => ?_)
  rw [e1, e2, e3]
  clear e1 e2 e3
  have hz : ∀ k, 19 ≤ k → (zfl ((zs (zs (zs (zs (zs (zs (zs (zs (zfl ((zs (zs (zs (zs (zs (zs (zs (zs (zfl gi 14 64 ((nI 1000000))) 14 0 ((nI 0))) 14 9 ((nI 0))) 14 18 ((nI 0))) 14 27 ((nI 0))) 14 36 ((nI 0))) 14 45 ((nI 0))) 14 54 ((nI 0))) 14 63 ((nI 0)))) 15 64 ((nI 1000000))) 15 0 ((nI 0))) 15 9 ((nI 0))) 15 18 ((nI 0))) 15 27 ((nI 0))) 15 36 ((nI 0))) 15 45 ((nI 0))) 15 54 ((nI 0))) 15 63 ((nI 0)))) 16 64 ((nI 1000000))) k = fun _ => 0 := fun k hk => (zm_une (by omega)).trans (hz k (by omega))
  refine zA_iconst (nI 0) dX3_init_52 ic_0 ?_
  refine zA_istore_2 dX3_init_53 rfl ?_
  refine zA_iload_2 dX3_init_54 ?_
  refine zA_bipush (nI 8) dX3_init_55 bc_8 ?_
  refine zA_icmp_geN 80 dX3_init_57 (by decide) (by decide) (by decide) (fun hh => absurd hh (by decide)) (fun _ => ?_)
  refine zA_aload_0 dX3_init_60 ?_
  refine zA_getR (zsht (n := 19) sh_3 (by decide)) fX3_16 dX3_init_61 rfl rfl ?_
  refine zA_iload_1 dX3_init_64 ?_
  refine zA_aald 2 (zsht (n := 19) sh_13 (by decide)) dX3_init_65 rfl (by decide) (by decide) rfl ?_
  refine zA_iload_2 dX3_init_66 ?_
  refine zA_bipush (nI 8) dX3_init_67 bc_8 ?_
  refine zA_imulN dX3_init_69 ?_
  refine zA_iload_2 dX3_init_70 ?_
  refine zA_iaddN dX3_init_71 ?_
  refine zA_iconst (nI 0) dX3_init_72 ic_0 ?_
  refine zS_iast 0 (zsht (n := 19) sh_16 (by decide)) dX3_init_73 rfl (by decide) (by decide) ?_
  refine zA_iinc_2 (v := nI (0 + 1)) dX3_init_74 (zn_inc _) rfl ?_
  refine zA_goto 54 dX3_init_77 (by decide) ?_
  refine zA_iload_2 dX3_init_54 ?_
  refine zA_bipush (nI 8) dX3_init_55 bc_8 ?_
  refine zA_icmp_geN 80 dX3_init_57 (by decide) (by decide) (by decide) (fun hh => absurd hh (by decide)) (fun _ => ?_)
  refine zA_aload_0 dX3_init_60 ?_
  refine zA_getR (zsht (n := 19) sh_3 (by decide)) fX3_16 dX3_init_61 rfl rfl ?_
  refine zA_iload_1 dX3_init_64 ?_
  refine zA_aald 2 (zsht (n := 19) sh_13 (by decide)) dX3_init_65 rfl (by decide) (by decide) rfl ?_
  refine zA_iload_2 dX3_init_66 ?_
  refine zA_bipush (nI 8) dX3_init_67 bc_8 ?_
  refine zA_imulN dX3_init_69 ?_
  refine zA_iload_2 dX3_init_70 ?_
  refine zA_iaddN dX3_init_71 ?_
  refine zA_iconst (nI 0) dX3_init_72 ic_0 ?_
  refine zS_iast 9 (zsht (n := 19) sh_16 (by decide)) dX3_init_73 rfl (by decide) (by decide) ?_
  refine zA_iinc_2 (v := nI (1 + 1)) dX3_init_74 (zn_inc _) rfl ?_
  refine zA_goto 54 dX3_init_77 (by decide) ?_
  refine zA_iload_2 dX3_init_54 ?_
  refine zA_bipush (nI 8) dX3_init_55 bc_8 ?_
  refine zA_icmp_geN 80 dX3_init_57 (by decide) (by decide) (by decide) (fun hh => absurd hh (by decide)) (fun _ => ?_)
  refine zA_aload_0 dX3_init_60 ?_
  refine zA_getR (zsht (n := 19) sh_3 (by decide)) fX3_16 dX3_init_61 rfl rfl ?_
  refine zA_iload_1 dX3_init_64 ?_
  refine zA_aald 2 (zsht (n := 19) sh_13 (by decide)) dX3_init_65 rfl (by decide) (by decide) rfl ?_
  refine zA_iload_2 dX3_init_66 ?_
  refine zA_bipush (nI 8) dX3_init_67 bc_8 ?_
  refine zA_imulN dX3_init_69 ?_
  refine zA_iload_2 dX3_init_70 ?_
  refine zA_iaddN dX3_init_71 ?_
  refine zA_iconst (nI 0) dX3_init_72 ic_0 ?_
  refine zS_iast 18 (zsht (n := 19) sh_16 (by decide)) dX3_init_73 rfl (by decide) (by decide) ?_
  refine zA_iinc_2 (v := nI (2 + 1)) dX3_init_74 (zn_inc _) rfl ?_
  refine zA_goto 54 dX3_init_77 (by decide) ?_
  refine zA_iload_2 dX3_init_54 ?_
  refine zA_bipush (nI 8) dX3_init_55 bc_8 ?_
  refine zA_icmp_geN 80 dX3_init_57 (by decide) (by decide) (by decide) (fun hh => absurd hh (by decide)) (fun _ => ?_)
  refine zA_aload_0 dX3_init_60 ?_
  refine zA_getR (zsht (n := 19) sh_3 (by decide)) fX3_16 dX3_init_61 rfl rfl ?_
  refine zA_iload_1 dX3_init_64 ?_
  refine zA_aald 2 (zsht (n := 19) sh_13 (by decide)) dX3_init_65 rfl (by decide) (by decide) rfl ?_
  refine zA_iload_2 dX3_init_66 ?_
  refine zA_bipush (nI 8) dX3_init_67 bc_8 ?_
  refine zA_imulN dX3_init_69 ?_
  refine zA_iload_2 dX3_init_70 ?_
  refine zA_iaddN dX3_init_71 ?_
  refine zA_iconst (nI 0) dX3_init_72 ic_0 ?_
  refine zS_iast 27 (zsht (n := 19) sh_16 (by decide)) dX3_init_73 rfl (by decide) (by decide) ?_
  refine zA_iinc_2 (v := nI (3 + 1)) dX3_init_74 (zn_inc _) rfl ?_
  refine zA_goto 54 dX3_init_77 (by decide) ?_
  refine zA_iload_2 dX3_init_54 ?_
  refine zA_bipush (nI 8) dX3_init_55 bc_8 ?_
  refine zA_icmp_geN 80 dX3_init_57 (by decide) (by decide) (by decide) (fun hh => absurd hh (by decide)) (fun _ => ?_)
  refine zA_aload_0 dX3_init_60 ?_
  refine zA_getR (zsht (n := 19) sh_3 (by decide)) fX3_16 dX3_init_61 rfl rfl ?_
  refine zA_iload_1 dX3_init_64 ?_
  refine zA_aald 2 (zsht (n := 19) sh_13 (by decide)) dX3_init_65 rfl (by decide) (by decide) rfl ?_
  refine zA_iload_2 dX3_init_66 ?_
  refine zA_bipush (nI 8) dX3_init_67 bc_8 ?_
  refine zA_imulN dX3_init_69 ?_
  refine zA_iload_2 dX3_init_70 ?_
  refine zA_iaddN dX3_init_71 ?_
  refine zA_iconst (nI 0) dX3_init_72 ic_0 ?_
  refine zS_iast 36 (zsht (n := 19) sh_16 (by decide)) dX3_init_73 rfl (by decide) (by decide) ?_
  refine zA_iinc_2 (v := nI (4 + 1)) dX3_init_74 (zn_inc _) rfl ?_
  refine zA_goto 54 dX3_init_77 (by decide) ?_
  refine zA_iload_2 dX3_init_54 ?_
  refine zA_bipush (nI 8) dX3_init_55 bc_8 ?_
  refine zA_icmp_geN 80 dX3_init_57 (by decide) (by decide) (by decide) (fun hh => absurd hh (by decide)) (fun _ => ?_)
  refine zA_aload_0 dX3_init_60 ?_
  refine zA_getR (zsht (n := 19) sh_3 (by decide)) fX3_16 dX3_init_61 rfl rfl ?_
  refine zA_iload_1 dX3_init_64 ?_
  refine zA_aald 2 (zsht (n := 19) sh_13 (by decide)) dX3_init_65 rfl (by decide) (by decide) rfl ?_
  refine zA_iload_2 dX3_init_66 ?_
  refine zA_bipush (nI 8) dX3_init_67 bc_8 ?_
  refine zA_imulN dX3_init_69 ?_
  refine zA_iload_2 dX3_init_70 ?_
  refine zA_iaddN dX3_init_71 ?_
  refine zA_iconst (nI 0) dX3_init_72 ic_0 ?_
  refine zS_iast 45 (zsht (n := 19) sh_16 (by decide)) dX3_init_73 rfl (by decide) (by decide) ?_
  refine zA_iinc_2 (v := nI (5 + 1)) dX3_init_74 (zn_inc _) rfl ?_
  refine zA_goto 54 dX3_init_77 (by decide) ?_
  refine zA_iload_2 dX3_init_54 ?_
  refine zA_bipush (nI 8) dX3_init_55 bc_8 ?_
  refine zA_icmp_geN 80 dX3_init_57 (by decide) (by decide) (by decide) (fun hh => absurd hh (by decide)) (fun _ => ?_)
  refine zA_aload_0 dX3_init_60 ?_
  refine zA_getR (zsht (n := 19) sh_3 (by decide)) fX3_16 dX3_init_61 rfl rfl ?_
  refine zA_iload_1 dX3_init_64 ?_
  refine zA_aald 2 (zsht (n := 19) sh_13 (by decide)) dX3_init_65 rfl (by decide) (by decide) rfl ?_
  refine zA_iload_2 dX3_init_66 ?_
  refine zA_bipush (nI 8) dX3_init_67 bc_8 ?_
  refine zA_imulN dX3_init_69 ?_
  refine zA_iload_2 dX3_init_70 ?_
  refine zA_iaddN dX3_init_71 ?_
  refine zA_iconst (nI 0) dX3_init_72 ic_0 ?_
  refine zS_iast 54 (zsht (n := 19) sh_16 (by decide)) dX3_init_73 rfl (by decide) (by decide) ?_
  refine zA_iinc_2 (v := nI (6 + 1)) dX3_init_74 (zn_inc _) rfl ?_
  refine zA_goto 54 dX3_init_77 (by decide) ?_
  refine zA_iload_2 dX3_init_54 ?_
  refine zA_bipush (nI 8) dX3_init_55 bc_8 ?_
  refine zA_icmp_geN 80 dX3_init_57 (by decide) (by decide) (by decide) (fun hh => absurd hh (by decide)) (fun _ => ?_)
  refine zA_aload_0 dX3_init_60 ?_
  refine zA_getR (zsht (n := 19) sh_3 (by decide)) fX3_16 dX3_init_61 rfl rfl ?_
  refine zA_iload_1 dX3_init_64 ?_
  refine zA_aald 2 (zsht (n := 19) sh_13 (by decide)) dX3_init_65 rfl (by decide) (by decide) rfl ?_
  refine zA_iload_2 dX3_init_66 ?_
  refine zA_bipush (nI 8) dX3_init_67 bc_8 ?_
  refine zA_imulN dX3_init_69 ?_
  refine zA_iload_2 dX3_init_70 ?_
  refine zA_iaddN dX3_init_71 ?_
  refine zA_iconst (nI 0) dX3_init_72 ic_0 ?_
  refine zS_iast 63 (zsht (n := 19) sh_16 (by decide)) dX3_init_73 rfl (by decide) (by decide) ?_
  refine zA_iinc_2 (v := nI (7 + 1)) dX3_init_74 (zn_inc _) rfl ?_
  refine zA_goto 54 dX3_init_77 (by decide) ?_
  refine zA_iload_2 dX3_init_54 ?_
  refine zA_bipush (nI 8) dX3_init_55 bc_8 ?_
  refine zA_icmp_geN 80 dX3_init_57 (by decide) (by decide) (by decide) (fun _ => ?_) (fun hh => absurd hh (by decide))
  refine zA_iinc_1 (v := nI (2 + 1)) dX3_init_80 (zn_inc _) rfl ?_
  refine zA_goto 36 dX3_init_83 (by decide) ?_
  refine zA_iload_1 dX3_init_36 ?_
  refine zA_iconst (nI 4) dX3_init_37 ic_4 ?_
  refine zA_icmp_geN 86 dX3_init_38 (by decide) (by decide) (by decide) (fun hh => absurd hh (by decide)) (fun _ => ?_)
  refine zA_aload_0 dX3_init_41 ?_
  refine zA_getR (zsht (n := 19) sh_3 (by decide)) fX3_16 dX3_init_42 rfl rfl ?_
  refine zA_iload_1 dX3_init_45 ?_
  refine zA_aald 3 (zsht (n := 19) sh_13 (by decide)) dX3_init_46 rfl (by decide) (by decide) rfl ?_
  refine zA_ldc kX3_23 dX3_init_47 ?_
  refine zA_topi (b := nI 1000000) (by decide) ?_
  have hz : ∀ k, 19 ≤ k → ((zs (zs (zs (zs (zs (zs (zs (zs (zfl ((zs (zs (zs (zs (zs (zs (zs (zs (zfl ((zs (zs (zs (zs (zs (zs (zs (zs (zfl gi 14 64 ((nI 1000000))) 14 0 ((nI 0))) 14 9 ((nI 0))) 14 18 ((nI 0))) 14 27 ((nI 0))) 14 36 ((nI 0))) 14 45 ((nI 0))) 14 54 ((nI 0))) 14 63 ((nI 0)))) 15 64 ((nI 1000000))) 15 0 ((nI 0))) 15 9 ((nI 0))) 15 18 ((nI 0))) 15 27 ((nI 0))) 15 36 ((nI 0))) 15 45 ((nI 0))) 15 54 ((nI 0))) 15 63 ((nI 0)))) 16 64 ((nI 1000000))) 16 0 ((nI 0))) 16 9 ((nI 0))) 16 18 ((nI 0))) 16 27 ((nI 0))) 16 36 ((nI 0))) 16 45 ((nI 0))) 16 54 ((nI 0))) 16 63 ((nI 0)))) k = fun _ => 0 := fun k hk => by
    repeat rw [zs_nq (by omega)]
    exact hz k (by omega)
  refine zA_cSv (ct_fill g ((zs (zs (zs (zs (zs (zs (zs (zs (zfl ((zs (zs (zs (zs (zs (zs (zs (zs (zfl ((zs (zs (zs (zs (zs (zs (zs (zs (zfl gi 14 64 ((nI 1000000))) 14 0 ((nI 0))) 14 9 ((nI 0))) 14 18 ((nI 0))) 14 27 ((nI 0))) 14 36 ((nI 0))) 14 45 ((nI 0))) 14 54 ((nI 0))) 14 63 ((nI 0)))) 15 64 ((nI 1000000))) 15 0 ((nI 0))) 15 9 ((nI 0))) 15 18 ((nI 0))) 15 27 ((nI 0))) 15 36 ((nI 0))) 15 45 ((nI 0))) 15 54 ((nI 0))) 15 63 ((nI 0)))) 16 64 ((nI 1000000))) 16 0 ((nI 0))) 16 9 ((nI 0))) 16 18 ((nI 0))) 16 27 ((nI 0))) 16 36 ((nI 0))) 16 45 ((nI 0))) 16 54 ((nI 0))) 16 63 ((nI 0)))) gl _ ((nI 1000000)) (zsht (n := 19) (zsht (n := 19) sh_17 (by decide)) (by decide)) (by decide)) calJ7_fill_53178 stJ7_fill_53178 lX3_24 dX3_init_49 (by decide) (by simp [Value.category]) rfl (Nat.le_refl _) (Nat.le_refl _) (fun gi' gl' gr' ⟨e1, e2, e3⟩ => ?_)
  rw [e1, e2, e3]
  clear e1 e2 e3
  have hz : ∀ k, 19 ≤ k → (zfl ((zs (zs (zs (zs (zs (zs (zs (zs (zfl ((zs (zs (zs (zs (zs (zs (zs (zs (zfl ((zs (zs (zs (zs (zs (zs (zs (zs (zfl gi 14 64 ((nI 1000000))) 14 0 ((nI 0))) 14 9 ((nI 0))) 14 18 ((nI 0))) 14 27 ((nI 0))) 14 36 ((nI 0))) 14 45 ((nI 0))) 14 54 ((nI 0))) 14 63 ((nI 0)))) 15 64 ((nI 1000000))) 15 0 ((nI 0))) 15 9 ((nI 0))) 15 18 ((nI 0))) 15 27 ((nI 0))) 15 36 ((nI 0))) 15 45 ((nI 0))) 15 54 ((nI 0))) 15 63 ((nI 0)))) 16 64 ((nI 1000000))) 16 0 ((nI 0))) 16 9 ((nI 0))) 16 18 ((nI 0))) 16 27 ((nI 0))) 16 36 ((nI 0))) 16 45 ((nI 0))) 16 54 ((nI 0))) 16 63 ((nI 0)))) 17 64 ((nI 1000000))) k = fun _ => 0 := fun k hk => (zm_une (by omega)).trans (hz k (by omega))
  refine zA_iconst (nI 0) dX3_init_52 ic_0 ?_
  refine zA_istore_2 dX3_init_53 rfl ?_
  refine zA_iload_2 dX3_init_54 ?_
  refine zA_bipush (nI 8) dX3_init_55 bc_8 ?_
  refine zA_icmp_geN 80 dX3_init_57 (by decide) (by decide) (by decide) (fun hh => absurd hh (by decide)) (fun _ => ?_)
  refine zA_aload_0 dX3_init_60 ?_
  refine zA_getR (zsht (n := 19) sh_3 (by decide)) fX3_16 dX3_init_61 rfl rfl ?_
  refine zA_iload_1 dX3_init_64 ?_
  refine zA_aald 3 (zsht (n := 19) sh_13 (by decide)) dX3_init_65 rfl (by decide) (by decide) rfl ?_
  refine zA_iload_2 dX3_init_66 ?_
  refine zA_bipush (nI 8) dX3_init_67 bc_8 ?_
  refine zA_imulN dX3_init_69 ?_
  refine zA_iload_2 dX3_init_70 ?_
  refine zA_iaddN dX3_init_71 ?_
  refine zA_iconst (nI 0) dX3_init_72 ic_0 ?_
  refine zS_iast 0 (zsht (n := 19) sh_17 (by decide)) dX3_init_73 rfl (by decide) (by decide) ?_
  refine zA_iinc_2 (v := nI (0 + 1)) dX3_init_74 (zn_inc _) rfl ?_
  refine zA_goto 54 dX3_init_77 (by decide) ?_
  refine zA_iload_2 dX3_init_54 ?_
  refine zA_bipush (nI 8) dX3_init_55 bc_8 ?_
  refine zA_icmp_geN 80 dX3_init_57 (by decide) (by decide) (by decide) (fun hh => absurd hh (by decide)) (fun _ => ?_)
  refine zA_aload_0 dX3_init_60 ?_
  refine zA_getR (zsht (n := 19) sh_3 (by decide)) fX3_16 dX3_init_61 rfl rfl ?_
  refine zA_iload_1 dX3_init_64 ?_
  refine zA_aald 3 (zsht (n := 19) sh_13 (by decide)) dX3_init_65 rfl (by decide) (by decide) rfl ?_
  refine zA_iload_2 dX3_init_66 ?_
  refine zA_bipush (nI 8) dX3_init_67 bc_8 ?_
  refine zA_imulN dX3_init_69 ?_
  refine zA_iload_2 dX3_init_70 ?_
  refine zA_iaddN dX3_init_71 ?_
  refine zA_iconst (nI 0) dX3_init_72 ic_0 ?_
  refine zS_iast 9 (zsht (n := 19) sh_17 (by decide)) dX3_init_73 rfl (by decide) (by decide) ?_
  refine zA_iinc_2 (v := nI (1 + 1)) dX3_init_74 (zn_inc _) rfl ?_
  refine zA_goto 54 dX3_init_77 (by decide) ?_
  refine zA_iload_2 dX3_init_54 ?_
  refine zA_bipush (nI 8) dX3_init_55 bc_8 ?_
  refine zA_icmp_geN 80 dX3_init_57 (by decide) (by decide) (by decide) (fun hh => absurd hh (by decide)) (fun _ => ?_)
  refine zA_aload_0 dX3_init_60 ?_
  refine zA_getR (zsht (n := 19) sh_3 (by decide)) fX3_16 dX3_init_61 rfl rfl ?_
  refine zA_iload_1 dX3_init_64 ?_
  refine zA_aald 3 (zsht (n := 19) sh_13 (by decide)) dX3_init_65 rfl (by decide) (by decide) rfl ?_
  refine zA_iload_2 dX3_init_66 ?_
  refine zA_bipush (nI 8) dX3_init_67 bc_8 ?_
  refine zA_imulN dX3_init_69 ?_
  refine zA_iload_2 dX3_init_70 ?_
  refine zA_iaddN dX3_init_71 ?_
  refine zA_iconst (nI 0) dX3_init_72 ic_0 ?_
  refine zS_iast 18 (zsht (n := 19) sh_17 (by decide)) dX3_init_73 rfl (by decide) (by decide) ?_
  refine zA_iinc_2 (v := nI (2 + 1)) dX3_init_74 (zn_inc _) rfl ?_
  refine zA_goto 54 dX3_init_77 (by decide) ?_
  refine zA_iload_2 dX3_init_54 ?_
  refine zA_bipush (nI 8) dX3_init_55 bc_8 ?_
  refine zA_icmp_geN 80 dX3_init_57 (by decide) (by decide) (by decide) (fun hh => absurd hh (by decide)) (fun _ => ?_)
  refine zA_aload_0 dX3_init_60 ?_
  refine zA_getR (zsht (n := 19) sh_3 (by decide)) fX3_16 dX3_init_61 rfl rfl ?_
  refine zA_iload_1 dX3_init_64 ?_
  refine zA_aald 3 (zsht (n := 19) sh_13 (by decide)) dX3_init_65 rfl (by decide) (by decide) rfl ?_
  refine zA_iload_2 dX3_init_66 ?_
  refine zA_bipush (nI 8) dX3_init_67 bc_8 ?_
  refine zA_imulN dX3_init_69 ?_
  refine zA_iload_2 dX3_init_70 ?_
  refine zA_iaddN dX3_init_71 ?_
  refine zA_iconst (nI 0) dX3_init_72 ic_0 ?_
  refine zS_iast 27 (zsht (n := 19) sh_17 (by decide)) dX3_init_73 rfl (by decide) (by decide) ?_
  refine zA_iinc_2 (v := nI (3 + 1)) dX3_init_74 (zn_inc _) rfl ?_
  refine zA_goto 54 dX3_init_77 (by decide) ?_
  refine zA_iload_2 dX3_init_54 ?_
  refine zA_bipush (nI 8) dX3_init_55 bc_8 ?_
  refine zA_icmp_geN 80 dX3_init_57 (by decide) (by decide) (by decide) (fun hh => absurd hh (by decide)) (fun _ => ?_)
  refine zA_aload_0 dX3_init_60 ?_
  refine zA_getR (zsht (n := 19) sh_3 (by decide)) fX3_16 dX3_init_61 rfl rfl ?_
  refine zA_iload_1 dX3_init_64 ?_
  refine zA_aald 3 (zsht (n := 19) sh_13 (by decide)) dX3_init_65 rfl (by decide) (by decide) rfl ?_
  refine zA_iload_2 dX3_init_66 ?_
  refine zA_bipush (nI 8) dX3_init_67 bc_8 ?_
  refine zA_imulN dX3_init_69 ?_
  refine zA_iload_2 dX3_init_70 ?_
  refine zA_iaddN dX3_init_71 ?_
  refine zA_iconst (nI 0) dX3_init_72 ic_0 ?_
  refine zS_iast 36 (zsht (n := 19) sh_17 (by decide)) dX3_init_73 rfl (by decide) (by decide) ?_
  refine zA_iinc_2 (v := nI (4 + 1)) dX3_init_74 (zn_inc _) rfl ?_
  refine zA_goto 54 dX3_init_77 (by decide) ?_
  refine zA_iload_2 dX3_init_54 ?_
  refine zA_bipush (nI 8) dX3_init_55 bc_8 ?_
  refine zA_icmp_geN 80 dX3_init_57 (by decide) (by decide) (by decide) (fun hh => absurd hh (by decide)) (fun _ => ?_)
  refine zA_aload_0 dX3_init_60 ?_
  refine zA_getR (zsht (n := 19) sh_3 (by decide)) fX3_16 dX3_init_61 rfl rfl ?_
  refine zA_iload_1 dX3_init_64 ?_
  refine zA_aald 3 (zsht (n := 19) sh_13 (by decide)) dX3_init_65 rfl (by decide) (by decide) rfl ?_
  refine zA_iload_2 dX3_init_66 ?_
  refine zA_bipush (nI 8) dX3_init_67 bc_8 ?_
  refine zA_imulN dX3_init_69 ?_
  refine zA_iload_2 dX3_init_70 ?_
  refine zA_iaddN dX3_init_71 ?_
  refine zA_iconst (nI 0) dX3_init_72 ic_0 ?_
  refine zS_iast 45 (zsht (n := 19) sh_17 (by decide)) dX3_init_73 rfl (by decide) (by decide) ?_
  refine zA_iinc_2 (v := nI (5 + 1)) dX3_init_74 (zn_inc _) rfl ?_
  refine zA_goto 54 dX3_init_77 (by decide) ?_
  refine zA_iload_2 dX3_init_54 ?_
  refine zA_bipush (nI 8) dX3_init_55 bc_8 ?_
  refine zA_icmp_geN 80 dX3_init_57 (by decide) (by decide) (by decide) (fun hh => absurd hh (by decide)) (fun _ => ?_)
  refine zA_aload_0 dX3_init_60 ?_
  refine zA_getR (zsht (n := 19) sh_3 (by decide)) fX3_16 dX3_init_61 rfl rfl ?_
  refine zA_iload_1 dX3_init_64 ?_
  refine zA_aald 3 (zsht (n := 19) sh_13 (by decide)) dX3_init_65 rfl (by decide) (by decide) rfl ?_
  refine zA_iload_2 dX3_init_66 ?_
  refine zA_bipush (nI 8) dX3_init_67 bc_8 ?_
  refine zA_imulN dX3_init_69 ?_
  refine zA_iload_2 dX3_init_70 ?_
  refine zA_iaddN dX3_init_71 ?_
  refine zA_iconst (nI 0) dX3_init_72 ic_0 ?_
  refine zS_iast 54 (zsht (n := 19) sh_17 (by decide)) dX3_init_73 rfl (by decide) (by decide) ?_
  refine zA_iinc_2 (v := nI (6 + 1)) dX3_init_74 (zn_inc _) rfl ?_
  refine zA_goto 54 dX3_init_77 (by decide) ?_
  refine zA_iload_2 dX3_init_54 ?_
  refine zA_bipush (nI 8) dX3_init_55 bc_8 ?_
  refine zA_icmp_geN 80 dX3_init_57 (by decide) (by decide) (by decide) (fun hh => absurd hh (by decide)) (fun _ => ?_)
  refine zA_aload_0 dX3_init_60 ?_
  refine zA_getR (zsht (n := 19) sh_3 (by decide)) fX3_16 dX3_init_61 rfl rfl ?_
  refine zA_iload_1 dX3_init_64 ?_
  refine zA_aald 3 (zsht (n := 19) sh_13 (by decide)) dX3_init_65 rfl (by decide) (by decide) rfl ?_
  refine zA_iload_2 dX3_init_66 ?_
  refine zA_bipush (nI 8) dX3_init_67 bc_8 ?_
  refine zA_imulN dX3_init_69 ?_
  refine zA_iload_2 dX3_init_70 ?_
  refine zA_iaddN dX3_init_71 ?_
  refine zA_iconst (nI 0) dX3_init_72 ic_0 ?_
  refine zS_iast 63 (zsht (n := 19) sh_17 (by decide)) dX3_init_73 rfl (by decide) (by decide) ?_
  refine zA_iinc_2 (v := nI (7 + 1)) dX3_init_74 (zn_inc _) rfl ?_
  refine zA_goto 54 dX3_init_77 (by decide) ?_
  refine zA_iload_2 dX3_init_54 ?_
  refine zA_bipush (nI 8) dX3_init_55 bc_8 ?_
  refine zA_icmp_geN 80 dX3_init_57 (by decide) (by decide) (by decide) (fun _ => ?_) (fun hh => absurd hh (by decide))
  refine zA_iinc_1 (v := nI (3 + 1)) dX3_init_80 (zn_inc _) rfl ?_
  refine zA_goto 36 dX3_init_83 (by decide) ?_
  refine zA_iload_1 dX3_init_36 ?_
  refine zA_iconst (nI 4) dX3_init_37 ic_4 ?_
  refine zA_icmp_geN 86 dX3_init_38 (by decide) (by decide) (by decide) (fun _ => ?_) (fun hh => absurd hh (by decide))
  have hz : ∀ k, 19 ≤ k → ((zs (zs (zs (zs (zs (zs (zs (zs (zfl ((zs (zs (zs (zs (zs (zs (zs (zs (zfl ((zs (zs (zs (zs (zs (zs (zs (zs (zfl ((zs (zs (zs (zs (zs (zs (zs (zs (zfl gi 14 64 ((nI 1000000))) 14 0 ((nI 0))) 14 9 ((nI 0))) 14 18 ((nI 0))) 14 27 ((nI 0))) 14 36 ((nI 0))) 14 45 ((nI 0))) 14 54 ((nI 0))) 14 63 ((nI 0)))) 15 64 ((nI 1000000))) 15 0 ((nI 0))) 15 9 ((nI 0))) 15 18 ((nI 0))) 15 27 ((nI 0))) 15 36 ((nI 0))) 15 45 ((nI 0))) 15 54 ((nI 0))) 15 63 ((nI 0)))) 16 64 ((nI 1000000))) 16 0 ((nI 0))) 16 9 ((nI 0))) 16 18 ((nI 0))) 16 27 ((nI 0))) 16 36 ((nI 0))) 16 45 ((nI 0))) 16 54 ((nI 0))) 16 63 ((nI 0)))) 17 64 ((nI 1000000))) 17 0 ((nI 0))) 17 9 ((nI 0))) 17 18 ((nI 0))) 17 27 ((nI 0))) 17 36 ((nI 0))) 17 45 ((nI 0))) 17 54 ((nI 0))) 17 63 ((nI 0)))) k = fun _ => 0 := fun k hk => by
    repeat rw [zs_nq (by omega)]
    exact hz k (by omega)
  exact zN_ret rfl dX3_init_86 (by decide) (by decide) ⟨rfl, rfl, rfl, (zOkR_mono hO (by decide)), (fun k hk => hz k (Nat.le_trans (by decide) hk))⟩
