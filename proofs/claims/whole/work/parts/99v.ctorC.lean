def fI_X10_init_0 (gi : zm_I) : zm_I := (zfl ((fI_X8_init_75 ((fI_X0_init_57 ((fI_X5_init_51 ((fI_X6_init_42 ((fI_X4_init_36 ((fI_X7_init_27 ((fI_X1_init_19 ((fI_X3_init_3 gi)))))))))))))))) 2 4 ((nI 1)))
def rI_X10_init_0 (gr : zm_R) : zm_R := (zr (rI_X8_init_75 (zr (rI_X0_init_57 (zr (rI_X5_init_51 (zr (rI_X6_init_42 (zr (rI_X4_init_36 (zr (rI_X7_init_27 (zr (rI_X1_init_19 (zr (rI_X3_init_3 (zr (zr gr 0 0 1) 0 1 2)) 0 2 3)) 0 3 19)) 0 4 27)) 0 5 36)) 0 6 42)) 0 7 51)) 0 8 57)) 0 9 75)
set_option maxRecDepth 100000 in
set_option maxHeartbeats 4000000 in
theorem ci_X10_init_0 (g : zm_G) (gi : zm_I) (gl : zm_J) (gr : zm_R) (hz : ∀ k, 1 ≤ k → gi k = fun _ => 0) (hl : ∀ k, 1 ≤ k → gl k = fun _ => 0) (hO : zOkR 1 gr) : zC_n g yX10_init mX10_init 3 86 2235 [.ref 0] 1 gi gl gr 87 (fun gi' gl' gr' => gi' = fI_X10_init_0 gi ∧ gl' = gl ∧ gr' = rI_X10_init_0 gr ∧ zOkR 87 gr' ∧ ∀ k, 87 ≤ k → gi' k = fun _ => 0) := by
  refine zC_n_of [some (.ref 0)] (by decide) rfl rfl (Nat.le_of_ble_eq_true rfl) (fun x hname hGX => ?_)
  refine zA_aload_0 dX10_init_0 ?_
  refine zA_objI (zm_inT 146 (by decide +kernel) (by decide +kernel)) oi_in oi_co dX10_init_1 (by decide) (by simp [Value.category]) ?_
  refine zA_aload_0 dX10_init_4 ?_
  refine zA_sipush (nI 500) dX10_init_5 sc_500 ?_
  refine zN_newa (n := 1) (i := 1) sh_1 (by decide) rfl rfl rfl ar_byte dX10_init_8 (by decide) (by decide) (by decide) (by decide) (zOkR_mono hO (by decide)) (by decide) (fun k hk => hz k (Nat.le_trans (by decide) hk)) (fun k hk => hl k (Nat.le_trans (by decide) hk)) (fun _ _ => rfl) ?_
  refine zN_putR (n := 2) (show x.meth.name = "<init>" from hname) (by decide) sh_0 (by decide) (by decide) fX10_9 dX10_init_10 rfl rfl (fun C T N h => by cases h; exact zm_inT 528 (by decide +kernel) (by decide +kernel)) (zOkR_mono hO (by decide)) (fun hO => ?_)
  refine zA_aload_0 dX10_init_13 ?_
  refine zA_iconst (nI 4) dX10_init_14 ic_4 ?_
  refine zN_newa (n := 2) (i := 0) sh_2 (by decide) rfl rfl rfl ar_int dX10_init_15 (by decide) (by decide) (by decide) (by decide) (zOkR_mono hO (by decide)) (by decide) (fun k hk => hz k (Nat.le_trans (by decide) hk)) (fun k hk => hl k (Nat.le_trans (by decide) hk)) (fun _ _ => rfl) ?_
  refine zN_putR (n := 3) (show x.meth.name = "<init>" from hname) (by decide) sh_0 (by decide) (by decide) fX10_13 dX10_init_17 rfl rfl (fun C T N h => by cases h; exact zm_inT 529 (by decide +kernel) (by decide +kernel)) (zOkR_mono hO (by decide)) (fun hO => ?_)
  refine zA_aload_0 dX10_init_20 ?_
  refine zN_new (n := 3) sh_3 (by decide) rfl (by decide) uTX3 (zm_inT 149 (by decide +kernel) (by decide +kernel)) (zm_inT 150 (by decide +kernel) (by decide +kernel)) (zm_inT 118 (by decide +kernel) (by decide +kernel)) dX10_init_21 (by decide) (by decide) (zOkR_mono hO (by decide)) (by decide) (fun k hk => hz k (Nat.le_trans (by decide) hk)) (fun k hk => hl k (Nat.le_trans (by decide) hk)) ?_
  refine zA_dup dX10_init_24 rfl ?_
  refine zN_cI hGX (ci_X3_init_3 g gi gl (zr (zr gr 0 0 1) 0 1 2) (fun k hk => hz k (Nat.le_trans (by decide) hk)) (fun k hk => hl k (Nat.le_trans (by decide) hk)) (zOkR_mono hO (by decide))) (by decide) calX3_init lX10_19 rfl (zm_inT 152 (by decide +kernel) (by decide +kernel)) dX10_init_25 (by decide) (by decide) (by decide) (by simp [Value.category]) rfl (by decide) (fun gi' gl' gr' ⟨e1, e2, e3, hO, hz⟩ => ?_)
  rw [e1] at hz
  rw [e3] at hO
  rw [e1, e2, e3]
  clear e1 e2 e3
  refine zN_putR (n := 19) (show x.meth.name = "<init>" from hname) (by decide) sh_0 (by decide) (by decide) fX10_20 dX10_init_28 rfl rfl (fun C T N h => by cases h; exact zm_inT 530 (by decide +kernel) (by decide +kernel)) (zOkR_mono hO (by decide)) (fun hO => ?_)
  refine zA_aload_0 dX10_init_31 ?_
  refine zN_new (n := 19) sh_19 (by decide) rfl (by decide) uTX1 (zm_inT 188 (by decide +kernel) (by decide +kernel)) (zm_inT 189 (by decide +kernel) (by decide +kernel)) (zm_inT 120 (by decide +kernel) (by decide +kernel)) dX10_init_32 (by decide) (by decide) (zOkR_mono hO (by decide)) (by decide) (fun k hk => hz k (Nat.le_trans (by decide) hk)) (fun k hk => hl k (Nat.le_trans (by decide) hk)) ?_
  refine zA_dup dX10_init_35 rfl ?_
  refine zN_cI hGX (ci_X1_init_19 g ((fI_X3_init_3 gi)) gl (zr (rI_X3_init_3 (zr (zr gr 0 0 1) 0 1 2)) 0 2 3) (fun k hk => hz k (Nat.le_trans (by decide) hk)) (fun k hk => hl k (Nat.le_trans (by decide) hk)) (zOkR_mono hO (by decide))) (by decide) calX1_init lX10_26 rfl (zm_inT 191 (by decide +kernel) (by decide +kernel)) dX10_init_36 (by decide) (by decide) (by decide) (by simp [Value.category]) rfl (by decide) (fun gi' gl' gr' ⟨e1, e2, e3, hO, hz⟩ => ?_)
  rw [e1] at hz
  rw [e3] at hO
  rw [e1, e2, e3]
  clear e1 e2 e3
  refine zN_putR (n := 27) (show x.meth.name = "<init>" from hname) (by decide) sh_0 (by decide) (by decide) fX10_27 dX10_init_39 rfl rfl (fun C T N h => by cases h; exact zm_inT 531 (by decide +kernel) (by decide +kernel)) (zOkR_mono hO (by decide)) (fun hO => ?_)
  refine zA_aload_0 dX10_init_42 ?_
  refine zN_new (n := 27) sh_27 (by decide) rfl (by decide) uTX7 (zm_inT 219 (by decide +kernel) (by decide +kernel)) (zm_inT 220 (by decide +kernel) (by decide +kernel)) (zm_inT 121 (by decide +kernel) (by decide +kernel)) dX10_init_43 (by decide) (by decide) (zOkR_mono hO (by decide)) (by decide) (fun k hk => hz k (Nat.le_trans (by decide) hk)) (fun k hk => hl k (Nat.le_trans (by decide) hk)) ?_
  refine zA_dup dX10_init_46 rfl ?_
  refine zN_cI hGX (ci_X7_init_27 g ((fI_X1_init_19 ((fI_X3_init_3 gi)))) gl (zr (rI_X1_init_19 (zr (rI_X3_init_3 (zr (zr gr 0 0 1) 0 1 2)) 0 2 3)) 0 3 19) (fun k hk => hz k (Nat.le_trans (by decide) hk)) (fun k hk => hl k (Nat.le_trans (by decide) hk)) (zOkR_mono hO (by decide))) (by decide) calX7_init lX10_33 rfl (zm_inT 222 (by decide +kernel) (by decide +kernel)) dX10_init_47 (by decide) (by decide) (by decide) (by simp [Value.category]) rfl (by decide) (fun gi' gl' gr' ⟨e1, e2, e3, hO, hz⟩ => ?_)
  rw [e1] at hz
  rw [e3] at hO
  rw [e1, e2, e3]
  clear e1 e2 e3
  refine zN_putR (n := 36) (show x.meth.name = "<init>" from hname) (by decide) sh_0 (by decide) (by decide) fX10_34 dX10_init_50 rfl rfl (fun C T N h => by cases h; exact zm_inT 532 (by decide +kernel) (by decide +kernel)) (zOkR_mono hO (by decide)) (fun hO => ?_)
  refine zA_aload_0 dX10_init_53 ?_
  refine zN_new (n := 36) sh_36 (by decide) rfl (by decide) uTX4 (zm_inT 270 (by decide +kernel) (by decide +kernel)) (zm_inT 271 (by decide +kernel) (by decide +kernel)) (zm_inT 122 (by decide +kernel) (by decide +kernel)) dX10_init_54 (by decide) (by decide) (zOkR_mono hO (by decide)) (by decide) (fun k hk => hz k (Nat.le_trans (by decide) hk)) (fun k hk => hl k (Nat.le_trans (by decide) hk)) ?_
  refine zA_dup dX10_init_57 rfl ?_
  refine zN_cI hGX (ci_X4_init_36 g ((fI_X7_init_27 ((fI_X1_init_19 ((fI_X3_init_3 gi)))))) gl (zr (rI_X7_init_27 (zr (rI_X1_init_19 (zr (rI_X3_init_3 (zr (zr gr 0 0 1) 0 1 2)) 0 2 3)) 0 3 19)) 0 4 27) (fun k hk => hz k (Nat.le_trans (by decide) hk)) (fun k hk => hl k (Nat.le_trans (by decide) hk)) (zOkR_mono hO (by decide))) (by decide) calX4_init lX10_40 rfl (zm_inT 273 (by decide +kernel) (by decide +kernel)) dX10_init_58 (by decide) (by decide) (by decide) (by simp [Value.category]) rfl (by decide) (fun gi' gl' gr' ⟨e1, e2, e3, hO, hz⟩ => ?_)
  rw [e1] at hz
  rw [e3] at hO
  rw [e1, e2, e3]
  clear e1 e2 e3
  refine zN_putR (n := 42) (show x.meth.name = "<init>" from hname) (by decide) sh_0 (by decide) (by decide) fX10_41 dX10_init_61 rfl rfl (fun C T N h => by cases h; exact zm_inT 533 (by decide +kernel) (by decide +kernel)) (zOkR_mono hO (by decide)) (fun hO => ?_)
  refine zA_aload_0 dX10_init_64 ?_
  refine zN_new (n := 42) sh_42 (by decide) rfl (by decide) uTX6 (zm_inT 319 (by decide +kernel) (by decide +kernel)) (zm_inT 320 (by decide +kernel) (by decide +kernel)) (zm_inT 123 (by decide +kernel) (by decide +kernel)) dX10_init_65 (by decide) (by decide) (zOkR_mono hO (by decide)) (by decide) (fun k hk => hz k (Nat.le_trans (by decide) hk)) (fun k hk => hl k (Nat.le_trans (by decide) hk)) ?_
  refine zA_dup dX10_init_68 rfl ?_
  refine zA_aload_0 dX10_init_69 ?_
  refine zA_getR (zsht (n := 43) sh_0 (by decide)) fX10_9 dX10_init_70 rfl rfl ?_
  refine zN_cI hGX (ci_X6_init_42 g ((fI_X4_init_36 ((fI_X7_init_27 ((fI_X1_init_19 ((fI_X3_init_3 gi)))))))) gl (zr (rI_X4_init_36 (zr (rI_X7_init_27 (zr (rI_X1_init_19 (zr (rI_X3_init_3 (zr (zr gr 0 0 1) 0 1 2)) 0 2 3)) 0 3 19)) 0 4 27)) 0 5 36) (fun k hk => hz k (Nat.le_trans (by decide) hk)) (fun k hk => hl k (Nat.le_trans (by decide) hk)) (zOkR_mono hO (by decide))) (by decide) calX6_init lX10_47 rfl (zm_inT 322 (by decide +kernel) (by decide +kernel)) dX10_init_73 (by decide) (by decide) (by decide) (by simp [Value.category]) rfl (by decide) (fun gi' gl' gr' ⟨e1, e2, e3, hO, hz⟩ => ?_)
  rw [e1] at hz
  rw [e3] at hO
  rw [e1, e2, e3]
  clear e1 e2 e3
  refine zN_putR (n := 51) (show x.meth.name = "<init>" from hname) (by decide) sh_0 (by decide) (by decide) fX10_50 dX10_init_76 rfl rfl (fun C T N h => by cases h; exact zm_inT 534 (by decide +kernel) (by decide +kernel)) (zOkR_mono hO (by decide)) (fun hO => ?_)
  refine zA_aload_0 dX10_init_79 ?_
  refine zN_new (n := 51) sh_51 (by decide) rfl (by decide) uTX5 (zm_inT 386 (by decide +kernel) (by decide +kernel)) (zm_inT 387 (by decide +kernel) (by decide +kernel)) (zm_inT 125 (by decide +kernel) (by decide +kernel)) dX10_init_80 (by decide) (by decide) (zOkR_mono hO (by decide)) (by decide) (fun k hk => hz k (Nat.le_trans (by decide) hk)) (fun k hk => hl k (Nat.le_trans (by decide) hk)) ?_
  refine zA_dup dX10_init_83 rfl ?_
  refine zN_cI hGX (ci_X5_init_51 g ((fI_X6_init_42 ((fI_X4_init_36 ((fI_X7_init_27 ((fI_X1_init_19 ((fI_X3_init_3 gi)))))))))) gl (zr (rI_X6_init_42 (zr (rI_X4_init_36 (zr (rI_X7_init_27 (zr (rI_X1_init_19 (zr (rI_X3_init_3 (zr (zr gr 0 0 1) 0 1 2)) 0 2 3)) 0 3 19)) 0 4 27)) 0 5 36)) 0 6 42) (fun k hk => hz k (Nat.le_trans (by decide) hk)) (fun k hk => hl k (Nat.le_trans (by decide) hk)) (zOkR_mono hO (by decide))) (by decide) calX5_init lX10_56 rfl (zm_inT 389 (by decide +kernel) (by decide +kernel)) dX10_init_84 (by decide) (by decide) (by decide) (by simp [Value.category]) rfl (by decide) (fun gi' gl' gr' ⟨e1, e2, e3, hO, hz⟩ => ?_)
  rw [e1] at hz
  rw [e3] at hO
  rw [e1, e2, e3]
  clear e1 e2 e3
  refine zN_putR (n := 57) (show x.meth.name = "<init>" from hname) (by decide) sh_0 (by decide) (by decide) fX10_57 dX10_init_87 rfl rfl (fun C T N h => by cases h; exact zm_inT 535 (by decide +kernel) (by decide +kernel)) (zOkR_mono hO (by decide)) (fun hO => ?_)
  refine zA_aload_0 dX10_init_90 ?_
  refine zN_new (n := 57) sh_57 (by decide) rfl (by decide) uTX0 (zm_inT 412 (by decide +kernel) (by decide +kernel)) (zm_inT 413 (by decide +kernel) (by decide +kernel)) (zm_inT 126 (by decide +kernel) (by decide +kernel)) dX10_init_91 (by decide) (by decide) (zOkR_mono hO (by decide)) (by decide) (fun k hk => hz k (Nat.le_trans (by decide) hk)) (fun k hk => hl k (Nat.le_trans (by decide) hk)) ?_
  refine zA_dup dX10_init_94 rfl ?_
  refine zA_aload_0 dX10_init_95 ?_
  refine zA_getR (zsht (n := 58) sh_0 (by decide)) fX10_20 dX10_init_96 rfl rfl ?_
  refine zA_aload_0 dX10_init_99 ?_
  refine zA_getR (zsht (n := 58) sh_0 (by decide)) fX10_27 dX10_init_100 rfl rfl ?_
  refine zA_aload_0 dX10_init_103 ?_
  refine zA_getR (zsht (n := 58) sh_0 (by decide)) fX10_34 dX10_init_104 rfl rfl ?_
  refine zA_aload_0 dX10_init_107 ?_
  refine zA_getR (zsht (n := 58) sh_0 (by decide)) fX10_41 dX10_init_108 rfl rfl ?_
  refine zA_aload_0 dX10_init_111 ?_
  refine zA_getR (zsht (n := 58) sh_0 (by decide)) fX10_13 dX10_init_112 rfl rfl ?_
  refine zN_cI hGX (ci_X0_init_57 g ((fI_X5_init_51 ((fI_X6_init_42 ((fI_X4_init_36 ((fI_X7_init_27 ((fI_X1_init_19 ((fI_X3_init_3 gi)))))))))))) gl (zr (rI_X5_init_51 (zr (rI_X6_init_42 (zr (rI_X4_init_36 (zr (rI_X7_init_27 (zr (rI_X1_init_19 (zr (rI_X3_init_3 (zr (zr gr 0 0 1) 0 1 2)) 0 2 3)) 0 3 19)) 0 4 27)) 0 5 36)) 0 6 42)) 0 7 51) (fun k hk => hz k (Nat.le_trans (by decide) hk)) (fun k hk => hl k (Nat.le_trans (by decide) hk)) (zOkR_mono hO (by decide))) (by decide) calX0_init lX10_63 rfl (zm_inT 415 (by decide +kernel) (by decide +kernel)) dX10_init_115 (by decide) (by decide) (by decide) (by simp [Value.category]) rfl (by decide) (fun gi' gl' gr' ⟨e1, e2, e3, hO, hz⟩ => ?_)
  rw [e1] at hz
  rw [e3] at hO
  rw [e1, e2, e3]
  clear e1 e2 e3
  refine zN_putR (n := 75) (show x.meth.name = "<init>" from hname) (by decide) sh_0 (by decide) (by decide) fX10_66 dX10_init_118 rfl rfl (fun C T N h => by cases h; exact zm_inT 536 (by decide +kernel) (by decide +kernel)) (zOkR_mono hO (by decide)) (fun hO => ?_)
  refine zA_aload_0 dX10_init_121 ?_
  refine zN_new (n := 75) sh_75 (by decide) rfl (by decide) uTX8 (zm_inT 487 (by decide +kernel) (by decide +kernel)) (zm_inT 488 (by decide +kernel) (by decide +kernel)) (zm_inT 127 (by decide +kernel) (by decide +kernel)) dX10_init_122 (by decide) (by decide) (zOkR_mono hO (by decide)) (by decide) (fun k hk => hz k (Nat.le_trans (by decide) hk)) (fun k hk => hl k (Nat.le_trans (by decide) hk)) ?_
  refine zA_dup dX10_init_125 rfl ?_
  refine zA_aload_0 dX10_init_126 ?_
  refine zA_getR (zsht (n := 76) sh_0 (by decide)) fX10_20 dX10_init_127 rfl rfl ?_
  refine zA_aload_0 dX10_init_130 ?_
  refine zA_getR (zsht (n := 76) sh_0 (by decide)) fX10_27 dX10_init_131 rfl rfl ?_
  refine zA_aload_0 dX10_init_134 ?_
  refine zA_getR (zsht (n := 76) sh_0 (by decide)) fX10_66 dX10_init_135 rfl rfl ?_
  refine zN_cI hGX (ci_X8_init_75 g ((fI_X0_init_57 ((fI_X5_init_51 ((fI_X6_init_42 ((fI_X4_init_36 ((fI_X7_init_27 ((fI_X1_init_19 ((fI_X3_init_3 gi)))))))))))))) gl (zr (rI_X0_init_57 (zr (rI_X5_init_51 (zr (rI_X6_init_42 (zr (rI_X4_init_36 (zr (rI_X7_init_27 (zr (rI_X1_init_19 (zr (rI_X3_init_3 (zr (zr gr 0 0 1) 0 1 2)) 0 2 3)) 0 3 19)) 0 4 27)) 0 5 36)) 0 6 42)) 0 7 51)) 0 8 57) (fun k hk => hz k (Nat.le_trans (by decide) hk)) (fun k hk => hl k (Nat.le_trans (by decide) hk)) (zOkR_mono hO (by decide))) (by decide) calX8_init lX10_72 rfl (zm_inT 490 (by decide +kernel) (by decide +kernel)) dX10_init_138 (by decide) (by decide) (by decide) (by simp [Value.category]) rfl (by decide) (fun gi' gl' gr' ⟨e1, e2, e3, hO, hz⟩ => ?_)
  rw [e1] at hz
  rw [e3] at hO
  rw [e1, e2, e3]
  clear e1 e2 e3
  refine zN_putR (n := 87) (show x.meth.name = "<init>" from hname) (by decide) sh_0 (by decide) (by decide) fX10_75 dX10_init_141 rfl rfl (fun C T N h => by cases h; exact zm_inT 537 (by decide +kernel) (by decide +kernel)) (zOkR_mono hO (by decide)) (fun hO => ?_)
  refine zA_aload_0 dX10_init_144 ?_
  refine zA_getR (zsht (n := 87) sh_0 (by decide)) fX10_13 dX10_init_145 rfl rfl ?_
  refine zA_iconst (nI 1) dX10_init_148 ic_1 ?_
  refine zA_cSv (ct_fill g ((fI_X8_init_75 ((fI_X0_init_57 ((fI_X5_init_51 ((fI_X6_init_42 ((fI_X4_init_36 ((fI_X7_init_27 ((fI_X1_init_19 ((fI_X3_init_3 gi)))))))))))))))) gl _ ((nI 1)) (zsht (n := 87) (zsht (n := 87) sh_2 (by decide)) (by decide)) (by decide)) calJ7_fill_53178 stJ7_fill_53178 lX10_79 dX10_init_149 (by decide) (by simp [Value.category]) rfl (Nat.le_refl _) (Nat.le_refl _) (fun gi' gl' gr' ⟨e1, e2, e3⟩ => ?_)
  rw [e1, e2, e3]
  clear e1 e2 e3
  have hz : ∀ k, 87 ≤ k → (zfl ((fI_X8_init_75 ((fI_X0_init_57 ((fI_X5_init_51 ((fI_X6_init_42 ((fI_X4_init_36 ((fI_X7_init_27 ((fI_X1_init_19 ((fI_X3_init_3 gi)))))))))))))))) 2 4 ((nI 1))) k = fun _ => 0 := fun k hk => (zm_une (by omega)).trans (hz k (by omega))
  exact zN_ret rfl dX10_init_152 (by decide) (by decide) ⟨rfl, rfl, rfl, (zOkR_mono hO (by decide)), (fun k hk => hz k (Nat.le_trans (by decide) hk))⟩
