def fI_X1_init_19 (gi : zm_I) : zm_I := gi
def rI_X1_init_19 (gr : zm_R) : zm_R := (zr (zrm (zr (zr gr 19 0 20) 19 1 21) 22 4) 19 2 22)
set_option maxRecDepth 100000 in
set_option maxHeartbeats 4000000 in
theorem ci_X1_init_19 (g : zm_G) (gi : zm_I) (gl : zm_J) (gr : zm_R) (hz : ∀ k, 20 ≤ k → gi k = fun _ => 0) (hl : ∀ k, 20 ≤ k → gl k = fun _ => 0) (hO : zOkR 20 gr) : zC_n g yX1_init mX1_init 1 7 38 [.ref 19] 20 gi gl gr 27 (fun gi' gl' gr' => gi' = fI_X1_init_19 gi ∧ gl' = gl ∧ gr' = rI_X1_init_19 gr ∧ zOkR 27 gr' ∧ ∀ k, 27 ≤ k → gi' k = fun _ => 0) := by
  refine zC_n_of [some (.ref 19)] (by decide) rfl rfl (Nat.le_of_ble_eq_true rfl) (fun x hname hGX => ?_)
  refine zA_aload_0 dX1_init_0 ?_
  refine zA_objI (zm_inT 193 (by decide +kernel) (by decide +kernel)) oi_in oi_co dX1_init_1 (by decide) (by simp [Value.category]) ?_
  refine zA_aload_0 dX1_init_4 ?_
  refine zA_iconst (nI 3) dX1_init_5 ic_3 ?_
  refine zN_newa (n := 20) (i := 0) sh_20 (by decide) rfl rfl rfl ar_int dX1_init_6 (by decide) (by decide) (by decide) (by decide) (zOkR_mono hO (by decide)) (by decide) (fun k hk => hz k (Nat.le_trans (by decide) hk)) (fun k hk => hl k (Nat.le_trans (by decide) hk)) (fun _ _ => rfl) ?_
  refine zN_putR (n := 21) (show x.meth.name = "<init>" from hname) (by decide) sh_19 (by decide) (by decide) fX1_9 dX1_init_8 rfl rfl (fun C T N h => by cases h; exact zm_inT 195 (by decide +kernel) (by decide +kernel)) (zOkR_mono hO (by decide)) (fun hO => ?_)
  refine zA_aload_0 dX1_init_11 ?_
  refine zA_iconst (nI 3) dX1_init_12 ic_3 ?_
  refine zN_newa (n := 21) (i := 0) sh_21 (by decide) rfl rfl rfl ar_int dX1_init_13 (by decide) (by decide) (by decide) (by decide) (zOkR_mono hO (by decide)) (by decide) (fun k hk => hz k (Nat.le_trans (by decide) hk)) (fun k hk => hl k (Nat.le_trans (by decide) hk)) (fun _ _ => rfl) ?_
  refine zN_putR (n := 22) (show x.meth.name = "<init>" from hname) (by decide) sh_19 (by decide) (by decide) fX1_15 dX1_init_15 rfl rfl (fun C T N h => by cases h; exact zm_inT 197 (by decide +kernel) (by decide +kernel)) (zOkR_mono hO (by decide)) (fun hO => ?_)
  refine zA_aload_0 dX1_init_18 ?_
  refine zA_iconst (nI 4) dX1_init_19 ic_4 ?_
  refine zA_bipush (nI 7) dX1_init_20 bc_7 ?_
  refine zN_mna (n := 22) (N := 4) (K := 7) rfl (by decide) (zm_inT 194 (by decide +kernel) (by decide +kernel)) hGX.1 ar_int dX1_init_22 (by decide) (by decide) (by decide) (by decide) (zOkR_mono hO (by decide)) (by decide) (fun k hk => hz k (Nat.le_trans (by decide) hk)) (fun hO => ?_)
  refine zN_putR (n := 27) (show x.meth.name = "<init>" from hname) (by decide) sh_19 (by decide) (by decide) fX1_20 dX1_init_26 rfl rfl (fun C T N h => by cases h; exact zm_inT 199 (by decide +kernel) (by decide +kernel)) (zOkR_mono hO (by decide)) (fun hO => ?_)
  exact zN_ret rfl dX1_init_29 (by decide) (by decide) ⟨rfl, rfl, rfl, (zOkR_mono hO (by decide)), (fun k hk => hz k (Nat.le_trans (by decide) hk))⟩
def fI_X7_init_27 (gi : zm_I) : zm_I := gi
def rI_X7_init_27 (gr : zm_R) : zm_R := (zr (zr (zr (zr (zr (zr (zr (zr gr 27 0 28) 27 1 29) 27 2 30) 27 3 31) 27 4 32) 27 5 33) 27 6 34) 27 7 35)
set_option maxRecDepth 100000 in
set_option maxHeartbeats 4000000 in
theorem ci_X7_init_27 (g : zm_G) (gi : zm_I) (gl : zm_J) (gr : zm_R) (hz : ∀ k, 28 ≤ k → gi k = fun _ => 0) (hl : ∀ k, 28 ≤ k → gl k = fun _ => 0) (hO : zOkR 28 gr) : zC_n g yX7_init mX7_init 1 8 156 [.ref 27] 28 gi gl gr 36 (fun gi' gl' gr' => gi' = fI_X7_init_27 gi ∧ gl' = gl ∧ gr' = rI_X7_init_27 gr ∧ zOkR 36 gr' ∧ ∀ k, 36 ≤ k → gi' k = fun _ => 0) := by
  refine zC_n_of [some (.ref 27)] (by decide) rfl rfl (Nat.le_of_ble_eq_true rfl) (fun x hname hGX => ?_)
  refine zA_aload_0 dX7_init_0 ?_
  refine zA_objI (zm_inT 224 (by decide +kernel) (by decide +kernel)) oi_in oi_co dX7_init_1 (by decide) (by simp [Value.category]) ?_
  refine zA_aload_0 dX7_init_4 ?_
  refine zA_bipush (nI 27) dX7_init_5 bc_27 ?_
  refine zN_newa (n := 28) (i := 0) sh_28 (by decide) rfl rfl rfl ar_int dX7_init_7 (by decide) (by decide) (by decide) (by decide) (zOkR_mono hO (by decide)) (by decide) (fun k hk => hz k (Nat.le_trans (by decide) hk)) (fun k hk => hl k (Nat.le_trans (by decide) hk)) (fun _ _ => rfl) ?_
  refine zN_putR (n := 29) (show x.meth.name = "<init>" from hname) (by decide) sh_27 (by decide) (by decide) fX7_11 dX7_init_9 rfl rfl (fun C T N h => by cases h; exact zm_inT 225 (by decide +kernel) (by decide +kernel)) (zOkR_mono hO (by decide)) (fun hO => ?_)
  refine zA_aload_0 dX7_init_12 ?_
  refine zA_bipush (nI 27) dX7_init_13 bc_27 ?_
  refine zN_newa (n := 29) (i := 0) sh_29 (by decide) rfl rfl rfl ar_int dX7_init_15 (by decide) (by decide) (by decide) (by decide) (zOkR_mono hO (by decide)) (by decide) (fun k hk => hz k (Nat.le_trans (by decide) hk)) (fun k hk => hl k (Nat.le_trans (by decide) hk)) (fun _ _ => rfl) ?_
  refine zN_putR (n := 30) (show x.meth.name = "<init>" from hname) (by decide) sh_27 (by decide) (by decide) fX7_15 dX7_init_17 rfl rfl (fun C T N h => by cases h; exact zm_inT 228 (by decide +kernel) (by decide +kernel)) (zOkR_mono hO (by decide)) (fun hO => ?_)
  refine zA_aload_0 dX7_init_20 ?_
  refine zA_bipush (nI 27) dX7_init_21 bc_27 ?_
  refine zN_newa (n := 30) (i := 0) sh_30 (by decide) rfl rfl rfl ar_int dX7_init_23 (by decide) (by decide) (by decide) (by decide) (zOkR_mono hO (by decide)) (by decide) (fun k hk => hz k (Nat.le_trans (by decide) hk)) (fun k hk => hl k (Nat.le_trans (by decide) hk)) (fun _ _ => rfl) ?_
  refine zN_putR (n := 31) (show x.meth.name = "<init>" from hname) (by decide) sh_27 (by decide) (by decide) fX7_18 dX7_init_25 rfl rfl (fun C T N h => by cases h; exact zm_inT 230 (by decide +kernel) (by decide +kernel)) (zOkR_mono hO (by decide)) (fun hO => ?_)
  refine zA_aload_0 dX7_init_28 ?_
  refine zA_bipush (nI 27) dX7_init_29 bc_27 ?_
  refine zN_newa (n := 31) (i := 0) sh_31 (by decide) rfl rfl rfl ar_int dX7_init_31 (by decide) (by decide) (by decide) (by decide) (zOkR_mono hO (by decide)) (by decide) (fun k hk => hz k (Nat.le_trans (by decide) hk)) (fun k hk => hl k (Nat.le_trans (by decide) hk)) (fun _ _ => rfl) ?_
  refine zN_putR (n := 32) (show x.meth.name = "<init>" from hname) (by decide) sh_27 (by decide) (by decide) fX7_21 dX7_init_33 rfl rfl (fun C T N h => by cases h; exact zm_inT 233 (by decide +kernel) (by decide +kernel)) (zOkR_mono hO (by decide)) (fun hO => ?_)
  refine zA_aload_0 dX7_init_36 ?_
  refine zA_bipush (nI 12) dX7_init_37 bc_12 ?_
  refine zN_newa (n := 32) (i := 0) sh_32 (by decide) rfl rfl rfl ar_int dX7_init_39 (by decide) (by decide) (by decide) (by decide) (zOkR_mono hO (by decide)) (by decide) (fun k hk => hz k (Nat.le_trans (by decide) hk)) (fun k hk => hl k (Nat.le_trans (by decide) hk)) (fun _ _ => rfl) ?_
  refine zN_putR (n := 33) (show x.meth.name = "<init>" from hname) (by decide) sh_27 (by decide) (by decide) fX7_24 dX7_init_41 rfl rfl (fun C T N h => by cases h; exact zm_inT 235 (by decide +kernel) (by decide +kernel)) (zOkR_mono hO (by decide)) (fun hO => ?_)
  refine zA_aload_0 dX7_init_44 ?_
  refine zA_bipush (nI 12) dX7_init_45 bc_12 ?_
  refine zN_newa (n := 33) (i := 0) sh_33 (by decide) rfl rfl rfl ar_int dX7_init_47 (by decide) (by decide) (by decide) (by decide) (zOkR_mono hO (by decide)) (by decide) (fun k hk => hz k (Nat.le_trans (by decide) hk)) (fun k hk => hl k (Nat.le_trans (by decide) hk)) (fun _ _ => rfl) ?_
  refine zN_putR (n := 34) (show x.meth.name = "<init>" from hname) (by decide) sh_27 (by decide) (by decide) fX7_27 dX7_init_49 rfl rfl (fun C T N h => by cases h; exact zm_inT 237 (by decide +kernel) (by decide +kernel)) (zOkR_mono hO (by decide)) (fun hO => ?_)
  refine zA_aload_0 dX7_init_52 ?_
  refine zA_bipush (nI 12) dX7_init_53 bc_12 ?_
  refine zN_newa (n := 34) (i := 0) sh_34 (by decide) rfl rfl rfl ar_int dX7_init_55 (by decide) (by decide) (by decide) (by decide) (zOkR_mono hO (by decide)) (by decide) (fun k hk => hz k (Nat.le_trans (by decide) hk)) (fun k hk => hl k (Nat.le_trans (by decide) hk)) (fun _ _ => rfl) ?_
  refine zN_putR (n := 35) (show x.meth.name = "<init>" from hname) (by decide) sh_27 (by decide) (by decide) fX7_30 dX7_init_57 rfl rfl (fun C T N h => by cases h; exact zm_inT 239 (by decide +kernel) (by decide +kernel)) (zOkR_mono hO (by decide)) (fun hO => ?_)
  refine zA_aload_0 dX7_init_60 ?_
  refine zA_bipush (nI 12) dX7_init_61 bc_12 ?_
  refine zN_newa (n := 35) (i := 0) sh_35 (by decide) rfl rfl rfl ar_int dX7_init_63 (by decide) (by decide) (by decide) (by decide) (zOkR_mono hO (by decide)) (by decide) (fun k hk => hz k (Nat.le_trans (by decide) hk)) (fun k hk => hl k (Nat.le_trans (by decide) hk)) (fun _ _ => rfl) ?_
  refine zN_putR (n := 36) (show x.meth.name = "<init>" from hname) (by decide) sh_27 (by decide) (by decide) fX7_33 dX7_init_65 rfl rfl (fun C T N h => by cases h; exact zm_inT 241 (by decide +kernel) (by decide +kernel)) (zOkR_mono hO (by decide)) (fun hO => ?_)
  exact zN_ret rfl dX7_init_68 (by decide) (by decide) ⟨rfl, rfl, rfl, (zOkR_mono hO (by decide)), (fun k hk => hz k (Nat.le_trans (by decide) hk))⟩
def fI_X4_init_36 (gi : zm_I) : zm_I := (zs (zs gi 36 5 ((nI 600))) 36 6 ((nI 5)))
def rI_X4_init_36 (gr : zm_R) : zm_R := (zr (zr (zr (zr (zr gr 36 0 37) 36 1 38) 36 2 39) 36 3 40) 36 4 41)
set_option maxRecDepth 100000 in
set_option maxHeartbeats 4000000 in
theorem ci_X4_init_36 (g : zm_G) (gi : zm_I) (gl : zm_J) (gr : zm_R) (hz : ∀ k, 37 ≤ k → gi k = fun _ => 0) (hl : ∀ k, 37 ≤ k → gl k = fun _ => 0) (hO : zOkR 37 gr) : zC_n g yX4_init mX4_init 1 5 202 [.ref 36] 37 gi gl gr 42 (fun gi' gl' gr' => gi' = fI_X4_init_36 gi ∧ gl' = gl ∧ gr' = rI_X4_init_36 gr ∧ zOkR 42 gr' ∧ ∀ k, 42 ≤ k → gi' k = fun _ => 0) := by
  refine zC_n_of [some (.ref 36)] (by decide) rfl rfl (Nat.le_of_ble_eq_true rfl) (fun x hname hGX => ?_)
  refine zA_aload_0 dX4_init_0 ?_
  refine zA_objI (zm_inT 275 (by decide +kernel) (by decide +kernel)) oi_in oi_co dX4_init_1 (by decide) (by simp [Value.category]) ?_
  refine zA_aload_0 dX4_init_4 ?_
  refine zA_bipush (nI 64) dX4_init_5 bc_64 ?_
  refine zN_newa (n := 37) (i := 0) sh_37 (by decide) rfl rfl rfl ar_int dX4_init_7 (by decide) (by decide) (by decide) (by decide) (zOkR_mono hO (by decide)) (by decide) (fun k hk => hz k (Nat.le_trans (by decide) hk)) (fun k hk => hl k (Nat.le_trans (by decide) hk)) (fun _ _ => rfl) ?_
  refine zN_putR (n := 38) (show x.meth.name = "<init>" from hname) (by decide) sh_36 (by decide) (by decide) fX4_13 dX4_init_9 rfl rfl (fun C T N h => by cases h; exact zm_inT 276 (by decide +kernel) (by decide +kernel)) (zOkR_mono hO (by decide)) (fun hO => ?_)
  refine zA_aload_0 dX4_init_12 ?_
  refine zA_bipush (nI 64) dX4_init_13 bc_64 ?_
  refine zN_newa (n := 38) (i := 0) sh_38 (by decide) rfl rfl rfl ar_int dX4_init_15 (by decide) (by decide) (by decide) (by decide) (zOkR_mono hO (by decide)) (by decide) (fun k hk => hz k (Nat.le_trans (by decide) hk)) (fun k hk => hl k (Nat.le_trans (by decide) hk)) (fun _ _ => rfl) ?_
  refine zN_putR (n := 39) (show x.meth.name = "<init>" from hname) (by decide) sh_36 (by decide) (by decide) fX4_17 dX4_init_17 rfl rfl (fun C T N h => by cases h; exact zm_inT 278 (by decide +kernel) (by decide +kernel)) (zOkR_mono hO (by decide)) (fun hO => ?_)
  refine zA_aload_0 dX4_init_20 ?_
  refine zA_iconst (nI 5) dX4_init_21 ic_5 ?_
  refine zN_newa (n := 39) (i := 0) sh_39 (by decide) rfl rfl rfl ar_int dX4_init_22 (by decide) (by decide) (by decide) (by decide) (zOkR_mono hO (by decide)) (by decide) (fun k hk => hz k (Nat.le_trans (by decide) hk)) (fun k hk => hl k (Nat.le_trans (by decide) hk)) (fun _ _ => rfl) ?_
  refine zN_putR (n := 40) (show x.meth.name = "<init>" from hname) (by decide) sh_36 (by decide) (by decide) fX4_20 dX4_init_24 rfl rfl (fun C T N h => by cases h; exact zm_inT 280 (by decide +kernel) (by decide +kernel)) (zOkR_mono hO (by decide)) (fun hO => ?_)
  refine zA_aload_0 dX4_init_27 ?_
  refine zA_iconst (nI 5) dX4_init_28 ic_5 ?_
  refine zN_newa (n := 40) (i := 0) sh_40 (by decide) rfl rfl rfl ar_int dX4_init_29 (by decide) (by decide) (by decide) (by decide) (zOkR_mono hO (by decide)) (by decide) (fun k hk => hz k (Nat.le_trans (by decide) hk)) (fun k hk => hl k (Nat.le_trans (by decide) hk)) (fun _ _ => rfl) ?_
  refine zN_putR (n := 41) (show x.meth.name = "<init>" from hname) (by decide) sh_36 (by decide) (by decide) fX4_23 dX4_init_31 rfl rfl (fun C T N h => by cases h; exact zm_inT 282 (by decide +kernel) (by decide +kernel)) (zOkR_mono hO (by decide)) (fun hO => ?_)
  refine zA_aload_0 dX4_init_34 ?_
  refine zA_bipush (nI 64) dX4_init_35 bc_64 ?_
  refine zN_newa (n := 41) (i := 3) sh_41 (by decide) rfl rfl rfl ar_long dX4_init_37 (by decide) (by decide) (by decide) (by decide) (zOkR_mono hO (by decide)) (by decide) (fun k hk => hz k (Nat.le_trans (by decide) hk)) (fun k hk => hl k (Nat.le_trans (by decide) hk)) (fun _ _ => rfl) ?_
  refine zN_putR (n := 42) (show x.meth.name = "<init>" from hname) (by decide) sh_36 (by decide) (by decide) fX4_26 dX4_init_39 rfl rfl (fun C T N h => by cases h; exact zm_inT 284 (by decide +kernel) (by decide +kernel)) (zOkR_mono hO (by decide)) (fun hO => ?_)
  refine zA_aload_0 dX4_init_42 ?_
  refine zA_sipush (nI 600) dX4_init_43 sc_600 ?_
  refine zS_putI (zsht (n := 42) sh_36 (by decide)) fX4_30 dX4_init_46 rfl rfl ?_
  refine zA_aload_0 dX4_init_49 ?_
  refine zA_iconst (nI 5) dX4_init_50 ic_5 ?_
  refine zS_putI (zsht (n := 42) sh_36 (by decide)) fX4_34 dX4_init_51 rfl rfl ?_
  have hz : ∀ k, 42 ≤ k → ((zs (zs gi 36 5 ((nI 600))) 36 6 ((nI 5)))) k = fun _ => 0 := fun k hk => by
    repeat rw [zs_nq (by omega)]
    exact hz k (by omega)
  exact zN_ret rfl dX4_init_54 (by decide) (by decide) ⟨rfl, rfl, rfl, (zOkR_mono hO (by decide)), (fun k hk => hz k (Nat.le_trans (by decide) hk))⟩
def fI_X4_init_43 (gi : zm_I) : zm_I := (zs (zs gi 43 5 ((nI 600))) 43 6 ((nI 5)))
def rI_X4_init_43 (gr : zm_R) : zm_R := (zr (zr (zr (zr (zr gr 43 0 44) 43 1 45) 43 2 46) 43 3 47) 43 4 48)
set_option maxRecDepth 100000 in
set_option maxHeartbeats 4000000 in
theorem ci_X4_init_43 (g : zm_G) (gi : zm_I) (gl : zm_J) (gr : zm_R) (hz : ∀ k, 44 ≤ k → gi k = fun _ => 0) (hl : ∀ k, 44 ≤ k → gl k = fun _ => 0) (hO : zOkR 44 gr) : zC_n g yX4_init mX4_init 1 5 202 [.ref 43] 44 gi gl gr 49 (fun gi' gl' gr' => gi' = fI_X4_init_43 gi ∧ gl' = gl ∧ gr' = rI_X4_init_43 gr ∧ zOkR 49 gr' ∧ ∀ k, 49 ≤ k → gi' k = fun _ => 0) := by
  refine zC_n_of [some (.ref 43)] (by decide) rfl rfl (Nat.le_of_ble_eq_true rfl) (fun x hname hGX => ?_)
  refine zA_aload_0 dX4_init_0 ?_
  refine zA_objI (zm_inT 275 (by decide +kernel) (by decide +kernel)) oi_in oi_co dX4_init_1 (by decide) (by simp [Value.category]) ?_
  refine zA_aload_0 dX4_init_4 ?_
  refine zA_bipush (nI 64) dX4_init_5 bc_64 ?_
  refine zN_newa (n := 44) (i := 0) sh_44 (by decide) rfl rfl rfl ar_int dX4_init_7 (by decide) (by decide) (by decide) (by decide) (zOkR_mono hO (by decide)) (by decide) (fun k hk => hz k (Nat.le_trans (by decide) hk)) (fun k hk => hl k (Nat.le_trans (by decide) hk)) (fun _ _ => rfl) ?_
  refine zN_putR (n := 45) (show x.meth.name = "<init>" from hname) (by decide) sh_43 (by decide) (by decide) fX4_13 dX4_init_9 rfl rfl (fun C T N h => by cases h; exact zm_inT 276 (by decide +kernel) (by decide +kernel)) (zOkR_mono hO (by decide)) (fun hO => ?_)
  refine zA_aload_0 dX4_init_12 ?_
  refine zA_bipush (nI 64) dX4_init_13 bc_64 ?_
  refine zN_newa (n := 45) (i := 0) sh_45 (by decide) rfl rfl rfl ar_int dX4_init_15 (by decide) (by decide) (by decide) (by decide) (zOkR_mono hO (by decide)) (by decide) (fun k hk => hz k (Nat.le_trans (by decide) hk)) (fun k hk => hl k (Nat.le_trans (by decide) hk)) (fun _ _ => rfl) ?_
  refine zN_putR (n := 46) (show x.meth.name = "<init>" from hname) (by decide) sh_43 (by decide) (by decide) fX4_17 dX4_init_17 rfl rfl (fun C T N h => by cases h; exact zm_inT 278 (by decide +kernel) (by decide +kernel)) (zOkR_mono hO (by decide)) (fun hO => ?_)
  refine zA_aload_0 dX4_init_20 ?_
  refine zA_iconst (nI 5) dX4_init_21 ic_5 ?_
  refine zN_newa (n := 46) (i := 0) sh_46 (by decide) rfl rfl rfl ar_int dX4_init_22 (by decide) (by decide) (by decide) (by decide) (zOkR_mono hO (by decide)) (by decide) (fun k hk => hz k (Nat.le_trans (by decide) hk)) (fun k hk => hl k (Nat.le_trans (by decide) hk)) (fun _ _ => rfl) ?_
  refine zN_putR (n := 47) (show x.meth.name = "<init>" from hname) (by decide) sh_43 (by decide) (by decide) fX4_20 dX4_init_24 rfl rfl (fun C T N h => by cases h; exact zm_inT 280 (by decide +kernel) (by decide +kernel)) (zOkR_mono hO (by decide)) (fun hO => ?_)
  refine zA_aload_0 dX4_init_27 ?_
  refine zA_iconst (nI 5) dX4_init_28 ic_5 ?_
  refine zN_newa (n := 47) (i := 0) sh_47 (by decide) rfl rfl rfl ar_int dX4_init_29 (by decide) (by decide) (by decide) (by decide) (zOkR_mono hO (by decide)) (by decide) (fun k hk => hz k (Nat.le_trans (by decide) hk)) (fun k hk => hl k (Nat.le_trans (by decide) hk)) (fun _ _ => rfl) ?_
  refine zN_putR (n := 48) (show x.meth.name = "<init>" from hname) (by decide) sh_43 (by decide) (by decide) fX4_23 dX4_init_31 rfl rfl (fun C T N h => by cases h; exact zm_inT 282 (by decide +kernel) (by decide +kernel)) (zOkR_mono hO (by decide)) (fun hO => ?_)
  refine zA_aload_0 dX4_init_34 ?_
  refine zA_bipush (nI 64) dX4_init_35 bc_64 ?_
  refine zN_newa (n := 48) (i := 3) sh_48 (by decide) rfl rfl rfl ar_long dX4_init_37 (by decide) (by decide) (by decide) (by decide) (zOkR_mono hO (by decide)) (by decide) (fun k hk => hz k (Nat.le_trans (by decide) hk)) (fun k hk => hl k (Nat.le_trans (by decide) hk)) (fun _ _ => rfl) ?_
  refine zN_putR (n := 49) (show x.meth.name = "<init>" from hname) (by decide) sh_43 (by decide) (by decide) fX4_26 dX4_init_39 rfl rfl (fun C T N h => by cases h; exact zm_inT 284 (by decide +kernel) (by decide +kernel)) (zOkR_mono hO (by decide)) (fun hO => ?_)
  refine zA_aload_0 dX4_init_42 ?_
  refine zA_sipush (nI 600) dX4_init_43 sc_600 ?_
  refine zS_putI (zsht (n := 49) sh_43 (by decide)) fX4_30 dX4_init_46 rfl rfl ?_
  refine zA_aload_0 dX4_init_49 ?_
  refine zA_iconst (nI 5) dX4_init_50 ic_5 ?_
  refine zS_putI (zsht (n := 49) sh_43 (by decide)) fX4_34 dX4_init_51 rfl rfl ?_
  have hz : ∀ k, 49 ≤ k → ((zs (zs gi 43 5 ((nI 600))) 43 6 ((nI 5)))) k = fun _ => 0 := fun k hk => by
    repeat rw [zs_nq (by omega)]
    exact hz k (by omega)
  exact zN_ret rfl dX4_init_54 (by decide) (by decide) ⟨rfl, rfl, rfl, (zOkR_mono hO (by decide)), (fun k hk => hz k (Nat.le_trans (by decide) hk))⟩
def fI_X9_init_50 (gi : zm_I) : zm_I := gi
def rI_X9_init_50 (gr : zm_R) : zm_R := (zr gr 50 0 1)
set_option maxRecDepth 100000 in
set_option maxHeartbeats 4000000 in
theorem ci_X9_init_50 (g : zm_G) (gi : zm_I) (gl : zm_J) (gr : zm_R) (hz : ∀ k, 51 ≤ k → gi k = fun _ => 0) (hl : ∀ k, 51 ≤ k → gl k = fun _ => 0) (hO : zOkR 51 gr) : zC_n g yX9_init mX9_init 1 0 0 [.ref 50, .ref 1] 51 gi gl gr 51 (fun gi' gl' gr' => gi' = fI_X9_init_50 gi ∧ gl' = gl ∧ gr' = rI_X9_init_50 gr ∧ zOkR 51 gr' ∧ ∀ k, 51 ≤ k → gi' k = fun _ => 0) := by
  refine zC_n_of [some (.ref 50), some (.ref 1)] (by decide) rfl rfl (Nat.le_of_ble_eq_true rfl) (fun x hname hGX => ?_)
  refine zA_aload_0 dX9_init_0 ?_
  refine zA_objI (zm_inT 332 (by decide +kernel) (by decide +kernel)) oi_in oi_co dX9_init_1 (by decide) (by simp [Value.category]) ?_
  refine zA_aload_0 dX9_init_4 ?_
  refine zA_aload_1 dX9_init_5 ?_
  refine zN_putR (n := 51) (show x.meth.name = "<init>" from hname) (by decide) sh_50 (by decide) (by decide) fX9_9 dX9_init_6 rfl rfl (fun C T N h => by cases h; exact zm_inT 333 (by decide +kernel) (by decide +kernel)) (zOkR_mono hO (by decide)) (fun hO => ?_)
  exact zN_ret rfl dX9_init_9 (by decide) (by decide) ⟨rfl, rfl, rfl, (zOkR_mono hO (by decide)), (fun k hk => hz k (Nat.le_trans (by decide) hk))⟩
def fI_X6_init_42 (gi : zm_I) : zm_I := (fI_X9_init_50 ((zs (fI_X4_init_43 gi) 42 8 (((-1))))))
def rI_X6_init_42 (gr : zm_R) : zm_R := (zr (rI_X9_init_50 (zr (zr (rI_X4_init_43 gr) 42 1 43) 42 2 49)) 42 0 50)
set_option maxRecDepth 100000 in
set_option maxHeartbeats 4000000 in
theorem ci_X6_init_42 (g : zm_G) (gi : zm_I) (gl : zm_J) (gr : zm_R) (hz : ∀ k, 43 ≤ k → gi k = fun _ => 0) (hl : ∀ k, 43 ≤ k → gl k = fun _ => 0) (hO : zOkR 43 gr) : zC_n g yX6_init mX6_init 2 8 289 [.ref 42, .ref 1] 43 gi gl gr 51 (fun gi' gl' gr' => gi' = fI_X6_init_42 gi ∧ gl' = gl ∧ gr' = rI_X6_init_42 gr ∧ zOkR 51 gr' ∧ ∀ k, 51 ≤ k → gi' k = fun _ => 0) := by
  refine zC_n_of [some (.ref 42), some (.ref 1)] (by decide) rfl rfl (Nat.le_of_ble_eq_true rfl) (fun x hname hGX => ?_)
  refine zA_aload_0 dX6_init_0 ?_
  refine zA_objI (zm_inT 324 (by decide +kernel) (by decide +kernel)) oi_in oi_co dX6_init_1 (by decide) (by simp [Value.category]) ?_
  refine zA_aload_0 dX6_init_4 ?_
  refine zN_new (n := 43) sh_43 (by decide) rfl (by decide) uTX4 (zm_inT 325 (by decide +kernel) (by decide +kernel)) (zm_inT 271 (by decide +kernel) (by decide +kernel)) (zm_inT 122 (by decide +kernel) (by decide +kernel)) dX6_init_5 (by decide) (by decide) (zOkR_mono hO (by decide)) (by decide) (fun k hk => hz k (Nat.le_trans (by decide) hk)) (fun k hk => hl k (Nat.le_trans (by decide) hk)) ?_
  refine zA_dup dX6_init_8 rfl ?_
  refine zN_cI hGX (ci_X4_init_43 g gi gl gr (fun k hk => hz k (Nat.le_trans (by decide) hk)) (fun k hk => hl k (Nat.le_trans (by decide) hk)) (zOkR_mono hO (by decide))) (by decide) calX4_init lX6_11 rfl (zm_inT 273 (by decide +kernel) (by decide +kernel)) dX6_init_9 (by decide) (by decide) (by decide) (by simp [Value.category]) rfl (by decide) (fun gi' gl' gr' ⟨e1, e2, e3, hO, hz⟩ => ?_)
  rw [e1] at hz
  rw [e3] at hO
  rw [e1, e2, e3]
  clear e1 e2 e3
  refine zN_putR (n := 49) (show x.meth.name = "<init>" from hname) (by decide) sh_42 (by decide) (by decide) fX6_12 dX6_init_12 rfl rfl (fun C T N h => by cases h; exact zm_inT 356 (by decide +kernel) (by decide +kernel)) (zOkR_mono hO (by decide)) (fun hO => ?_)
  refine zA_aload_0 dX6_init_15 ?_
  refine zA_bipush (nI 72) dX6_init_16 bc_72 ?_
  refine zN_newa (n := 49) (i := 0) sh_49 (by decide) rfl rfl rfl ar_int dX6_init_18 (by decide) (by decide) (by decide) (by decide) (zOkR_mono hO (by decide)) (by decide) (fun k hk => hz k (Nat.le_trans (by decide) hk)) (fun k hk => hl k (Nat.le_trans (by decide) hk)) (fun _ _ => rfl) ?_
  refine zN_putR (n := 50) (show x.meth.name = "<init>" from hname) (by decide) sh_42 (by decide) (by decide) fX6_18 dX6_init_20 rfl rfl (fun C T N h => by cases h; exact zm_inT 358 (by decide +kernel) (by decide +kernel)) (zOkR_mono hO (by decide)) (fun hO => ?_)
  refine zA_aload_0 dX6_init_23 ?_
  refine zA_iconst (-1) dX6_init_24 ic_m1 ?_
  refine zS_putI (zsht (n := 50) sh_42 (by decide)) fX6_22 dX6_init_25 rfl rfl ?_
  refine zA_aload_0 dX6_init_28 ?_
  have hz : ∀ k, 50 ≤ k → ((zs (fI_X4_init_43 gi) 42 8 (((-1))))) k = fun _ => 0 := fun k hk => by
    repeat rw [zs_nq (by omega)]
    exact hz k (by omega)
  refine zN_new (n := 50) sh_50 (by decide) rfl (by decide) uTX9 (zm_inT 327 (by decide +kernel) (by decide +kernel)) (zm_inT 328 (by decide +kernel) (by decide +kernel)) (zm_inT 124 (by decide +kernel) (by decide +kernel)) dX6_init_29 (by decide) (by decide) (zOkR_mono hO (by decide)) (by decide) (fun k hk => hz k (Nat.le_trans (by decide) hk)) (fun k hk => hl k (Nat.le_trans (by decide) hk)) ?_
  refine zA_dup dX6_init_32 rfl ?_
  refine zA_aload_1 dX6_init_33 ?_
  refine zN_cI hGX (ci_X9_init_50 g ((zs (fI_X4_init_43 gi) 42 8 (((-1))))) gl (zr (zr (rI_X4_init_43 gr) 42 1 43) 42 2 49) (fun k hk => hz k (Nat.le_trans (by decide) hk)) (fun k hk => hl k (Nat.le_trans (by decide) hk)) (zOkR_mono hO (by decide))) (by decide) calX9_init lX6_28 rfl (zm_inT 330 (by decide +kernel) (by decide +kernel)) dX6_init_34 (by decide) (by decide) (by decide) (by simp [Value.category]) rfl (by decide) (fun gi' gl' gr' ⟨e1, e2, e3, hO, hz⟩ => ?_)
  rw [e1] at hz
  rw [e3] at hO
  rw [e1, e2, e3]
  clear e1 e2 e3
  refine zN_putR (n := 51) (show x.meth.name = "<init>" from hname) (by decide) sh_42 (by decide) (by decide) fX6_31 dX6_init_37 rfl rfl (fun C T N h => by cases h; exact zm_inT 355 (by decide +kernel) (by decide +kernel)) (zOkR_mono hO (by decide)) (fun hO => ?_)
  exact zN_ret rfl dX6_init_40 (by decide) (by decide) ⟨rfl, rfl, rfl, (zOkR_mono hO (by decide)), (fun k hk => hz k (Nat.le_trans (by decide) hk))⟩
def fI_X5_init_51 (gi : zm_I) : zm_I := gi
def rI_X5_init_51 (gr : zm_R) : zm_R := (zr (zr (zr (zr (zr gr 51 0 52) 51 1 53) 51 2 54) 51 3 55) 51 4 56)
set_option maxRecDepth 100000 in
set_option maxHeartbeats 4000000 in
theorem ci_X5_init_51 (g : zm_G) (gi : zm_I) (gl : zm_J) (gr : zm_R) (hz : ∀ k, 52 ≤ k → gi k = fun _ => 0) (hl : ∀ k, 52 ≤ k → gl k = fun _ => 0) (hO : zOkR 52 gr) : zC_n g yX5_init mX5_init 1 5 192 [.ref 51] 52 gi gl gr 57 (fun gi' gl' gr' => gi' = fI_X5_init_51 gi ∧ gl' = gl ∧ gr' = rI_X5_init_51 gr ∧ zOkR 57 gr' ∧ ∀ k, 57 ≤ k → gi' k = fun _ => 0) := by
  refine zC_n_of [some (.ref 51)] (by decide) rfl rfl (Nat.le_of_ble_eq_true rfl) (fun x hname hGX => ?_)
  refine zA_aload_0 dX5_init_0 ?_
  refine zA_objI (zm_inT 391 (by decide +kernel) (by decide +kernel)) oi_in oi_co dX5_init_1 (by decide) (by simp [Value.category]) ?_
  refine zA_aload_0 dX5_init_4 ?_
  refine zA_bipush (nI 40) dX5_init_5 bc_40 ?_
  refine zN_newa (n := 52) (i := 0) sh_52 (by decide) rfl rfl rfl ar_int dX5_init_7 (by decide) (by decide) (by decide) (by decide) (zOkR_mono hO (by decide)) (by decide) (fun k hk => hz k (Nat.le_trans (by decide) hk)) (fun k hk => hl k (Nat.le_trans (by decide) hk)) (fun _ _ => rfl) ?_
  refine zN_putR (n := 53) (show x.meth.name = "<init>" from hname) (by decide) sh_51 (by decide) (by decide) fX5_9 dX5_init_9 rfl rfl (fun C T N h => by cases h; exact zm_inT 392 (by decide +kernel) (by decide +kernel)) (zOkR_mono hO (by decide)) (fun hO => ?_)
  refine zA_aload_0 dX5_init_12 ?_
  refine zA_bipush (nI 40) dX5_init_13 bc_40 ?_
  refine zN_newa (n := 53) (i := 0) sh_53 (by decide) rfl rfl rfl ar_int dX5_init_15 (by decide) (by decide) (by decide) (by decide) (zOkR_mono hO (by decide)) (by decide) (fun k hk => hz k (Nat.le_trans (by decide) hk)) (fun k hk => hl k (Nat.le_trans (by decide) hk)) (fun _ _ => rfl) ?_
  refine zN_putR (n := 54) (show x.meth.name = "<init>" from hname) (by decide) sh_51 (by decide) (by decide) fX5_15 dX5_init_17 rfl rfl (fun C T N h => by cases h; exact zm_inT 393 (by decide +kernel) (by decide +kernel)) (zOkR_mono hO (by decide)) (fun hO => ?_)
  refine zA_aload_0 dX5_init_20 ?_
  refine zA_bipush (nI 40) dX5_init_21 bc_40 ?_
  refine zN_newa (n := 54) (i := 0) sh_54 (by decide) rfl rfl rfl ar_int dX5_init_23 (by decide) (by decide) (by decide) (by decide) (zOkR_mono hO (by decide)) (by decide) (fun k hk => hz k (Nat.le_trans (by decide) hk)) (fun k hk => hl k (Nat.le_trans (by decide) hk)) (fun _ _ => rfl) ?_
  refine zN_putR (n := 55) (show x.meth.name = "<init>" from hname) (by decide) sh_51 (by decide) (by decide) fX5_18 dX5_init_25 rfl rfl (fun C T N h => by cases h; exact zm_inT 394 (by decide +kernel) (by decide +kernel)) (zOkR_mono hO (by decide)) (fun hO => ?_)
  refine zA_aload_0 dX5_init_28 ?_
  refine zA_bipush (nI 40) dX5_init_29 bc_40 ?_
  refine zN_newa (n := 55) (i := 0) sh_55 (by decide) rfl rfl rfl ar_int dX5_init_31 (by decide) (by decide) (by decide) (by decide) (zOkR_mono hO (by decide)) (by decide) (fun k hk => hz k (Nat.le_trans (by decide) hk)) (fun k hk => hl k (Nat.le_trans (by decide) hk)) (fun _ _ => rfl) ?_
  refine zN_putR (n := 56) (show x.meth.name = "<init>" from hname) (by decide) sh_51 (by decide) (by decide) fX5_21 dX5_init_33 rfl rfl (fun C T N h => by cases h; exact zm_inT 395 (by decide +kernel) (by decide +kernel)) (zOkR_mono hO (by decide)) (fun hO => ?_)
  refine zA_aload_0 dX5_init_36 ?_
  refine zA_bipush (nI 32) dX5_init_37 bc_32 ?_
  refine zN_newa (n := 56) (i := 0) sh_56 (by decide) rfl rfl rfl ar_int dX5_init_39 (by decide) (by decide) (by decide) (by decide) (zOkR_mono hO (by decide)) (by decide) (fun k hk => hz k (Nat.le_trans (by decide) hk)) (fun k hk => hl k (Nat.le_trans (by decide) hk)) (fun _ _ => rfl) ?_
  refine zN_putR (n := 57) (show x.meth.name = "<init>" from hname) (by decide) sh_51 (by decide) (by decide) fX5_24 dX5_init_41 rfl rfl (fun C T N h => by cases h; exact zm_inT 396 (by decide +kernel) (by decide +kernel)) (zOkR_mono hO (by decide)) (fun hO => ?_)
  exact zN_ret rfl dX5_init_44 (by decide) (by decide) ⟨rfl, rfl, rfl, (zOkR_mono hO (by decide)), (fun k hk => hz k (Nat.le_trans (by decide) hk))⟩
def fI_X0_init_57 (gi : zm_I) : zm_I := gi
def rI_X0_init_57 (gr : zm_R) : zm_R := (zr (zr (zr (zr (zr (zr (zr (zr (zr (zr (zr (zr (zr (zr (zr (zrm gr 58 7) 57 4 58) 57 5 66) 57 6 67) 57 7 68) 57 8 69) 57 9 70) 57 10 71) 57 11 72) 57 12 73) 57 13 74) 57 0 3) 57 1 19) 57 14 27) 57 2 36) 57 3 2)
set_option maxRecDepth 100000 in
set_option maxHeartbeats 4000000 in
theorem ci_X0_init_57 (g : zm_G) (gi : zm_I) (gl : zm_J) (gr : zm_R) (hz : ∀ k, 58 ≤ k → gi k = fun _ => 0) (hl : ∀ k, 58 ≤ k → gl k = fun _ => 0) (hO : zOkR 58 gr) : zC_n g yX0_init mX0_init 1 17 274 [.ref 57, .ref 3, .ref 19, .ref 27, .ref 36, .ref 2] 58 gi gl gr 75 (fun gi' gl' gr' => gi' = fI_X0_init_57 gi ∧ gl' = gl ∧ gr' = rI_X0_init_57 gr ∧ zOkR 75 gr' ∧ ∀ k, 75 ≤ k → gi' k = fun _ => 0) := by
  refine zC_n_of [some (.ref 57), some (.ref 3), some (.ref 19), some (.ref 27), some (.ref 36), some (.ref 2)] (by decide) rfl rfl (Nat.le_of_ble_eq_true rfl) (fun x hname hGX => ?_)
  refine zA_aload_0 dX0_init_0 ?_
  refine zA_objI (zm_inT 417 (by decide +kernel) (by decide +kernel)) oi_in oi_co dX0_init_1 (by decide) (by simp [Value.category]) ?_
  refine zA_aload_0 dX0_init_4 ?_
  refine zA_bipush (nI 7) dX0_init_5 bc_7 ?_
  refine zA_bipush (nI 27) dX0_init_7 bc_27 ?_
  refine zN_mna (n := 58) (N := 7) (K := 27) rfl (by decide) (zm_inT 418 (by decide +kernel) (by decide +kernel)) hGX.1 ar_int dX0_init_9 (by decide) (by decide) (by decide) (by decide) (zOkR_mono hO (by decide)) (by decide) (fun k hk => hz k (Nat.le_trans (by decide) hk)) (fun hO => ?_)
  refine zN_putR (n := 66) (show x.meth.name = "<init>" from hname) (by decide) sh_57 (by decide) (by decide) fX0_13 dX0_init_13 rfl rfl (fun C T N h => by cases h; exact zm_inT 423 (by decide +kernel) (by decide +kernel)) (zOkR_mono hO (by decide)) (fun hO => ?_)
  refine zA_aload_0 dX0_init_16 ?_
  refine zA_iconst (nI 5) dX0_init_17 ic_5 ?_
  refine zN_newa (n := 66) (i := 0) sh_66 (by decide) rfl rfl rfl ar_int dX0_init_18 (by decide) (by decide) (by decide) (by decide) (zOkR_mono hO (by decide)) (by decide) (fun k hk => hz k (Nat.le_trans (by decide) hk)) (fun k hk => hl k (Nat.le_trans (by decide) hk)) (fun _ _ => rfl) ?_
  refine zN_putR (n := 67) (show x.meth.name = "<init>" from hname) (by decide) sh_57 (by decide) (by decide) fX0_18 dX0_init_20 rfl rfl (fun C T N h => by cases h; exact zm_inT 425 (by decide +kernel) (by decide +kernel)) (zOkR_mono hO (by decide)) (fun hO => ?_)
  refine zA_aload_0 dX0_init_23 ?_
  refine zA_iconst (nI 3) dX0_init_24 ic_3 ?_
  refine zN_newa (n := 67) (i := 0) sh_67 (by decide) rfl rfl rfl ar_int dX0_init_25 (by decide) (by decide) (by decide) (by decide) (zOkR_mono hO (by decide)) (by decide) (fun k hk => hz k (Nat.le_trans (by decide) hk)) (fun k hk => hl k (Nat.le_trans (by decide) hk)) (fun _ _ => rfl) ?_
  refine zN_putR (n := 68) (show x.meth.name = "<init>" from hname) (by decide) sh_57 (by decide) (by decide) fX0_22 dX0_init_27 rfl rfl (fun C T N h => by cases h; exact zm_inT 428 (by decide +kernel) (by decide +kernel)) (zOkR_mono hO (by decide)) (fun hO => ?_)
  refine zA_aload_0 dX0_init_30 ?_
  refine zA_bipush (nI 12) dX0_init_31 bc_12 ?_
  refine zN_newa (n := 68) (i := 0) sh_68 (by decide) rfl rfl rfl ar_int dX0_init_33 (by decide) (by decide) (by decide) (by decide) (zOkR_mono hO (by decide)) (by decide) (fun k hk => hz k (Nat.le_trans (by decide) hk)) (fun k hk => hl k (Nat.le_trans (by decide) hk)) (fun _ _ => rfl) ?_
  refine zN_putR (n := 69) (show x.meth.name = "<init>" from hname) (by decide) sh_57 (by decide) (by decide) fX0_25 dX0_init_35 rfl rfl (fun C T N h => by cases h; exact zm_inT 429 (by decide +kernel) (by decide +kernel)) (zOkR_mono hO (by decide)) (fun hO => ?_)
  refine zA_aload_0 dX0_init_38 ?_
  refine zA_iconst (nI 3) dX0_init_39 ic_3 ?_
  refine zN_newa (n := 69) (i := 0) sh_69 (by decide) rfl rfl rfl ar_int dX0_init_40 (by decide) (by decide) (by decide) (by decide) (zOkR_mono hO (by decide)) (by decide) (fun k hk => hz k (Nat.le_trans (by decide) hk)) (fun k hk => hl k (Nat.le_trans (by decide) hk)) (fun _ _ => rfl) ?_
  refine zN_putR (n := 70) (show x.meth.name = "<init>" from hname) (by decide) sh_57 (by decide) (by decide) fX0_28 dX0_init_42 rfl rfl (fun C T N h => by cases h; exact zm_inT 431 (by decide +kernel) (by decide +kernel)) (zOkR_mono hO (by decide)) (fun hO => ?_)
  refine zA_aload_0 dX0_init_45 ?_
  refine zA_iconst (nI 4) dX0_init_46 ic_4 ?_
  refine zN_newa (n := 70) (i := 0) sh_70 (by decide) rfl rfl rfl ar_int dX0_init_47 (by decide) (by decide) (by decide) (by decide) (zOkR_mono hO (by decide)) (by decide) (fun k hk => hz k (Nat.le_trans (by decide) hk)) (fun k hk => hl k (Nat.le_trans (by decide) hk)) (fun _ _ => rfl) ?_
  refine zN_putR (n := 71) (show x.meth.name = "<init>" from hname) (by decide) sh_57 (by decide) (by decide) fX0_31 dX0_init_49 rfl rfl (fun C T N h => by cases h; exact zm_inT 432 (by decide +kernel) (by decide +kernel)) (zOkR_mono hO (by decide)) (fun hO => ?_)
  refine zA_aload_0 dX0_init_52 ?_
  refine zA_iconst (nI 4) dX0_init_53 ic_4 ?_
  refine zN_newa (n := 71) (i := 0) sh_71 (by decide) rfl rfl rfl ar_int dX0_init_54 (by decide) (by decide) (by decide) (by decide) (zOkR_mono hO (by decide)) (by decide) (fun k hk => hz k (Nat.le_trans (by decide) hk)) (fun k hk => hl k (Nat.le_trans (by decide) hk)) (fun _ _ => rfl) ?_
  refine zN_putR (n := 72) (show x.meth.name = "<init>" from hname) (by decide) sh_57 (by decide) (by decide) fX0_34 dX0_init_56 rfl rfl (fun C T N h => by cases h; exact zm_inT 434 (by decide +kernel) (by decide +kernel)) (zOkR_mono hO (by decide)) (fun hO => ?_)
  refine zA_aload_0 dX0_init_59 ?_
  refine zA_iconst (nI 4) dX0_init_60 ic_4 ?_
  refine zN_newa (n := 72) (i := 0) sh_72 (by decide) rfl rfl rfl ar_int dX0_init_61 (by decide) (by decide) (by decide) (by decide) (zOkR_mono hO (by decide)) (by decide) (fun k hk => hz k (Nat.le_trans (by decide) hk)) (fun k hk => hl k (Nat.le_trans (by decide) hk)) (fun _ _ => rfl) ?_
  refine zN_putR (n := 73) (show x.meth.name = "<init>" from hname) (by decide) sh_57 (by decide) (by decide) fX0_37 dX0_init_63 rfl rfl (fun C T N h => by cases h; exact zm_inT 436 (by decide +kernel) (by decide +kernel)) (zOkR_mono hO (by decide)) (fun hO => ?_)
  refine zA_aload_0 dX0_init_66 ?_
  refine zA_bipush (nI 32) dX0_init_67 bc_32 ?_
  refine zN_newa (n := 73) (i := 0) sh_73 (by decide) rfl rfl rfl ar_int dX0_init_69 (by decide) (by decide) (by decide) (by decide) (zOkR_mono hO (by decide)) (by decide) (fun k hk => hz k (Nat.le_trans (by decide) hk)) (fun k hk => hl k (Nat.le_trans (by decide) hk)) (fun _ _ => rfl) ?_
  refine zN_putR (n := 74) (show x.meth.name = "<init>" from hname) (by decide) sh_57 (by decide) (by decide) fX0_40 dX0_init_71 rfl rfl (fun C T N h => by cases h; exact zm_inT 438 (by decide +kernel) (by decide +kernel)) (zOkR_mono hO (by decide)) (fun hO => ?_)
  refine zA_aload_0 dX0_init_74 ?_
  refine zA_bipush (nI 11) dX0_init_75 bc_11 ?_
  refine zN_newa (n := 74) (i := 3) sh_74 (by decide) rfl rfl rfl ar_long dX0_init_77 (by decide) (by decide) (by decide) (by decide) (zOkR_mono hO (by decide)) (by decide) (fun k hk => hz k (Nat.le_trans (by decide) hk)) (fun k hk => hl k (Nat.le_trans (by decide) hk)) (fun _ _ => rfl) ?_
  refine zN_putR (n := 75) (show x.meth.name = "<init>" from hname) (by decide) sh_57 (by decide) (by decide) fX0_43 dX0_init_79 rfl rfl (fun C T N h => by cases h; exact zm_inT 439 (by decide +kernel) (by decide +kernel)) (zOkR_mono hO (by decide)) (fun hO => ?_)
  refine zA_aload_0 dX0_init_82 ?_
  refine zA_aload_1 dX0_init_83 ?_
  refine zN_putR (n := 75) (show x.meth.name = "<init>" from hname) (by decide) sh_57 (by decide) (by decide) fX0_47 dX0_init_84 rfl rfl (fun C T N h => by cases h; exact zm_inT 419 (by decide +kernel) (by decide +kernel)) (zOkR_mono hO (by decide)) (fun hO => ?_)
  refine zA_aload_0 dX0_init_87 ?_
  refine zA_aload_2 dX0_init_88 ?_
  refine zN_putR (n := 75) (show x.meth.name = "<init>" from hname) (by decide) sh_57 (by decide) (by decide) fX0_51 dX0_init_89 rfl rfl (fun C T N h => by cases h; exact zm_inT 420 (by decide +kernel) (by decide +kernel)) (zOkR_mono hO (by decide)) (fun hO => ?_)
  refine zA_aload_0 dX0_init_92 ?_
  refine zA_aload_3 dX0_init_93 ?_
  refine zN_putRO (n := 75) (by decide) sh_57 (by decide) (by decide) fX0_55 dX0_init_94 rfl rfl (zOkR_mono hO (by decide)) (fun hO => ?_)
  refine zA_aload_0 dX0_init_97 ?_
  refine zA_aload_4 dX0_init_98 ?_
  refine zN_putR (n := 75) (show x.meth.name = "<init>" from hname) (by decide) sh_57 (by decide) (by decide) fX0_59 dX0_init_100 rfl rfl (fun C T N h => by cases h; exact zm_inT 421 (by decide +kernel) (by decide +kernel)) (zOkR_mono hO (by decide)) (fun hO => ?_)
  refine zA_aload_0 dX0_init_103 ?_
  refine zA_aload_5 dX0_init_104 ?_
  refine zN_putR (n := 75) (show x.meth.name = "<init>" from hname) (by decide) sh_57 (by decide) (by decide) fX0_63 dX0_init_106 rfl rfl (fun C T N h => by cases h; exact zm_inT 422 (by decide +kernel) (by decide +kernel)) (zOkR_mono hO (by decide)) (fun hO => ?_)
  exact zN_ret rfl dX0_init_109 (by decide) (by decide) ⟨rfl, rfl, rfl, (zOkR_mono hO (by decide)), (fun k hk => hz k (Nat.le_trans (by decide) hk))⟩
def fI_X7_init_76 (gi : zm_I) : zm_I := gi
def rI_X7_init_76 (gr : zm_R) : zm_R := (zr (zr (zr (zr (zr (zr (zr (zr gr 76 0 77) 76 1 78) 76 2 79) 76 3 80) 76 4 81) 76 5 82) 76 6 83) 76 7 84)
set_option maxRecDepth 100000 in
set_option maxHeartbeats 4000000 in
theorem ci_X7_init_76 (g : zm_G) (gi : zm_I) (gl : zm_J) (gr : zm_R) (hz : ∀ k, 77 ≤ k → gi k = fun _ => 0) (hl : ∀ k, 77 ≤ k → gl k = fun _ => 0) (hO : zOkR 77 gr) : zC_n g yX7_init mX7_init 1 8 156 [.ref 76] 77 gi gl gr 85 (fun gi' gl' gr' => gi' = fI_X7_init_76 gi ∧ gl' = gl ∧ gr' = rI_X7_init_76 gr ∧ zOkR 85 gr' ∧ ∀ k, 85 ≤ k → gi' k = fun _ => 0) := by
  refine zC_n_of [some (.ref 76)] (by decide) rfl rfl (Nat.le_of_ble_eq_true rfl) (fun x hname hGX => ?_)
  refine zA_aload_0 dX7_init_0 ?_
  refine zA_objI (zm_inT 224 (by decide +kernel) (by decide +kernel)) oi_in oi_co dX7_init_1 (by decide) (by simp [Value.category]) ?_
  refine zA_aload_0 dX7_init_4 ?_
  refine zA_bipush (nI 27) dX7_init_5 bc_27 ?_
  refine zN_newa (n := 77) (i := 0) sh_77 (by decide) rfl rfl rfl ar_int dX7_init_7 (by decide) (by decide) (by decide) (by decide) (zOkR_mono hO (by decide)) (by decide) (fun k hk => hz k (Nat.le_trans (by decide) hk)) (fun k hk => hl k (Nat.le_trans (by decide) hk)) (fun _ _ => rfl) ?_
  refine zN_putR (n := 78) (show x.meth.name = "<init>" from hname) (by decide) sh_76 (by decide) (by decide) fX7_11 dX7_init_9 rfl rfl (fun C T N h => by cases h; exact zm_inT 225 (by decide +kernel) (by decide +kernel)) (zOkR_mono hO (by decide)) (fun hO => ?_)
  refine zA_aload_0 dX7_init_12 ?_
  refine zA_bipush (nI 27) dX7_init_13 bc_27 ?_
  refine zN_newa (n := 78) (i := 0) sh_78 (by decide) rfl rfl rfl ar_int dX7_init_15 (by decide) (by decide) (by decide) (by decide) (zOkR_mono hO (by decide)) (by decide) (fun k hk => hz k (Nat.le_trans (by decide) hk)) (fun k hk => hl k (Nat.le_trans (by decide) hk)) (fun _ _ => rfl) ?_
  refine zN_putR (n := 79) (show x.meth.name = "<init>" from hname) (by decide) sh_76 (by decide) (by decide) fX7_15 dX7_init_17 rfl rfl (fun C T N h => by cases h; exact zm_inT 228 (by decide +kernel) (by decide +kernel)) (zOkR_mono hO (by decide)) (fun hO => ?_)
  refine zA_aload_0 dX7_init_20 ?_
  refine zA_bipush (nI 27) dX7_init_21 bc_27 ?_
  refine zN_newa (n := 79) (i := 0) sh_79 (by decide) rfl rfl rfl ar_int dX7_init_23 (by decide) (by decide) (by decide) (by decide) (zOkR_mono hO (by decide)) (by decide) (fun k hk => hz k (Nat.le_trans (by decide) hk)) (fun k hk => hl k (Nat.le_trans (by decide) hk)) (fun _ _ => rfl) ?_
  refine zN_putR (n := 80) (show x.meth.name = "<init>" from hname) (by decide) sh_76 (by decide) (by decide) fX7_18 dX7_init_25 rfl rfl (fun C T N h => by cases h; exact zm_inT 230 (by decide +kernel) (by decide +kernel)) (zOkR_mono hO (by decide)) (fun hO => ?_)
  refine zA_aload_0 dX7_init_28 ?_
  refine zA_bipush (nI 27) dX7_init_29 bc_27 ?_
  refine zN_newa (n := 80) (i := 0) sh_80 (by decide) rfl rfl rfl ar_int dX7_init_31 (by decide) (by decide) (by decide) (by decide) (zOkR_mono hO (by decide)) (by decide) (fun k hk => hz k (Nat.le_trans (by decide) hk)) (fun k hk => hl k (Nat.le_trans (by decide) hk)) (fun _ _ => rfl) ?_
  refine zN_putR (n := 81) (show x.meth.name = "<init>" from hname) (by decide) sh_76 (by decide) (by decide) fX7_21 dX7_init_33 rfl rfl (fun C T N h => by cases h; exact zm_inT 233 (by decide +kernel) (by decide +kernel)) (zOkR_mono hO (by decide)) (fun hO => ?_)
  refine zA_aload_0 dX7_init_36 ?_
  refine zA_bipush (nI 12) dX7_init_37 bc_12 ?_
  refine zN_newa (n := 81) (i := 0) sh_81 (by decide) rfl rfl rfl ar_int dX7_init_39 (by decide) (by decide) (by decide) (by decide) (zOkR_mono hO (by decide)) (by decide) (fun k hk => hz k (Nat.le_trans (by decide) hk)) (fun k hk => hl k (Nat.le_trans (by decide) hk)) (fun _ _ => rfl) ?_
  refine zN_putR (n := 82) (show x.meth.name = "<init>" from hname) (by decide) sh_76 (by decide) (by decide) fX7_24 dX7_init_41 rfl rfl (fun C T N h => by cases h; exact zm_inT 235 (by decide +kernel) (by decide +kernel)) (zOkR_mono hO (by decide)) (fun hO => ?_)
  refine zA_aload_0 dX7_init_44 ?_
  refine zA_bipush (nI 12) dX7_init_45 bc_12 ?_
  refine zN_newa (n := 82) (i := 0) sh_82 (by decide) rfl rfl rfl ar_int dX7_init_47 (by decide) (by decide) (by decide) (by decide) (zOkR_mono hO (by decide)) (by decide) (fun k hk => hz k (Nat.le_trans (by decide) hk)) (fun k hk => hl k (Nat.le_trans (by decide) hk)) (fun _ _ => rfl) ?_
  refine zN_putR (n := 83) (show x.meth.name = "<init>" from hname) (by decide) sh_76 (by decide) (by decide) fX7_27 dX7_init_49 rfl rfl (fun C T N h => by cases h; exact zm_inT 237 (by decide +kernel) (by decide +kernel)) (zOkR_mono hO (by decide)) (fun hO => ?_)
  refine zA_aload_0 dX7_init_52 ?_
  refine zA_bipush (nI 12) dX7_init_53 bc_12 ?_
  refine zN_newa (n := 83) (i := 0) sh_83 (by decide) rfl rfl rfl ar_int dX7_init_55 (by decide) (by decide) (by decide) (by decide) (zOkR_mono hO (by decide)) (by decide) (fun k hk => hz k (Nat.le_trans (by decide) hk)) (fun k hk => hl k (Nat.le_trans (by decide) hk)) (fun _ _ => rfl) ?_
  refine zN_putR (n := 84) (show x.meth.name = "<init>" from hname) (by decide) sh_76 (by decide) (by decide) fX7_30 dX7_init_57 rfl rfl (fun C T N h => by cases h; exact zm_inT 239 (by decide +kernel) (by decide +kernel)) (zOkR_mono hO (by decide)) (fun hO => ?_)
  refine zA_aload_0 dX7_init_60 ?_
  refine zA_bipush (nI 12) dX7_init_61 bc_12 ?_
  refine zN_newa (n := 84) (i := 0) sh_84 (by decide) rfl rfl rfl ar_int dX7_init_63 (by decide) (by decide) (by decide) (by decide) (zOkR_mono hO (by decide)) (by decide) (fun k hk => hz k (Nat.le_trans (by decide) hk)) (fun k hk => hl k (Nat.le_trans (by decide) hk)) (fun _ _ => rfl) ?_
  refine zN_putR (n := 85) (show x.meth.name = "<init>" from hname) (by decide) sh_76 (by decide) (by decide) fX7_33 dX7_init_65 rfl rfl (fun C T N h => by cases h; exact zm_inT 241 (by decide +kernel) (by decide +kernel)) (zOkR_mono hO (by decide)) (fun hO => ?_)
  exact zN_ret rfl dX7_init_68 (by decide) (by decide) ⟨rfl, rfl, rfl, (zOkR_mono hO (by decide)), (fun k hk => hz k (Nat.le_trans (by decide) hk))⟩
def fI_X8_init_75 (gi : zm_I) : zm_I := (fI_X7_init_76 gi)
def rI_X8_init_75 (gr : zm_R) : zm_R := (zr (zr (zr (zr (zr (zr (rI_X7_init_76 gr) 75 3 76) 75 4 85) 75 5 86) 75 0 3) 75 1 19) 75 2 57)
set_option maxRecDepth 100000 in
set_option maxHeartbeats 4000000 in
theorem ci_X8_init_75 (g : zm_G) (gi : zm_I) (gl : zm_J) (gr : zm_R) (hz : ∀ k, 76 ≤ k → gi k = fun _ => 0) (hl : ∀ k, 76 ≤ k → gl k = fun _ => 0) (hO : zOkR 76 gr) : zC_n g yX8_init mX8_init 2 11 172 [.ref 75, .ref 3, .ref 19, .ref 57] 76 gi gl gr 87 (fun gi' gl' gr' => gi' = fI_X8_init_75 gi ∧ gl' = gl ∧ gr' = rI_X8_init_75 gr ∧ zOkR 87 gr' ∧ ∀ k, 87 ≤ k → gi' k = fun _ => 0) := by
  refine zC_n_of [some (.ref 75), some (.ref 3), some (.ref 19), some (.ref 57)] (by decide) rfl rfl (Nat.le_of_ble_eq_true rfl) (fun x hname hGX => ?_)
  refine zA_aload_0 dX8_init_0 ?_
  refine zA_objI (zm_inT 492 (by decide +kernel) (by decide +kernel)) oi_in oi_co dX8_init_1 (by decide) (by simp [Value.category]) ?_
  refine zA_aload_0 dX8_init_4 ?_
  refine zN_new (n := 76) sh_76 (by decide) rfl (by decide) uTX7 (zm_inT 493 (by decide +kernel) (by decide +kernel)) (zm_inT 220 (by decide +kernel) (by decide +kernel)) (zm_inT 121 (by decide +kernel) (by decide +kernel)) dX8_init_5 (by decide) (by decide) (zOkR_mono hO (by decide)) (by decide) (fun k hk => hz k (Nat.le_trans (by decide) hk)) (fun k hk => hl k (Nat.le_trans (by decide) hk)) ?_
  refine zA_dup dX8_init_8 rfl ?_
  refine zN_cI hGX (ci_X7_init_76 g gi gl gr (fun k hk => hz k (Nat.le_trans (by decide) hk)) (fun k hk => hl k (Nat.le_trans (by decide) hk)) (zOkR_mono hO (by decide))) (by decide) calX7_init lX8_11 rfl (zm_inT 222 (by decide +kernel) (by decide +kernel)) dX8_init_9 (by decide) (by decide) (by decide) (by simp [Value.category]) rfl (by decide) (fun gi' gl' gr' ⟨e1, e2, e3, hO, hz⟩ => ?_)
  rw [e1] at hz
  rw [e3] at hO
  rw [e1, e2, e3]
  clear e1 e2 e3
  refine zN_putR (n := 85) (show x.meth.name = "<init>" from hname) (by decide) sh_75 (by decide) (by decide) fX8_12 dX8_init_12 rfl rfl (fun C T N h => by cases h; exact zm_inT 498 (by decide +kernel) (by decide +kernel)) (zOkR_mono hO (by decide)) (fun hO => ?_)
  refine zA_aload_0 dX8_init_15 ?_
  refine zA_iconst (nI 3) dX8_init_16 ic_3 ?_
  refine zN_newa (n := 85) (i := 0) sh_85 (by decide) rfl rfl rfl ar_int dX8_init_17 (by decide) (by decide) (by decide) (by decide) (zOkR_mono hO (by decide)) (by decide) (fun k hk => hz k (Nat.le_trans (by decide) hk)) (fun k hk => hl k (Nat.le_trans (by decide) hk)) (fun _ _ => rfl) ?_
  refine zN_putR (n := 86) (show x.meth.name = "<init>" from hname) (by decide) sh_75 (by decide) (by decide) fX8_18 dX8_init_19 rfl rfl (fun C T N h => by cases h; exact zm_inT 499 (by decide +kernel) (by decide +kernel)) (zOkR_mono hO (by decide)) (fun hO => ?_)
  refine zA_aload_0 dX8_init_22 ?_
  refine zA_iconst (nI 3) dX8_init_23 ic_3 ?_
  refine zN_newa (n := 86) (i := 0) sh_86 (by decide) rfl rfl rfl ar_int dX8_init_24 (by decide) (by decide) (by decide) (by decide) (zOkR_mono hO (by decide)) (by decide) (fun k hk => hz k (Nat.le_trans (by decide) hk)) (fun k hk => hl k (Nat.le_trans (by decide) hk)) (fun _ _ => rfl) ?_
  refine zN_putR (n := 87) (show x.meth.name = "<init>" from hname) (by decide) sh_75 (by decide) (by decide) fX8_22 dX8_init_26 rfl rfl (fun C T N h => by cases h; exact zm_inT 500 (by decide +kernel) (by decide +kernel)) (zOkR_mono hO (by decide)) (fun hO => ?_)
  refine zA_aload_0 dX8_init_29 ?_
  refine zA_aload_1 dX8_init_30 ?_
  refine zN_putR (n := 87) (show x.meth.name = "<init>" from hname) (by decide) sh_75 (by decide) (by decide) fX8_25 dX8_init_31 rfl rfl (fun C T N h => by cases h; exact zm_inT 495 (by decide +kernel) (by decide +kernel)) (zOkR_mono hO (by decide)) (fun hO => ?_)
  refine zA_aload_0 dX8_init_34 ?_
  refine zA_aload_2 dX8_init_35 ?_
  refine zN_putR (n := 87) (show x.meth.name = "<init>" from hname) (by decide) sh_75 (by decide) (by decide) fX8_29 dX8_init_36 rfl rfl (fun C T N h => by cases h; exact zm_inT 496 (by decide +kernel) (by decide +kernel)) (zOkR_mono hO (by decide)) (fun hO => ?_)
  refine zA_aload_0 dX8_init_39 ?_
  refine zA_aload_3 dX8_init_40 ?_
  refine zN_putR (n := 87) (show x.meth.name = "<init>" from hname) (by decide) sh_75 (by decide) (by decide) fX8_33 dX8_init_41 rfl rfl (fun C T N h => by cases h; exact zm_inT 497 (by decide +kernel) (by decide +kernel)) (zOkR_mono hO (by decide)) (fun hO => ?_)
  exact zN_ret rfl dX8_init_44 (by decide) (by decide) ⟨rfl, rfl, rfl, (zOkR_mono hO (by decide)), (fun k hk => hz k (Nat.le_trans (by decide) hk))⟩
