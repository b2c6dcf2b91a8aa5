/-! ===== the class: the terms in force ===== -/
def fCpA (gi : zm_I) (q0 q1 n : Nat) : zm_I := va_up gi q1 (va_cpy (gi q0) (gi q1) 0 0 n)
def fCpL (gi : zm_I) : zm_I := fCpA (fCpA (fCpA (fCpA gi 44 37 64) 45 38 64) 46 39 5) 47 40 5
def fCpy (gi : zm_I) : zm_I := zs (zs (zs (zs (fCpL gi) 36 5 (gi 43 5)) 36 6 (gi 43 6)) 36 7 (gi 43 7)) 36 8 (gi 43 8)
theorem fCpA_q (gi : zm_I) (q0 q1 n : Nat) {a : Nat} (h : a ≠ q1) : fCpA gi q0 q1 n a = gi a := zm_une h
theorem fCpA_at (gi : zm_I) (q0 q1 n : Nat) {j : Nat} (h : j < n) : fCpA gi q0 q1 n q1 j = gi q0 j := by
  unfold fCpA
  rw [va_up_self]
  unfold va_cpy
  rw [if_pos ⟨Nat.zero_le _, by omega⟩, Nat.sub_zero, Nat.zero_add]
theorem fCpL_q (gi : zm_I) {a : Nat} (h7 : a ≠ 37) (h8 : a ≠ 38) (h9 : a ≠ 39) (h0 : a ≠ 40) : fCpL gi a = gi a := by
  unfold fCpL
  rw [fCpA_q _ _ _ _ h0, fCpA_q _ _ _ _ h9, fCpA_q _ _ _ _ h8, fCpA_q _ _ _ _ h7]
theorem fCpy_q (gi : zm_I) {a : Nat} (h : a < 36 ∨ 40 < a) : fCpy gi a = gi a := by
  unfold fCpy
  rw [zs_nq (by omega), zs_nq (by omega), zs_nq (by omega), zs_nq (by omega), fCpL_q gi (by omega) (by omega) (by omega) (by omega)]
theorem fCpy_36 (gi : zm_I) : fCpy gi 36 5 = gi 43 5 ∧ fCpy gi 36 6 = gi 43 6 ∧ fCpy gi 36 7 = gi 43 7 ∧ fCpy gi 36 8 = gi 43 8 ∧ ∀ j, j < 5 ∨ 8 < j → fCpy gi 36 j = gi 36 j := by
  unfold fCpy
  refine ⟨?_, ?_, ?_, zs_eq _ _ _ _, fun j hj => ?_⟩
  · rw [zs_nj (by decide), zs_nj (by decide), zs_nj (by decide), zs_eq]
  · rw [zs_nj (by decide), zs_nj (by decide), zs_eq]
  · rw [zs_nj (by decide), zs_eq]
  · rw [zs_nj (by omega), zs_nj (by omega), zs_nj (by omega), zs_nj (by omega), fCpL_q gi (by decide) (by decide) (by decide) (by decide)]
theorem fCpy_37 (gi : zm_I) {c : Nat} (h : c < 64) : fCpy gi 37 c = gi 44 c ∧ fCpy gi 38 c = gi 45 c := by
  have e : ∀ a, a ≠ 36 → fCpy gi a = fCpL gi a := fun a h => by unfold fCpy; rw [zs_nq h, zs_nq h, zs_nq h, zs_nq h]
  rw [e 37 (by decide), e 38 (by decide)]
  unfold fCpL
  rw [fCpA_q _ _ _ _ (by decide), fCpA_q _ _ _ _ (by decide), fCpA_q _ _ _ _ (by decide), fCpA_at _ _ _ _ h, fCpA_q _ _ _ _ (by decide), fCpA_q _ _ _ _ (by decide), fCpA_at _ _ _ _ h, fCpA_q _ _ _ _ (by decide)]
  exact ⟨rfl, rfl⟩
theorem fCpy_39 (gi : zm_I) {l : Nat} (h : l < 5) : fCpy gi 39 l = gi 46 l ∧ fCpy gi 40 l = gi 47 l := by
  have e : ∀ a, a ≠ 36 → fCpy gi a = fCpL gi a := fun a h => by unfold fCpy; rw [zs_nq h, zs_nq h, zs_nq h, zs_nq h]
  rw [e 39 (by decide), e 40 (by decide)]
  unfold fCpL
  rw [fCpA_q _ _ _ _ (by decide), fCpA_at _ _ _ _ h, fCpA_q _ _ _ _ (by decide), fCpA_q _ _ _ _ (by decide), fCpA_at _ _ _ _ h, fCpA_q _ _ _ _ (by decide), fCpA_q _ _ _ _ (by decide), fCpA_q _ _ _ _ (by decide)]
  exact ⟨rfl, rfl⟩
theorem ct_copyFrom (g : zm_G) (gi : zm_I) (gl : zm_J) (r : Nat)  : zC_v g yX4_copyFrom mX4_copyFrom 1 [.ref 36, .ref 43] zSH gi gl (zRT r) (fun gi' gl' gr' => gi' = fCpy gi ∧ gl' = gl ∧ gr' = zRT r) := by
  refine zC_v_of [some (.ref 36), some (.ref 43)] (by decide) rfl rfl (Nat.le_of_ble_eq_true rfl) (fun x => ?_)
  refine zA_aload_1 dX4_copyFrom_0 ?_
  refine zA_getR sh_43 fX4_13 dX4_copyFrom_1 rfl (rt_43_0 _) ?_
  refine zA_iconst (nI 0) dX4_copyFrom_4 ic_0 ?_
  refine zA_aload_0 dX4_copyFrom_5 ?_
  refine zA_getR sh_36 fX4_13 dX4_copyFrom_6 rfl (rt_36_0 _) ?_
  refine zA_iconst (nI 0) dX4_copyFrom_9 ic_0 ?_
  refine zA_bipush (nI 64) dX4_copyFrom_10 bc_64 ?_
  refine zA_copy (n := 64) cpL dX4_copyFrom_12 (by decide) sh_44 sh_37 (by decide) (by decide) (by decide) ?_
  refine zA_aload_1 dX4_copyFrom_15 ?_
  refine zA_getR sh_43 fX4_17 dX4_copyFrom_16 rfl (rt_43_1 _) ?_
  refine zA_iconst (nI 0) dX4_copyFrom_19 ic_0 ?_
  refine zA_aload_0 dX4_copyFrom_20 ?_
  refine zA_getR sh_36 fX4_17 dX4_copyFrom_21 rfl (rt_36_1 _) ?_
  refine zA_iconst (nI 0) dX4_copyFrom_24 ic_0 ?_
  refine zA_bipush (nI 64) dX4_copyFrom_25 bc_64 ?_
  refine zA_copy (n := 64) cpL dX4_copyFrom_27 (by decide) sh_45 sh_38 (by decide) (by decide) (by decide) ?_
  refine zA_aload_1 dX4_copyFrom_30 ?_
  refine zA_getR sh_43 fX4_20 dX4_copyFrom_31 rfl (rt_43_2 _) ?_
  refine zA_iconst (nI 0) dX4_copyFrom_34 ic_0 ?_
  refine zA_aload_0 dX4_copyFrom_35 ?_
  refine zA_getR sh_36 fX4_20 dX4_copyFrom_36 rfl (rt_36_2 _) ?_
  refine zA_iconst (nI 0) dX4_copyFrom_39 ic_0 ?_
  refine zA_iconst (nI 5) dX4_copyFrom_40 ic_5 ?_
  refine zA_copy (n := 5) cpL dX4_copyFrom_41 (by decide) sh_46 sh_39 (by decide) (by decide) (by decide) ?_
  refine zA_aload_1 dX4_copyFrom_44 ?_
  refine zA_getR sh_43 fX4_23 dX4_copyFrom_45 rfl (rt_43_3 _) ?_
  refine zA_iconst (nI 0) dX4_copyFrom_48 ic_0 ?_
  refine zA_aload_0 dX4_copyFrom_49 ?_
  refine zA_getR sh_36 fX4_23 dX4_copyFrom_50 rfl (rt_36_3 _) ?_
  refine zA_iconst (nI 0) dX4_copyFrom_53 ic_0 ?_
  refine zA_iconst (nI 5) dX4_copyFrom_54 ic_5 ?_
  refine zA_copy (n := 5) cpL dX4_copyFrom_55 (by decide) sh_47 sh_40 (by decide) (by decide) (by decide) ?_
  show zA _ _ _ _ _ _ _ _ _ _ _ _ (_, fCpL gi, _, _)
  have e5 : fCpL gi 43 = gi 43 := fCpL_q gi (by decide) (by decide) (by decide) (by decide)
  refine zA_aload_0 dX4_copyFrom_58 ?_
  refine zA_aload_1 dX4_copyFrom_59 ?_
  refine zA_getI (v := (gi 43 5)) sh_43 fX4_30 dX4_copyFrom_60 rfl (congrFun e5 5) ?_
  refine zS_putI sh_36 fX4_30 dX4_copyFrom_63 rfl rfl ?_
  refine zA_aload_0 dX4_copyFrom_66 ?_
  refine zA_aload_1 dX4_copyFrom_67 ?_
  refine zA_getI (v := (gi 43 6)) sh_43 fX4_34 dX4_copyFrom_68 rfl (congrFun e5 6) ?_
  refine zS_putI sh_36 fX4_34 dX4_copyFrom_71 rfl rfl ?_
  refine zA_aload_0 dX4_copyFrom_74 ?_
  refine zA_aload_1 dX4_copyFrom_75 ?_
  refine zA_getI (v := (gi 43 7)) sh_43 fX4_43 dX4_copyFrom_76 rfl (congrFun e5 7) ?_
  refine zS_putI sh_36 fX4_43 dX4_copyFrom_79 rfl rfl ?_
  refine zA_aload_0 dX4_copyFrom_82 ?_
  refine zA_aload_1 dX4_copyFrom_83 ?_
  refine zA_getI (v := (gi 43 8)) sh_43 fX4_46 dX4_copyFrom_84 rfl (congrFun e5 8) ?_
  refine zS_putI sh_36 fX4_46 dX4_copyFrom_87 rfl rfl ?_
  exact zB_vret rfl dX4_copyFrom_90 (⟨rfl, rfl, rfl⟩)
theorem ct_terms (g : zm_G) (gi : zm_I) (gl : zm_J) (r : Nat) {T : Nat} (v : Int32) (hT1 : gi 0 10 = nI T) (hT5 : T ≤ 500) (hR : zx (gi 42 3) 73)  : zC_i g yX10_terms mX10_terms 10 [.ref 0, .int v] zSH gi gl (zRT r) (fun z gi' gl' gr' => (¬ (nI 0 ≤ v ∧ v ≤ nI T) ∧ z = -2 ∧ gi' = gi ∧ gl' = gl ∧ gr' = zRT r) ∨ (∃ n, n ≤ T ∧ v = nI n ∧ z = (if (fTx (zs gi 0 10 (nI 0)) n).1 = true then (fTx (zs gi 0 10 (nI 0)) n).2 43 7 else -1) ∧ gi' = (if (fTx (zs gi 0 10 (nI 0)) n).1 = true then fCpy (fTx (zs gi 0 10 (nI 0)) n).2 else (fTx (zs gi 0 10 (nI 0)) n).2) ∧ gl' = gl ∧ gr' = zRT r)) := by
  refine zC_i_of [some (.ref 0), some (.int v)] (by decide) rfl rfl (Nat.le_of_ble_eq_true rfl) (fun x => ?_)
  refine zA_iload_1 dX10_terms_0 ?_
  refine zA_if_lt 12 dX10_terms_1 (by decide) (fun h0 => ?_) (fun h0 => ?_)
  · refine zA_bipush (-2) dX10_terms_12 bc_m2 ?_
    exact zB_iret rfl dX10_terms_14 (Or.inl ⟨fun q => absurd h0 (Int32.not_lt.mpr q.1), rfl, rfl, rfl, rfl⟩)
  · refine zA_iload_1 dX10_terms_4 ?_
    refine zA_aload_0 dX10_terms_5 ?_
    refine zA_getI (v := (nI T)) sh_0 fX10_85 dX10_terms_6 rfl hT1 ?_
    refine zA_icmp_le 15 dX10_terms_9 (by decide) (fun h1 => ?_) (fun h1 => ?_)
    · obtain ⟨n, hn, rfl⟩ := zwi_nat (n := v) (V := T) ⟨Int32.not_lt.mp h0, h1⟩ (by omega)
      refine zA_aload_0 dX10_terms_15 ?_
      refine zA_iconst (nI 0) dX10_terms_16 ic_0 ?_
      refine zS_putI sh_0 fX10_85 dX10_terms_17 rfl rfl ?_
      refine zA_aload_0 dX10_terms_20 ?_
      refine zA_getR sh_0 fX10_50 dX10_terms_21 rfl (rt_0_6 _) ?_
      refine zA_iload_1 dX10_terms_24 ?_
      refine zA_cVi (ct_readText g ((zs gi 0 10 ((nI 0)))) gl r (by rw [zs_nq (by decide)]; exact hR) (n := n) (by omega)) calX6_readText stX6_readText lX10_93 dX10_terms_25 (by decide) (by simp [Value.category]) rfl (Nat.le_refl _) (Nat.le_refl _) sh_42 rfl (fun zz gi' gl' gr' ⟨hz, e1, e2, e3⟩ => ?_)
      rw [hz, e1, e2, e3]
      clear hz e1 e2 e3
      refine zA_if_neB 33 dX10_terms_28 (by decide) (fun hb => ?_) (fun hb => ?_)
      · refine zA_aload_0 dX10_terms_33 ?_
        refine zA_getR sh_0 fX10_41 dX10_terms_34 rfl (rt_0_5 _) ?_
        refine zA_aload_0 dX10_terms_37 ?_
        refine zA_getR sh_0 fX10_50 dX10_terms_38 rfl (rt_0_6 _) ?_
        refine zA_getR sh_42 fX10_97 dX10_terms_41 rfl (rt_42_1 _) ?_
        refine zA_cVv (ct_copyFrom g (fTx (zs gi 0 10 (nI 0)) n).2 gl r) calX4_copyFrom stX4_copyFrom lX10_100 dX10_terms_44 (by decide) (by simp [Value.category]) rfl (Nat.le_refl _) (Nat.le_refl _) sh_36 rfl (fun gi' gl' gr' ⟨e1, e2, e3⟩ => ?_)
        rw [e1, e2, e3]
        clear e1 e2 e3
        refine zA_aload_0 dX10_terms_47 ?_
        refine zA_getR sh_0 fX10_41 dX10_terms_48 rfl (rt_0_5 _) ?_
        refine zA_getI (v := ((fTx (zs gi 0 10 (nI 0)) n).2 43 7)) sh_36 fX10_104 dX10_terms_51 rfl ((fCpy_36 (fTx (zs gi 0 10 (nI 0)) n).2).2.2.1) ?_
        exact zB_iret rfl dX10_terms_54 (Or.inr ⟨n, hn, rfl, (if_pos hb).symm, (if_pos hb).symm, rfl, rfl⟩)
      · refine zA_iconst (-1) dX10_terms_31 ic_m1 ?_
        exact zB_iret rfl dX10_terms_32 (Or.inr ⟨n, hn, rfl, (if_neg hb).symm, (if_neg hb).symm, rfl, rfl⟩)
    · refine zA_bipush (-2) dX10_terms_12 bc_m2 ?_
      exact zB_iret rfl dX10_terms_14 (Or.inl ⟨fun q => h1 q.2, rfl, rfl, rfl, rfl⟩)
