theorem ct_round (g : zm_G) (gi : zm_I) (gl : zm_J) (r : Nat) {V : Nat} (hV : gi 3 3 = nI V) (hV8 : V ≤ 8) {W Pn E K : Nat} (hRs : zRs 27 W Pn E K gi) (hE24 : E ≤ 24) (a b : Int32)  : zC_i g yX10_round mX10_round 7 [.ref 0, .int a, .int b] zSH gi gl (zRT r) (fun z gi' gl' gr' => ((zin W a ∧ (nI 1 ≤ b ∧ b ≤ nI 3) ∧ (V * Pn + 1) ^ zi b ≤ 1200) ∧ z = (fSeek V W Pn E K (zi b) (zi a) (gi, gl)).1 75 6 ∧ gi' = (fSeek V W Pn E K (zi b) (zi a) (gi, gl)).1 ∧ gl' = (fSeek V W Pn E K (zi b) (zi a) (gi, gl)).2 ∧ gr' = zRT 76) ∨ (¬ ((zin W a ∧ (nI 1 ≤ b ∧ b ≤ nI 3) ∧ (V * Pn + 1) ^ zi b ≤ 1200)) ∧ z = -1 ∧ gi' = gi ∧ gl' = gl ∧ gr' = zRT r)) := by
  have hW := hRs.1
  have hW3 := hRs.2.1
  have hP := hRs.2.2.1
  have hP4 := hRs.2.2.2.1
  have hE := hRs.2.2.2.2.1
  refine zC_i_of [some (.ref 0), some (.int a), some (.int b)] (by decide) rfl rfl (Nat.le_of_ble_eq_true rfl) (fun x => ?_)
  refine zA_aload_0 dX10_round_0 ?_
  refine zA_getR sh_0 fX10_27 dX10_round_1 rfl (rt_0_3 _) ?_
  refine zA_iload_1 dX10_round_4 ?_
  refine zA_cVi (ct_hasVanZ g gi gl r hW (by omega) a) calX1_hasVan stX1_hasVan lX10_147 dX10_round_5 (by decide) (by simp [Value.category]) rfl (Nat.le_refl _) (Nat.le_refl _) sh_19 rfl (fun zz gi' gl' gr' ⟨hz, q1, q2, q3⟩ => ?_)
  rw [hz, q1, q2, q3]
  clear hz q1 q2 q3
  refine zA_if_eqB 34 dX10_round_8 (by decide) (fun g0 => ?_) (fun g0 => ?_)
  · refine zA_iconst (-1) dX10_round_34 ic_m1 ?_
    exact zB_iret rfl dX10_round_35 (Or.inr ⟨fun q => (g0) q.1, rfl, rfl, rfl, rfl⟩)
  · refine zA_iload_2 dX10_round_11 ?_
    refine zA_iconst (nI 1) dX10_round_12 ic_1 ?_
    refine zA_iconst (nI 3) dX10_round_13 ic_3 ?_
    refine zA_cSi (ct_isWithin g _ _ _ b (nI 1) (nI 3)) calX10_isWithin stX10_isWithin lX10_113 dX10_round_14 (by decide) (by simp [Value.category]) rfl (Nat.le_refl _) (Nat.le_refl _) (fun zz gi' gl' gr' ⟨hz, q1, q2, q3⟩ => ?_)
    rw [hz, q1, q2, q3]
    clear hz q1 q2 q3
    refine zA_if_eqB 34 dX10_round_17 (by decide) (fun g1 => ?_) (fun g1 => ?_)
    · refine zA_iconst (-1) dX10_round_34 ic_m1 ?_
      exact zB_iret rfl dX10_round_35 (Or.inr ⟨fun q => (g1) q.2.1, rfl, rfl, rfl, rfl⟩)
    · obtain ⟨v, hv, rfl⟩ := zin_nat g0 (by omega)
      obtain ⟨n, hn, rfl⟩ : ∃ n, n ≤ 3 ∧ b = nI n := zwi_nat ⟨Int32.le_trans (by decide) g1.1, g1.2⟩ (by omega)
      have hzn : zi (nI n) = n := zi_nI (by omega)
      have hzv : zi (nI v) = v := zi_nI (by omega)
      have hpow : (V * Pn + 1) ^ n ≤ 33 ^ 3 := Nat.le_trans (Nat.pow_le_pow_left (by have := Nat.mul_le_mul hV8 hP4; omega) n) (Nat.pow_le_pow_right (by decide) hn)
      refine zA_aload_0 dX10_round_20 ?_
      refine zA_getR sh_0 fX10_75 dX10_round_21 rfl (rt_0_9 _) ?_
      refine zA_iload_2 dX10_round_24 ?_
      refine zA_cVi (ct_rowsFor g gi gl r (V := V) (Pn := Pn) (n := n) hV hP hn) calX8_rowsFor stX8_rowsFor lX10_230 dX10_round_25 (by decide) (by simp [Value.category]) rfl (Nat.le_refl _) (Nat.le_refl _) sh_75 rfl (fun zz gi' gl' gr' ⟨hz, q1, q2, q3⟩ => ?_)
      rw [hz, q1, q2, q3]
      clear hz q1 q2 q3
      refine zA_sipush (nI 1200) dX10_round_28 sc_1200 ?_
      refine zA_icmp_leN 36 dX10_round_31 (by decide) (by omega) (by omega) (fun g2 => ?_) (fun g2 => ?_)
      · refine zA_aload_0 dX10_round_36 ?_
        refine zA_getR sh_0 fX10_75 dX10_round_37 rfl (rt_0_9 _) ?_
        refine zA_aload_0 dX10_round_40 ?_
        refine zA_getR sh_0 fX10_34 dX10_round_41 rfl (rt_0_4 _) ?_
        refine zA_iload_1 dX10_round_44 ?_
        refine zA_iload_2 dX10_round_45 ?_
        refine zA_cVv (ct_seek g gi gl r hRs hE24 hV hV8 hv hn (by omega)) calX8_seek stX8_seek lX10_233 dX10_round_46 (by decide) (by simp [Value.category]) rfl (Nat.le_refl _) (Nat.le_refl _) sh_75 rfl (fun gi' gl' gr' ⟨q1, q2, q3⟩ => ?_)
        rw [q1, q2, q3]
        clear q1 q2 q3
        refine zA_aload_0 dX10_round_49 ?_
        refine zA_getR sh_0 fX10_75 dX10_round_50 rfl (rt_0_9 _) ?_
        refine zA_getI (v := ((fSeek V W Pn E K n v (gi, gl)).1 75 6)) sh_75 fX10_237 dX10_round_53 rfl rfl ?_
        exact zB_iret rfl dX10_round_56 (Or.inl ⟨⟨g0, g1, by rw [hzn]; omega⟩, by rw [hzn, hzv], by rw [hzn, hzv], by rw [hzn, hzv], rfl⟩)
      · refine zA_iconst (-1) dX10_round_34 ic_m1 ?_
        exact zB_iret rfl dX10_round_35 (Or.inr ⟨fun q => absurd q.2.2 (by rw [hzn]; omega), rfl, rfl, rfl, rfl⟩)
