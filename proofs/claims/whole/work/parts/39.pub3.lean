def fPut4 (gi : zm_I) (T : Nat) (x : Int32) : zm_I := (zs (zs (zs (zs (zs (zs (zs (zs gi 1 (T + 0) (((x) >>> (nI 24 &&& 31)).toInt8.toInt32).toInt8.toInt32) 0 10 (nI (T + 0 + 1))) 1 (T + 1) (((x) >>> (nI 16 &&& 31)).toInt8.toInt32).toInt8.toInt32) 0 10 (nI (T + 1 + 1))) 1 (T + 2) (((x) >>> (nI 8 &&& 31)).toInt8.toInt32).toInt8.toInt32) 0 10 (nI (T + 2 + 1))) 1 (T + 3) (((x) >>> (nI 0 &&& 31)).toInt8.toInt32).toInt8.toInt32) 0 10 (nI (T + 3 + 1)))
theorem ct_putBytes (g : zm_G) (gi : zm_I) (gl : zm_J) (r : Nat) {T : Nat} (hT : gi 0 10 = nI T) (hT4 : T + 4 ≤ 500) (x : Int32)  : zC_v g yX10_putBytes mX10_putBytes 0 [.ref 0, .int x] zSH gi gl (zRT r) (fun gi' gl' gr' => gi' = fPut4 gi T x ∧ gl' = gl ∧ gr' = zRT r) := by
  refine zC_v_of [some (.ref 0), some (.int x), none] (by decide) rfl rfl (Nat.le_of_ble_eq_true rfl) (fun x => ?_)
  refine zA_bipush (nI 24) dX10_putBytes_0 bc_24 ?_
  refine zA_istore_2 dX10_putBytes_2 rfl ?_
  refine zA_iload_2 dX10_putBytes_3 ?_
  refine zA_if_lt 46 dX10_putBytes_4 (by decide) (fun hh => absurd hh (by decide)) (fun _ => ?_)
  refine zA_aload_0 dX10_putBytes_7 ?_
  refine zA_getI (v := (nI T)) sh_0 fX10_85 dX10_putBytes_8 rfl hT ?_
  refine zA_sipush (nI 500) dX10_putBytes_11 sc_500 ?_
  refine zA_icmp_geN 40 dX10_putBytes_14 (by decide) (by omega) (by omega) (fun h0 => ?_) (fun h0 => ?_)
  · exact absurd h0 (by omega)
  · refine zA_aload_0 dX10_putBytes_17 ?_
    refine zA_getR sh_0 fX10_9 dX10_putBytes_18 rfl (rt_0_0 _) ?_
    refine zA_aload_0 dX10_putBytes_21 ?_
    refine zA_getI (v := (nI T)) sh_0 fX10_85 dX10_putBytes_22 rfl hT ?_
    refine zA_iload_1 dX10_putBytes_25 ?_
    refine zA_iload_2 dX10_putBytes_26 ?_
    refine zA_ishr dX10_putBytes_27 ?_
    refine zA_i2b dX10_putBytes_28 ?_
    refine zS_bast T sh_1 dX10_putBytes_29 rfl (by omega) (by decide) ?_
    refine zA_aload_0 dX10_putBytes_30 ?_
    refine zA_dup dX10_putBytes_31 rfl ?_
    refine zA_getI (v := (nI T)) sh_0 fX10_85 dX10_putBytes_32 rfl hT ?_
    refine zA_iconst (nI 1) dX10_putBytes_35 ic_1 ?_
    refine zA_iaddN dX10_putBytes_36 ?_
    refine zS_putI sh_0 fX10_85 dX10_putBytes_37 rfl rfl ?_
    refine zA_iinc_2 (v := nI 16) dX10_putBytes_40 (by decide) rfl ?_
    refine zA_goto 3 dX10_putBytes_43 (by decide) ?_
    refine zA_iload_2 dX10_putBytes_3 ?_
    refine zA_if_lt 46 dX10_putBytes_4 (by decide) (fun hh => absurd hh (by decide)) (fun _ => ?_)
    refine zA_aload_0 dX10_putBytes_7 ?_
    refine zA_getI (v := (nI (T + 1))) sh_0 fX10_85 dX10_putBytes_8 rfl rfl ?_
    refine zA_sipush (nI 500) dX10_putBytes_11 sc_500 ?_
    refine zA_icmp_geN 40 dX10_putBytes_14 (by decide) (by omega) (by omega) (fun h1 => ?_) (fun h1 => ?_)
    · exact absurd h1 (by omega)
    · refine zA_aload_0 dX10_putBytes_17 ?_
      refine zA_getR sh_0 fX10_9 dX10_putBytes_18 rfl (rt_0_0 _) ?_
      refine zA_aload_0 dX10_putBytes_21 ?_
      refine zA_getI (v := (nI (T + 1))) sh_0 fX10_85 dX10_putBytes_22 rfl rfl ?_
      refine zA_iload_1 dX10_putBytes_25 ?_
      refine zA_iload_2 dX10_putBytes_26 ?_
      refine zA_ishr dX10_putBytes_27 ?_
      refine zA_i2b dX10_putBytes_28 ?_
      refine zS_bast (T + 1) sh_1 dX10_putBytes_29 rfl (by omega) (by decide) ?_
      refine zA_aload_0 dX10_putBytes_30 ?_
      refine zA_dup dX10_putBytes_31 rfl ?_
      refine zA_getI (v := (nI (T + 1))) sh_0 fX10_85 dX10_putBytes_32 rfl rfl ?_
      refine zA_iconst (nI 1) dX10_putBytes_35 ic_1 ?_
      refine zA_iaddN dX10_putBytes_36 ?_
      refine zS_putI sh_0 fX10_85 dX10_putBytes_37 rfl rfl ?_
      refine zA_iinc_2 (v := nI 8) dX10_putBytes_40 (by decide) rfl ?_
      refine zA_goto 3 dX10_putBytes_43 (by decide) ?_
      refine zA_iload_2 dX10_putBytes_3 ?_
      refine zA_if_lt 46 dX10_putBytes_4 (by decide) (fun hh => absurd hh (by decide)) (fun _ => ?_)
      refine zA_aload_0 dX10_putBytes_7 ?_
      refine zA_getI (v := (nI ((T + 1) + 1))) sh_0 fX10_85 dX10_putBytes_8 rfl rfl ?_
      refine zA_sipush (nI 500) dX10_putBytes_11 sc_500 ?_
      refine zA_icmp_geN 40 dX10_putBytes_14 (by decide) (by omega) (by omega) (fun h2 => ?_) (fun h2 => ?_)
      · exact absurd h2 (by omega)
      · refine zA_aload_0 dX10_putBytes_17 ?_
        refine zA_getR sh_0 fX10_9 dX10_putBytes_18 rfl (rt_0_0 _) ?_
        refine zA_aload_0 dX10_putBytes_21 ?_
        refine zA_getI (v := (nI ((T + 1) + 1))) sh_0 fX10_85 dX10_putBytes_22 rfl rfl ?_
        refine zA_iload_1 dX10_putBytes_25 ?_
        refine zA_iload_2 dX10_putBytes_26 ?_
        refine zA_ishr dX10_putBytes_27 ?_
        refine zA_i2b dX10_putBytes_28 ?_
        refine zS_bast ((T + 1) + 1) sh_1 dX10_putBytes_29 rfl (by omega) (by decide) ?_
        refine zA_aload_0 dX10_putBytes_30 ?_
        refine zA_dup dX10_putBytes_31 rfl ?_
        refine zA_getI (v := (nI ((T + 1) + 1))) sh_0 fX10_85 dX10_putBytes_32 rfl rfl ?_
        refine zA_iconst (nI 1) dX10_putBytes_35 ic_1 ?_
        refine zA_iaddN dX10_putBytes_36 ?_
        refine zS_putI sh_0 fX10_85 dX10_putBytes_37 rfl rfl ?_
        refine zA_iinc_2 (v := nI 0) dX10_putBytes_40 (by decide) rfl ?_
        refine zA_goto 3 dX10_putBytes_43 (by decide) ?_
        refine zA_iload_2 dX10_putBytes_3 ?_
        refine zA_if_lt 46 dX10_putBytes_4 (by decide) (fun hh => absurd hh (by decide)) (fun _ => ?_)
        refine zA_aload_0 dX10_putBytes_7 ?_
        refine zA_getI (v := (nI (((T + 1) + 1) + 1))) sh_0 fX10_85 dX10_putBytes_8 rfl rfl ?_
        refine zA_sipush (nI 500) dX10_putBytes_11 sc_500 ?_
        refine zA_icmp_geN 40 dX10_putBytes_14 (by decide) (by omega) (by omega) (fun h3 => ?_) (fun h3 => ?_)
        · exact absurd h3 (by omega)
        · refine zA_aload_0 dX10_putBytes_17 ?_
          refine zA_getR sh_0 fX10_9 dX10_putBytes_18 rfl (rt_0_0 _) ?_
          refine zA_aload_0 dX10_putBytes_21 ?_
          refine zA_getI (v := (nI (((T + 1) + 1) + 1))) sh_0 fX10_85 dX10_putBytes_22 rfl rfl ?_
          refine zA_iload_1 dX10_putBytes_25 ?_
          refine zA_iload_2 dX10_putBytes_26 ?_
          refine zA_ishr dX10_putBytes_27 ?_
          refine zA_i2b dX10_putBytes_28 ?_
          refine zS_bast (((T + 1) + 1) + 1) sh_1 dX10_putBytes_29 rfl (by omega) (by decide) ?_
          refine zA_aload_0 dX10_putBytes_30 ?_
          refine zA_dup dX10_putBytes_31 rfl ?_
          refine zA_getI (v := (nI (((T + 1) + 1) + 1))) sh_0 fX10_85 dX10_putBytes_32 rfl rfl ?_
          refine zA_iconst (nI 1) dX10_putBytes_35 ic_1 ?_
          refine zA_iaddN dX10_putBytes_36 ?_
          refine zS_putI sh_0 fX10_85 dX10_putBytes_37 rfl rfl ?_
          refine zA_iinc_2 (v := (-8)) dX10_putBytes_40 (by decide) rfl ?_
          refine zA_goto 3 dX10_putBytes_43 (by decide) ?_
          refine zA_iload_2 dX10_putBytes_3 ?_
          refine zA_if_lt 46 dX10_putBytes_4 (by decide) (fun _ => ?_) (fun hh => absurd (by decide) hh)
          exact zB_vret rfl dX10_putBytes_46 (⟨rfl, rfl, rfl⟩)
def fFeed (gi : zm_I) (T : Nat) (a b c d e : Int32) : zm_I := fPut4 (fPut4 (fPut4 (fPut4 (fPut4 gi T a) (T + 4) b) (T + 8) c) (T + 12) d) (T + 16) e
theorem fPut4_t (gi : zm_I) (T : Nat) (x : Int32) : fPut4 gi T x 0 10 = nI (T + 4) := by unfold fPut4; rw [zs_eq]
theorem ct_feed (g : zm_G) (gi : zm_I) (gl : zm_J) (r : Nat) {T : Nat} (hT : gi 0 10 = nI T) (hT5 : T ≤ 500) (a b c d e : Int32)  : zC_i g yX10_feed mX10_feed 1 [.ref 0, .int a, .int b, .int c, .int d, .int e] zSH gi gl (zRT r) (fun z gi' gl' gr' => (T + 20 ≤ 500 ∧ z = nI (T + 20) ∧ gi' = fFeed gi T a b c d e ∧ gl' = gl ∧ gr' = zRT r) ∨ (¬ (T + 20 ≤ 500) ∧ z = -1 ∧ gi' = gi ∧ gl' = gl ∧ gr' = zRT r)) := by
  refine zC_i_of [some (.ref 0), some (.int a), some (.int b), some (.int c), some (.int d), some (.int e)] (by decide) rfl rfl (Nat.le_of_ble_eq_true rfl) (fun x => ?_)
  refine zA_aload_0 dX10_feed_0 ?_
  refine zA_getI (v := (nI T)) sh_0 fX10_85 dX10_feed_1 rfl hT ?_
  refine zA_bipush (nI 20) dX10_feed_4 bc_20 ?_
  refine zA_iaddN dX10_feed_6 ?_
  refine zA_sipush (nI 500) dX10_feed_7 sc_500 ?_
  refine zA_icmp_leN 15 dX10_feed_10 (by decide) (by omega) (by omega) (fun g0 => ?_) (fun g0 => ?_)
  · refine zA_aload_0 dX10_feed_15 ?_
    refine zA_iload_1 dX10_feed_16 ?_
    refine zA_cVv (ct_putBytes g gi gl r (T := T + 0) (hT) (by omega) a) calX10_putBytes stX10_putBytes lX10_89 dX10_feed_17 (by decide) (by simp [Value.category]) rfl (Nat.le_refl _) (Nat.le_refl _) sh_0 rfl (fun gi' gl' gr' ⟨q1, q2, q3⟩ => ?_)
    rw [q1, q2, q3]
    clear q1 q2 q3
    refine zA_aload_0 dX10_feed_20 ?_
    refine zA_iload_2 dX10_feed_21 ?_
    refine zA_cVv (ct_putBytes g (fPut4 gi (T + 0) a) gl r (T := T + 4) (fPut4_t _ _ _) (by omega) b) calX10_putBytes stX10_putBytes lX10_89 dX10_feed_22 (by decide) (by simp [Value.category]) rfl (Nat.le_refl _) (Nat.le_refl _) sh_0 rfl (fun gi' gl' gr' ⟨q1, q2, q3⟩ => ?_)
    rw [q1, q2, q3]
    clear q1 q2 q3
    refine zA_aload_0 dX10_feed_25 ?_
    refine zA_iload_3 dX10_feed_26 ?_
    refine zA_cVv (ct_putBytes g (fPut4 (fPut4 gi (T + 0) a) (T + 4) b) gl r (T := T + 8) (fPut4_t _ _ _) (by omega) c) calX10_putBytes stX10_putBytes lX10_89 dX10_feed_27 (by decide) (by simp [Value.category]) rfl (Nat.le_refl _) (Nat.le_refl _) sh_0 rfl (fun gi' gl' gr' ⟨q1, q2, q3⟩ => ?_)
    rw [q1, q2, q3]
    clear q1 q2 q3
    refine zA_aload_0 dX10_feed_30 ?_
    refine zA_iload_4 dX10_feed_31 ?_
    refine zA_cVv (ct_putBytes g (fPut4 (fPut4 (fPut4 gi (T + 0) a) (T + 4) b) (T + 8) c) gl r (T := T + 12) (fPut4_t _ _ _) (by omega) d) calX10_putBytes stX10_putBytes lX10_89 dX10_feed_33 (by decide) (by simp [Value.category]) rfl (Nat.le_refl _) (Nat.le_refl _) sh_0 rfl (fun gi' gl' gr' ⟨q1, q2, q3⟩ => ?_)
    rw [q1, q2, q3]
    clear q1 q2 q3
    refine zA_aload_0 dX10_feed_36 ?_
    refine zA_iload_5 dX10_feed_37 ?_
    refine zA_cVv (ct_putBytes g (fPut4 (fPut4 (fPut4 (fPut4 gi (T + 0) a) (T + 4) b) (T + 8) c) (T + 12) d) gl r (T := T + 16) (fPut4_t _ _ _) (by omega) e) calX10_putBytes stX10_putBytes lX10_89 dX10_feed_39 (by decide) (by simp [Value.category]) rfl (Nat.le_refl _) (Nat.le_refl _) sh_0 rfl (fun gi' gl' gr' ⟨q1, q2, q3⟩ => ?_)
    rw [q1, q2, q3]
    clear q1 q2 q3
    refine zA_aload_0 dX10_feed_42 ?_
    refine zA_getI (v := (nI (T + 20))) sh_0 fX10_85 dX10_feed_43 rfl (fPut4_t _ _ _) ?_
    exact zB_iret rfl dX10_feed_46 (Or.inl ⟨g0, rfl, rfl, rfl, rfl⟩)
  · refine zA_iconst (-1) dX10_feed_13 ic_m1 ?_
    exact zB_iret rfl dX10_feed_14 (Or.inr ⟨by omega, rfl, rfl, rfl, rfl⟩)
theorem ct_clear (g : zm_G) (gi : zm_I) (gl : zm_J) (r : Nat) {W Pn E K : Nat} (hRs : zRs 27 W Pn E K gi) (hE24 : E ≤ 24) (a : Int32)  : zC_i g yX10_clear mX10_clear 3 [.ref 0, .int a] zSH gi gl (zRT r) (fun z gi' gl' gr' => (a = -1 ∧ z = nI E - nI 0 ∧ gi' = zs (fCutA gi 0 E) 27 9 (nI 0) ∧ gl' = gl ∧ gr' = zRT r) ∨ (¬ a = -1 ∧ zin W a ∧ z = nI E - fTakeLA gi a E 27 8 ∧ gi' = fTakeLA gi a E ∧ gl' = gl ∧ gr' = zRT r) ∨ (¬ a = -1 ∧ ¬ zin W a ∧ z = -2 ∧ gi' = gi ∧ gl' = gl ∧ gr' = zRT r)) := by
  have hW := hRs.1
  have hW3 := hRs.2.1
  have hP := hRs.2.2.1
  have hP4 := hRs.2.2.2.1
  have hE := hRs.2.2.2.2.1
  have h7 := hRs.2.2.2.2.2.2.1
  refine zC_i_of [some (.ref 0), some (.int a), none] (by decide) rfl rfl (Nat.le_of_ble_eq_true rfl) (fun x => ?_)
  refine zA_iload_1 dX10_clear_0 ?_
  refine zA_iconst (-1) dX10_clear_1 ic_m1 ?_
  refine zA_icmp_eq 19 dX10_clear_2 (by decide) (fun g0 => ?_) (fun g0 => ?_)
  · refine zA_aload_0 dX10_clear_19 ?_
    refine zA_getR sh_0 fX10_34 dX10_clear_20 rfl (rt_0_4 _) ?_
    refine zA_getI (v := (nI E)) sh_27 fX10_170 dX10_clear_23 rfl hE ?_
    refine zA_istore_2 dX10_clear_26 rfl ?_
    refine zA_iload_1 dX10_clear_27 ?_
    refine zA_iconst (-1) dX10_clear_28 ic_m1 ?_
    refine zA_icmp_ne 51 dX10_clear_29 (by decide) (fun g1 => ?_) (fun g1 => ?_)
    · exact absurd g0 g1
    · refine zA_aload_0 dX10_clear_32 ?_
      refine zA_getR sh_0 fX10_34 dX10_clear_33 rfl (rt_0_4 _) ?_
      refine zA_iconst (nI 0) dX10_clear_36 ic_0 ?_
      refine zA_cVv (ct_cutEntriesA g gi gl r (k := 0) (E := E) hE (by omega) (by omega) (fun i hi => (h7 i hi).1) (fun i hi => ⟨(h7 i hi).2.1.1, Nat.lt_of_lt_of_le (h7 i hi).2.1.2 hW3⟩)) calX7_cutEntries stX7_cutEntries lX10_182 dX10_clear_37 (by decide) (by simp [Value.category]) rfl (Nat.le_refl _) (Nat.le_refl _) sh_27 rfl (fun gi' gl' gr' ⟨q1, q2, q3⟩ => ?_)
      rw [q1, q2, q3]
      clear q1 q2 q3
      refine zA_aload_0 dX10_clear_40 ?_
      refine zA_getR sh_0 fX10_34 dX10_clear_41 rfl (rt_0_4 _) ?_
      refine zA_iconst (nI 0) dX10_clear_44 ic_0 ?_
      refine zS_putI sh_27 fX10_176 dX10_clear_45 rfl rfl ?_
      refine zA_goto 59 dX10_clear_48 (by decide) ?_
      refine zA_iload_2 dX10_clear_59 ?_
      refine zA_aload_0 dX10_clear_60 ?_
      refine zA_getR sh_0 fX10_34 dX10_clear_61 rfl (rt_0_4 _) ?_
      refine zA_getI (v := (nI 0)) sh_27 fX10_170 dX10_clear_64 rfl (by rw [zs_nj (by decide)]; exact fCutA_8 gi 0 E) ?_
      refine zA_isub dX10_clear_67 ?_
      exact zB_iret rfl dX10_clear_68 (Or.inl ⟨g0, rfl, rfl, rfl, rfl⟩)
  · refine zA_aload_0 dX10_clear_5 ?_
    refine zA_getR sh_0 fX10_27 dX10_clear_6 rfl (rt_0_3 _) ?_
    refine zA_iload_1 dX10_clear_9 ?_
    refine zA_cVi (ct_hasVanZ g gi gl r hW (by omega) a) calX1_hasVan stX1_hasVan lX10_147 dX10_clear_10 (by decide) (by simp [Value.category]) rfl (Nat.le_refl _) (Nat.le_refl _) sh_19 rfl (fun zz gi' gl' gr' ⟨hz, q1, q2, q3⟩ => ?_)
    rw [hz, q1, q2, q3]
    clear hz q1 q2 q3
    refine zA_if_neB 19 dX10_clear_13 (by decide) (fun g2 => ?_) (fun g2 => ?_)
    · obtain ⟨v, hv, rfl⟩ := zin_nat g2 (by omega)
      refine zA_aload_0 dX10_clear_19 ?_
      refine zA_getR sh_0 fX10_34 dX10_clear_20 rfl (rt_0_4 _) ?_
      refine zA_getI (v := (nI E)) sh_27 fX10_170 dX10_clear_23 rfl hE ?_
      refine zA_istore_2 dX10_clear_26 rfl ?_
      refine zA_iload_1 dX10_clear_27 ?_
      refine zA_iconst (-1) dX10_clear_28 ic_m1 ?_
      refine zA_icmp_ne 51 dX10_clear_29 (by decide) (fun g3 => ?_) (fun g3 => ?_)
      · refine zA_aload_0 dX10_clear_51 ?_
        refine zA_getR sh_0 fX10_34 dX10_clear_52 rfl (rt_0_4 _) ?_
        refine zA_iload_1 dX10_clear_55 ?_
        refine zA_cVv (ct_dropVan g gi gl r (E := E) (v := v) hE hE24 (fun i hi => (h7 i hi).1) (fun i hi => ⟨(h7 i hi).2.1.1, Nat.lt_of_lt_of_le (h7 i hi).2.1.2 hW3⟩)) calX7_dropVan stX7_dropVan lX10_185 dX10_clear_56 (by decide) (by simp [Value.category]) rfl (Nat.le_refl _) (Nat.le_refl _) sh_27 rfl (fun gi' gl' gr' ⟨q1, q2, q3⟩ => ?_)
        rw [q1, q2, q3]
        clear q1 q2 q3
        refine zA_iload_2 dX10_clear_59 ?_
        refine zA_aload_0 dX10_clear_60 ?_
        refine zA_getR sh_0 fX10_34 dX10_clear_61 rfl (rt_0_4 _) ?_
        refine zA_getI (v := ((fTakeLA gi (nI v) E 27 8))) sh_27 fX10_170 dX10_clear_64 rfl rfl ?_
        refine zA_isub dX10_clear_67 ?_
        exact zB_iret rfl dX10_clear_68 (Or.inr (Or.inl ⟨g0, g2, rfl, rfl, rfl, rfl⟩))
      · exact absurd g3 g0
    · refine zA_bipush (-2) dX10_clear_16 bc_m2 ?_
      exact zB_iret rfl dX10_clear_18 (Or.inr (Or.inr ⟨g0, g2, rfl, rfl, rfl, rfl⟩))
def fCnt (M : zm_I) (k : Nat) : Int32 := match k with
  | 0 => M 3 3 | 1 => M 3 4 | 2 => M 3 5 | 3 => M 19 3 | 4 => M 19 4 | 5 => M 27 8 | 6 => M 27 9 | 7 => M 51 5 | 8 => M 36 5 | 9 => M 36 6 | _ => M 36 8
theorem zwi_dec (V : Nat) (n : Int32) (hV : V < 2 ^ 31) : (∃ k, k ≤ V ∧ n = nI k) ∨ (n.toInt < 0 ∨ (V : Int) < n.toInt) := by
  by_cases h : n < 0
  · exact Or.inr (Or.inl (Int32.lt_iff_toInt_lt.mp h))
  · obtain ⟨j, hj, rfl⟩ := nI_of h
    by_cases h2 : j ≤ V
    · exact Or.inl ⟨j, h2, rfl⟩
    · refine Or.inr (Or.inr ?_)
      rw [nI_toInt hj]
      omega
theorem ct_count (g : zm_G) (gi : zm_I) (gl : zm_J) (r : Nat) (a : Int32)  : zC_i g yX10_count mX10_count 0 [.ref 0, .int a] zSH gi gl (zRT r) (fun z gi' gl' gr' => ((∃ k, k ≤ 10 ∧ a = nI k ∧ z = fCnt gi k) ∧ gi' = gi ∧ gl' = gl ∧ gr' = zRT r) ∨ ((a.toInt < 0 ∨ 10 < a.toInt) ∧ z = -1 ∧ gi' = gi ∧ gl' = gl ∧ gr' = zRT r)) := by
  refine zC_i_of [some (.ref 0), some (.int a)] (by decide) rfl rfl (Nat.le_of_ble_eq_true rfl) (fun x => ?_)
  refine zA_iload_1 dX10_count_0 ?_
  rcases zwi_dec 10 a (by decide) with ⟨k, hk, rfl⟩ | hq
  · rcases (show k = 0 ∨ k = 1 ∨ k = 2 ∨ k = 3 ∨ k = 4 ∨ k = 5 ∨ k = 6 ∨ k = 7 ∨ k = 8 ∨ k = 9 ∨ k = 10 by omega) with rfl | rfl | rfl | rfl | rfl | rfl | rfl | rfl | rfl | rfl | rfl
    · refine zA_tableIn 60 dX10_count_1 (by decide) (by decide) (off := 59) (by decide) (by decide) ?_
      refine zA_aload_0 dX10_count_60 ?_
      refine zA_getR sh_0 fX10_20 dX10_count_61 rfl (rt_0_2 _) ?_
      refine zA_getI (v := (gi 3 3)) sh_3 fX10_117 dX10_count_64 rfl rfl ?_
      exact zB_iret rfl dX10_count_67 (Or.inl ⟨⟨0, by decide, rfl, rfl⟩, rfl, rfl, rfl⟩)
    · refine zA_tableIn 68 dX10_count_1 (by decide) (by decide) (off := 67) (by decide) (by decide) ?_
      refine zA_aload_0 dX10_count_68 ?_
      refine zA_getR sh_0 fX10_20 dX10_count_69 rfl (rt_0_2 _) ?_
      refine zA_getI (v := (gi 3 4)) sh_3 fX10_131 dX10_count_72 rfl rfl ?_
      exact zB_iret rfl dX10_count_75 (Or.inl ⟨⟨1, by decide, rfl, rfl⟩, rfl, rfl, rfl⟩)
    · refine zA_tableIn 76 dX10_count_1 (by decide) (by decide) (off := 75) (by decide) (by decide) ?_
      refine zA_aload_0 dX10_count_76 ?_
      refine zA_getR sh_0 fX10_20 dX10_count_77 rfl (rt_0_2 _) ?_
      refine zA_getI (v := (gi 3 5)) sh_3 fX10_134 dX10_count_80 rfl rfl ?_
      exact zB_iret rfl dX10_count_83 (Or.inl ⟨⟨2, by decide, rfl, rfl⟩, rfl, rfl, rfl⟩)
    · refine zA_tableIn 84 dX10_count_1 (by decide) (by decide) (off := 83) (by decide) (by decide) ?_
      refine zA_aload_0 dX10_count_84 ?_
      refine zA_getR sh_0 fX10_27 dX10_count_85 rfl (rt_0_3 _) ?_
      refine zA_getI (v := (gi 19 3)) sh_19 fX10_140 dX10_count_88 rfl rfl ?_
      exact zB_iret rfl dX10_count_91 (Or.inl ⟨⟨3, by decide, rfl, rfl⟩, rfl, rfl, rfl⟩)
    · refine zA_tableIn 92 dX10_count_1 (by decide) (by decide) (off := 91) (by decide) (by decide) ?_
      refine zA_aload_0 dX10_count_92 ?_
      refine zA_getR sh_0 fX10_27 dX10_count_93 rfl (rt_0_3 _) ?_
      refine zA_getI (v := (gi 19 4)) sh_19 fX10_153 dX10_count_96 rfl rfl ?_
      exact zB_iret rfl dX10_count_99 (Or.inl ⟨⟨4, by decide, rfl, rfl⟩, rfl, rfl, rfl⟩)
    · refine zA_tableIn 100 dX10_count_1 (by decide) (by decide) (off := 99) (by decide) (by decide) ?_
      refine zA_aload_0 dX10_count_100 ?_
      refine zA_getR sh_0 fX10_34 dX10_count_101 rfl (rt_0_4 _) ?_
      refine zA_getI (v := (gi 27 8)) sh_27 fX10_170 dX10_count_104 rfl rfl ?_
      exact zB_iret rfl dX10_count_107 (Or.inl ⟨⟨5, by decide, rfl, rfl⟩, rfl, rfl, rfl⟩)
    · refine zA_tableIn 108 dX10_count_1 (by decide) (by decide) (off := 107) (by decide) (by decide) ?_
      refine zA_aload_0 dX10_count_108 ?_
      refine zA_getR sh_0 fX10_34 dX10_count_109 rfl (rt_0_4 _) ?_
      refine zA_getI (v := (gi 27 9)) sh_27 fX10_176 dX10_count_112 rfl rfl ?_
      exact zB_iret rfl dX10_count_115 (Or.inl ⟨⟨6, by decide, rfl, rfl⟩, rfl, rfl, rfl⟩)
    · refine zA_tableIn 116 dX10_count_1 (by decide) (by decide) (off := 115) (by decide) (by decide) ?_
      refine zA_aload_0 dX10_count_116 ?_
      refine zA_getR sh_0 fX10_57 dX10_count_117 rfl (rt_0_7 _) ?_
      refine zA_getI (v := (gi 51 5)) sh_51 fX10_249 dX10_count_120 rfl rfl ?_
      exact zB_iret rfl dX10_count_123 (Or.inl ⟨⟨7, by decide, rfl, rfl⟩, rfl, rfl, rfl⟩)
    · refine zA_tableIn 124 dX10_count_1 (by decide) (by decide) (off := 123) (by decide) (by decide) ?_
      refine zA_aload_0 dX10_count_124 ?_
      refine zA_getR sh_0 fX10_41 dX10_count_125 rfl (rt_0_5 _) ?_
      refine zA_getI (v := (gi 36 5)) sh_36 fX10_286 dX10_count_128 rfl rfl ?_
      exact zB_iret rfl dX10_count_131 (Or.inl ⟨⟨8, by decide, rfl, rfl⟩, rfl, rfl, rfl⟩)
    · refine zA_tableIn 132 dX10_count_1 (by decide) (by decide) (off := 131) (by decide) (by decide) ?_
      refine zA_aload_0 dX10_count_132 ?_
      refine zA_getR sh_0 fX10_41 dX10_count_133 rfl (rt_0_5 _) ?_
      refine zA_getI (v := (gi 36 6)) sh_36 fX10_289 dX10_count_136 rfl rfl ?_
      exact zB_iret rfl dX10_count_139 (Or.inl ⟨⟨9, by decide, rfl, rfl⟩, rfl, rfl, rfl⟩)
    · refine zA_tableIn 140 dX10_count_1 (by decide) (by decide) (off := 139) (by decide) (by decide) ?_
      refine zA_aload_0 dX10_count_140 ?_
      refine zA_getR sh_0 fX10_41 dX10_count_141 rfl (rt_0_5 _) ?_
      refine zA_getI (v := (gi 36 8)) sh_36 fX10_292 dX10_count_144 rfl rfl ?_
      exact zB_iret rfl dX10_count_147 (Or.inl ⟨⟨10, by decide, rfl, rfl⟩, rfl, rfl, rfl⟩)
  · refine zA_tableOut 148 dX10_count_1 hq (by decide) ?_
    refine zA_iconst (-1) dX10_count_148 ic_m1 ?_
    exact zB_iret rfl dX10_count_149 (Or.inr ⟨hq, rfl, rfl, rfl, rfl⟩)
theorem ct_fault (g : zm_G) (gi : zm_I) (gl : zm_J) (r : Nat) (a : Int32)  : zC_i g yX10_fault mX10_fault 0 [.ref 0, .int a] zSH gi gl (zRT r) (fun z gi' gl' gr' => z = (if a = 0 then gi 42 7 else if a = 1 then gi 42 8 else -1) ∧ gi' = gi ∧ gl' = gl ∧ gr' = zRT r) := by
  refine zC_i_of [some (.ref 0), some (.int a)] (by decide) rfl rfl (Nat.le_of_ble_eq_true rfl) (fun x => ?_)
  refine zA_iload_1 dX10_fault_0 ?_
  by_cases h0 : a = 0
  · refine zA_lookup 28 dX10_fault_1 (by decide) (off := 27) (by rw [h0]; decide) (by decide) ?_
    refine zA_aload_0 dX10_fault_28 ?_
    refine zA_getR sh_0 fX10_50 dX10_fault_29 rfl (rt_0_6 _) ?_
    refine zA_getI (v := (gi 42 7)) sh_42 fX10_107 dX10_fault_32 rfl rfl ?_
    exact zB_iret rfl dX10_fault_35 (⟨(if_pos h0).symm, rfl, rfl, rfl⟩)
  by_cases h1 : a = 1
  · refine zA_lookup 36 dX10_fault_1 (by decide) (off := 35) (by rw [h1]; decide) (by decide) ?_
    refine zA_aload_0 dX10_fault_36 ?_
    refine zA_getR sh_0 fX10_50 dX10_fault_37 rfl (rt_0_6 _) ?_
    refine zA_getI (v := (gi 42 8)) sh_42 fX10_110 dX10_fault_40 rfl rfl ?_
    exact zB_iret rfl dX10_fault_43 (⟨((if_neg h0).trans (if_pos h1)).symm, rfl, rfl, rfl⟩)
  · have ho : Op.lookupswitch.offset (#[((0 : Int), (27 : Int)), (1, 35)] : Array (Int × Int)).toList 43 a.toInt = 43 := by
        have e0 : ¬ a.toInt = 0 := fun z => h0 (Int32.toInt_inj.mp z)
        have e1 : ¬ a.toInt = 1 := fun z => h1 (Int32.toInt_inj.mp z)
        simp [Op.lookupswitch.offset, e0, e1, eq_comm]
    refine zA_lookup 44 dX10_fault_1 (by decide) (off := 43) (ho) (by decide) ?_
    refine zA_iconst (-1) dX10_fault_44 ic_m1 ?_
    exact zB_iret rfl dX10_fault_45 (⟨((if_neg h0).trans (if_neg h1)).symm, rfl, rfl, rfl⟩)
