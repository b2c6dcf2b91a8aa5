def fTakeSA (gi : zm_I) (v : Int32) (m : zm_I) (i : Nat) : zm_I := if m 29 i = v then m else fAddEA m (zi (m 27 8)) (zi (m 28 i)) (zi (m 29 i)) (m 30 i) (m 31 i)
def fTake0A (gi : zm_I) : zm_I := va_up (zs gi 27 8 (nI 0)) 35 (zfill (gi 35) 12 (nI 0))
def fTakeLA (gi : zm_I) (v : Int32) : Nat → zm_I
  | 0 => fTake0A gi
  | i + 1 => fTakeSA gi v (fTakeLA gi v i) i
theorem fAddEA_8 (m : zm_I) (E n v : Nat) (a p : Int32) : fAddEA m E n v a p 27 8 = nI (E + 1) := by unfold fAddEA; rw [zs_eq]
theorem fAddEA_far (m : zm_I) {E n v : Nat} {a p : Int32} {k j : Nat} (h1 : k ≠ 27) (h2 : k ≠ 35) (h3 : j ≠ E) : fAddEA m E n v a p k j = m k j := by
  unfold fAddEA
  rw [zs_nq h1, zs_nq h2]
  simp only [zs_at]
  rw [if_neg (fun z => h3 z.2), if_neg (fun z => h3 z.2), if_neg (fun z => h3 z.2), if_neg (fun z => h3 z.2)]
theorem fTakeLA_inv (gi : zm_I) (v : Int32) : ∀ i, i ≤ 24 → ∃ K, K ≤ i ∧ fTakeLA gi v i 27 8 = nI K ∧ ∀ k j, i ≤ j → k ≠ 27 → k ≠ 35 → fTakeLA gi v i k j = gi k j
  | 0, _ => ⟨0, Nat.le_refl _, by show fTake0A gi 27 8 = _; unfold fTake0A; rw [zm_une (by decide), zs_eq], fun k j _ h1 h2 => by show fTake0A gi k j = _; unfold fTake0A; rw [zm_une h2, zs_nq h1]⟩
  | i + 1, hi => by
    obtain ⟨K, hK, h8, hf⟩ := fTakeLA_inv gi v i (by omega)
    show ∃ K, K ≤ i + 1 ∧ fTakeSA gi v (fTakeLA gi v i) i 27 8 = nI K ∧ ∀ k j, i + 1 ≤ j → k ≠ 27 → k ≠ 35 → fTakeSA gi v (fTakeLA gi v i) i k j = gi k j
    unfold fTakeSA
    by_cases h : fTakeLA gi v i 29 i = v
    · rw [if_pos h]
      exact ⟨K, by omega, h8, fun k j hj h1 h2 => hf k j (by omega) h1 h2⟩
    · rw [if_neg h, h8, zi_nI (by omega)]
      exact ⟨K + 1, by omega, fAddEA_8 _ _ _ _ _ _, fun k j hj h1 h2 => by rw [fAddEA_far _ h1 h2 (by omega)]; exact hf k j (by omega) h1 h2⟩
theorem ct_takeOthersA (g : zm_G) (gi : zm_I) (gl : zm_J) (r : Nat) {E v : Nat} (hE : gi 27 8 = nI E) (he : E ≤ 24) (hn : ∀ i, i < E → zx (gi 28 i) 4) (hv : ∀ i, i < E → zx (gi 29 i) 3)  : zC_v g yX7_takeOthers mX7_takeOthers 1 [.ref 27, .ref 27, .int (nI v)] zSH gi gl (zRT r) (fun gi' gl' gr' => gi' = fTakeLA gi (nI v) E ∧ gl' = gl ∧ gr' = zRT r) := by
  refine zC_v_of [some (.ref 27), some (.ref 27), some (.int (nI v)), none, none] (by decide) rfl rfl (Nat.le_of_ble_eq_true rfl) (fun x => ?_)
  refine zA_aload_1 dX7_takeOthers_0 ?_
  refine zA_getI (v := (nI E)) sh_27 fX7_36 dX7_takeOthers_1 rfl hE ?_
  refine zA_istore_3 dX7_takeOthers_4 rfl ?_
  refine zA_aload_0 dX7_takeOthers_5 ?_
  refine zA_iconst (nI 0) dX7_takeOthers_6 ic_0 ?_
  refine zS_putI sh_27 fX7_36 dX7_takeOthers_7 rfl rfl ?_
  refine zA_aload_0 dX7_takeOthers_10 ?_
  refine zA_getR sh_27 fX7_33 dX7_takeOthers_11 rfl (rt_27_7 _) ?_
  refine zA_iconst (nI 0) dX7_takeOthers_14 ic_0 ?_
  refine zA_cSv (ct_fill g (zs gi 27 8 (nI 0)) gl _ (nI 0) sh_35 (by decide)) calJ7_fill_53178 stJ7_fill_53178 lX7_53 dX7_takeOthers_15 (by decide) (by simp [Value.category]) rfl (Nat.le_refl _) (Nat.le_refl _) (fun gi' gl' gr' ⟨e1, e2, e3⟩ => ?_)
  rw [e1, e2, e3]
  clear e1 e2 e3
  refine zA_iconst (nI 0) dX7_takeOthers_18 ic_0 ?_
  refine zA_istore_4 dX7_takeOthers_19 rfl ?_
  have key : ∀ (m i : Nat), i + m = E → zB_v x g mX7_takeOthers 1 zSH (fun gi' gl' gr' => gi' = fTakeLA gi (nI v) E ∧ gl' = gl ∧ gr' = zRT r) 21 [some (.ref 27), some (.ref 27), some (.int (nI v)), some (.int (nI E)), some (.int (nI i))] [] (fTakeLA gi (nI v) i) gl (zRT r) := by
    intro m
    induction m with
    | zero =>
      intro i hi_i
      refine zA_iload_4 dX7_takeOthers_21 ?_
      refine zA_iload_3 dX7_takeOthers_23 ?_
      refine zA_icmp_geN 77 dX7_takeOthers_24 (by decide) (by omega) (by omega) (fun h => ?_) (fun h => ?_)
      · have e : i = E := by omega
        subst e
        exact zB_vret rfl dX7_takeOthers_77 (⟨rfl, rfl, rfl⟩)
      · exact absurd h (by omega)
    | succ m ih_i =>
      intro i hi_i
      obtain ⟨K, hK, h8, hf⟩ := fTakeLA_inv gi (nI v) i (by omega)
      have hn1 : zx (fTakeLA gi (nI v) i 28 i) 4 := by rw [hf 28 i (Nat.le_refl _) (by decide) (by decide)]; exact hn i (by omega)
      have hv1 : zx (fTakeLA gi (nI v) i 29 i) 3 := by rw [hf 29 i (Nat.le_refl _) (by decide) (by decide)]; exact hv i (by omega)
      have hz8 : zi (fTakeLA gi (nI v) i 27 8) = K := by rw [h8]; exact zi_nI (by omega)
      refine zA_iload_4 dX7_takeOthers_21 ?_
      refine zA_iload_3 dX7_takeOthers_23 ?_
      refine zA_icmp_geN 77 dX7_takeOthers_24 (by decide) (by omega) (by omega) (fun h => ?_) (fun h => ?_)
      · exact absurd h (by omega)
      · refine zA_aload_1 dX7_takeOthers_27 ?_
        refine zA_getR sh_27 fX7_15 dX7_takeOthers_28 rfl (rt_27_1 _) ?_
        refine zA_iload_4 dX7_takeOthers_31 ?_
        refine zA_iald (v := ((fTakeLA gi (nI v) i) 29 i)) i sh_29 dX7_takeOthers_33 rfl (by omega) (by decide) rfl ?_
        refine zA_iload_2 dX7_takeOthers_34 ?_
        refine zA_icmp_eq 71 dX7_takeOthers_35 (by decide) (fun h2 => ?_) (fun h2 => ?_)
        · refine zA_iinc_4 (v := nI (i + 1)) dX7_takeOthers_71 (zn_inc _) rfl ?_
          refine zA_goto 21 dX7_takeOthers_74 (by decide) ?_
          refine zA_gi (gi2 := fTakeLA gi (nI v) (i + 1)) (if_pos h2).symm ?_
          exact ih_i (i + 1) (by omega)
        · refine zA_aload_0 dX7_takeOthers_38 ?_
          refine zA_aload_1 dX7_takeOthers_39 ?_
          refine zA_getR sh_27 fX7_11 dX7_takeOthers_40 rfl (rt_27_0 _) ?_
          refine zA_iload_4 dX7_takeOthers_43 ?_
          refine zA_iald (v := (nI (zi (fTakeLA gi (nI v) i 28 i)))) i sh_28 dX7_takeOthers_45 rfl (by omega) (by decide) hn1.1 ?_
          refine zA_aload_1 dX7_takeOthers_46 ?_
          refine zA_getR sh_27 fX7_15 dX7_takeOthers_47 rfl (rt_27_1 _) ?_
          refine zA_iload_4 dX7_takeOthers_50 ?_
          refine zA_iald (v := (nI (zi (fTakeLA gi (nI v) i 29 i)))) i sh_29 dX7_takeOthers_52 rfl (by omega) (by decide) hv1.1 ?_
          refine zA_aload_1 dX7_takeOthers_53 ?_
          refine zA_getR sh_27 fX7_18 dX7_takeOthers_54 rfl (rt_27_2 _) ?_
          refine zA_iload_4 dX7_takeOthers_57 ?_
          refine zA_iald (v := ((fTakeLA gi (nI v) i) 30 i)) i sh_30 dX7_takeOthers_59 rfl (by omega) (by decide) rfl ?_
          refine zA_aload_1 dX7_takeOthers_60 ?_
          refine zA_getR sh_27 fX7_21 dX7_takeOthers_61 rfl (rt_27_3 _) ?_
          refine zA_iload_4 dX7_takeOthers_64 ?_
          refine zA_iald (v := ((fTakeLA gi (nI v) i) 31 i)) i sh_31 dX7_takeOthers_66 rfl (by omega) (by decide) rfl ?_
          refine zA_cVi (ct_addEntryA g (fTakeLA gi (nI v) i) gl r (E := zi (fTakeLA gi (nI v) i 27 8)) (by rw [hz8]; exact h8) (by omega) hn1.2 hv1.2 _ _) calX7_addEntry stX7_addEntry lX7_59 dX7_takeOthers_67 (by decide) (by simp [Value.category]) rfl (Nat.le_refl _) (Nat.le_refl _) sh_27 rfl (fun zz gi' gl' gr' ⟨hz, e1, e2, e3⟩ => ?_)
          rw [hz, e1, e2, e3]
          clear hz e1 e2 e3
          refine zA_pop dX7_takeOthers_70 rfl ?_
          refine zA_iinc_4 (v := nI (i + 1)) dX7_takeOthers_71 (zn_inc _) rfl ?_
          refine zA_goto 21 dX7_takeOthers_74 (by decide) ?_
          refine zA_gi (gi2 := fTakeLA gi (nI v) (i + 1)) (if_neg h2).symm ?_
          exact ih_i (i + 1) (by omega)
  exact key E 0 (by omega)
def fTakeSB (gi : zm_I) (v : Int32) (m : zm_I) (i : Nat) : zm_I := if m 29 i = v then m else fAddEB m (zi (m 76 8)) (zi (m 28 i)) (zi (m 29 i)) (m 30 i) (m 31 i)
def fTake0B (gi : zm_I) : zm_I := va_up (zs gi 76 8 (nI 0)) 84 (zfill (gi 84) 12 (nI 0))
def fTakeLB (gi : zm_I) (v : Int32) : Nat → zm_I
  | 0 => fTake0B gi
  | i + 1 => fTakeSB gi v (fTakeLB gi v i) i
theorem fAddEB_8 (m : zm_I) (E n v : Nat) (a p : Int32) : fAddEB m E n v a p 76 8 = nI (E + 1) := by unfold fAddEB; rw [zs_eq]
theorem fAddEB_far (m : zm_I) {E n v : Nat} {a p : Int32} {k j : Nat} (h1 : k ≠ 76) (h2 : k ≠ 84) (h3 : j ≠ E) : fAddEB m E n v a p k j = m k j := by
  unfold fAddEB
  rw [zs_nq h1, zs_nq h2]
  simp only [zs_at]
  rw [if_neg (fun z => h3 z.2), if_neg (fun z => h3 z.2), if_neg (fun z => h3 z.2), if_neg (fun z => h3 z.2)]
theorem fTakeLB_inv (gi : zm_I) (v : Int32) : ∀ i, i ≤ 24 → ∃ K, K ≤ i ∧ fTakeLB gi v i 76 8 = nI K ∧ ∀ k j, i ≤ j → k ≠ 76 → k ≠ 84 → fTakeLB gi v i k j = gi k j
  | 0, _ => ⟨0, Nat.le_refl _, by show fTake0B gi 76 8 = _; unfold fTake0B; rw [zm_une (by decide), zs_eq], fun k j _ h1 h2 => by show fTake0B gi k j = _; unfold fTake0B; rw [zm_une h2, zs_nq h1]⟩
  | i + 1, hi => by
    obtain ⟨K, hK, h8, hf⟩ := fTakeLB_inv gi v i (by omega)
    show ∃ K, K ≤ i + 1 ∧ fTakeSB gi v (fTakeLB gi v i) i 76 8 = nI K ∧ ∀ k j, i + 1 ≤ j → k ≠ 76 → k ≠ 84 → fTakeSB gi v (fTakeLB gi v i) i k j = gi k j
    unfold fTakeSB
    by_cases h : fTakeLB gi v i 29 i = v
    · rw [if_pos h]
      exact ⟨K, by omega, h8, fun k j hj h1 h2 => hf k j (by omega) h1 h2⟩
    · rw [if_neg h, h8, zi_nI (by omega)]
      exact ⟨K + 1, by omega, fAddEB_8 _ _ _ _ _ _, fun k j hj h1 h2 => by rw [fAddEB_far _ h1 h2 (by omega)]; exact hf k j (by omega) h1 h2⟩
theorem ct_takeOthersB (g : zm_G) (gi : zm_I) (gl : zm_J) (r : Nat) {E v : Nat} (hE : gi 27 8 = nI E) (he : E ≤ 24) (hn : ∀ i, i < E → zx (gi 28 i) 4) (hv : ∀ i, i < E → zx (gi 29 i) 3)  : zC_v g yX7_takeOthers mX7_takeOthers 1 [.ref 76, .ref 27, .int (nI v)] zSH gi gl (zRT r) (fun gi' gl' gr' => gi' = fTakeLB gi (nI v) E ∧ gl' = gl ∧ gr' = zRT r) := by
  refine zC_v_of [some (.ref 76), some (.ref 27), some (.int (nI v)), none, none] (by decide) rfl rfl (Nat.le_of_ble_eq_true rfl) (fun x => ?_)
  refine zA_aload_1 dX7_takeOthers_0 ?_
  refine zA_getI (v := (nI E)) sh_27 fX7_36 dX7_takeOthers_1 rfl hE ?_
  refine zA_istore_3 dX7_takeOthers_4 rfl ?_
  refine zA_aload_0 dX7_takeOthers_5 ?_
  refine zA_iconst (nI 0) dX7_takeOthers_6 ic_0 ?_
  refine zS_putI sh_76 fX7_36 dX7_takeOthers_7 rfl rfl ?_
  refine zA_aload_0 dX7_takeOthers_10 ?_
  refine zA_getR sh_76 fX7_33 dX7_takeOthers_11 rfl (rt_76_7 _) ?_
  refine zA_iconst (nI 0) dX7_takeOthers_14 ic_0 ?_
  refine zA_cSv (ct_fill g (zs gi 76 8 (nI 0)) gl _ (nI 0) sh_84 (by decide)) calJ7_fill_53178 stJ7_fill_53178 lX7_53 dX7_takeOthers_15 (by decide) (by simp [Value.category]) rfl (Nat.le_refl _) (Nat.le_refl _) (fun gi' gl' gr' ⟨e1, e2, e3⟩ => ?_)
  rw [e1, e2, e3]
  clear e1 e2 e3
  refine zA_iconst (nI 0) dX7_takeOthers_18 ic_0 ?_
  refine zA_istore_4 dX7_takeOthers_19 rfl ?_
  have key : ∀ (m i : Nat), i + m = E → zB_v x g mX7_takeOthers 1 zSH (fun gi' gl' gr' => gi' = fTakeLB gi (nI v) E ∧ gl' = gl ∧ gr' = zRT r) 21 [some (.ref 76), some (.ref 27), some (.int (nI v)), some (.int (nI E)), some (.int (nI i))] [] (fTakeLB gi (nI v) i) gl (zRT r) := by
    intro m
    induction m with
    | zero =>
      intro i hi_i
      refine zA_iload_4 dX7_takeOthers_21 ?_
      refine zA_iload_3 dX7_takeOthers_23 ?_
      refine zA_icmp_geN 77 dX7_takeOthers_24 (by decide) (by omega) (by omega) (fun h => ?_) (fun h => ?_)
      · have e : i = E := by omega
        subst e
        exact zB_vret rfl dX7_takeOthers_77 (⟨rfl, rfl, rfl⟩)
      · exact absurd h (by omega)
    | succ m ih_i =>
      intro i hi_i
      obtain ⟨K, hK, h8, hf⟩ := fTakeLB_inv gi (nI v) i (by omega)
      have hn1 : zx (fTakeLB gi (nI v) i 28 i) 4 := by rw [hf 28 i (Nat.le_refl _) (by decide) (by decide)]; exact hn i (by omega)
      have hv1 : zx (fTakeLB gi (nI v) i 29 i) 3 := by rw [hf 29 i (Nat.le_refl _) (by decide) (by decide)]; exact hv i (by omega)
      have hz8 : zi (fTakeLB gi (nI v) i 76 8) = K := by rw [h8]; exact zi_nI (by omega)
      refine zA_iload_4 dX7_takeOthers_21 ?_
      refine zA_iload_3 dX7_takeOthers_23 ?_
      refine zA_icmp_geN 77 dX7_takeOthers_24 (by decide) (by omega) (by omega) (fun h => ?_) (fun h => ?_)
      · exact absurd h (by omega)
      · refine zA_aload_1 dX7_takeOthers_27 ?_
        refine zA_getR sh_27 fX7_15 dX7_takeOthers_28 rfl (rt_27_1 _) ?_
        refine zA_iload_4 dX7_takeOthers_31 ?_
        refine zA_iald (v := ((fTakeLB gi (nI v) i) 29 i)) i sh_29 dX7_takeOthers_33 rfl (by omega) (by decide) rfl ?_
        refine zA_iload_2 dX7_takeOthers_34 ?_
        refine zA_icmp_eq 71 dX7_takeOthers_35 (by decide) (fun h2 => ?_) (fun h2 => ?_)
        · refine zA_iinc_4 (v := nI (i + 1)) dX7_takeOthers_71 (zn_inc _) rfl ?_
          refine zA_goto 21 dX7_takeOthers_74 (by decide) ?_
          refine zA_gi (gi2 := fTakeLB gi (nI v) (i + 1)) (if_pos h2).symm ?_
          exact ih_i (i + 1) (by omega)
        · refine zA_aload_0 dX7_takeOthers_38 ?_
          refine zA_aload_1 dX7_takeOthers_39 ?_
          refine zA_getR sh_27 fX7_11 dX7_takeOthers_40 rfl (rt_27_0 _) ?_
          refine zA_iload_4 dX7_takeOthers_43 ?_
          refine zA_iald (v := (nI (zi (fTakeLB gi (nI v) i 28 i)))) i sh_28 dX7_takeOthers_45 rfl (by omega) (by decide) hn1.1 ?_
          refine zA_aload_1 dX7_takeOthers_46 ?_
          refine zA_getR sh_27 fX7_15 dX7_takeOthers_47 rfl (rt_27_1 _) ?_
          refine zA_iload_4 dX7_takeOthers_50 ?_
          refine zA_iald (v := (nI (zi (fTakeLB gi (nI v) i 29 i)))) i sh_29 dX7_takeOthers_52 rfl (by omega) (by decide) hv1.1 ?_
          refine zA_aload_1 dX7_takeOthers_53 ?_
          refine zA_getR sh_27 fX7_18 dX7_takeOthers_54 rfl (rt_27_2 _) ?_
          refine zA_iload_4 dX7_takeOthers_57 ?_
          refine zA_iald (v := ((fTakeLB gi (nI v) i) 30 i)) i sh_30 dX7_takeOthers_59 rfl (by omega) (by decide) rfl ?_
          refine zA_aload_1 dX7_takeOthers_60 ?_
          refine zA_getR sh_27 fX7_21 dX7_takeOthers_61 rfl (rt_27_3 _) ?_
          refine zA_iload_4 dX7_takeOthers_64 ?_
          refine zA_iald (v := ((fTakeLB gi (nI v) i) 31 i)) i sh_31 dX7_takeOthers_66 rfl (by omega) (by decide) rfl ?_
          refine zA_cVi (ct_addEntryB g (fTakeLB gi (nI v) i) gl r (E := zi (fTakeLB gi (nI v) i 76 8)) (by rw [hz8]; exact h8) (by omega) hn1.2 hv1.2 _ _) calX7_addEntry stX7_addEntry lX7_59 dX7_takeOthers_67 (by decide) (by simp [Value.category]) rfl (Nat.le_refl _) (Nat.le_refl _) sh_76 rfl (fun zz gi' gl' gr' ⟨hz, e1, e2, e3⟩ => ?_)
          rw [hz, e1, e2, e3]
          clear hz e1 e2 e3
          refine zA_pop dX7_takeOthers_70 rfl ?_
          refine zA_iinc_4 (v := nI (i + 1)) dX7_takeOthers_71 (zn_inc _) rfl ?_
          refine zA_goto 21 dX7_takeOthers_74 (by decide) ?_
          refine zA_gi (gi2 := fTakeLB gi (nI v) (i + 1)) (if_neg h2).symm ?_
          exact ih_i (i + 1) (by omega)
  exact key E 0 (by omega)
theorem ct_dropVan (g : zm_G) (gi : zm_I) (gl : zm_J) (r : Nat) {E v : Nat} (hE : gi 27 8 = nI E) (he : E ≤ 24) (hn : ∀ i, i < E → zx (gi 28 i) 4) (hv : ∀ i, i < E → zx (gi 29 i) 3)  : zC_v g yX7_dropVan mX7_dropVan 2 [.ref 27, .int (nI v)] zSH gi gl (zRT r) (fun gi' gl' gr' => gi' = fTakeLA gi (nI v) E ∧ gl' = gl ∧ gr' = zRT r) := by
  refine zC_v_of [some (.ref 27), some (.int (nI v))] (by decide) rfl rfl (Nat.le_of_ble_eq_true rfl) (fun x => ?_)
  refine zA_aload_0 dX7_dropVan_0 ?_
  refine zA_aload_0 dX7_dropVan_1 ?_
  refine zA_iload_1 dX7_dropVan_2 ?_
  refine zA_cVv (ct_takeOthersA g gi gl r hE he hn hv) calX7_takeOthers stX7_takeOthers lX7_49 dX7_dropVan_3 (by decide) (by simp [Value.category]) rfl (Nat.le_refl _) (Nat.le_refl _) sh_27 rfl (fun gi' gl' gr' ⟨e1, e2, e3⟩ => ?_)
  rw [e1, e2, e3]
  clear e1 e2 e3
  exact zB_vret rfl dX7_dropVan_6 (⟨rfl, rfl, rfl⟩)
def fHandL (gi : zm_I) : Nat → zm_I
  | 0 => zs gi 76 9 (nI 0)
  | i + 1 => fAddHB (fHandL gi i) i (gi 32 i) (gi 33 i) (gi 34 i)
theorem fHandL_9 (gi : zm_I) : ∀ i, fHandL gi i 76 9 = nI i
  | 0 => zs_eq _ _ _ _
  | i + 1 => by show fAddHB _ _ _ _ _ 76 9 = _; unfold fAddHB; rw [zs_eq]
theorem fHandL_nq (gi : zm_I) {a : Nat} (h1 : a ≠ 76) (h2 : a ≠ 81) (h3 : a ≠ 82) (h4 : a ≠ 83) : ∀ i, fHandL gi i a = gi a
  | 0 => zs_nq h1
  | i + 1 => by show fAddHB _ _ _ _ _ a = _; unfold fAddHB; rw [zs_nq h1, zs_nq h4, zs_nq h3, zs_nq h2]; exact fHandL_nq gi h1 h2 h3 h4 i
theorem ct_takeHands (g : zm_G) (gi : zm_I) (gl : zm_J) (r : Nat) {K : Nat} (hK : gi 27 9 = nI K) (hk : K ≤ 12)  : zC_v g yX7_takeHands mX7_takeHands 1 [.ref 76, .ref 27] zSH gi gl (zRT r) (fun gi' gl' gr' => gi' = fHandL gi K ∧ gl' = gl ∧ gr' = zRT r) := by
  refine zC_v_of [some (.ref 76), some (.ref 27), none, none] (by decide) rfl rfl (Nat.le_of_ble_eq_true rfl) (fun x => ?_)
  refine zA_aload_1 dX7_takeHands_0 ?_
  refine zA_getI (v := (nI K)) sh_27 fX7_40 dX7_takeHands_1 rfl hK ?_
  refine zA_istore_2 dX7_takeHands_4 rfl ?_
  refine zA_aload_0 dX7_takeHands_5 ?_
  refine zA_iconst (nI 0) dX7_takeHands_6 ic_0 ?_
  refine zS_putI sh_76 fX7_40 dX7_takeHands_7 rfl rfl ?_
  refine zA_iconst (nI 0) dX7_takeHands_10 ic_0 ?_
  refine zA_istore_3 dX7_takeHands_11 rfl ?_
  have key : ∀ (m i : Nat), i + m = K → zB_v x g mX7_takeHands 1 zSH (fun gi' gl' gr' => gi' = fHandL gi K ∧ gl' = gl ∧ gr' = zRT r) 12 [some (.ref 76), some (.ref 27), some (.int (nI K)), some (.int (nI i))] [] (fHandL gi i) gl (zRT r) := by
    intro m
    induction m with
    | zero =>
      intro i hi_i
      refine zA_iload_3 dX7_takeHands_12 ?_
      refine zA_iload_2 dX7_takeHands_13 ?_
      refine zA_icmp_geN 46 dX7_takeHands_14 (by decide) (by omega) (by omega) (fun h => ?_) (fun h => ?_)
      · have e : i = K := by omega
        subst e
        exact zB_vret rfl dX7_takeHands_46 (⟨rfl, rfl, rfl⟩)
      · exact absurd h (by omega)
    | succ m ih_i =>
      intro i hi_i
      refine zA_iload_3 dX7_takeHands_12 ?_
      refine zA_iload_2 dX7_takeHands_13 ?_
      refine zA_icmp_geN 46 dX7_takeHands_14 (by decide) (by omega) (by omega) (fun h => ?_) (fun h => ?_)
      · exact absurd h (by omega)
      · refine zA_aload_0 dX7_takeHands_17 ?_
        refine zA_aload_1 dX7_takeHands_18 ?_
        refine zA_getR sh_27 fX7_24 dX7_takeHands_19 rfl (rt_27_4 _) ?_
        refine zA_iload_3 dX7_takeHands_22 ?_
        refine zA_iald (v := (gi 32 i)) i sh_32 dX7_takeHands_23 rfl (by omega) (by decide) (congrFun (fHandL_nq gi (by decide) (by decide) (by decide) (by decide) i) _) ?_
        refine zA_aload_1 dX7_takeHands_24 ?_
        refine zA_getR sh_27 fX7_27 dX7_takeHands_25 rfl (rt_27_5 _) ?_
        refine zA_iload_3 dX7_takeHands_28 ?_
        refine zA_iald (v := (gi 33 i)) i sh_33 dX7_takeHands_29 rfl (by omega) (by decide) (congrFun (fHandL_nq gi (by decide) (by decide) (by decide) (by decide) i) _) ?_
        refine zA_aload_1 dX7_takeHands_30 ?_
        refine zA_getR sh_27 fX7_30 dX7_takeHands_31 rfl (rt_27_6 _) ?_
        refine zA_iload_3 dX7_takeHands_34 ?_
        refine zA_iald (v := (gi 34 i)) i sh_34 dX7_takeHands_35 rfl (by omega) (by decide) (congrFun (fHandL_nq gi (by decide) (by decide) (by decide) (by decide) i) _) ?_
        refine zA_cVi (ct_addHandB g (fHandL gi i) gl r (fHandL_9 gi i) (by omega) _ _ _) calX7_addHand stX7_addHand lX7_63 dX7_takeHands_36 (by decide) (by simp [Value.category]) rfl (Nat.le_refl _) (Nat.le_refl _) sh_76 rfl (fun zz gi' gl' gr' ⟨hz, e1, e2, e3⟩ => ?_)
        rw [hz, e1, e2, e3]
        clear hz e1 e2 e3
        refine zA_pop dX7_takeHands_39 rfl ?_
        refine zA_iinc_3 (v := nI (i + 1)) dX7_takeHands_40 (zn_inc _) rfl ?_
        refine zA_goto 12 dX7_takeHands_43 (by decide) ?_
        exact ih_i (i + 1) (by omega)
  exact key K 0 (by omega)
theorem ct_addReport (g : zm_G) (gi : zm_I) (gl : zm_J) (r : Nat) {K : Nat} (hK : gi 51 5 = nI K) (hk : K < 40) (v n h : Int32)  : zC_i g yX5_addReport mX5_addReport 0 [.ref 51, .int v, .int n, .int h] zSH gi gl (zRT r) (fun z gi' gl' gr' => z = nI K ∧ gi' = zs (zs (zs (zs (zs gi 52 K v) 53 K n) 54 K h) 55 K (-1)) 51 5 (nI (K + 1)) ∧ gl' = gl ∧ gr' = zRT r) := by
  refine zC_i_of [some (.ref 51), some (.int v), some (.int n), some (.int h)] (by decide) rfl rfl (Nat.le_of_ble_eq_true rfl) (fun x => ?_)
  refine zA_aload_0 dX5_addReport_0 ?_
  refine zA_getR sh_51 fX5_9 dX5_addReport_1 rfl (rt_51_0 _) ?_
  refine zA_aload_0 dX5_addReport_4 ?_
  refine zA_getI (v := (nI K)) sh_51 fX5_27 dX5_addReport_5 rfl hK ?_
  refine zA_iload_1 dX5_addReport_8 ?_
  refine zS_iast K sh_52 dX5_addReport_9 rfl (by omega) (by decide) ?_
  refine zA_aload_0 dX5_addReport_10 ?_
  refine zA_getR sh_51 fX5_15 dX5_addReport_11 rfl (rt_51_1 _) ?_
  refine zA_aload_0 dX5_addReport_14 ?_
  refine zA_getI (v := (nI K)) sh_51 fX5_27 dX5_addReport_15 rfl hK ?_
  refine zA_iload_2 dX5_addReport_18 ?_
  refine zS_iast K sh_53 dX5_addReport_19 rfl (by omega) (by decide) ?_
  refine zA_aload_0 dX5_addReport_20 ?_
  refine zA_getR sh_51 fX5_18 dX5_addReport_21 rfl (rt_51_2 _) ?_
  refine zA_aload_0 dX5_addReport_24 ?_
  refine zA_getI (v := (nI K)) sh_51 fX5_27 dX5_addReport_25 rfl hK ?_
  refine zA_iload_3 dX5_addReport_28 ?_
  refine zS_iast K sh_54 dX5_addReport_29 rfl (by omega) (by decide) ?_
  refine zA_aload_0 dX5_addReport_30 ?_
  refine zA_getR sh_51 fX5_21 dX5_addReport_31 rfl (rt_51_3 _) ?_
  refine zA_aload_0 dX5_addReport_34 ?_
  refine zA_getI (v := (nI K)) sh_51 fX5_27 dX5_addReport_35 rfl hK ?_
  refine zA_iconst (-1) dX5_addReport_38 ic_m1 ?_
  refine zS_iast K sh_55 dX5_addReport_39 rfl (by omega) (by decide) ?_
  refine zA_aload_0 dX5_addReport_40 ?_
  refine zA_dup dX5_addReport_41 rfl ?_
  refine zA_getI (v := (nI K)) sh_51 fX5_27 dX5_addReport_42 rfl hK ?_
  refine zA_iconst (nI 1) dX5_addReport_45 ic_1 ?_
  refine zA_iaddN dX5_addReport_46 ?_
  refine zS_putI sh_51 fX5_27 dX5_addReport_47 rfl rfl ?_
  refine zA_aload_0 dX5_addReport_50 ?_
  refine zA_getI (v := (nI (K + 1))) sh_51 fX5_27 dX5_addReport_51 rfl rfl ?_
  refine zA_iconst (nI 1) dX5_addReport_54 ic_1 ?_
  refine zA_isubN dX5_addReport_55 (by omega) ?_
  exact zB_iret rfl dX5_addReport_56 (⟨rfl, rfl, rfl, rfl⟩)
theorem ct_addStrike (g : zm_G) (gi : zm_I) (gl : zm_J) (r : Nat) {K : Nat} (hK : gi 51 5 = nI K) (hk : K < 40) (t : Int32)  : zC_i g yX5_addStrike mX5_addStrike 0 [.ref 51, .int t] zSH gi gl (zRT r) (fun z gi' gl' gr' => z = nI K ∧ gi' = zs (zs gi 55 K t) 51 5 (nI (K + 1)) ∧ gl' = gl ∧ gr' = zRT r) := by
  refine zC_i_of [some (.ref 51), some (.int t)] (by decide) rfl rfl (Nat.le_of_ble_eq_true rfl) (fun x => ?_)
  refine zA_aload_0 dX5_addStrike_0 ?_
  refine zA_getR sh_51 fX5_21 dX5_addStrike_1 rfl (rt_51_3 _) ?_
  refine zA_aload_0 dX5_addStrike_4 ?_
  refine zA_getI (v := (nI K)) sh_51 fX5_27 dX5_addStrike_5 rfl hK ?_
  refine zA_iload_1 dX5_addStrike_8 ?_
  refine zS_iast K sh_55 dX5_addStrike_9 rfl (by omega) (by decide) ?_
  refine zA_aload_0 dX5_addStrike_10 ?_
  refine zA_dup dX5_addStrike_11 rfl ?_
  refine zA_getI (v := (nI K)) sh_51 fX5_27 dX5_addStrike_12 rfl hK ?_
  refine zA_iconst (nI 1) dX5_addStrike_15 ic_1 ?_
  refine zA_iaddN dX5_addStrike_16 ?_
  refine zS_putI sh_51 fX5_27 dX5_addStrike_17 rfl rfl ?_
  refine zA_aload_0 dX5_addStrike_20 ?_
  refine zA_getI (v := (nI (K + 1))) sh_51 fX5_27 dX5_addStrike_21 rfl rfl ?_
  refine zA_iconst (nI 1) dX5_addStrike_24 ic_1 ?_
  refine zA_isubN dX5_addStrike_25 (by omega) ?_
  exact zB_iret rfl dX5_addStrike_26 (⟨rfl, rfl, rfl, rfl⟩)
theorem ct_known (g : zm_G) (gi : zm_I) (gl : zm_J) (r : Nat) {v n : Nat} (hv : v < 8) (hn : n < 4)  : zC_i g yX5_known mX5_known 0 [.ref 51, .int (nI v), .int (nI n)] zSH gi gl (zRT r) (fun z gi' gl' gr' => z = gi 56 (v * 4 + n) ∧ gi' = gi ∧ gl' = gl ∧ gr' = zRT r) := by
  refine zC_i_of [some (.ref 51), some (.int (nI v)), some (.int (nI n))] (by decide) rfl rfl (Nat.le_of_ble_eq_true rfl) (fun x => ?_)
  refine zA_aload_0 dX5_known_0 ?_
  refine zA_getR sh_51 fX5_24 dX5_known_1 rfl (rt_51_4 _) ?_
  refine zA_iload_1 dX5_known_4 ?_
  refine zA_iconst (nI 4) dX5_known_5 ic_4 ?_
  refine zA_imulN dX5_known_6 ?_
  refine zA_iload_2 dX5_known_7 ?_
  refine zA_iaddN dX5_known_8 ?_
  refine zA_iald (v := (gi 56 ((v * 4) + n))) ((v * 4) + n) sh_56 dX5_known_9 rfl (by omega) (by decide) rfl ?_
  exact zB_iret rfl dX5_known_10 (⟨rfl, rfl, rfl, rfl⟩)
