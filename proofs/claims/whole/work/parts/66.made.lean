theorem ct_rTruth0 (g : zm_G) {sh : List zm_K} (gi : zm_I) (gl : zm_J) (gr : zm_R)  : zC_l g yX11_truth mX11_truth 0 [.int (nI 0)] sh gi gl gr (fun z gi' gl' gr' => z = 0 ∧ gi' = gi ∧ gl' = gl ∧ gr' = gr) := by
  refine zC_l_of [some (.int (nI 0))] (by decide) rfl rfl (Nat.le_of_ble_eq_true rfl) (fun x => ?_)
  refine zA_iload_0 dX11_truth_0 ?_
  refine zA_if_eq 8 dX11_truth_1 (by decide) (fun _ => ?_) (fun hh => absurd (by decide) hh)
  refine zA_lconst 0 dX11_truth_8 (by decide) ?_
  exact zB_lret rfl dX11_truth_9 (⟨rfl, rfl, rfl, rfl⟩)
theorem ct_rTruth1 (g : zm_G) {sh : List zm_K} (gi : zm_I) (gl : zm_J) (gr : zm_R)  : zC_l g yX11_truth mX11_truth 0 [.int (nI 1)] sh gi gl gr (fun z gi' gl' gr' => z = 1 ∧ gi' = gi ∧ gl' = gl ∧ gr' = gr) := by
  refine zC_l_of [some (.int (nI 1))] (by decide) rfl rfl (Nat.le_of_ble_eq_true rfl) (fun x => ?_)
  refine zA_iload_0 dX11_truth_0 ?_
  refine zA_if_eq 8 dX11_truth_1 (by decide) (fun hh => absurd hh (by decide)) (fun _ => ?_)
  refine zA_lconst 1 dX11_truth_4 (by decide) ?_
  refine zA_goto 9 dX11_truth_5 (by decide) ?_
  exact zB_lret rfl dX11_truth_9 (⟨rfl, rfl, rfl, rfl⟩)
theorem ct_rBig (g : zm_G) {sh : List zm_K} (gi : zm_I) (gl : zm_J) (gr : zm_R) (a : Int64)  : zC_l g yX11_big mX11_big 0 [.long a] sh gi gl gr (fun z gi' gl' gr' => z = zabs a ∧ gi' = gi ∧ gl' = gl ∧ gr' = gr) := by
  refine zC_l_of [some (.long a), none] (by decide) rfl rfl (Nat.le_of_ble_eq_true rfl) (fun x => ?_)
  refine zA_lload_0 dX11_big_0 ?_
  refine zA_lconst 0 dX11_big_1 (by decide) ?_
  refine zA_lcmp dX11_big_2 ?_
  refine zA_if_ge 11 dX11_big_3 (by decide) (fun h => ?_) (fun h => ?_)
  · refine zA_lload_0 dX11_big_11 ?_
    exact zB_lret rfl dX11_big_12 (⟨(if_pos h).symm, rfl, rfl, rfl⟩)
  · refine zA_lload_0 dX11_big_6 ?_
    refine zA_lneg dX11_big_7 ?_
    refine zA_goto 12 dX11_big_8 (by decide) ?_
    exact zB_lret rfl dX11_big_12 (⟨(if_neg h).symm, rfl, rfl, rfl⟩)
theorem ct_rBounded (g : zm_G) (gi : zm_I) (gl : zm_J) (r : Nat) (he : gi 87 60 = nI 0) {a : Int64} (ha : a.toInt ≠ -2 ^ 63)  : zC_l g yX11_bounded mX11_bounded 1 [.ref 87, .long a] zSH gi gl (zRT r) (fun z gi' gl' gr' => z = (if fBad (a) then 0 else a) ∧ gi' = zs gi 87 60 (zb (fBad (a))) ∧ gl' = gl ∧ gr' = zRT r) := by
  refine zC_l_of [some (.ref 87), some (.long a), none] (by decide) rfl rfl (Nat.le_of_ble_eq_true rfl) (fun x => ?_)
  refine zA_aload_0 dX11_bounded_0 ?_
  refine zA_aload_0 dX11_bounded_1 ?_
  refine zA_getI (v := (nI 0)) sh_87 fX11_333 dX11_bounded_2 rfl he ?_
  refine zA_if_ne 19 dX11_bounded_5 (by decide) (fun hh => absurd hh (by decide)) (fun _ => ?_)
  refine zA_lload_1 dX11_bounded_8 ?_
  refine zA_cSl (ct_rBig g _ _ _ a) calX11_big stX11_big lX11_336 dX11_bounded_9 (by decide) (by simp [Value.category]) rfl (Nat.le_refl _) (Nat.le_refl _) (fun zz gi' gl' gr' ⟨hz, e1, e2, e3⟩ => ?_)
  rw [hz, e1, e2, e3]
  clear hz e1 e2 e3
  refine zA_ldc2 kX11_340 dX11_bounded_12 ?_
  refine zA_lcmp dX11_bounded_15 ?_
  refine zA_if_le 23 dX11_bounded_16 (by decide) (fun h => ?_) (fun h => ?_)
  · have hb : ¬ fBad a := fun q => Int32.lt_irrefl (Int32.lt_of_lt_of_le ((zabs_bad ha).mpr q) h)
    refine zA_iconst (nI 0) dX11_bounded_23 ic_0 ?_
    refine zS_putZ sh_87 fX11_333 dX11_bounded_24 rfl rfl (by decide) ?_
    refine zA_aload_0 dX11_bounded_27 ?_
    refine zA_getI (v := (nI 0)) sh_87 fX11_333 dX11_bounded_28 rfl rfl ?_
    refine zA_if_eq 38 dX11_bounded_31 (by decide) (fun _ => ?_) (fun hh => absurd (by decide) hh)
    refine zA_lload_1 dX11_bounded_38 ?_
    exact zB_lret rfl dX11_bounded_39 (⟨(rMk0 (gi := gi) hb rfl).1, (rMk0 (z := a) hb rfl).2, rfl, rfl⟩)
  · have hb : fBad a := (zabs_bad ha).mp (Int32.not_le.mp h)
    refine zA_iconst (nI 1) dX11_bounded_19 ic_1 ?_
    refine zA_goto 24 dX11_bounded_20 (by decide) ?_
    refine zS_putZ sh_87 fX11_333 dX11_bounded_24 rfl rfl (by decide) ?_
    refine zA_aload_0 dX11_bounded_27 ?_
    refine zA_getI (v := (nI 1)) sh_87 fX11_333 dX11_bounded_28 rfl rfl ?_
    refine zA_if_eq 38 dX11_bounded_31 (by decide) (fun hh => absurd hh (by decide)) (fun _ => ?_)
    refine zA_lconst 0 dX11_bounded_34 (by decide) ?_
    refine zA_goto 39 dX11_bounded_35 (by decide) ?_
    exact zB_lret rfl dX11_bounded_39 (⟨(rMk1 (gi := gi) hb).1, (rMk1 hb).2, rfl, rfl⟩)
def rKd (k : Nat) : Nat := match k with
  | 3 => 0 | 4 => 16 | 8 => 15 | 9 => 14 | 10 => 13 | 22 => 12 | k => k - 10
theorem ct_rMade8 (g : zm_G) (gi : zm_I) (gl : zm_J) (r : Nat) (he : gi 87 60 = nI 0) {a b : Int64} (ha : zBd a) (hb : zBd b)  : zC_l g yX11_made mX11_made 2 [.ref 87, .int (nI 15), .long a, .long b] zSH gi gl (zRT r) (fun z gi' gl' gr' => z = (if fBad (fJoin 8 a b) then 0 else fJoin 8 a b) ∧ gi' = zs gi 87 60 (zb (fBad (fJoin 8 a b))) ∧ gl' = gl ∧ gr' = zRT r) := by
  refine zC_l_of [some (.ref 87), some (.int (nI 15)), some (.long a), none, some (.long b), none] (by decide) rfl rfl (Nat.le_of_ble_eq_true rfl) (fun x => ?_)
  refine zA_iload_1 dX11_made_0 ?_
  refine zA_tableOut 315 dX11_made_1 (by decide) (by decide) ?_
  refine zA_lload_2 dX11_made_315 ?_
  refine zA_lconst 0 dX11_made_316 (by decide) ?_
  refine zA_lcmp dX11_made_317 ?_
  refine zA_if_ne 328 dX11_made_318 (by decide) (fun h => ?_) (fun h => ?_)
  · refine zA_iconst (nI 1) dX11_made_328 ic_1 ?_
    refine zA_goto 333 dX11_made_329 (by decide) ?_
    refine zA_cSl (ct_rTruth1 g _ _ _) calX11_truth stX11_truth lX11_342 dX11_made_333 (by decide) (by simp [Value.category]) rfl (Nat.le_refl _) (Nat.le_refl _) (fun zz gi' gl' gr' ⟨hz, e1, e2, e3⟩ => ?_)
    rw [hz, e1, e2, e3]
    clear hz e1 e2 e3
    have hq := rMk (J := fJoin 8 a b) (gi := gi) (zbL_bd _) he (z := 1) ((zbL_t (Or.inl h)).symm)
    exact zB_lret rfl dX11_made_336 (⟨hq.1, hq.2, rfl, rfl⟩)
  · refine zA_lload_4 dX11_made_321 ?_
    refine zA_lconst 0 dX11_made_323 (by decide) ?_
    refine zA_lcmp dX11_made_324 ?_
    refine zA_if_eq 332 dX11_made_325 (by decide) (fun h2 => ?_) (fun h2 => ?_)
    · refine zA_iconst (nI 0) dX11_made_332 ic_0 ?_
      refine zA_cSl (ct_rTruth0 g _ _ _) calX11_truth stX11_truth lX11_342 dX11_made_333 (by decide) (by simp [Value.category]) rfl (Nat.le_refl _) (Nat.le_refl _) (fun zz gi' gl' gr' ⟨hz, e1, e2, e3⟩ => ?_)
      rw [hz, e1, e2, e3]
      clear hz e1 e2 e3
      have hq := rMk (J := fJoin 8 a b) (gi := gi) (zbL_bd _) he (z := 0) ((zbL_f (fun q => q.elim (fun z => z h) (fun z => z h2))).symm)
      exact zB_lret rfl dX11_made_336 (⟨hq.1, hq.2, rfl, rfl⟩)
    · refine zA_iconst (nI 1) dX11_made_328 ic_1 ?_
      refine zA_goto 333 dX11_made_329 (by decide) ?_
      refine zA_cSl (ct_rTruth1 g _ _ _) calX11_truth stX11_truth lX11_342 dX11_made_333 (by decide) (by simp [Value.category]) rfl (Nat.le_refl _) (Nat.le_refl _) (fun zz gi' gl' gr' ⟨hz, e1, e2, e3⟩ => ?_)
      rw [hz, e1, e2, e3]
      clear hz e1 e2 e3
      have hq := rMk (J := fJoin 8 a b) (gi := gi) (zbL_bd _) he (z := 1) ((zbL_t (Or.inr h2)).symm)
      exact zB_lret rfl dX11_made_336 (⟨hq.1, hq.2, rfl, rfl⟩)
theorem ct_rMade9 (g : zm_G) (gi : zm_I) (gl : zm_J) (r : Nat) (he : gi 87 60 = nI 0) {a b : Int64} (ha : zBd a) (hb : zBd b)  : zC_l g yX11_made mX11_made 2 [.ref 87, .int (nI 14), .long a, .long b] zSH gi gl (zRT r) (fun z gi' gl' gr' => z = (if fBad (fJoin 9 a b) then 0 else fJoin 9 a b) ∧ gi' = zs gi 87 60 (zb (fBad (fJoin 9 a b))) ∧ gl' = gl ∧ gr' = zRT r) := by
  refine zC_l_of [some (.ref 87), some (.int (nI 14)), some (.long a), none, some (.long b), none] (by decide) rfl rfl (Nat.le_of_ble_eq_true rfl) (fun x => ?_)
  refine zA_iload_1 dX11_made_0 ?_
  refine zA_tableIn 293 dX11_made_1 (by decide) (by decide) (off := 292) (by decide) (by decide) ?_
  refine zA_lload_2 dX11_made_293 ?_
  refine zA_lconst 0 dX11_made_294 (by decide) ?_
  refine zA_lcmp dX11_made_295 ?_
  refine zA_if_eq 310 dX11_made_296 (by decide) (fun h => ?_) (fun h => ?_)
  · refine zA_iconst (nI 0) dX11_made_310 ic_0 ?_
    refine zA_cSl (ct_rTruth0 g _ _ _) calX11_truth stX11_truth lX11_342 dX11_made_311 (by decide) (by simp [Value.category]) rfl (Nat.le_refl _) (Nat.le_refl _) (fun zz gi' gl' gr' ⟨hz, e1, e2, e3⟩ => ?_)
    rw [hz, e1, e2, e3]
    clear hz e1 e2 e3
    have hq := rMk (J := fJoin 9 a b) (gi := gi) (zbL_bd _) he (z := 0) ((zbL_f (fun q => q.1 h)).symm)
    exact zB_lret rfl dX11_made_314 (⟨hq.1, hq.2, rfl, rfl⟩)
  · refine zA_lload_4 dX11_made_299 ?_
    refine zA_lconst 0 dX11_made_301 (by decide) ?_
    refine zA_lcmp dX11_made_302 ?_
    refine zA_if_eq 310 dX11_made_303 (by decide) (fun h2 => ?_) (fun h2 => ?_)
    · refine zA_iconst (nI 0) dX11_made_310 ic_0 ?_
      refine zA_cSl (ct_rTruth0 g _ _ _) calX11_truth stX11_truth lX11_342 dX11_made_311 (by decide) (by simp [Value.category]) rfl (Nat.le_refl _) (Nat.le_refl _) (fun zz gi' gl' gr' ⟨hz, e1, e2, e3⟩ => ?_)
      rw [hz, e1, e2, e3]
      clear hz e1 e2 e3
      have hq := rMk (J := fJoin 9 a b) (gi := gi) (zbL_bd _) he (z := 0) ((zbL_f (fun q => q.2 h2)).symm)
      exact zB_lret rfl dX11_made_314 (⟨hq.1, hq.2, rfl, rfl⟩)
    · refine zA_iconst (nI 1) dX11_made_306 ic_1 ?_
      refine zA_goto 311 dX11_made_307 (by decide) ?_
      refine zA_cSl (ct_rTruth1 g _ _ _) calX11_truth stX11_truth lX11_342 dX11_made_311 (by decide) (by simp [Value.category]) rfl (Nat.le_refl _) (Nat.le_refl _) (fun zz gi' gl' gr' ⟨hz, e1, e2, e3⟩ => ?_)
      rw [hz, e1, e2, e3]
      clear hz e1 e2 e3
      have hq := rMk (J := fJoin 9 a b) (gi := gi) (zbL_bd _) he (z := 1) ((zbL_t (⟨h, h2⟩)).symm)
      exact zB_lret rfl dX11_made_314 (⟨hq.1, hq.2, rfl, rfl⟩)
theorem ct_rMade11 (g : zm_G) (gi : zm_I) (gl : zm_J) (r : Nat) (he : gi 87 60 = nI 0) {a b : Int64} (ha : zBd a) (hb : zBd b)  : zC_l g yX11_made mX11_made 2 [.ref 87, .int (nI 1), .long a, .long b] zSH gi gl (zRT r) (fun z gi' gl' gr' => z = (if fBad (fJoin 11 a b) then 0 else fJoin 11 a b) ∧ gi' = zs gi 87 60 (zb (fBad (fJoin 11 a b))) ∧ gl' = gl ∧ gr' = zRT r) := by
  refine zC_l_of [some (.ref 87), some (.int (nI 1)), some (.long a), none, some (.long b), none] (by decide) rfl rfl (Nat.le_of_ble_eq_true rfl) (fun x => ?_)
  refine zA_iload_1 dX11_made_0 ?_
  refine zA_tableIn 72 dX11_made_1 (by decide) (by decide) (off := 71) (by decide) (by decide) ?_
  refine zA_lload_2 dX11_made_72 ?_
  refine zA_lload_4 dX11_made_73 ?_
  refine zA_lcmp dX11_made_75 ?_
  refine zA_if_ge 83 dX11_made_76 (by decide) (fun h => ?_) (fun h => ?_)
  · refine zA_iconst (nI 0) dX11_made_83 ic_0 ?_
    refine zA_cSl (ct_rTruth0 g _ _ _) calX11_truth stX11_truth lX11_342 dX11_made_84 (by decide) (by simp [Value.category]) rfl (Nat.le_refl _) (Nat.le_refl _) (fun zz gi' gl' gr' ⟨hz, e1, e2, e3⟩ => ?_)
    rw [hz, e1, e2, e3]
    clear hz e1 e2 e3
    have hq := rMk (J := fJoin 11 a b) (gi := gi) (zbL_bd _) he (z := 0) ((zbL_f (fun q => q h)).symm)
    exact zB_lret rfl dX11_made_87 (⟨hq.1, hq.2, rfl, rfl⟩)
  · refine zA_iconst (nI 1) dX11_made_79 ic_1 ?_
    refine zA_goto 84 dX11_made_80 (by decide) ?_
    refine zA_cSl (ct_rTruth1 g _ _ _) calX11_truth stX11_truth lX11_342 dX11_made_84 (by decide) (by simp [Value.category]) rfl (Nat.le_refl _) (Nat.le_refl _) (fun zz gi' gl' gr' ⟨hz, e1, e2, e3⟩ => ?_)
    rw [hz, e1, e2, e3]
    clear hz e1 e2 e3
    have hq := rMk (J := fJoin 11 a b) (gi := gi) (zbL_bd _) he (z := 1) ((zbL_t (h)).symm)
    exact zB_lret rfl dX11_made_87 (⟨hq.1, hq.2, rfl, rfl⟩)
theorem ct_rMade12 (g : zm_G) (gi : zm_I) (gl : zm_J) (r : Nat) (he : gi 87 60 = nI 0) {a b : Int64} (ha : zBd a) (hb : zBd b)  : zC_l g yX11_made mX11_made 2 [.ref 87, .int (nI 2), .long a, .long b] zSH gi gl (zRT r) (fun z gi' gl' gr' => z = (if fBad (fJoin 12 a b) then 0 else fJoin 12 a b) ∧ gi' = zs gi 87 60 (zb (fBad (fJoin 12 a b))) ∧ gl' = gl ∧ gr' = zRT r) := by
  refine zC_l_of [some (.ref 87), some (.int (nI 2)), some (.long a), none, some (.long b), none] (by decide) rfl rfl (Nat.le_of_ble_eq_true rfl) (fun x => ?_)
  refine zA_iload_1 dX11_made_0 ?_
  refine zA_tableIn 88 dX11_made_1 (by decide) (by decide) (off := 87) (by decide) (by decide) ?_
  refine zA_lload_2 dX11_made_88 ?_
  refine zA_lload_4 dX11_made_89 ?_
  refine zA_lcmp dX11_made_91 ?_
  refine zA_if_gt 99 dX11_made_92 (by decide) (fun h => ?_) (fun h => ?_)
  · refine zA_iconst (nI 0) dX11_made_99 ic_0 ?_
    refine zA_cSl (ct_rTruth0 g _ _ _) calX11_truth stX11_truth lX11_342 dX11_made_100 (by decide) (by simp [Value.category]) rfl (Nat.le_refl _) (Nat.le_refl _) (fun zz gi' gl' gr' ⟨hz, e1, e2, e3⟩ => ?_)
    rw [hz, e1, e2, e3]
    clear hz e1 e2 e3
    have hq := rMk (J := fJoin 12 a b) (gi := gi) (zbL_bd _) he (z := 0) ((zbL_f (fun q => q h)).symm)
    exact zB_lret rfl dX11_made_103 (⟨hq.1, hq.2, rfl, rfl⟩)
  · refine zA_iconst (nI 1) dX11_made_95 ic_1 ?_
    refine zA_goto 100 dX11_made_96 (by decide) ?_
    refine zA_cSl (ct_rTruth1 g _ _ _) calX11_truth stX11_truth lX11_342 dX11_made_100 (by decide) (by simp [Value.category]) rfl (Nat.le_refl _) (Nat.le_refl _) (fun zz gi' gl' gr' ⟨hz, e1, e2, e3⟩ => ?_)
    rw [hz, e1, e2, e3]
    clear hz e1 e2 e3
    have hq := rMk (J := fJoin 12 a b) (gi := gi) (zbL_bd _) he (z := 1) ((zbL_t (h)).symm)
    exact zB_lret rfl dX11_made_103 (⟨hq.1, hq.2, rfl, rfl⟩)
theorem ct_rMade13 (g : zm_G) (gi : zm_I) (gl : zm_J) (r : Nat) (he : gi 87 60 = nI 0) {a b : Int64} (ha : zBd a) (hb : zBd b)  : zC_l g yX11_made mX11_made 2 [.ref 87, .int (nI 3), .long a, .long b] zSH gi gl (zRT r) (fun z gi' gl' gr' => z = (if fBad (fJoin 13 a b) then 0 else fJoin 13 a b) ∧ gi' = zs gi 87 60 (zb (fBad (fJoin 13 a b))) ∧ gl' = gl ∧ gr' = zRT r) := by
  refine zC_l_of [some (.ref 87), some (.int (nI 3)), some (.long a), none, some (.long b), none] (by decide) rfl rfl (Nat.le_of_ble_eq_true rfl) (fun x => ?_)
  refine zA_iload_1 dX11_made_0 ?_
  refine zA_tableIn 104 dX11_made_1 (by decide) (by decide) (off := 103) (by decide) (by decide) ?_
  refine zA_lload_2 dX11_made_104 ?_
  refine zA_lload_4 dX11_made_105 ?_
  refine zA_lcmp dX11_made_107 ?_
  refine zA_if_ne 115 dX11_made_108 (by decide) (fun h => ?_) (fun h => ?_)
  · refine zA_iconst (nI 0) dX11_made_115 ic_0 ?_
    refine zA_cSl (ct_rTruth0 g _ _ _) calX11_truth stX11_truth lX11_342 dX11_made_116 (by decide) (by simp [Value.category]) rfl (Nat.le_refl _) (Nat.le_refl _) (fun zz gi' gl' gr' ⟨hz, e1, e2, e3⟩ => ?_)
    rw [hz, e1, e2, e3]
    clear hz e1 e2 e3
    have hq := rMk (J := fJoin 13 a b) (gi := gi) (zbL_bd _) he (z := 0) ((zbL_f (h)).symm)
    exact zB_lret rfl dX11_made_119 (⟨hq.1, hq.2, rfl, rfl⟩)
  · refine zA_iconst (nI 1) dX11_made_111 ic_1 ?_
    refine zA_goto 116 dX11_made_112 (by decide) ?_
    refine zA_cSl (ct_rTruth1 g _ _ _) calX11_truth stX11_truth lX11_342 dX11_made_116 (by decide) (by simp [Value.category]) rfl (Nat.le_refl _) (Nat.le_refl _) (fun zz gi' gl' gr' ⟨hz, e1, e2, e3⟩ => ?_)
    rw [hz, e1, e2, e3]
    clear hz e1 e2 e3
    have hq := rMk (J := fJoin 13 a b) (gi := gi) (zbL_bd _) he (z := 1) ((zbL_t (h)).symm)
    exact zB_lret rfl dX11_made_119 (⟨hq.1, hq.2, rfl, rfl⟩)
theorem ct_rMade14 (g : zm_G) (gi : zm_I) (gl : zm_J) (r : Nat) (he : gi 87 60 = nI 0) {a b : Int64} (ha : zBd a) (hb : zBd b)  : zC_l g yX11_made mX11_made 2 [.ref 87, .int (nI 4), .long a, .long b] zSH gi gl (zRT r) (fun z gi' gl' gr' => z = (if fBad (fJoin 14 a b) then 0 else fJoin 14 a b) ∧ gi' = zs gi 87 60 (zb (fBad (fJoin 14 a b))) ∧ gl' = gl ∧ gr' = zRT r) := by
  refine zC_l_of [some (.ref 87), some (.int (nI 4)), some (.long a), none, some (.long b), none] (by decide) rfl rfl (Nat.le_of_ble_eq_true rfl) (fun x => ?_)
  refine zA_iload_1 dX11_made_0 ?_
  refine zA_tableIn 120 dX11_made_1 (by decide) (by decide) (off := 119) (by decide) (by decide) ?_
  refine zA_lload_2 dX11_made_120 ?_
  refine zA_lload_4 dX11_made_121 ?_
  refine zA_lcmp dX11_made_123 ?_
  refine zA_if_eq 131 dX11_made_124 (by decide) (fun h => ?_) (fun h => ?_)
  · refine zA_iconst (nI 0) dX11_made_131 ic_0 ?_
    refine zA_cSl (ct_rTruth0 g _ _ _) calX11_truth stX11_truth lX11_342 dX11_made_132 (by decide) (by simp [Value.category]) rfl (Nat.le_refl _) (Nat.le_refl _) (fun zz gi' gl' gr' ⟨hz, e1, e2, e3⟩ => ?_)
    rw [hz, e1, e2, e3]
    clear hz e1 e2 e3
    have hq := rMk (J := fJoin 14 a b) (gi := gi) (zbL_bd _) he (z := 0) ((zbL_f (fun q => q h)).symm)
    exact zB_lret rfl dX11_made_135 (⟨hq.1, hq.2, rfl, rfl⟩)
  · refine zA_iconst (nI 1) dX11_made_127 ic_1 ?_
    refine zA_goto 132 dX11_made_128 (by decide) ?_
    refine zA_cSl (ct_rTruth1 g _ _ _) calX11_truth stX11_truth lX11_342 dX11_made_132 (by decide) (by simp [Value.category]) rfl (Nat.le_refl _) (Nat.le_refl _) (fun zz gi' gl' gr' ⟨hz, e1, e2, e3⟩ => ?_)
    rw [hz, e1, e2, e3]
    clear hz e1 e2 e3
    have hq := rMk (J := fJoin 14 a b) (gi := gi) (zbL_bd _) he (z := 1) ((zbL_t (h)).symm)
    exact zB_lret rfl dX11_made_135 (⟨hq.1, hq.2, rfl, rfl⟩)
theorem ct_rMade15 (g : zm_G) (gi : zm_I) (gl : zm_J) (r : Nat) (he : gi 87 60 = nI 0) {a b : Int64} (ha : zBd a) (hb : zBd b)  : zC_l g yX11_made mX11_made 2 [.ref 87, .int (nI 5), .long a, .long b] zSH gi gl (zRT r) (fun z gi' gl' gr' => z = (if fBad (fJoin 15 a b) then 0 else fJoin 15 a b) ∧ gi' = zs gi 87 60 (zb (fBad (fJoin 15 a b))) ∧ gl' = gl ∧ gr' = zRT r) := by
  refine zC_l_of [some (.ref 87), some (.int (nI 5)), some (.long a), none, some (.long b), none] (by decide) rfl rfl (Nat.le_of_ble_eq_true rfl) (fun x => ?_)
  refine zA_iload_1 dX11_made_0 ?_
  refine zA_tableIn 136 dX11_made_1 (by decide) (by decide) (off := 135) (by decide) (by decide) ?_
  refine zA_lload_2 dX11_made_136 ?_
  refine zA_lload_4 dX11_made_137 ?_
  refine zA_lcmp dX11_made_139 ?_
  refine zA_if_lt 147 dX11_made_140 (by decide) (fun h => ?_) (fun h => ?_)
  · refine zA_iconst (nI 0) dX11_made_147 ic_0 ?_
    refine zA_cSl (ct_rTruth0 g _ _ _) calX11_truth stX11_truth lX11_342 dX11_made_148 (by decide) (by simp [Value.category]) rfl (Nat.le_refl _) (Nat.le_refl _) (fun zz gi' gl' gr' ⟨hz, e1, e2, e3⟩ => ?_)
    rw [hz, e1, e2, e3]
    clear hz e1 e2 e3
    have hq := rMk (J := fJoin 15 a b) (gi := gi) (zbL_bd _) he (z := 0) ((zbL_f (fun q => q h)).symm)
    exact zB_lret rfl dX11_made_151 (⟨hq.1, hq.2, rfl, rfl⟩)
  · refine zA_iconst (nI 1) dX11_made_143 ic_1 ?_
    refine zA_goto 148 dX11_made_144 (by decide) ?_
    refine zA_cSl (ct_rTruth1 g _ _ _) calX11_truth stX11_truth lX11_342 dX11_made_148 (by decide) (by simp [Value.category]) rfl (Nat.le_refl _) (Nat.le_refl _) (fun zz gi' gl' gr' ⟨hz, e1, e2, e3⟩ => ?_)
    rw [hz, e1, e2, e3]
    clear hz e1 e2 e3
    have hq := rMk (J := fJoin 15 a b) (gi := gi) (zbL_bd _) he (z := 1) ((zbL_t (h)).symm)
    exact zB_lret rfl dX11_made_151 (⟨hq.1, hq.2, rfl, rfl⟩)
theorem ct_rMade16 (g : zm_G) (gi : zm_I) (gl : zm_J) (r : Nat) (he : gi 87 60 = nI 0) {a b : Int64} (ha : zBd a) (hb : zBd b)  : zC_l g yX11_made mX11_made 2 [.ref 87, .int (nI 6), .long a, .long b] zSH gi gl (zRT r) (fun z gi' gl' gr' => z = (if fBad (fJoin 16 a b) then 0 else fJoin 16 a b) ∧ gi' = zs gi 87 60 (zb (fBad (fJoin 16 a b))) ∧ gl' = gl ∧ gr' = zRT r) := by
  refine zC_l_of [some (.ref 87), some (.int (nI 6)), some (.long a), none, some (.long b), none] (by decide) rfl rfl (Nat.le_of_ble_eq_true rfl) (fun x => ?_)
  refine zA_iload_1 dX11_made_0 ?_
  refine zA_tableIn 152 dX11_made_1 (by decide) (by decide) (off := 151) (by decide) (by decide) ?_
  refine zA_lload_2 dX11_made_152 ?_
  refine zA_lload_4 dX11_made_153 ?_
  refine zA_lcmp dX11_made_155 ?_
  refine zA_if_le 163 dX11_made_156 (by decide) (fun h => ?_) (fun h => ?_)
  · refine zA_iconst (nI 0) dX11_made_163 ic_0 ?_
    refine zA_cSl (ct_rTruth0 g _ _ _) calX11_truth stX11_truth lX11_342 dX11_made_164 (by decide) (by simp [Value.category]) rfl (Nat.le_refl _) (Nat.le_refl _) (fun zz gi' gl' gr' ⟨hz, e1, e2, e3⟩ => ?_)
    rw [hz, e1, e2, e3]
    clear hz e1 e2 e3
    have hq := rMk (J := fJoin 16 a b) (gi := gi) (zbL_bd _) he (z := 0) ((zbL_f (fun q => q h)).symm)
    exact zB_lret rfl dX11_made_167 (⟨hq.1, hq.2, rfl, rfl⟩)
  · refine zA_iconst (nI 1) dX11_made_159 ic_1 ?_
    refine zA_goto 164 dX11_made_160 (by decide) ?_
    refine zA_cSl (ct_rTruth1 g _ _ _) calX11_truth stX11_truth lX11_342 dX11_made_164 (by decide) (by simp [Value.category]) rfl (Nat.le_refl _) (Nat.le_refl _) (fun zz gi' gl' gr' ⟨hz, e1, e2, e3⟩ => ?_)
    rw [hz, e1, e2, e3]
    clear hz e1 e2 e3
    have hq := rMk (J := fJoin 16 a b) (gi := gi) (zbL_bd _) he (z := 1) ((zbL_t (h)).symm)
    exact zB_lret rfl dX11_made_167 (⟨hq.1, hq.2, rfl, rfl⟩)
theorem ct_rMade17 (g : zm_G) (gi : zm_I) (gl : zm_J) (r : Nat) (he : gi 87 60 = nI 0) {a b : Int64} (ha : zBd a) (hb : zBd b)  : zC_l g yX11_made mX11_made 2 [.ref 87, .int (nI 7), .long a, .long b] zSH gi gl (zRT r) (fun z gi' gl' gr' => z = (if fBad (fJoin 17 a b) then 0 else fJoin 17 a b) ∧ gi' = zs gi 87 60 (zb (fBad (fJoin 17 a b))) ∧ gl' = gl ∧ gr' = zRT r) := by
  refine zC_l_of [some (.ref 87), some (.int (nI 7)), some (.long a), none, some (.long b), none] (by decide) rfl rfl (Nat.le_of_ble_eq_true rfl) (fun x => ?_)
  refine zA_iload_1 dX11_made_0 ?_
  refine zA_tableIn 168 dX11_made_1 (by decide) (by decide) (off := 167) (by decide) (by decide) ?_
  refine zA_aload_0 dX11_made_168 ?_
  refine zA_lload_2 dX11_made_169 ?_
  refine zA_lload_4 dX11_made_170 ?_
  refine zA_ladd dX11_made_172 ?_
  refine zA_cVl (ct_rBounded g gi gl r he (a := a + b) (by rw [Kit.i64_add (by omega) (by omega)]; omega)) calX11_bounded stX11_bounded lX11_346 dX11_made_173 (by decide) (by simp [Value.category]) rfl (Nat.le_refl _) (Nat.le_refl _) sh_87 rfl (fun zz gi' gl' gr' ⟨hz, e1, e2, e3⟩ => ?_)
  rw [hz, e1, e2, e3]
  clear hz e1 e2 e3
  exact zB_lret rfl dX11_made_176 (⟨rfl, rfl, rfl, rfl⟩)
theorem ct_rMade18 (g : zm_G) (gi : zm_I) (gl : zm_J) (r : Nat) (he : gi 87 60 = nI 0) {a b : Int64} (ha : zBd a) (hb : zBd b)  : zC_l g yX11_made mX11_made 2 [.ref 87, .int (nI 8), .long a, .long b] zSH gi gl (zRT r) (fun z gi' gl' gr' => z = (if fBad (fJoin 18 a b) then 0 else fJoin 18 a b) ∧ gi' = zs gi 87 60 (zb (fBad (fJoin 18 a b))) ∧ gl' = gl ∧ gr' = zRT r) := by
  refine zC_l_of [some (.ref 87), some (.int (nI 8)), some (.long a), none, some (.long b), none] (by decide) rfl rfl (Nat.le_of_ble_eq_true rfl) (fun x => ?_)
  refine zA_iload_1 dX11_made_0 ?_
  refine zA_tableIn 177 dX11_made_1 (by decide) (by decide) (off := 176) (by decide) (by decide) ?_
  refine zA_aload_0 dX11_made_177 ?_
  refine zA_lload_2 dX11_made_178 ?_
  refine zA_lload_4 dX11_made_179 ?_
  refine zA_lsub dX11_made_181 ?_
  refine zA_cVl (ct_rBounded g gi gl r he (a := a - b) (by rw [Kit.i64_sub (by omega) (by omega)]; omega)) calX11_bounded stX11_bounded lX11_346 dX11_made_182 (by decide) (by simp [Value.category]) rfl (Nat.le_refl _) (Nat.le_refl _) sh_87 rfl (fun zz gi' gl' gr' ⟨hz, e1, e2, e3⟩ => ?_)
  rw [hz, e1, e2, e3]
  clear hz e1 e2 e3
  exact zB_lret rfl dX11_made_185 (⟨rfl, rfl, rfl, rfl⟩)
theorem ct_rMade19 (g : zm_G) (gi : zm_I) (gl : zm_J) (r : Nat) (he : gi 87 60 = nI 0) {a b : Int64} (ha : zBd a) (hb : zBd b)  : zC_l g yX11_made mX11_made 2 [.ref 87, .int (nI 9), .long a, .long b] zSH gi gl (zRT r) (fun z gi' gl' gr' => z = (if fBad (fJoin 19 a b) then 0 else fJoin 19 a b) ∧ gi' = zs gi 87 60 (zb (fBad (fJoin 19 a b))) ∧ gl' = gl ∧ gr' = zRT r) := by
  refine zC_l_of [some (.ref 87), some (.int (nI 9)), some (.long a), none, some (.long b), none] (by decide) rfl rfl (Nat.le_of_ble_eq_true rfl) (fun x => ?_)
  refine zA_iload_1 dX11_made_0 ?_
  refine zA_tableIn 186 dX11_made_1 (by decide) (by decide) (off := 185) (by decide) (by decide) ?_
  have hP := fProd_ok ha hb
  refine zA_aload_0 dX11_made_186 ?_
  refine zA_aload_0 dX11_made_187 ?_
  refine zA_getI (v := (nI 0)) sh_87 fX11_333 dX11_made_188 rfl he ?_
  refine zA_if_ne 217 dX11_made_191 (by decide) (fun hh => absurd hh (by decide)) (fun _ => ?_)
  refine zA_lload_2 dX11_made_194 ?_
  refine zA_lconst 0 dX11_made_195 (by decide) ?_
  refine zA_lcmp dX11_made_196 ?_
  refine zA_if_eq 221 dX11_made_197 (by decide) (fun h => ?_) (fun h => ?_)
  · have hg : ¬ fBad (fJoin 19 a b) := fun q => (hP.1.mp q).1 h
    refine zA_iconst (nI 0) dX11_made_221 ic_0 ?_
    refine zS_putZ sh_87 fX11_333 dX11_made_222 rfl rfl (by decide) ?_
    refine zA_aload_0 dX11_made_225 ?_
    refine zA_getI (v := (nI 0)) sh_87 fX11_333 dX11_made_226 rfl rfl ?_
    refine zA_if_eq 236 dX11_made_229 (by decide) (fun _ => ?_) (fun hh => absurd (by decide) hh)
    refine zA_lload_2 dX11_made_236 ?_
    refine zA_lload_4 dX11_made_237 ?_
    refine zA_lmul dX11_made_239 ?_
    have hq := rMk0 (J := fJoin 19 a b) (gi := gi) hg (hP.2 hg).symm
    exact zB_lret rfl dX11_made_240 (⟨hq.1, hq.2, rfl, rfl⟩)
  · refine zA_lload_4 dX11_made_200 ?_
    refine zA_cSl (ct_rBig g _ _ _ b) calX11_big stX11_big lX11_336 dX11_made_202 (by decide) (by simp [Value.category]) rfl (Nat.le_refl _) (Nat.le_refl _) (fun zz gi' gl' gr' ⟨hz, e1, e2, e3⟩ => ?_)
    rw [hz, e1, e2, e3]
    clear hz e1 e2 e3
    refine zA_ldc2 kX11_340 dX11_made_205 ?_
    refine zA_lload_2 dX11_made_208 ?_
    refine zA_cSl (ct_rBig g _ _ _ a) calX11_big stX11_big lX11_336 dX11_made_209 (by decide) (by simp [Value.category]) rfl (Nat.le_refl _) (Nat.le_refl _) (fun zz gi' gl' gr' ⟨hz, e1, e2, e3⟩ => ?_)
    rw [hz, e1, e2, e3]
    clear hz e1 e2 e3
    refine zA_ldiv dX11_made_212 (zabs_ne0 ha h) ?_
    refine zA_lcmp dX11_made_213 ?_
    refine zA_if_le 221 dX11_made_214 (by decide) (fun h2 => ?_) (fun h2 => ?_)
    · have hg : ¬ fBad (fJoin 19 a b) := fun q => Int32.lt_irrefl (Int32.lt_of_lt_of_le (hP.1.mp q).2 h2)
      refine zA_iconst (nI 0) dX11_made_221 ic_0 ?_
      refine zS_putZ sh_87 fX11_333 dX11_made_222 rfl rfl (by decide) ?_
      refine zA_aload_0 dX11_made_225 ?_
      refine zA_getI (v := (nI 0)) sh_87 fX11_333 dX11_made_226 rfl rfl ?_
      refine zA_if_eq 236 dX11_made_229 (by decide) (fun _ => ?_) (fun hh => absurd (by decide) hh)
      refine zA_lload_2 dX11_made_236 ?_
      refine zA_lload_4 dX11_made_237 ?_
      refine zA_lmul dX11_made_239 ?_
      have hq := rMk0 (J := fJoin 19 a b) (gi := gi) hg (hP.2 hg).symm
      exact zB_lret rfl dX11_made_240 (⟨hq.1, hq.2, rfl, rfl⟩)
    · have hg : fBad (fJoin 19 a b) := hP.1.mpr ⟨h, Int32.not_le.mp h2⟩
      refine zA_iconst (nI 1) dX11_made_217 ic_1 ?_
      refine zA_goto 222 dX11_made_218 (by decide) ?_
      refine zS_putZ sh_87 fX11_333 dX11_made_222 rfl rfl (by decide) ?_
      refine zA_aload_0 dX11_made_225 ?_
      refine zA_getI (v := (nI 1)) sh_87 fX11_333 dX11_made_226 rfl rfl ?_
      refine zA_if_eq 236 dX11_made_229 (by decide) (fun hh => absurd hh (by decide)) (fun _ => ?_)
      refine zA_lconst 0 dX11_made_232 (by decide) ?_
      refine zA_goto 240 dX11_made_233 (by decide) ?_
      have hq := rMk1 (J := fJoin 19 a b) (gi := gi) hg
      exact zB_lret rfl dX11_made_240 (⟨hq.1, hq.2, rfl, rfl⟩)
theorem ct_rMade20 (g : zm_G) (gi : zm_I) (gl : zm_J) (r : Nat) (he : gi 87 60 = nI 0) {a b : Int64} (ha : zBd a) (hb : zBd b)  : zC_l g yX11_made mX11_made 2 [.ref 87, .int (nI 10), .long a, .long b] zSH gi gl (zRT r) (fun z gi' gl' gr' => z = (if fBad (fJoin 20 a b) then 0 else fJoin 20 a b) ∧ gi' = zs gi 87 60 (zb (fBad (fJoin 20 a b))) ∧ gl' = gl ∧ gr' = zRT r) := by
  refine zC_l_of [some (.ref 87), some (.int (nI 10)), some (.long a), none, some (.long b), none] (by decide) rfl rfl (Nat.le_of_ble_eq_true rfl) (fun x => ?_)
  refine zA_iload_1 dX11_made_0 ?_
  refine zA_tableIn 241 dX11_made_1 (by decide) (by decide) (off := 240) (by decide) (by decide) ?_
  refine zA_aload_0 dX11_made_241 ?_
  refine zA_aload_0 dX11_made_242 ?_
  refine zA_getI (v := (nI 0)) sh_87 fX11_333 dX11_made_243 rfl he ?_
  refine zA_if_ne 256 dX11_made_246 (by decide) (fun hh => absurd hh (by decide)) (fun _ => ?_)
  refine zA_lload_4 dX11_made_249 ?_
  refine zA_lconst 0 dX11_made_251 (by decide) ?_
  refine zA_lcmp dX11_made_252 ?_
  refine zA_if_ne 260 dX11_made_253 (by decide) (fun h => ?_) (fun h => ?_)
  · have hJ : fJoin 20 a b = a / b := if_neg h
    have hg : ¬ fBad (fJoin 20 a b) := by rw [hJ]; exact fQuo_ok ha
    refine zA_iconst (nI 0) dX11_made_260 ic_0 ?_
    refine zS_putZ sh_87 fX11_333 dX11_made_261 rfl rfl (by decide) ?_
    refine zA_aload_0 dX11_made_264 ?_
    refine zA_getI (v := (nI 0)) sh_87 fX11_333 dX11_made_265 rfl rfl ?_
    refine zA_if_eq 275 dX11_made_268 (by decide) (fun _ => ?_) (fun hh => absurd (by decide) hh)
    refine zA_iload_1 dX11_made_275 ?_
    refine zA_bipush (nI 10) dX11_made_276 bc_10 ?_
    refine zA_icmp_neN 288 dX11_made_278 (by decide) (by decide) (by decide) (fun hh => absurd hh (by decide)) (fun _ => ?_)
    refine zA_lload_2 dX11_made_281 ?_
    refine zA_lload_4 dX11_made_282 ?_
    refine zA_ldiv dX11_made_284 (lg_cmp_0 h) ?_
    refine zA_goto 292 dX11_made_285 (by decide) ?_
    have hq := rMk0 (J := fJoin 20 a b) (gi := gi) hg hJ.symm
    exact zB_lret rfl dX11_made_292 (⟨hq.1, hq.2, rfl, rfl⟩)
  · have hg : fBad (fJoin 20 a b) := by
      have hJ : fJoin 20 a b = zERR := if_pos h
      rw [hJ]
      decide +kernel
    refine zA_iconst (nI 1) dX11_made_256 ic_1 ?_
    refine zA_goto 261 dX11_made_257 (by decide) ?_
    refine zS_putZ sh_87 fX11_333 dX11_made_261 rfl rfl (by decide) ?_
    refine zA_aload_0 dX11_made_264 ?_
    refine zA_getI (v := (nI 1)) sh_87 fX11_333 dX11_made_265 rfl rfl ?_
    refine zA_if_eq 275 dX11_made_268 (by decide) (fun hh => absurd hh (by decide)) (fun _ => ?_)
    refine zA_lconst 0 dX11_made_271 (by decide) ?_
    refine zA_goto 292 dX11_made_272 (by decide) ?_
    have hq := rMk1 (J := fJoin 20 a b) (gi := gi) hg
    exact zB_lret rfl dX11_made_292 (⟨hq.1, hq.2, rfl, rfl⟩)
theorem ct_rMade21 (g : zm_G) (gi : zm_I) (gl : zm_J) (r : Nat) (he : gi 87 60 = nI 0) {a b : Int64} (ha : zBd a) (hb : zBd b)  : zC_l g yX11_made mX11_made 2 [.ref 87, .int (nI 11), .long a, .long b] zSH gi gl (zRT r) (fun z gi' gl' gr' => z = (if fBad (fJoin 21 a b) then 0 else fJoin 21 a b) ∧ gi' = zs gi 87 60 (zb (fBad (fJoin 21 a b))) ∧ gl' = gl ∧ gr' = zRT r) := by
  refine zC_l_of [some (.ref 87), some (.int (nI 11)), some (.long a), none, some (.long b), none] (by decide) rfl rfl (Nat.le_of_ble_eq_true rfl) (fun x => ?_)
  refine zA_iload_1 dX11_made_0 ?_
  refine zA_tableIn 241 dX11_made_1 (by decide) (by decide) (off := 240) (by decide) (by decide) ?_
  refine zA_aload_0 dX11_made_241 ?_
  refine zA_aload_0 dX11_made_242 ?_
  refine zA_getI (v := (nI 0)) sh_87 fX11_333 dX11_made_243 rfl he ?_
  refine zA_if_ne 256 dX11_made_246 (by decide) (fun hh => absurd hh (by decide)) (fun _ => ?_)
  refine zA_lload_4 dX11_made_249 ?_
  refine zA_lconst 0 dX11_made_251 (by decide) ?_
  refine zA_lcmp dX11_made_252 ?_
  refine zA_if_ne 260 dX11_made_253 (by decide) (fun h => ?_) (fun h => ?_)
  · have hJ : fJoin 21 a b = a - a / b * b := if_neg h
    have hg : ¬ fBad (fJoin 21 a b) := by rw [hJ]; exact fRem_ok ha
    refine zA_iconst (nI 0) dX11_made_260 ic_0 ?_
    refine zS_putZ sh_87 fX11_333 dX11_made_261 rfl rfl (by decide) ?_
    refine zA_aload_0 dX11_made_264 ?_
    refine zA_getI (v := (nI 0)) sh_87 fX11_333 dX11_made_265 rfl rfl ?_
    refine zA_if_eq 275 dX11_made_268 (by decide) (fun _ => ?_) (fun hh => absurd (by decide) hh)
    refine zA_iload_1 dX11_made_275 ?_
    refine zA_bipush (nI 10) dX11_made_276 bc_10 ?_
    refine zA_icmp_neN 288 dX11_made_278 (by decide) (by decide) (by decide) (fun _ => ?_) (fun hh => absurd hh (by decide))
    refine zA_lload_2 dX11_made_288 ?_
    refine zA_lload_4 dX11_made_289 ?_
    refine zA_lrem dX11_made_291 (lg_cmp_0 h) ?_
    have hq := rMk0 (J := fJoin 21 a b) (gi := gi) hg hJ.symm
    exact zB_lret rfl dX11_made_292 (⟨hq.1, hq.2, rfl, rfl⟩)
  · have hg : fBad (fJoin 21 a b) := by
      have hJ : fJoin 21 a b = zERR := if_pos h
      rw [hJ]
      decide +kernel
    refine zA_iconst (nI 1) dX11_made_256 ic_1 ?_
    refine zA_goto 261 dX11_made_257 (by decide) ?_
    refine zS_putZ sh_87 fX11_333 dX11_made_261 rfl rfl (by decide) ?_
    refine zA_aload_0 dX11_made_264 ?_
    refine zA_getI (v := (nI 1)) sh_87 fX11_333 dX11_made_265 rfl rfl ?_
    refine zA_if_eq 275 dX11_made_268 (by decide) (fun hh => absurd hh (by decide)) (fun _ => ?_)
    refine zA_lconst 0 dX11_made_271 (by decide) ?_
    refine zA_goto 292 dX11_made_272 (by decide) ?_
    have hq := rMk1 (J := fJoin 21 a b) (gi := gi) hg
    exact zB_lret rfl dX11_made_292 (⟨hq.1, hq.2, rfl, rfl⟩)
theorem ct_rMade (g : zm_G) (gi : zm_I) (gl : zm_J) (r : Nat) (he : gi 87 60 = nI 0) {k : Nat} (hk : k = 8 ∨ k = 9 ∨ k = 11 ∨ k = 12 ∨ k = 13 ∨ k = 14 ∨ k = 15 ∨ k = 16 ∨ k = 17 ∨ k = 18 ∨ k = 19 ∨ k = 20 ∨ k = 21) {a b : Int64} (ha : zBd a) (hb : zBd b) : zC_l g yX11_made mX11_made 2 [.ref 87, .int (nI (rKd k)), .long a, .long b] zSH gi gl (zRT r) (fun z gi' gl' gr' => z = (if fBad (fJoin k a b) then 0 else fJoin k a b) ∧ gi' = zs gi 87 60 (zb (fBad (fJoin k a b))) ∧ gl' = gl ∧ gr' = zRT r) := by
  rcases hk with rfl | rfl | rfl | rfl | rfl | rfl | rfl | rfl | rfl | rfl | rfl | rfl | rfl
  · exact ct_rMade8 g gi gl r he ha hb
  · exact ct_rMade9 g gi gl r he ha hb
  · exact ct_rMade11 g gi gl r he ha hb
  · exact ct_rMade12 g gi gl r he ha hb
  · exact ct_rMade13 g gi gl r he ha hb
  · exact ct_rMade14 g gi gl r he ha hb
  · exact ct_rMade15 g gi gl r he ha hb
  · exact ct_rMade16 g gi gl r he ha hb
  · exact ct_rMade17 g gi gl r he ha hb
  · exact ct_rMade18 g gi gl r he ha hb
  · exact ct_rMade19 g gi gl r he ha hb
  · exact ct_rMade20 g gi gl r he ha hb
  · exact ct_rMade21 g gi gl r he ha hb
