def zEn (q W Pn E : Nat) (M : zm_I) : Prop := ∀ e, e < E → zx (M (q + 1) e) 4 ∧ zx (M (q + 2) e) W ∧ zx (M (q + 3) e) 8 ∧ zx (M (q + 4) e) Pn
theorem zEn_rows {q W Pn E : Nat} {M M' : zm_I} (h : zEn q W Pn E M) (h1 : M' (q + 1) = M (q + 1)) (h2 : M' (q + 2) = M (q + 2)) (h3 : M' (q + 3) = M (q + 3)) (h4 : M' (q + 4) = M (q + 4)) : zEn q W Pn E M' := by unfold zEn; rw [h1, h2, h3, h4]; exact h
theorem fAddEA_rows (M : zm_I) (E n v : Nat) (a p : Int32) (e : Nat) : fAddEA M E n v a p 28 e = (if e = E then nI n else M 28 e) ∧ fAddEA M E n v a p 29 e = (if e = E then nI v else M 29 e) ∧ fAddEA M E n v a p 30 e = (if e = E then a else M 30 e) ∧ fAddEA M E n v a p 31 e = (if e = E then p else M 31 e) := by
  unfold fAddEA
  refine ⟨?_, ?_, ?_, ?_⟩ <;> simp [zs_at]
theorem fAddEA_nq (M : zm_I) (E n v : Nat) (a p : Int32) {k : Nat} (h : k < 27 ∨ 31 < k) (h2 : k ≠ 35) : fAddEA M E n v a p k = M k := by
  unfold fAddEA
  rw [zs_nq (by omega), zs_nq (by omega), zs_nq (by omega), zs_nq (by omega), zs_nq (by omega), zs_nq (by omega)]
theorem fAddEA_9 (M : zm_I) (E n v : Nat) (a p : Int32) {j : Nat} (h : j ≠ 8) : fAddEA M E n v a p 27 j = M 27 j := by
  unfold fAddEA
  rw [zs_nj h, zs_nq (by decide), zs_nq (by decide), zs_nq (by decide), zs_nq (by decide), zs_nq (by decide)]
theorem fAddEA_en {W Pn E n v : Nat} {M : zm_I} {a p : Int32} (h : zEn 27 W Pn E M) (hn : n < 4) (hv : v < W) (hW : W ≤ 3) (ha : zx a 8) (hp : zx p Pn) : zEn 27 W Pn (E + 1) (fAddEA M E n v a p) := by
  intro e he
  obtain ⟨r1, r2, r3, r4⟩ := fAddEA_rows M E n v a p e
  show zx (fAddEA M E n v a p 28 e) 4 ∧ zx (fAddEA M E n v a p 29 e) W ∧ zx (fAddEA M E n v a p 30 e) 8 ∧ zx (fAddEA M E n v a p 31 e) Pn
  rw [r1, r2, r3, r4]
  by_cases h2 : e = E
  · rw [if_pos h2, if_pos h2, if_pos h2, if_pos h2]
    exact ⟨zx_of hn (by decide), zx_of hv (by omega), ha, hp⟩
  · rw [if_neg h2, if_neg h2, if_neg h2, if_neg h2]
    exact h e (by omega)
theorem fCutA_nq (M : zm_I) (k E : Nat) {a : Nat} (h1 : a ≠ 27) (h2 : a ≠ 35) : fCutA M k E a = M a := by unfold fCutA; rw [zs_nq h1, fCutLA_nq _ _ h2]
theorem fCutA_8 (M : zm_I) (k E : Nat) : fCutA M k E 27 8 = nI k := by unfold fCutA; rw [zs_eq]
theorem fCutA_9 (M : zm_I) (k E : Nat) {j : Nat} (h : j ≠ 8) : fCutA M k E 27 j = M 27 j := by unfold fCutA; rw [zs_nj h, fCutLA_nq _ _ (by decide)]
theorem fTakeLA_en {W Pn E : Nat} {gi : zm_I} {v : Int32} (h : zEn 27 W Pn E gi) (hW : W ≤ 3) (he : E ≤ 24) : ∀ i, i ≤ E → ∃ K, K ≤ i ∧ fTakeLA gi v i 27 8 = nI K ∧ zEn 27 W Pn K (fTakeLA gi v i)
  | 0, _ => ⟨0, Nat.le_refl _, by show fTake0A gi 27 8 = _; unfold fTake0A; rw [zm_une (by decide), zs_eq], fun e he => absurd he (Nat.not_lt_zero e)⟩
  | i + 1, hi => by
    obtain ⟨K, hK, h8, hE⟩ := fTakeLA_en h hW he (v := v) i (by omega)
    obtain ⟨-, -, -, hf⟩ := fTakeLA_inv gi v i (by omega)
    obtain ⟨s1, s2, s3, s4⟩ := h i (by omega)
    have t1 : fTakeLA gi v i 28 i = gi 28 i := hf 28 i (Nat.le_refl _) (by decide) (by decide)
    have t2 : fTakeLA gi v i 29 i = gi 29 i := hf 29 i (Nat.le_refl _) (by decide) (by decide)
    have t3 : fTakeLA gi v i 30 i = gi 30 i := hf 30 i (Nat.le_refl _) (by decide) (by decide)
    have t4 : fTakeLA gi v i 31 i = gi 31 i := hf 31 i (Nat.le_refl _) (by decide) (by decide)
    show ∃ K, K ≤ i + 1 ∧ fTakeSA gi v (fTakeLA gi v i) i 27 8 = nI K ∧ zEn 27 W Pn K (fTakeSA gi v (fTakeLA gi v i) i)
    unfold fTakeSA
    by_cases h9 : fTakeLA gi v i 29 i = v
    · rw [if_pos h9]
      exact ⟨K, by omega, h8, hE⟩
    · rw [if_neg h9, h8, zi_nI (by omega), t1, t2, t3, t4]
      exact ⟨K + 1, by omega, fAddEA_8 _ _ _ _ _ _, fAddEA_en hE s1.2 s2.2 hW s3 s4⟩
theorem fTakeLA_nq {gi : zm_I} {v : Int32} {k : Nat} (h : k < 27 ∨ 31 < k) (h2 : k ≠ 35) : ∀ i, fTakeLA gi v i k = gi k
  | 0 => by show fTake0A gi k = _; unfold fTake0A; rw [zm_une h2, zs_nq (by omega)]
  | i + 1 => by
    show fTakeSA gi v (fTakeLA gi v i) i k = _
    unfold fTakeSA
    split
    · exact fTakeLA_nq h h2 i
    · rw [fAddEA_nq _ _ _ _ _ _ h h2]; exact fTakeLA_nq h h2 i
theorem fTakeLA_9 {gi : zm_I} {v : Int32} {j : Nat} (h : j ≠ 8) : ∀ i, fTakeLA gi v i 27 j = gi 27 j
  | 0 => by show fTake0A gi 27 j = _; unfold fTake0A; rw [zm_une (by decide), zs_nj h]
  | i + 1 => by
    show fTakeSA gi v (fTakeLA gi v i) i 27 j = _
    unfold fTakeSA
    split
    · exact fTakeLA_9 h i
    · rw [fAddEA_9 _ _ _ _ _ _ h]; exact fTakeLA_9 h i
theorem fAddEB_rows (M : zm_I) (E n v : Nat) (a p : Int32) (e : Nat) : fAddEB M E n v a p 77 e = (if e = E then nI n else M 77 e) ∧ fAddEB M E n v a p 78 e = (if e = E then nI v else M 78 e) ∧ fAddEB M E n v a p 79 e = (if e = E then a else M 79 e) ∧ fAddEB M E n v a p 80 e = (if e = E then p else M 80 e) := by
  unfold fAddEB
  refine ⟨?_, ?_, ?_, ?_⟩ <;> simp [zs_at]
theorem fAddEB_nq (M : zm_I) (E n v : Nat) (a p : Int32) {k : Nat} (h : k < 76 ∨ 80 < k) (h2 : k ≠ 84) : fAddEB M E n v a p k = M k := by
  unfold fAddEB
  rw [zs_nq (by omega), zs_nq (by omega), zs_nq (by omega), zs_nq (by omega), zs_nq (by omega), zs_nq (by omega)]
theorem fAddEB_9 (M : zm_I) (E n v : Nat) (a p : Int32) {j : Nat} (h : j ≠ 8) : fAddEB M E n v a p 76 j = M 76 j := by
  unfold fAddEB
  rw [zs_nj h, zs_nq (by decide), zs_nq (by decide), zs_nq (by decide), zs_nq (by decide), zs_nq (by decide)]
theorem fAddEB_en {W Pn E n v : Nat} {M : zm_I} {a p : Int32} (h : zEn 76 W Pn E M) (hn : n < 4) (hv : v < W) (hW : W ≤ 3) (ha : zx a 8) (hp : zx p Pn) : zEn 76 W Pn (E + 1) (fAddEB M E n v a p) := by
  intro e he
  obtain ⟨r1, r2, r3, r4⟩ := fAddEB_rows M E n v a p e
  show zx (fAddEB M E n v a p 77 e) 4 ∧ zx (fAddEB M E n v a p 78 e) W ∧ zx (fAddEB M E n v a p 79 e) 8 ∧ zx (fAddEB M E n v a p 80 e) Pn
  rw [r1, r2, r3, r4]
  by_cases h2 : e = E
  · rw [if_pos h2, if_pos h2, if_pos h2, if_pos h2]
    exact ⟨zx_of hn (by decide), zx_of hv (by omega), ha, hp⟩
  · rw [if_neg h2, if_neg h2, if_neg h2, if_neg h2]
    exact h e (by omega)
theorem fCutB_nq (M : zm_I) (k E : Nat) {a : Nat} (h1 : a ≠ 76) (h2 : a ≠ 84) : fCutB M k E a = M a := by unfold fCutB; rw [zs_nq h1, fCutLB_nq _ _ h2]
theorem fCutB_8 (M : zm_I) (k E : Nat) : fCutB M k E 76 8 = nI k := by unfold fCutB; rw [zs_eq]
theorem fCutB_9 (M : zm_I) (k E : Nat) {j : Nat} (h : j ≠ 8) : fCutB M k E 76 j = M 76 j := by unfold fCutB; rw [zs_nj h, fCutLB_nq _ _ (by decide)]
theorem fTakeLB_en {W Pn E : Nat} {gi : zm_I} {v : Int32} (h : zEn 27 W Pn E gi) (hW : W ≤ 3) (he : E ≤ 24) : ∀ i, i ≤ E → ∃ K, K ≤ i ∧ fTakeLB gi v i 76 8 = nI K ∧ zEn 76 W Pn K (fTakeLB gi v i)
  | 0, _ => ⟨0, Nat.le_refl _, by show fTake0B gi 76 8 = _; unfold fTake0B; rw [zm_une (by decide), zs_eq], fun e he => absurd he (Nat.not_lt_zero e)⟩
  | i + 1, hi => by
    obtain ⟨K, hK, h8, hE⟩ := fTakeLB_en h hW he (v := v) i (by omega)
    obtain ⟨-, -, -, hf⟩ := fTakeLB_inv gi v i (by omega)
    obtain ⟨s1, s2, s3, s4⟩ := h i (by omega)
    have t1 : fTakeLB gi v i 28 i = gi 28 i := hf 28 i (Nat.le_refl _) (by decide) (by decide)
    have t2 : fTakeLB gi v i 29 i = gi 29 i := hf 29 i (Nat.le_refl _) (by decide) (by decide)
    have t3 : fTakeLB gi v i 30 i = gi 30 i := hf 30 i (Nat.le_refl _) (by decide) (by decide)
    have t4 : fTakeLB gi v i 31 i = gi 31 i := hf 31 i (Nat.le_refl _) (by decide) (by decide)
    show ∃ K, K ≤ i + 1 ∧ fTakeSB gi v (fTakeLB gi v i) i 76 8 = nI K ∧ zEn 76 W Pn K (fTakeSB gi v (fTakeLB gi v i) i)
    unfold fTakeSB
    by_cases h9 : fTakeLB gi v i 29 i = v
    · rw [if_pos h9]
      exact ⟨K, by omega, h8, hE⟩
    · rw [if_neg h9, h8, zi_nI (by omega), t1, t2, t3, t4]
      exact ⟨K + 1, by omega, fAddEB_8 _ _ _ _ _ _, fAddEB_en hE s1.2 s2.2 hW s3 s4⟩
theorem fTakeLB_nq {gi : zm_I} {v : Int32} {k : Nat} (h : k < 76 ∨ 80 < k) (h2 : k ≠ 84) : ∀ i, fTakeLB gi v i k = gi k
  | 0 => by show fTake0B gi k = _; unfold fTake0B; rw [zm_une h2, zs_nq (by omega)]
  | i + 1 => by
    show fTakeSB gi v (fTakeLB gi v i) i k = _
    unfold fTakeSB
    split
    · exact fTakeLB_nq h h2 i
    · rw [fAddEB_nq _ _ _ _ _ _ h h2]; exact fTakeLB_nq h h2 i
theorem fTakeLB_9 {gi : zm_I} {v : Int32} {j : Nat} (h : j ≠ 8) : ∀ i, fTakeLB gi v i 76 j = gi 76 j
  | 0 => by show fTake0B gi 76 j = _; unfold fTake0B; rw [zm_une (by decide), zs_nj h]
  | i + 1 => by
    show fTakeSB gi v (fTakeLB gi v i) i 76 j = _
    unfold fTakeSB
    split
    · exact fTakeLB_9 h i
    · rw [fAddEB_9 _ _ _ _ _ _ h]; exact fTakeLB_9 h i
theorem ct_choicesInNight (g : zm_G) (gi : zm_I) (gl : zm_J) (r : Nat) {V Pn : Nat} (hV : gi 3 3 = nI V) (hP : gi 19 4 = nI Pn)  : zC_i g yX8_choicesInNight mX8_choicesInNight 0 [.ref 75] zSH gi gl (zRT r) (fun z gi' gl' gr' => z = nI (V * Pn + 1) ∧ gi' = gi ∧ gl' = gl ∧ gr' = zRT r) := by
  refine zC_i_of [some (.ref 75)] (by decide) rfl rfl (Nat.le_of_ble_eq_true rfl) (fun x => ?_)
  refine zA_aload_0 dX8_choicesInNight_0 ?_
  refine zA_getR sh_75 fX8_25 dX8_choicesInNight_1 rfl (rt_75_0 _) ?_
  refine zA_getI (v := (nI V)) sh_3 fX8_37 dX8_choicesInNight_4 rfl hV ?_
  refine zA_aload_0 dX8_choicesInNight_7 ?_
  refine zA_getR sh_75 fX8_29 dX8_choicesInNight_8 rfl (rt_75_1 _) ?_
  refine zA_getI (v := (nI Pn)) sh_19 fX8_43 dX8_choicesInNight_11 rfl hP ?_
  refine zA_imulN dX8_choicesInNight_14 ?_
  refine zA_iconst (nI 1) dX8_choicesInNight_15 ic_1 ?_
  refine zA_iaddN dX8_choicesInNight_16 ?_
  exact zB_iret rfl dX8_choicesInNight_17 (⟨rfl, rfl, rfl, rfl⟩)
theorem ct_rowsFor (g : zm_G) (gi : zm_I) (gl : zm_J) (r : Nat) {V Pn n : Nat} (hV : gi 3 3 = nI V) (hP : gi 19 4 = nI Pn) (hn : n ≤ 3)  : zC_i g yX8_rowsFor mX8_rowsFor 1 [.ref 75, .int (nI n)] zSH gi gl (zRT r) (fun z gi' gl' gr' => z = nI ((V * Pn + 1) ^ n) ∧ gi' = gi ∧ gl' = gl ∧ gr' = zRT r) := by
  refine zC_i_of [some (.ref 75), some (.int (nI n)), none, none] (by decide) rfl rfl (Nat.le_of_ble_eq_true rfl) (fun x => ?_)
  refine zA_iconst (nI 1) dX8_rowsFor_0 ic_1 ?_
  refine zA_istore_2 dX8_rowsFor_1 rfl ?_
  refine zA_iconst (nI 0) dX8_rowsFor_2 ic_0 ?_
  refine zA_istore_3 dX8_rowsFor_3 rfl ?_
  have key : ∀ (m i : Nat), i + m = n → zB_i x g mX8_rowsFor 1 zSH (fun z gi' gl' gr' => z = nI ((V * Pn + 1) ^ n) ∧ gi' = gi ∧ gl' = gl ∧ gr' = zRT r) 4 [some (.ref 75), some (.int (nI n)), some (.int (nI ((V * Pn + 1) ^ i))), some (.int (nI i))] [] gi gl (zRT r) := by
    intro m
    induction m with
    | zero =>
      intro i hi_i
      refine zA_iload_3 dX8_rowsFor_4 ?_
      refine zA_iload_1 dX8_rowsFor_5 ?_
      refine zA_icmp_geN 22 dX8_rowsFor_6 (by decide) (by omega) (by omega) (fun h => ?_) (fun h => ?_)
      · have e : i = n := by omega
        rw [e]
        refine zA_iload_2 dX8_rowsFor_22 ?_
        exact zB_iret rfl dX8_rowsFor_23 (⟨rfl, rfl, rfl, rfl⟩)
      · exact absurd h (by omega)
    | succ m ih_i =>
      intro i hi_i
      refine zA_iload_3 dX8_rowsFor_4 ?_
      refine zA_iload_1 dX8_rowsFor_5 ?_
      refine zA_icmp_geN 22 dX8_rowsFor_6 (by decide) (by omega) (by omega) (fun h => ?_) (fun h => ?_)
      · exact absurd h (by omega)
      · refine zA_iload_2 dX8_rowsFor_9 ?_
        refine zA_aload_0 dX8_rowsFor_10 ?_
        refine zA_cVi (ct_choicesInNight g gi gl r hV hP) calX8_choicesInNight stX8_choicesInNight lX8_48 dX8_rowsFor_11 (by decide) (by simp [Value.category]) rfl (Nat.le_refl _) (Nat.le_refl _) sh_75 rfl (fun zz gi' gl' gr' ⟨hz, q1, q2, q3⟩ => ?_)
        rw [hz, q1, q2, q3]
        clear hz q1 q2 q3
        refine zA_imulN dX8_rowsFor_14 ?_
        refine zA_istore_2 dX8_rowsFor_15 rfl ?_
        refine zA_iinc_3 (v := nI (i + 1)) dX8_rowsFor_16 (zn_inc _) rfl ?_
        refine zA_goto 4 dX8_rowsFor_19 (by decide) ?_
        exact ih_i (i + 1) (by omega)
  exact key n 0 (by omega)
theorem zmax_nI1 (a : Nat) (h : a < 2 ^ 31) : zmax (nI a) (nI 1) = nI (if a = 0 then 1 else a) := by
  unfold zmax
  by_cases h0 : a = 0
  · subst h0; rw [if_pos rfl, if_pos (by decide)]
  · rw [if_neg h0, if_neg (fun z => h0 (by have := (nI_ltI h (by decide)).mp z; omega))]
def fChoS (C P : Nat) (p : zm_I × Nat) (i : Nat) : zm_I × Nat := (if p.2 % C = 0 then p.1 else zs p.1 85 i (nI (4 * ((p.2 % C - 1) / P) + (p.2 % C - 1) % P)), p.2 / C)
def fChoL (C P : Nat) : Nat → zm_I × Nat → zm_I × Nat
  | 0, p => p
  | m + 1, p => fChoL C P m (fChoS C P p m)
def fCho (gi : zm_I) (C P n num : Nat) : zm_I := (fChoL C P n (va_up gi 85 (zfill (gi 85) 3 (-1)), num)).1
theorem zif_le0 {a : Nat} (h : a < 2 ^ 31) : nI a ≤ 0 ↔ a = 0 := by
  have := nI_leI (a := a) (b := 0) h (by decide)
  rw [nI_0] at this
  rw [this]; omega
theorem ct_choose (g : zm_G) (gi : zm_I) (gl : zm_J) (r : Nat) {V Pn n num : Nat} (hV : gi 3 3 = nI V) (hP : gi 19 4 = nI Pn) (hv : V ≤ 8) (hp : Pn ≤ 4) (hn : n ≤ 3) (hnum : num < 2000000)  : zC_v g yX8_choose mX8_choose 1 [.ref 75, .int (nI num), .int (nI n)] zSH gi gl (zRT r) (fun gi' gl' gr' => gi' = fCho gi (V * Pn + 1) (if Pn = 0 then 1 else Pn) n num ∧ gl' = gl ∧ gr' = zRT r) := by
  have hVP : V * Pn ≤ 8 * 4 := Nat.mul_le_mul hv hp
  refine zC_v_of [some (.ref 75), some (.int (nI num)), some (.int (nI n)), none, none, none, none, none] (by decide) rfl rfl (Nat.le_of_ble_eq_true rfl) (fun x => ?_)
  refine zA_aload_0 dX8_choose_0 ?_
  refine zA_getR sh_75 fX8_18 dX8_choose_1 rfl (rt_75_4 _) ?_
  refine zA_iconst (-1) dX8_choose_4 ic_m1 ?_
  refine zA_cSv (ct_fill g gi gl _ (-1) sh_85 (by decide)) calJ7_fill_53178 stJ7_fill_53178 lX8_89 dX8_choose_5 (by decide) (by simp [Value.category]) rfl (Nat.le_refl _) (Nat.le_refl _) (fun gi' gl' gr' ⟨q1, q2, q3⟩ => ?_)
  rw [q1, q2, q3]
  clear q1 q2 q3
  have hf : ∀ a, a ≠ 85 → va_up gi 85 (zfill (gi 85) 3 (-1)) a = gi a := fun a ha => zm_une ha
  refine zA_aload_0 dX8_choose_8 ?_
  refine zA_cVi (ct_choicesInNight g (va_up gi 85 (zfill (gi 85) 3 (-1))) gl r (V := V) (Pn := Pn) (by rw [hf 3 (by decide)]; exact hV) (by rw [hf 19 (by decide)]; exact hP)) calX8_choicesInNight stX8_choicesInNight lX8_48 dX8_choose_9 (by decide) (by simp [Value.category]) rfl (Nat.le_refl _) (Nat.le_refl _) sh_75 rfl (fun zz gi' gl' gr' ⟨hz, q1, q2, q3⟩ => ?_)
  rw [hz, q1, q2, q3]
  clear hz q1 q2 q3
  refine zA_iconst (nI 1) dX8_choose_12 ic_1 ?_
  refine zA_cSi (ct_max g _ _ _ _ _) calJ9_max_7cf53 stJ9_max_7cf53 lX8_95 dX8_choose_13 (by decide) (by simp [Value.category]) rfl (Nat.le_refl _) (Nat.le_refl _) (fun zz gi' gl' gr' ⟨hz, q1, q2, q3⟩ => ?_)
  rw [hz, q1, q2, q3]
  clear hz q1 q2 q3
  refine zA_topi (b := nI (V * Pn + 1)) ((zmax_nI1 _ (by omega)).trans (by rw [if_neg (by omega)])) ?_
  refine zA_istore_3 dX8_choose_16 rfl ?_
  refine zA_aload_0 dX8_choose_17 ?_
  refine zA_getR sh_75 fX8_29 dX8_choose_18 rfl (rt_75_1 _) ?_
  refine zA_getI (v := (nI Pn)) sh_19 fX8_43 dX8_choose_21 rfl (by rw [hf 19 (by decide)]; exact hP) ?_
  refine zA_iconst (nI 1) dX8_choose_24 ic_1 ?_
  refine zA_cSi (ct_max g _ _ _ _ _) calJ9_max_7cf53 stJ9_max_7cf53 lX8_95 dX8_choose_25 (by decide) (by simp [Value.category]) rfl (Nat.le_refl _) (Nat.le_refl _) (fun zz gi' gl' gr' ⟨hz, q1, q2, q3⟩ => ?_)
  rw [hz, q1, q2, q3]
  clear hz q1 q2 q3
  refine zA_topi (b := nI (if Pn = 0 then 1 else Pn)) (zmax_nI1 _ (by omega)) ?_
  have hPP : 0 < (if Pn = 0 then 1 else Pn) ∧ (if Pn = 0 then 1 else Pn) ≤ 4 := by split <;> omega
  generalize hPe : (if Pn = 0 then 1 else Pn) = PP at hPP ⊢
  refine zA_istore_4 dX8_choose_28 rfl ?_
  refine zA_iload_1 dX8_choose_30 ?_
  refine zA_istore_5 dX8_choose_31 rfl ?_
  refine zA_iload_2 dX8_choose_33 ?_
  refine zA_iconst (nI 1) dX8_choose_34 ic_1 ?_
  refine zA_isub dX8_choose_35 ?_
  refine zA_istore_6 dX8_choose_36 rfl ?_
  have key : ∀ (m : Nat) (p : zm_I × Nat) (l7 : Option Value), m ≤ n → p.2 < 2000000 → (fChoL (V * Pn + 1) PP m p).1 = fCho gi (V * Pn + 1) PP n num → zB_v x g mX8_choose 1 zSH (fun gi' gl' gr' => gi' = fCho gi (V * Pn + 1) PP n num ∧ gl' = gl ∧ gr' = zRT r) 38 [some (.ref 75), some (.int (nI num)), some (.int (nI n)), some (.int (nI (V * Pn + 1))), some (.int (nI PP)), some (.int (nI p.2)), some (.int (nI m - nI 1)), l7] [] p.1 gl (zRT r) := by
    intro m
    induction m with
    | zero =>
      intro p l7 hm hq hp9
      refine zA_iload_6 dX8_choose_38 ?_
      refine zA_if_lt 90 dX8_choose_40 (by decide) (fun h => ?_) (fun h => ?_)
      · exact zB_vret rfl dX8_choose_90 (⟨hp9, rfl, rfl⟩)
      · exact absurd zn_m1 h
    | succ i ih =>
      intro p l7 hm hq hp9
      rw [show nI (i + 1) - nI 1 = nI i from nI_pred i]
      have hdv : p.2 / (V * Pn + 1) ≤ p.2 := Nat.div_le_self _ _
      have hmd : p.2 % (V * Pn + 1) < V * Pn + 1 := Nat.mod_lt _ (by omega)
      refine zA_iload_6 dX8_choose_38 ?_
      refine zA_if_lt 90 dX8_choose_40 (by decide) (fun h => ?_) (fun h => ?_)
      · exact absurd h (nI_pos (by omega))
      · refine zA_iload_5 dX8_choose_43 ?_
        refine zA_iload_3 dX8_choose_45 ?_
        refine zA_iremN dX8_choose_46 (by omega) (by omega) (by omega) ?_
        refine zA_istore_7 dX8_choose_47 rfl ?_
        refine zA_iload_5 dX8_choose_49 ?_
        refine zA_iload_3 dX8_choose_51 ?_
        refine zA_idivN dX8_choose_52 (by omega) (by omega) (by omega) ?_
        refine zA_istore_5 dX8_choose_53 rfl ?_
        refine zA_iload_7 dX8_choose_55 ?_
        refine zA_if_le 84 dX8_choose_57 (by decide) (fun h1 => ?_) (fun h1 => ?_)
        · refine zA_iinc_6 (v := (nI i - nI 1)) dX8_choose_84 (zn_dec _) rfl ?_
          refine zA_goto 38 dX8_choose_87 (by decide) ?_
          refine ih (p.1, p.2 / (V * Pn + 1)) _ (by omega) (by show p.2 / _ < _; omega) ?_
          rw [← hp9]
          show _ = (fChoL (V * Pn + 1) PP i (fChoS (V * Pn + 1) PP p i)).1
          unfold fChoS
          rw [if_pos ((zif_le0 (by omega)).mp h1)]
        · have h2 : ¬ p.2 % (V * Pn + 1) = 0 := fun z => h1 ((zif_le0 (by omega)).mpr z)
          refine zA_aload_0 dX8_choose_60 ?_
          refine zA_getR sh_75 fX8_18 dX8_choose_61 rfl (rt_75_4 _) ?_
          refine zA_iload_6 dX8_choose_64 ?_
          refine zA_iconst (nI 4) dX8_choose_66 ic_4 ?_
          refine zA_iload_7 dX8_choose_67 ?_
          refine zA_iconst (nI 1) dX8_choose_69 ic_1 ?_
          refine zA_isubN dX8_choose_70 (by first | omega | (have q1 := Nat.div_le_self (p.2 % (V * Pn + 1) - 1) PP; omega)) ?_
          refine zA_iload_4 dX8_choose_71 ?_
          refine zA_idivN dX8_choose_73 (by first | omega | (have q1 := Nat.div_le_self (p.2 % (V * Pn + 1) - 1) PP; omega)) (by first | omega | (have q1 := Nat.div_le_self (p.2 % (V * Pn + 1) - 1) PP; omega)) (by first | omega | (have q1 := Nat.div_le_self (p.2 % (V * Pn + 1) - 1) PP; omega)) ?_
          refine zA_imulN dX8_choose_74 ?_
          refine zA_iload_7 dX8_choose_75 ?_
          refine zA_iconst (nI 1) dX8_choose_77 ic_1 ?_
          refine zA_isubN dX8_choose_78 (by first | omega | (have q1 := Nat.div_le_self (p.2 % (V * Pn + 1) - 1) PP; omega)) ?_
          refine zA_iload_4 dX8_choose_79 ?_
          refine zA_iremN dX8_choose_81 (by first | omega | (have q1 := Nat.div_le_self (p.2 % (V * Pn + 1) - 1) PP; omega)) (by first | omega | (have q1 := Nat.div_le_self (p.2 % (V * Pn + 1) - 1) PP; omega)) (by first | omega | (have q1 := Nat.div_le_self (p.2 % (V * Pn + 1) - 1) PP; omega)) ?_
          refine zA_iaddN dX8_choose_82 ?_
          refine zS_iast i sh_85 dX8_choose_83 rfl (by first | omega | (have q1 := Nat.div_le_self (p.2 % (V * Pn + 1) - 1) PP; omega)) (by decide) ?_
          refine zA_iinc_6 (v := (nI i - nI 1)) dX8_choose_84 (zn_dec _) rfl ?_
          refine zA_goto 38 dX8_choose_87 (by decide) ?_
          refine ih (zs p.1 85 i (nI (4 * ((p.2 % (V * Pn + 1) - 1) / PP) + (p.2 % (V * Pn + 1) - 1) % PP)), p.2 / (V * Pn + 1)) _ (by omega) (by show p.2 / _ < _; omega) ?_
          rw [← hp9]
          show _ = (fChoL (V * Pn + 1) PP i (fChoS (V * Pn + 1) PP p i)).1
          unfold fChoS
          rw [if_neg h2]
  exact key n (va_up gi 85 (zfill (gi 85) 3 (-1)), num) _ (Nat.le_refl _) hnum rfl
def fLayS (w : Nat) (M : zm_I) (n : Nat) : zm_I := if M 85 n = -1 then M else fAddEB M (zi (M 76 8)) n w (M 85 n / nI 4) (M 85 n - M 85 n / nI 4 * nI 4)
theorem fLayS_nq {w : Nat} {k : Nat} (h : k < 76 ∨ 80 < k) (h2 : k ≠ 84) (M : zm_I) (n : Nat) : fLayS w M n k = M k := by
  unfold fLayS
  split
  · rfl
  · exact fAddEB_nq _ _ _ _ _ _ h h2
theorem fLay_8 {w k : Nat} {M : zm_I} (h8 : M 76 8 = nI k) (hk : k ≤ 24) : ∀ n, n ≤ 3 → ∃ K, k ≤ K ∧ K ≤ k + n ∧ zit (fLayS w) M n 76 8 = nI K
  | 0, _ => ⟨k, Nat.le_refl _, Nat.le_refl _, h8⟩
  | n + 1, hn => by
    obtain ⟨K, h1, h2, h3⟩ := fLay_8 h8 hk (w := w) n (by omega)
    show ∃ K, k ≤ K ∧ K ≤ k + (n + 1) ∧ fLayS w (zit (fLayS w) M n) n 76 8 = nI K
    generalize zit (fLayS w) M n = X at h3 ⊢
    unfold fLayS
    split
    · exact ⟨K, h1, by omega, h3⟩
    · rw [h3, zi_nI (by omega)]
      exact ⟨K + 1, by omega, by omega, fAddEB_8 _ _ _ _ _ _⟩
theorem ct_layTrial (g : zm_G) (gi : zm_I) (gl : zm_J) (r : Nat) {k E v : Nat} (hE : gi 76 8 = nI E) (he : E ≤ 27) (hk : k ≤ E) (hk4 : k ≤ 24) (hn : ∀ i, i < E → zx (gi 77 i) 4) (hv : ∀ i, i < E → zx (gi 78 i) 3) (hvv : v < 3)  : zC_v g yX8_layTrial mX8_layTrial 2 [.ref 75, .int (nI k), .int (nI v)] zSH gi gl (zRT r) (fun gi' gl' gr' => gi' = zit (fLayS v) (fCutB gi k E) 3 ∧ gl' = gl ∧ gr' = zRT r) := by
  refine zC_v_of [some (.ref 75), some (.int (nI k)), some (.int (nI v)), none] (by decide) rfl rfl (Nat.le_of_ble_eq_true rfl) (fun x => ?_)
  refine zA_aload_0 dX8_layTrial_0 ?_
  refine zA_getR sh_75 fX8_12 dX8_layTrial_1 rfl (rt_75_3 _) ?_
  refine zA_iload_1 dX8_layTrial_4 ?_
  refine zA_cVv (ct_cutEntriesB g gi gl r hE he hk hn hv) calX7_cutEntries stX7_cutEntries lX8_101 dX8_layTrial_5 (by decide) (by simp [Value.category]) rfl (Nat.le_refl _) (Nat.le_refl _) sh_76 rfl (fun gi' gl' gr' ⟨q1, q2, q3⟩ => ?_)
  rw [q1, q2, q3]
  clear q1 q2 q3
  refine zA_iconst (nI 0) dX8_layTrial_8 ic_0 ?_
  refine zA_istore_3 dX8_layTrial_9 rfl ?_
  have key : ∀ (m i : Nat), i + m = 3 → zB_v x g mX8_layTrial 2 zSH (fun gi' gl' gr' => gi' = zit (fLayS v) (fCutB gi k E) 3 ∧ gl' = gl ∧ gr' = zRT r) 10 [some (.ref 75), some (.int (nI k)), some (.int (nI v)), some (.int (nI i))] [] (zit (fLayS v) (fCutB gi k E) i) gl (zRT r) := by
    intro m
    induction m with
    | zero =>
      intro i hi_i
      have e : i = 3 := by omega
      subst e
      refine zA_iload_3 dX8_layTrial_10 ?_
      refine zA_iconst (nI 3) dX8_layTrial_11 ic_3 ?_
      refine zA_icmp_geN 57 dX8_layTrial_12 (by decide) (by decide) (by decide) (fun _ => ?_) (fun hh => absurd hh (by decide))
      exact zB_vret rfl dX8_layTrial_57 (⟨rfl, rfl, rfl⟩)
    | succ m ih_i =>
      intro i hi_i
      obtain ⟨K, q1, q2, q3⟩ := fLay_8 (w := v) (fCutB_8 gi k E) hk4 i (by omega)
      generalize hX : zit (fLayS v) (fCutB gi k E) i = X at q3 ⊢
      refine zA_iload_3 dX8_layTrial_10 ?_
      refine zA_iconst (nI 3) dX8_layTrial_11 ic_3 ?_
      refine zA_icmp_geN 57 dX8_layTrial_12 (by decide) (by omega) (by omega) (fun h => ?_) (fun h => ?_)
      · exact absurd h (by omega)
      · refine zA_aload_0 dX8_layTrial_15 ?_
        refine zA_getR sh_75 fX8_18 dX8_layTrial_16 rfl (rt_75_4 _) ?_
        refine zA_iload_3 dX8_layTrial_19 ?_
        refine zA_iald (v := (X 85 i)) i sh_85 dX8_layTrial_20 rfl (by omega) (by decide) rfl ?_
        refine zA_iconst (-1) dX8_layTrial_21 ic_m1 ?_
        refine zA_icmp_eq 51 dX8_layTrial_22 (by decide) (fun h1 => ?_) (fun h1 => ?_)
        · refine zA_iinc_3 (v := nI (i + 1)) dX8_layTrial_51 (zn_inc _) rfl ?_
          refine zA_goto 10 dX8_layTrial_54 (by decide) ?_
          have e9 : zit (fLayS v) (fCutB gi k E) (i + 1) = X := by show fLayS v (zit (fLayS v) (fCutB gi k E) i) i = X; rw [hX]; exact if_pos h1
          have h7 := ih_i (i + 1) (by omega)
          rw [e9] at h7
          exact h7
        · refine zA_aload_0 dX8_layTrial_25 ?_
          refine zA_getR sh_75 fX8_12 dX8_layTrial_26 rfl (rt_75_3 _) ?_
          refine zA_iload_3 dX8_layTrial_29 ?_
          refine zA_iload_2 dX8_layTrial_30 ?_
          refine zA_aload_0 dX8_layTrial_31 ?_
          refine zA_getR sh_75 fX8_18 dX8_layTrial_32 rfl (rt_75_4 _) ?_
          refine zA_iload_3 dX8_layTrial_35 ?_
          refine zA_iald (v := (X 85 i)) i sh_85 dX8_layTrial_36 rfl (by omega) (by decide) rfl ?_
          refine zA_iconst (nI 4) dX8_layTrial_37 ic_4 ?_
          refine zA_idiv dX8_layTrial_38 (by decide) ?_
          refine zA_aload_0 dX8_layTrial_39 ?_
          refine zA_getR sh_75 fX8_18 dX8_layTrial_40 rfl (rt_75_4 _) ?_
          refine zA_iload_3 dX8_layTrial_43 ?_
          refine zA_iald (v := (X 85 i)) i sh_85 dX8_layTrial_44 rfl (by omega) (by decide) rfl ?_
          refine zA_iconst (nI 4) dX8_layTrial_45 ic_4 ?_
          refine zA_irem dX8_layTrial_46 (by decide) ?_
          refine zA_cVi (ct_addEntryB g X gl r (E := K) (n := i) (v := v) q3 (by omega) (by omega) hvv _ _) calX7_addEntry stX7_addEntry lX8_105 dX8_layTrial_47 (by decide) (by simp [Value.category]) rfl (Nat.le_refl _) (Nat.le_refl _) sh_76 rfl (fun zz gi' gl' gr' ⟨hz, w1, w2, w3⟩ => ?_)
          rw [hz, w1, w2, w3]
          clear hz w1 w2 w3
          refine zA_pop dX8_layTrial_50 rfl ?_
          refine zA_iinc_3 (v := nI (i + 1)) dX8_layTrial_51 (zn_inc _) rfl ?_
          refine zA_goto 10 dX8_layTrial_54 (by decide) ?_
          have e9 : zit (fLayS v) (fCutB gi k E) (i + 1) = fAddEB X K i v (X 85 i / nI 4) (X 85 i - X 85 i / nI 4 * nI 4) := by show fLayS v (zit (fLayS v) (fCutB gi k E) i) i = _; rw [hX]; unfold fLayS; rw [if_neg h1, q3, zi_nI (by omega)]
          have h7 := ih_i (i + 1) (by omega)
          rw [e9] at h7
          exact h7
  exact key 3 0 (by omega)
theorem ct_isBetter (g : zm_G) (gi : zm_I) (gl : zm_J) (r : Nat)  : zC_i g yX8_isBetter mX8_isBetter 0 [.ref 75] zSH gi gl (zRT r) (fun z gi' gl' gr' => z = zb (gi 75 6 < gi 66 0 ∨ (gi 66 0 = gi 75 6 ∧ ¬ gi 66 1 ≤ gi 75 7)) ∧ gi' = gi ∧ gl' = gl ∧ gr' = zRT r) := by
  refine zC_i_of [some (.ref 75), none] (by decide) rfl rfl (Nat.le_of_ble_eq_true rfl) (fun x => ?_)
  refine zA_aload_0 dX8_isBetter_0 ?_
  refine zA_getR sh_75 fX8_33 dX8_isBetter_1 rfl (rt_75_2 _) ?_
  refine zA_getR sh_57 fX8_109 dX8_isBetter_4 rfl (rt_57_5 _) ?_
  refine zA_iconst (nI 0) dX8_isBetter_7 ic_0 ?_
  refine zA_iald (v := (gi 66 0)) 0 sh_66 dX8_isBetter_8 rfl (by decide) (by decide) rfl ?_
  refine zA_istore_1 dX8_isBetter_9 rfl ?_
  refine zA_iload_1 dX8_isBetter_10 ?_
  refine zA_aload_0 dX8_isBetter_11 ?_
  refine zA_getI (v := (gi 75 6)) sh_75 fX8_112 dX8_isBetter_12 rfl rfl ?_
  refine zA_icmp_gt 42 dX8_isBetter_15 (by decide) (fun h1 => ?_) (fun h1 => ?_)
  · refine zA_iconst (nI 1) dX8_isBetter_42 ic_1 ?_
    refine zA_goto 47 dX8_isBetter_43 (by decide) ?_
    exact zB_zret rfl dX8_isBetter_47 (by decide) (⟨(zb_t (Or.inl h1)).symm, rfl, rfl, rfl⟩)
  · refine zA_iload_1 dX8_isBetter_18 ?_
    refine zA_aload_0 dX8_isBetter_19 ?_
    refine zA_getI (v := (gi 75 6)) sh_75 fX8_112 dX8_isBetter_20 rfl rfl ?_
    refine zA_icmp_ne 46 dX8_isBetter_23 (by decide) (fun h2 => ?_) (fun h2 => ?_)
    · refine zA_iconst (nI 0) dX8_isBetter_46 ic_0 ?_
      exact zB_zret rfl dX8_isBetter_47 (by decide) (⟨(zb_f (fun q => q.elim h1 (fun z => h2 z.1))).symm, rfl, rfl, rfl⟩)
    · refine zA_aload_0 dX8_isBetter_26 ?_
      refine zA_getR sh_75 fX8_33 dX8_isBetter_27 rfl (rt_75_2 _) ?_
      refine zA_getR sh_57 fX8_109 dX8_isBetter_30 rfl (rt_57_5 _) ?_
      refine zA_iconst (nI 1) dX8_isBetter_33 ic_1 ?_
      refine zA_iald (v := (gi 66 1)) 1 sh_66 dX8_isBetter_34 rfl (by decide) (by decide) rfl ?_
      refine zA_aload_0 dX8_isBetter_35 ?_
      refine zA_getI (v := (gi 75 7)) sh_75 fX8_115 dX8_isBetter_36 rfl rfl ?_
      refine zA_icmp_le 46 dX8_isBetter_39 (by decide) (fun h3 => ?_) (fun h3 => ?_)
      · refine zA_iconst (nI 0) dX8_isBetter_46 ic_0 ?_
        exact zB_zret rfl dX8_isBetter_47 (by decide) (⟨(zb_f (fun q => q.elim h1 (fun z => z.2 h3))).symm, rfl, rfl, rfl⟩)
      · refine zA_iconst (nI 1) dX8_isBetter_42 ic_1 ?_
        refine zA_goto 47 dX8_isBetter_43 (by decide) ?_
        exact zB_zret rfl dX8_isBetter_47 (by decide) (⟨(zb_t (Or.inr ⟨h2, h3⟩)).symm, rfl, rfl, rfl⟩)
def fKeep (gi : zm_I) : zm_I := zs (zs (zs (zs (zs gi 75 6 (gi 66 0)) 75 7 (gi 66 1)) 86 0 (gi 85 0)) 86 1 (gi 85 1)) 86 2 (gi 85 2)
theorem ct_keep (g : zm_G) (gi : zm_I) (gl : zm_J) (r : Nat)  : zC_v g yX8_keep mX8_keep 0 [.ref 75] zSH gi gl (zRT r) (fun gi' gl' gr' => gi' = fKeep gi ∧ gl' = gl ∧ gr' = zRT r) := by
  refine zC_v_of [some (.ref 75), none] (by decide) rfl rfl (Nat.le_of_ble_eq_true rfl) (fun x => ?_)
  refine zA_aload_0 dX8_keep_0 ?_
  refine zA_aload_0 dX8_keep_1 ?_
  refine zA_getR sh_75 fX8_33 dX8_keep_2 rfl (rt_75_2 _) ?_
  refine zA_getR sh_57 fX8_109 dX8_keep_5 rfl (rt_57_5 _) ?_
  refine zA_iconst (nI 0) dX8_keep_8 ic_0 ?_
  refine zA_iald (v := (gi 66 0)) 0 sh_66 dX8_keep_9 rfl (by decide) (by decide) rfl ?_
  refine zS_putI sh_75 fX8_112 dX8_keep_10 rfl rfl ?_
  refine zA_aload_0 dX8_keep_13 ?_
  refine zA_aload_0 dX8_keep_14 ?_
  refine zA_getR sh_75 fX8_33 dX8_keep_15 rfl (rt_75_2 _) ?_
  refine zA_getR sh_57 fX8_109 dX8_keep_18 rfl (rt_57_5 _) ?_
  refine zA_iconst (nI 1) dX8_keep_21 ic_1 ?_
  refine zA_iald (v := (gi 66 1)) 1 sh_66 dX8_keep_22 rfl (by decide) (by decide) rfl ?_
  refine zS_putI sh_75 fX8_115 dX8_keep_23 rfl rfl ?_
  refine zA_iconst (nI 0) dX8_keep_26 ic_0 ?_
  refine zA_istore_1 dX8_keep_27 rfl ?_
  refine zA_iload_1 dX8_keep_28 ?_
  refine zA_iconst (nI 3) dX8_keep_29 ic_3 ?_
  refine zA_icmp_geN 51 dX8_keep_30 (by decide) (by decide) (by decide) (fun hh => absurd hh (by decide)) (fun _ => ?_)
  refine zA_aload_0 dX8_keep_33 ?_
  refine zA_getR sh_75 fX8_22 dX8_keep_34 rfl (rt_75_5 _) ?_
  refine zA_iload_1 dX8_keep_37 ?_
  refine zA_aload_0 dX8_keep_38 ?_
  refine zA_getR sh_75 fX8_18 dX8_keep_39 rfl (rt_75_4 _) ?_
  refine zA_iload_1 dX8_keep_42 ?_
  refine zA_iald (v := (gi 85 0)) 0 sh_85 dX8_keep_43 rfl (by decide) (by decide) rfl ?_
  refine zS_iast 0 sh_86 dX8_keep_44 rfl (by decide) (by decide) ?_
  refine zA_iinc_1 (v := nI (0 + 1)) dX8_keep_45 (zn_inc _) rfl ?_
  refine zA_goto 28 dX8_keep_48 (by decide) ?_
  refine zA_iload_1 dX8_keep_28 ?_
  refine zA_iconst (nI 3) dX8_keep_29 ic_3 ?_
  refine zA_icmp_geN 51 dX8_keep_30 (by decide) (by decide) (by decide) (fun hh => absurd hh (by decide)) (fun _ => ?_)
  refine zA_aload_0 dX8_keep_33 ?_
  refine zA_getR sh_75 fX8_22 dX8_keep_34 rfl (rt_75_5 _) ?_
  refine zA_iload_1 dX8_keep_37 ?_
  refine zA_aload_0 dX8_keep_38 ?_
  refine zA_getR sh_75 fX8_18 dX8_keep_39 rfl (rt_75_4 _) ?_
  refine zA_iload_1 dX8_keep_42 ?_
  refine zA_iald (v := (gi 85 1)) 1 sh_85 dX8_keep_43 rfl (by decide) (by decide) rfl ?_
  refine zS_iast 1 sh_86 dX8_keep_44 rfl (by decide) (by decide) ?_
  refine zA_iinc_1 (v := nI (1 + 1)) dX8_keep_45 (zn_inc _) rfl ?_
  refine zA_goto 28 dX8_keep_48 (by decide) ?_
  refine zA_iload_1 dX8_keep_28 ?_
  refine zA_iconst (nI 3) dX8_keep_29 ic_3 ?_
  refine zA_icmp_geN 51 dX8_keep_30 (by decide) (by decide) (by decide) (fun hh => absurd hh (by decide)) (fun _ => ?_)
  refine zA_aload_0 dX8_keep_33 ?_
  refine zA_getR sh_75 fX8_22 dX8_keep_34 rfl (rt_75_5 _) ?_
  refine zA_iload_1 dX8_keep_37 ?_
  refine zA_aload_0 dX8_keep_38 ?_
  refine zA_getR sh_75 fX8_18 dX8_keep_39 rfl (rt_75_4 _) ?_
  refine zA_iload_1 dX8_keep_42 ?_
  refine zA_iald (v := (gi 85 2)) 2 sh_85 dX8_keep_43 rfl (by decide) (by decide) rfl ?_
  refine zS_iast 2 sh_86 dX8_keep_44 rfl (by decide) (by decide) ?_
  refine zA_iinc_1 (v := nI (2 + 1)) dX8_keep_45 (zn_inc _) rfl ?_
  refine zA_goto 28 dX8_keep_48 (by decide) ?_
  refine zA_iload_1 dX8_keep_28 ?_
  refine zA_iconst (nI 3) dX8_keep_29 ic_3 ?_
  refine zA_icmp_geN 51 dX8_keep_30 (by decide) (by decide) (by decide) (fun _ => ?_) (fun hh => absurd hh (by decide))
  exact zB_vret rfl dX8_keep_51 (⟨rfl, rfl, rfl⟩)
