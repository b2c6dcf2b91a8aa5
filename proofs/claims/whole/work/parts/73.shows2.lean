theorem zsL_at (gl : zm_J) (q j : Nat) (v : Int64) (a i : Nat) : zsL gl q j v a i = if a = q ∧ i = j then v else gl a i := by
  by_cases h : a = q
  · subst h
    by_cases h2 : i = j
    · subst h2; rw [zsL_eq, if_pos ⟨rfl, rfl⟩]
    · rw [zsL_nj h2, if_neg (fun z => h2 z.2)]
  · rw [zsL_nq h, if_neg (fun z => h z.1)]
theorem fCau_zero {C : zm_I} {cl : zm_J} {w v p s n : Nat} (h : (fCau C cl w v p s n).1 = 0) : C 57 19 < nI 2 ∧ ¬ fFew C (zi (C 67 w)) v s = -1 ∧ (fCau C cl w v p s n).2 = va_up (fFacts C cl v p) 41 (fWor C (fFacts C cl v p) 0).2 := by
  unfold fCau at h ⊢
  by_cases b1 : zbit (C 21 w) n
  · rw [if_pos b1] at h; exact absurd (show nI 1 = 0 from h) (by decide)
  · rw [if_neg b1] at h ⊢
    by_cases b2 : C 57 19 < nI 2
    · rw [if_pos b2] at h ⊢
      by_cases b3 : C 70 p = nI w
      · rw [if_pos b3] at h ⊢
        by_cases b4 : fFew C (zi (C 67 w)) v s = -1
        · rw [if_pos b4] at h; exact absurd (show nI 4 = 0 from h) (by decide)
        · rw [if_neg b4] at h ⊢
          by_cases b5 : C 57 18 + fFew C (zi (C 67 w)) v s + C (23 + p) 2 ≤ C 36 5
          · rw [if_pos b5] at h ⊢
            by_cases b6 : zbit (C 57 17) v
            · rw [if_pos b6] at h; exact absurd (show nI 6 = 0 from h) (by decide)
            · rw [if_neg b6]
              exact ⟨b2, b4, rfl⟩
          · rw [if_neg b5] at h; exact absurd (show nI 5 = 0 from h) (by decide)
      · rw [if_neg b3] at h; exact absurd (show nI 3 = 0 from h) (by decide)
    · rw [if_neg b2] at h; exact absurd (show nI 2 = 0 from h) (by decide)
theorem fCau_rng (C : zm_I) (cl : zm_J) (w v p s n : Nat) : ∃ k, k ≤ 7 ∧ (fCau C cl w v p s n).1 = nI k := by
  unfold fCau
  by_cases b1 : zbit (C 21 w) n
  · rw [if_pos b1]; exact ⟨1, by decide, rfl⟩
  · rw [if_neg b1]
    by_cases b2 : C 57 19 < nI 2
    · rw [if_pos b2]
      by_cases b3 : C 70 p = nI w
      · rw [if_pos b3]
        by_cases b4 : fFew C (zi (C 67 w)) v s = -1
        · rw [if_pos b4]; exact ⟨4, by decide, rfl⟩
        · rw [if_neg b4]
          by_cases b5 : C 57 18 + fFew C (zi (C 67 w)) v s + C (23 + p) 2 ≤ C 36 5
          · rw [if_pos b5]
            by_cases b6 : zbit (C 57 17) v
            · rw [if_pos b6]; exact ⟨6, by decide, rfl⟩
            · rw [if_neg b6]
              dsimp only
              by_cases b7 : lg_cmp (fWor C (fFacts C cl v p) 0).1 0 = 0
              · rw [if_pos b7]; exact ⟨7, by decide, rfl⟩
              · rw [if_neg b7]
                by_cases b8 : lg_cmp (fWor C (fFacts C cl v p) 0).1 (-9223372036854775808) = 0
                · rw [if_pos b8]; exact ⟨7, by decide, rfl⟩
                · rw [if_neg b8]; exact ⟨0, by decide, rfl⟩
          · rw [if_neg b5]; exact ⟨5, by decide, rfl⟩
      · rw [if_neg b3]; exact ⟨3, by decide, rfl⟩
    · rw [if_neg b2]; exact ⟨2, by decide, rfl⟩
theorem zFa_ok {q W Pn E K v p n : Nat} {F X : zm_I} {cl : zm_J} (hS : zSR q W Pn E K F X) (hv : v < 8) (hp : p < Pn) (hP4 : Pn ≤ 4) (hg : zx (F (23 + p) 0) 4) (h61 : X 87 61 = nI v) (h62 : X 87 62 = nI p) (h63 : X 87 63 = nI n) (h64 : X 87 64 = F 72 p) (h57 : F 57 15 = nI n) : ∀ k, k < 10 → fFacts F cl v p 74 k = (rNm X k).toInt64 := by
  obtain ⟨a1, a2, a3, a4, a5, a6, a7, a8, a9, a10, a11, a12, a13, a14⟩ := hS
  have z1 : zi (X 87 61) = v := by rw [h61]; exact zi_nI (by omega)
  have z2 : zi (X 87 62) = p := by rw [h62]; exact zi_nI (by omega)
  have z3 : X 97 (7 * p) = F (23 + p) 0 := a7 p 0 hp (by decide)
  intro k hk
  rcases (show k = 0 ∨ k = 1 ∨ k = 2 ∨ k = 3 ∨ k = 4 ∨ k = 5 ∨ k = 6 ∨ k = 7 ∨ k = 8 ∨ k = 9 by omega) with rfl | rfl | rfl | rfl | rfl | rfl | rfl | rfl | rfl | rfl
  · show (F (5 + v) 0).toInt64 = (X 89 (8 * zi (X 87 61))).toInt64
    rw [z1, ← a4 v 0 hv (by decide), Nat.add_zero]
  · show (F (5 + v) 1).toInt64 = (X 89 (8 * zi (X 87 61) + 1)).toInt64
    rw [z1, ← a4 v 1 hv (by decide)]
  · show (F (5 + v) 2).toInt64 = (X 89 (8 * zi (X 87 61) + 2)).toInt64
    rw [z1, ← a4 v 2 hv (by decide)]
  · show (F (5 + v) 3).toInt64 = (X 89 (8 * zi (X 87 61) + 3)).toInt64
    rw [z1, ← a4 v 3 hv (by decide)]
  · show (F (5 + v) (4 + zi (F (23 + p) 0))).toInt64 = (X 89 (8 * zi (X 87 61) + 4 + zi (X 97 (7 * zi (X 87 62))))).toInt64
    have := hg.2
    rw [z1, z2, z3, Nat.add_assoc, ← a4 v (4 + zi (F (23 + p) 0)) hv (by omega)]
  · show (nI (zi (F (23 + p) 0))).toInt64 = (X 97 (7 * zi (X 87 62))).toInt64
    rw [z2, z3, ← hg.1]
  · show (F (23 + p) 1).toInt64 = (X 97 (7 * zi (X 87 62) + 1)).toInt64
    rw [z2, ← a7 p 1 hp (by decide)]
  · show (F (23 + p) 2).toInt64 = (X 97 (7 * zi (X 87 62) + 2)).toInt64
    rw [z2, ← a7 p 2 hp (by decide)]
  · show (F 57 15).toInt64 = (X 87 63).toInt64
    rw [h57, h63]
  · show (F 72 p).toInt64 = (X 87 64).toInt64
    rw [h64]
theorem rAt_ok {q W Pn E K v p : Nat} {F X : zm_I} (hS : zSR q W Pn E K F X) (hv : v < 8) (hp : p < Pn) (hP4 : Pn ≤ 4) (hg : zx (F (23 + p) 0) 4) (h61 : X 87 61 = nI v) (h62 : X 87 62 = nI p) : rAt X := by
  have z2 : zi (X 87 62) = p := by rw [h62]; exact zi_nI (by omega)
  have z3 : X 97 (7 * p) = F (23 + p) 0 := hS.2.2.2.2.2.2.1 p 0 hp (by decide)
  unfold rAt
  rw [z2, z3, h61, h62]
  exact ⟨zx_of hv (by decide), zx_of (by omega) (by decide), hg⟩
theorem rNm_cg {X X' : zm_I} (h1 : X' 89 = X 89) (h2 : X' 97 = X 97) (h3 : X' 87 61 = X 87 61) (h4 : X' 87 62 = X 87 62) (h5 : X' 87 63 = X 87 63) (h6 : X' 87 64 = X 87 64) : (∀ k, k < 10 → rNm X' k = rNm X k) ∧ (rAt X → rAt X') := by
  refine ⟨fun k hk => ?_, fun h => ?_⟩
  · rcases (show k = 0 ∨ k = 1 ∨ k = 2 ∨ k = 3 ∨ k = 4 ∨ k = 5 ∨ k = 6 ∨ k = 7 ∨ k = 8 ∨ k = 9 by omega) with rfl | rfl | rfl | rfl | rfl | rfl | rfl | rfl | rfl | rfl <;> simp only [rNm, h1, h2, h3, h4, h5, h6]
  · unfold rAt at h ⊢
    rw [h2, h3, h4]
    exact h
theorem hd_ok {l se : Int32} (hs : ¬ se < 0) : (¬ 0 ≤ l → zmin (zmax l (nI 0)) se = nI 0) ∧ (0 ≤ l → ¬ l ≤ se → zmin (zmax l (nI 0)) se = se) ∧ (0 ≤ l → l ≤ se → zmin (zmax l (nI 0)) se = l) := by
  unfold zmin zmax
  refine ⟨fun h => ?_, fun h h2 => ?_, fun h h2 => ?_⟩
  · have h3 : l < nI 0 := Int32.not_le.mp h
    rw [if_pos h3]
    exact if_neg hs
  · have h3 : ¬ l < nI 0 := Int32.not_lt.mpr h
    rw [if_neg h3, if_pos (Int32.not_le.mp h2)]
  · have h3 : ¬ l < nI 0 := Int32.not_lt.mpr h
    rw [if_neg h3, if_neg (Int32.not_lt.mpr h2)]
theorem i32_64 (x : Int32) : x.toInt64.toInt32 = x := by
  have h1 := x.toInt_lt
  have h2 := x.le_toInt
  exact Int32.toInt_inj.mp (by rw [Kit.i32_of_i64 (by rw [Int32.toInt_toInt64]; omega) (by rw [Int32.toInt_toInt64]; omega), Int32.toInt_toInt64])
theorem ct_rShutOf (g : zm_G) (gi : zm_I) (gl : zm_J) (r : Nat) (n : Nat)  : zC_i g yX11_shutOf mX11_shutOf 0 [.ref 87, .int (nI n)] zSH gi gl (zRT r) (fun z gi' gl' gr' => z = nI (zsh (gi 87 66) n) ∧ gi' = gi ∧ gl' = gl ∧ gr' = zRT r) := by
  refine zC_i_of [some (.ref 87), some (.int (nI n))] (by decide) rfl rfl (Nat.le_of_ble_eq_true rfl) (fun x => ?_)
  refine zA_aload_0 dX11_shutOf_0 ?_
  refine zA_getI (v := (gi 87 66)) sh_87 fX11_375 dX11_shutOf_1 rfl rfl ?_
  refine zA_iconst (nI 2) dX11_shutOf_4 ic_2 ?_
  refine zA_iload_1 dX11_shutOf_5 ?_
  refine zA_imulN dX11_shutOf_6 ?_
  refine zA_ishr dX11_shutOf_7 ?_
  refine zA_iconst (nI 3) dX11_shutOf_8 ic_3 ?_
  refine zA_iand dX11_shutOf_9 ?_
  exact zB_iret rfl dX11_shutOf_10 (⟨zsh_eq _ _, rfl, rfl, rfl⟩)
theorem ct_rShows (g : zm_G) (gi : zm_I) (gl : zm_J) (r : Nat) (C : zm_I) (cl : zm_J) {q W Pn E K w n s e : Nat} (hq : q = 27 ∨ q = 76) (hR : zRs q W Pn E K C) (hd : zRd W Pn C) (hNi : zNi n s C) (hn : n < 4) (hs : s < 4) (hsh : zsh (gi 87 66) n = s) (hw : w < W) (he : e < E) (c1 : C (q + 1) e = nI n) (c2 : C (q + 2) e = nI w) (hS : zSR q W Pn E K C gi) (hD : zDR W Pn C gi) (hN : zNR C gi) (hT : zTR w C gi)  : zC_v g yX11_shows mX11_shows 5 [.ref 87, .int (nI e)] zSH gi gl (zRT r) (fun gi' gl' gr' => zOut W Pn w e (fEntS q w n s (C, cl) e).1 gi gi' ∧ (∀ q, q ≠ 121 → gl' q = gl q) ∧ gr' = zRT r) := by
  obtain ⟨r1, hW3, r3, hP4, r5, hE27, r7, r8, r9, r10, r11, r12, r13⟩ := id hR
  obtain ⟨⟨_, _⟩, ⟨_, _⟩, ⟨hv1, hv⟩, hp1, hp⟩ := r7 e he
  obtain ⟨b1, b2, b3, b4⟩ := hS.2.2.2.2.2.2.2.2.1 e he
  have hE0 : fEntS q w n s (C, cl) e = (if (fCau (fForget C e) cl w (zi (C (q + 3) e)) (zi (C (q + 4) e)) s n).1 = 0 then fShow (fDrive (zs (fForget C e) 59 e (fCau (fForget C e) cl w (zi (C (q + 3) e)) (zi (C (q + 4) e)) s n).1) e w (zi (C (q + 3) e)) s) (fCau (fForget C e) cl w (zi (C (q + 3) e)) (zi (C (q + 4) e)) s n).2 e (zi (C (q + 3) e)) (zi (C (q + 4) e)) n else (zs (fForget C e) 59 e (fCau (fForget C e) cl w (zi (C (q + 3) e)) (zi (C (q + 4) e)) s n).1, (fCau (fForget C e) cl w (zi (C (q + 3) e)) (zi (C (q + 4) e)) s n).2)) := by
    unfold fEntS
    rw [if_pos c1, if_pos c2]
  rw [hE0]
  clear hE0
  generalize zi (C (q + 3) e) = v at *
  generalize zi (C (q + 4) e) = p at *
  have hgn := (r11 p hp).1
  refine zC_v_of [some (.ref 87), some (.int (nI e)), none, none, none, none, none, none, none, none, none, none, none, none] (by decide) rfl rfl (Nat.le_of_ble_eq_true rfl) (fun x => ?_)
  refine zA_aload_0 dX11_shows_0 ?_
  refine zA_getR sh_87 fX11_43 dX11_shows_1 rfl (rt_87_19 _) ?_
  refine zA_iconst (nI 4) dX11_shows_4 ic_4 ?_
  refine zA_iload_1 dX11_shows_5 ?_
  refine zA_imulN dX11_shows_6 ?_
  refine zA_iald (v := (nI n)) (4 * e) sh_99 dX11_shows_7 rfl (by omega) (by decide) (b1.trans c1) ?_
  refine zA_istore_2 dX11_shows_8 rfl ?_
  refine zA_aload_0 dX11_shows_9 ?_
  refine zA_getR sh_87 fX11_43 dX11_shows_10 rfl (rt_87_19 _) ?_
  refine zA_iconst (nI 4) dX11_shows_13 ic_4 ?_
  refine zA_iload_1 dX11_shows_14 ?_
  refine zA_imulN dX11_shows_15 ?_
  refine zA_iconst (nI 1) dX11_shows_16 ic_1 ?_
  refine zA_iaddN dX11_shows_17 ?_
  refine zA_iald (v := (nI w)) ((4 * e) + 1) sh_99 dX11_shows_18 rfl (by omega) (by decide) (b2.trans c2) ?_
  refine zA_istore_3 dX11_shows_19 rfl ?_
  refine zA_aload_0 dX11_shows_20 ?_
  refine zA_getR sh_87 fX11_43 dX11_shows_21 rfl (rt_87_19 _) ?_
  refine zA_iconst (nI 4) dX11_shows_24 ic_4 ?_
  refine zA_iload_1 dX11_shows_25 ?_
  refine zA_imulN dX11_shows_26 ?_
  refine zA_iconst (nI 2) dX11_shows_27 ic_2 ?_
  refine zA_iaddN dX11_shows_28 ?_
  refine zA_iald (v := (nI v)) ((4 * e) + 2) sh_99 dX11_shows_29 rfl (by omega) (by decide) (b3.trans hv1) ?_
  refine zA_istore_4 dX11_shows_30 rfl ?_
  refine zA_aload_0 dX11_shows_32 ?_
  refine zA_getR sh_87 fX11_43 dX11_shows_33 rfl (rt_87_19 _) ?_
  refine zA_iconst (nI 4) dX11_shows_36 ic_4 ?_
  refine zA_iload_1 dX11_shows_37 ?_
  refine zA_imulN dX11_shows_38 ?_
  refine zA_iconst (nI 3) dX11_shows_39 ic_3 ?_
  refine zA_iaddN dX11_shows_40 ?_
  refine zA_iald (v := (nI p)) ((4 * e) + 3) sh_99 dX11_shows_41 rfl (by omega) (by decide) (b4.trans hp1) ?_
  refine zA_istore_5 dX11_shows_42 rfl ?_
  refine zA_iconst (nI 0) dX11_shows_44 ic_0 ?_
  refine zA_istore_6 dX11_shows_45 rfl ?_
  refine zA_iload_6 dX11_shows_47 ?_
  refine zA_bipush (nI 7) dX11_shows_49 bc_7 ?_
  refine zA_icmp_geN 73 dX11_shows_51 (by decide) (by decide) (by decide) (fun hh => absurd hh (by decide)) (fun _ => ?_)
  refine zA_aload_0 dX11_shows_54 ?_
  refine zA_getR sh_87 fX11_142 dX11_shows_55 rfl (rt_87_75 _) ?_
  refine zA_bipush (nI 7) dX11_shows_58 bc_7 ?_
  refine zA_iload_1 dX11_shows_60 ?_
  refine zA_imulN dX11_shows_61 ?_
  refine zA_iload_6 dX11_shows_62 ?_
  refine zA_iaddN dX11_shows_64 ?_
  refine zA_iconst (nI 0) dX11_shows_65 ic_0 ?_
  refine zS_iast ((7 * e) + 0) sh_130 dX11_shows_66 rfl (by omega) (by decide) ?_
  refine zA_iinc_6 (v := nI (0 + 1)) dX11_shows_67 (zn_inc _) rfl ?_
  refine zA_goto 47 dX11_shows_70 (by decide) ?_
  refine zA_iload_6 dX11_shows_47 ?_
  refine zA_bipush (nI 7) dX11_shows_49 bc_7 ?_
  refine zA_icmp_geN 73 dX11_shows_51 (by decide) (by decide) (by decide) (fun hh => absurd hh (by decide)) (fun _ => ?_)
  refine zA_aload_0 dX11_shows_54 ?_
  refine zA_getR sh_87 fX11_142 dX11_shows_55 rfl (rt_87_75 _) ?_
  refine zA_bipush (nI 7) dX11_shows_58 bc_7 ?_
  refine zA_iload_1 dX11_shows_60 ?_
  refine zA_imulN dX11_shows_61 ?_
  refine zA_iload_6 dX11_shows_62 ?_
  refine zA_iaddN dX11_shows_64 ?_
  refine zA_iconst (nI 0) dX11_shows_65 ic_0 ?_
  refine zS_iast ((7 * e) + 1) sh_130 dX11_shows_66 rfl (by omega) (by decide) ?_
  refine zA_iinc_6 (v := nI (1 + 1)) dX11_shows_67 (zn_inc _) rfl ?_
  refine zA_goto 47 dX11_shows_70 (by decide) ?_
  refine zA_iload_6 dX11_shows_47 ?_
  refine zA_bipush (nI 7) dX11_shows_49 bc_7 ?_
  refine zA_icmp_geN 73 dX11_shows_51 (by decide) (by decide) (by decide) (fun hh => absurd hh (by decide)) (fun _ => ?_)
  refine zA_aload_0 dX11_shows_54 ?_
  refine zA_getR sh_87 fX11_142 dX11_shows_55 rfl (rt_87_75 _) ?_
  refine zA_bipush (nI 7) dX11_shows_58 bc_7 ?_
  refine zA_iload_1 dX11_shows_60 ?_
  refine zA_imulN dX11_shows_61 ?_
  refine zA_iload_6 dX11_shows_62 ?_
  refine zA_iaddN dX11_shows_64 ?_
  refine zA_iconst (nI 0) dX11_shows_65 ic_0 ?_
  refine zS_iast ((7 * e) + 2) sh_130 dX11_shows_66 rfl (by omega) (by decide) ?_
  refine zA_iinc_6 (v := nI (2 + 1)) dX11_shows_67 (zn_inc _) rfl ?_
  refine zA_goto 47 dX11_shows_70 (by decide) ?_
  refine zA_iload_6 dX11_shows_47 ?_
  refine zA_bipush (nI 7) dX11_shows_49 bc_7 ?_
  refine zA_icmp_geN 73 dX11_shows_51 (by decide) (by decide) (by decide) (fun hh => absurd hh (by decide)) (fun _ => ?_)
  refine zA_aload_0 dX11_shows_54 ?_
  refine zA_getR sh_87 fX11_142 dX11_shows_55 rfl (rt_87_75 _) ?_
  refine zA_bipush (nI 7) dX11_shows_58 bc_7 ?_
  refine zA_iload_1 dX11_shows_60 ?_
  refine zA_imulN dX11_shows_61 ?_
  refine zA_iload_6 dX11_shows_62 ?_
  refine zA_iaddN dX11_shows_64 ?_
  refine zA_iconst (nI 0) dX11_shows_65 ic_0 ?_
  refine zS_iast ((7 * e) + 3) sh_130 dX11_shows_66 rfl (by omega) (by decide) ?_
  refine zA_iinc_6 (v := nI (3 + 1)) dX11_shows_67 (zn_inc _) rfl ?_
  refine zA_goto 47 dX11_shows_70 (by decide) ?_
  refine zA_iload_6 dX11_shows_47 ?_
  refine zA_bipush (nI 7) dX11_shows_49 bc_7 ?_
  refine zA_icmp_geN 73 dX11_shows_51 (by decide) (by decide) (by decide) (fun hh => absurd hh (by decide)) (fun _ => ?_)
  refine zA_aload_0 dX11_shows_54 ?_
  refine zA_getR sh_87 fX11_142 dX11_shows_55 rfl (rt_87_75 _) ?_
  refine zA_bipush (nI 7) dX11_shows_58 bc_7 ?_
  refine zA_iload_1 dX11_shows_60 ?_
  refine zA_imulN dX11_shows_61 ?_
  refine zA_iload_6 dX11_shows_62 ?_
  refine zA_iaddN dX11_shows_64 ?_
  refine zA_iconst (nI 0) dX11_shows_65 ic_0 ?_
  refine zS_iast ((7 * e) + 4) sh_130 dX11_shows_66 rfl (by omega) (by decide) ?_
  refine zA_iinc_6 (v := nI (4 + 1)) dX11_shows_67 (zn_inc _) rfl ?_
  refine zA_goto 47 dX11_shows_70 (by decide) ?_
  refine zA_iload_6 dX11_shows_47 ?_
  refine zA_bipush (nI 7) dX11_shows_49 bc_7 ?_
  refine zA_icmp_geN 73 dX11_shows_51 (by decide) (by decide) (by decide) (fun hh => absurd hh (by decide)) (fun _ => ?_)
  refine zA_aload_0 dX11_shows_54 ?_
  refine zA_getR sh_87 fX11_142 dX11_shows_55 rfl (rt_87_75 _) ?_
  refine zA_bipush (nI 7) dX11_shows_58 bc_7 ?_
  refine zA_iload_1 dX11_shows_60 ?_
  refine zA_imulN dX11_shows_61 ?_
  refine zA_iload_6 dX11_shows_62 ?_
  refine zA_iaddN dX11_shows_64 ?_
  refine zA_iconst (nI 0) dX11_shows_65 ic_0 ?_
  refine zS_iast ((7 * e) + 5) sh_130 dX11_shows_66 rfl (by omega) (by decide) ?_
  refine zA_iinc_6 (v := nI (5 + 1)) dX11_shows_67 (zn_inc _) rfl ?_
  refine zA_goto 47 dX11_shows_70 (by decide) ?_
  refine zA_iload_6 dX11_shows_47 ?_
  refine zA_bipush (nI 7) dX11_shows_49 bc_7 ?_
  refine zA_icmp_geN 73 dX11_shows_51 (by decide) (by decide) (by decide) (fun hh => absurd hh (by decide)) (fun _ => ?_)
  refine zA_aload_0 dX11_shows_54 ?_
  refine zA_getR sh_87 fX11_142 dX11_shows_55 rfl (rt_87_75 _) ?_
  refine zA_bipush (nI 7) dX11_shows_58 bc_7 ?_
  refine zA_iload_1 dX11_shows_60 ?_
  refine zA_imulN dX11_shows_61 ?_
  refine zA_iload_6 dX11_shows_62 ?_
  refine zA_iaddN dX11_shows_64 ?_
  refine zA_iconst (nI 0) dX11_shows_65 ic_0 ?_
  refine zS_iast ((7 * e) + 6) sh_130 dX11_shows_66 rfl (by omega) (by decide) ?_
  refine zA_iinc_6 (v := nI (6 + 1)) dX11_shows_67 (zn_inc _) rfl ?_
  refine zA_goto 47 dX11_shows_70 (by decide) ?_
  refine zA_iload_6 dX11_shows_47 ?_
  refine zA_bipush (nI 7) dX11_shows_49 bc_7 ?_
  refine zA_icmp_geN 73 dX11_shows_51 (by decide) (by decide) (by decide) (fun _ => ?_) (fun hh => absurd hh (by decide))
  refine zA_aload_0 dX11_shows_73 ?_
  refine zA_iload_4 dX11_shows_74 ?_
  refine zS_putI sh_87 fX11_349 dX11_shows_76 rfl rfl ?_
  refine zA_aload_0 dX11_shows_79 ?_
  refine zA_iload_5 dX11_shows_80 ?_
  refine zS_putI sh_87 fX11_352 dX11_shows_82 rfl rfl ?_
  refine zA_aload_0 dX11_shows_85 ?_
  refine zA_iload_2 dX11_shows_86 ?_
  refine zS_putI sh_87 fX11_355 dX11_shows_87 rfl rfl ?_
  refine zA_aload_0 dX11_shows_90 ?_
  refine zA_aload_0 dX11_shows_91 ?_
  refine zA_getR sh_87 fX11_136 dX11_shows_92 rfl (rt_87_73 _) ?_
  refine zA_iload_5 dX11_shows_95 ?_
  refine zA_iald (v := (C 72 p)) p sh_128 dX11_shows_97 rfl (by omega) (by decide) ((hD.2.1 p hp).2.1) ?_
  refine zS_putI sh_87 fX11_358 dX11_shows_98 rfl rfl ?_
  refine zA_aload_0 dX11_shows_101 ?_
  refine zA_iconst (nI 0) dX11_shows_102 ic_0 ?_
  refine zS_putI sh_87 fX11_361 dX11_shows_103 rfl rfl ?_
  refine zA_gi (gi2 := rPre gi e v p n (C 72 p)) rfl ?_
  obtain ⟨X1, hX1⟩ : ∃ X1, X1 = rPre gi e v p n (C 72 p) := ⟨_, rfl⟩
  rw [← hX1]
  have hFa : zAg C (fForget C e) := fForget_ag C e
  have hS1 : zSR q W Pn E K (fForget C e) X1 := by rw [hX1]; exact zSR_ag hP4 hq hFa (rPre_xg _ _ _ _ _ _) hS
  obtain ⟨pD, pN, pT⟩ : zDR W Pn (fForget C e) X1 ∧ zNR (fForget C e) X1 ∧ zTR w (fForget C e) X1 := by rw [hX1]; exact zPre_ok hD hN hT
  have x61 : X1 87 61 = nI v := by rw [hX1]; rfl
  have x62 : X1 87 62 = nI p := by rw [hX1]; rfl
  have x63 : X1 87 63 = nI n := by rw [hX1]; rfl
  have f72 : (fForget C e) 72 = C 72 := fForget_row C e (by omega)
  have f57 : (fForget C e) 57 = C 57 := fForget_row C e (by omega)
  have f67 : (fForget C e) 67 = C 67 := fForget_row C e (by omega)
  have x64 : X1 87 64 = (fForget C e) 72 p := by rw [hX1, f72]; rfl
  have x66 : X1 87 66 = gi 87 66 := by rw [hX1]; exact rPre_87 _ _ _ _ _ _ (by omega)
  have hg : zx ((fForget C e) (23 + p) 0) 4 := by rw [hFa (23 + p) (by omega)]; exact hgn
  have hF10 := zFa_ok (cl := cl) hS1 hv hp hP4 hg x61 x62 x63 x64 (by rw [f57]; exact hNi.1)
  have hA1 := rAt_ok hS1 hv hp hP4 hg x61 x62
  have hpl : zx ((fForget C e) 67 w) 8 := by rw [f67]; exact hd.1 w hw
  have hpl2 := hpl.2
  refine zA_aload_0 dX11_shows_106 ?_
  refine zA_getR sh_87 fX11_62 dX11_shows_107 rfl (rt_87_27 _) ?_
  refine zA_bipush (nI 64) dX11_shows_110 bc_64 ?_
  refine zA_aload_0 dX11_shows_112 ?_
  refine zA_iload_2 dX11_shows_113 ?_
  refine zA_cVi (ct_rShutOf g X1 gl r n) calX11_shutOf stX11_shutOf lX11_378 dX11_shows_114 (by decide) (by simp [Value.category]) rfl (Nat.le_refl _) (Nat.le_refl _) sh_87 rfl (fun zz gi' gl' gr' ⟨hz, e1, e2, e3⟩ => ?_)
  rw [hz, e1, e2, e3, x66, hsh]
  clear hz e1 e2 e3
  refine zA_imulN dX11_shows_117 ?_
  refine zA_bipush (nI 8) dX11_shows_118 bc_8 ?_
  refine zA_aload_0 dX11_shows_120 ?_
  refine zA_getR sh_87 fX11_118 dX11_shows_121 rfl (rt_87_67 _) ?_
  refine zA_iload_3 dX11_shows_124 ?_
  refine zA_iald (v := (nI (zi ((fForget C e) 67 w)))) w sh_122 dX11_shows_125 rfl (by omega) (by decide) (((pD.1 w hw).1).trans hpl.1) ?_
  refine zA_imulN dX11_shows_126 ?_
  refine zA_iaddN dX11_shows_127 ?_
  refine zA_iload_4 dX11_shows_128 ?_
  refine zA_iaddN dX11_shows_130 ?_
  refine zA_iald (v := ((fForget C e) (14 + s) (zi ((fForget C e) 67 w) * 8 + v))) (((64 * s) + (8 * (zi ((fForget C e) 67 w)))) + v) sh_105 dX11_shows_131 rfl (by omega) (by decide) (hS1.2.2.2.2.1 s (zi ((fForget C e) 67 w)) v hs hpl2 hv) ?_
  refine zA_istore_6 dX11_shows_132 rfl ?_
  refine zA_aload_0 dX11_shows_134 ?_
  refine zA_iload_2 dX11_shows_135 ?_
  refine zA_iload_3 dX11_shows_136 ?_
  refine zA_iload_4 dX11_shows_137 ?_
  refine zA_iload_5 dX11_shows_139 ?_
  refine zA_iload_6 dX11_shows_141 ?_
  refine zA_cVi (ct_rCause g X1 gl r (fForget C e) cl hS1 pD pN pT hW3 hP4 hw hv hp hs hn hpl2 hA1 (fun k hk hk2 => hF10 k (by omega))) calX11_causeOf stX11_causeOf lX11_381 dX11_shows_143 (by decide) (by simp [Value.category]) rfl (Nat.le_refl _) (Nat.le_refl _) sh_87 rfl (fun zz gi1 gl1 gr1 ⟨hz, ⟨ve, e1⟩, e2, e3⟩ => ?_)
  rw [hz, e1, e3]
  clear hz e1 e3
  obtain ⟨kc, hkc, ec⟩ := fCau_rng (fForget C e) cl w v p s n
  refine zA_istore_7 dX11_shows_146 rfl ?_
  refine zA_aload_0 dX11_shows_148 ?_
  refine zA_getR sh_87 fX11_142 dX11_shows_149 rfl (rt_87_75 _) ?_
  refine zA_bipush (nI 7) dX11_shows_152 bc_7 ?_
  refine zA_iload_1 dX11_shows_154 ?_
  refine zA_imulN dX11_shows_155 ?_
  refine zA_iload_7 dX11_shows_156 ?_
  refine zS_iast (7 * e) sh_130 dX11_shows_158 rfl (by omega) (by decide) ?_
  refine zA_iload_7 dX11_shows_159 ?_
  refine zA_if_le 165 dX11_shows_161 (by decide) (fun hc => ?_) (fun hc => ?_)
  · have hc0 : (fCau (fForget C e) cl w v p s n).1 = 0 := by
      rw [ec] at hc ⊢
      have := (nI_leI (b := 0) (by omega) (by decide)).mp hc
      rw [show kc = 0 by omega]
      rfl
    obtain ⟨z1, z2, z3⟩ := fCau_zero hc0
    obtain ⟨Y, hY⟩ : ∃ Y, Y = zs (zs X1 87 60 ve) 130 (7 * e) (fCau (fForget C e) cl w v p s n).1 := ⟨_, rfl⟩
    rw [← hY]
    have hO : zOut W Pn w e (zs (fForget C e) 59 e (fCau (fForget C e) cl w v p s n).1) gi Y := by rw [hY, hX1]; exact zOut_no hD hN hT
    have hXY : zXg X1 Y := by rw [hY]; exact zXg_zs (zXg_zs (zXg_rf X1) (by omega)) (by omega)
    have hSY : zSR q W Pn E K (fForget C e) Y := zSR_ag hP4 hq (zAg.rf _) hXY hS1
    obtain ⟨k, hk2, hk⟩ := pT.2.2
    have hk3 : k < 2 := by rw [hk] at z1; exact (nI_ltI (by omega) (by decide)).mp z1
    have m67 : (zs (fForget C e) 59 e (fCau (fForget C e) cl w v p s n).1) 67 = (fForget C e) 67 := zs_nq (by decide)
    have m14 : (zs (fForget C e) 59 e (fCau (fForget C e) cl w v p s n).1) (14 + s) = (fForget C e) (14 + s) := zs_nq (by omega)
    have m23 : (zs (fForget C e) 59 e (fCau (fForget C e) cl w v p s n).1) (23 + p) = (fForget C e) (23 + p) := zs_nq (by omega)
    obtain ⟨wy, hwy⟩ : ∃ wy, wy = fFew (zs (fForget C e) 59 e (fCau (fForget C e) cl w v p s n).1) (zi ((zs (fForget C e) 59 e (fCau (fForget C e) cl w v p s n).1) 67 w)) v s := ⟨_, rfl⟩
    have hwy2 : (fForget C e) (14 + s) (zi ((fForget C e) 67 w) * 8 + v) = wy := by
      have q1 : fFew (zs (fForget C e) 59 e (fCau (fForget C e) cl w v p s n).1) (zi ((zs (fForget C e) 59 e (fCau (fForget C e) cl w v p s n).1) 67 w)) v s = fFew (fForget C e) (zi ((fForget C e) 67 w)) v s := by unfold fFew; rw [m14, m67]
      obtain ⟨g1, g2⟩ := fFew_far (b := v) hpl2 hv (hS1.2.2.2.2.2.2.2.2.2.2.2.2.1 s hs)
      by_cases q2 : (fForget C e) (14 + s) (zi ((fForget C e) 67 w) * 8 + v) = nI 1000000
      · exact absurd (g1 q2) z2
      · rw [hwy, q1, (g2 q2).1]
    rw [hwy2]
    obtain ⟨pm, hpm⟩ : ∃ pm, pm = (zs (fForget C e) 59 e (fCau (fForget C e) cl w v p s n).1) (23 + p) 2 := ⟨_, rfl⟩
    have hpm2 : Y 97 (7 * p + 2) = pm := by rw [hSY.2.2.2.2.2.2.1 p 2 hp (by decide), hpm, m23]
    have y125 : Y 125 w = nI k := by rw [hO.2.2.1.2.1, zs_nq (by decide)]; exact hk
    obtain ⟨gn, hgn4, egn⟩ : ∃ gn, gn < 4 ∧ (fForget C e) (23 + p) 0 = nI gn := ⟨_, hg.2, hg.1⟩
    have zgn : zi ((fForget C e) (23 + p) 0) = gn := by rw [egn]; exact zi_nI (by omega)
    have y97 : Y 97 (7 * p) = nI gn := (hSY.2.2.2.2.2.2.1 p 0 hp (by decide)).trans egn
    have y89 := hSY.2.2.2.1
    have y129 : Y 129 (8 * p + v) = (fForget C e) 73 (p * 8 + v) := by rw [hO.1.2.2.1 (8 * p + v) (by omega), zs_nq (by decide), Nat.mul_comm p 8]
    refine zA_aload_0 dX11_shows_165 ?_
    refine zA_getR sh_87 fX11_118 dX11_shows_166 rfl (rt_87_67 _) ?_
    refine zA_iload_3 dX11_shows_169 ?_
    refine zA_iload_4 dX11_shows_170 ?_
    refine zS_iast w sh_122 dX11_shows_172 rfl (by omega) (by decide) ?_
    refine zA_aload_0 dX11_shows_173 ?_
    refine zA_getR sh_87 fX11_121 dX11_shows_174 rfl (rt_87_68 _) ?_
    refine zA_iload_3 dX11_shows_177 ?_
    refine zA_dup2 dX11_shows_178 rfl rfl ?_
    refine zA_iald (v := (Y 123 w)) w sh_123 dX11_shows_179 rfl (by omega) (by decide) rfl ?_
    refine zA_iload_6 dX11_shows_180 ?_
    refine zA_iadd dX11_shows_182 ?_
    refine zS_iast w sh_123 dX11_shows_183 rfl (by omega) (by decide) ?_
    refine zA_aload_0 dX11_shows_184 ?_
    refine zA_getR sh_87 fX11_124 dX11_shows_185 rfl (rt_87_69 _) ?_
    refine zA_iload_3 dX11_shows_188 ?_
    refine zA_dup2 dX11_shows_189 rfl rfl ?_
    refine zA_iald (v := (Y 124 w)) w sh_124 dX11_shows_190 rfl (by omega) (by decide) rfl ?_
    refine zA_iload_6 dX11_shows_191 ?_
    refine zA_aload_0 dX11_shows_193 ?_
    refine zA_getR sh_87 fX11_37 dX11_shows_194 rfl (rt_87_16 _) ?_
    refine zA_bipush (nI 7) dX11_shows_197 bc_7 ?_
    refine zA_iload_5 dX11_shows_199 ?_
    refine zA_imulN dX11_shows_201 ?_
    refine zA_iconst (nI 2) dX11_shows_202 ic_2 ?_
    refine zA_iaddN dX11_shows_203 ?_
    refine zA_iald (v := pm) ((7 * p) + 2) sh_97 dX11_shows_204 rfl (by omega) (by decide) hpm2 ?_
    refine zA_iadd dX11_shows_205 ?_
    refine zA_iadd dX11_shows_206 ?_
    refine zS_iast w sh_124 dX11_shows_207 rfl (by omega) (by decide) ?_
    refine zA_aload_0 dX11_shows_208 ?_
    refine zA_getR sh_87 fX11_127 dX11_shows_209 rfl (rt_87_70 _) ?_
    refine zA_iload_3 dX11_shows_212 ?_
    refine zA_dup2 dX11_shows_213 rfl rfl ?_
    refine zA_iald (v := (nI k)) w sh_125 dX11_shows_214 rfl (by omega) (by decide) y125 ?_
    refine zA_iconst (nI 1) dX11_shows_215 ic_1 ?_
    refine zA_iaddN dX11_shows_216 ?_
    refine zS_iast w sh_125 dX11_shows_217 rfl (by omega) (by decide) ?_
    refine zA_aload_0 dX11_shows_218 ?_
    refine zA_getR sh_87 fX11_130 dX11_shows_219 rfl (rt_87_71 _) ?_
    refine zA_iload_4 dX11_shows_222 ?_
    refine zA_iconst (nI 1) dX11_shows_224 ic_1 ?_
    refine zS_zast v sh_126 dX11_shows_225 rfl (by omega) (by decide) (by decide) ?_
    refine zA_aload_0 dX11_shows_226 ?_
    refine zA_getR sh_87 fX11_13 dX11_shows_227 rfl (rt_87_4 _) ?_
    refine zA_bipush (nI 8) dX11_shows_230 bc_8 ?_
    refine zA_iload_4 dX11_shows_232 ?_
    refine zA_imulN dX11_shows_234 ?_
    refine zA_iald (v := ((fForget C e) (5 + v) 0)) (8 * v) sh_89 dX11_shows_235 rfl (by omega) (by decide) (y89 v 0 hv (by decide)) ?_
    refine zA_aload_0 dX11_shows_236 ?_
    refine zA_getR sh_87 fX11_13 dX11_shows_237 rfl (rt_87_4 _) ?_
    refine zA_bipush (nI 8) dX11_shows_240 bc_8 ?_
    refine zA_iload_4 dX11_shows_242 ?_
    refine zA_imulN dX11_shows_244 ?_
    refine zA_iconst (nI 4) dX11_shows_245 ic_4 ?_
    refine zA_iaddN dX11_shows_246 ?_
    refine zA_aload_0 dX11_shows_247 ?_
    refine zA_getR sh_87 fX11_37 dX11_shows_248 rfl (rt_87_16 _) ?_
    refine zA_bipush (nI 7) dX11_shows_251 bc_7 ?_
    refine zA_iload_5 dX11_shows_253 ?_
    refine zA_imulN dX11_shows_255 ?_
    refine zA_iald (v := (nI gn)) (7 * p) sh_97 dX11_shows_256 rfl (by omega) (by decide) y97 ?_
    refine zA_iaddN dX11_shows_257 ?_
    refine zA_iald (v := ((fForget C e) (5 + v) (4 + gn))) (((8 * v) + 4) + gn) sh_89 dX11_shows_258 rfl (by omega) (by decide) (by rw [Nat.add_assoc]; exact y89 v (4 + gn) hv (by omega)) ?_
    refine zA_imul dX11_shows_259 ?_
    refine zA_bipush (nI 100) dX11_shows_260 bc_100 ?_
    refine zA_idiv dX11_shows_262 (by decide) ?_
    refine zA_aload_0 dX11_shows_263 ?_
    refine zA_getR sh_87 fX11_139 dX11_shows_264 rfl (rt_87_74 _) ?_
    refine zA_bipush (nI 8) dX11_shows_267 bc_8 ?_
    refine zA_iload_5 dX11_shows_269 ?_
    refine zA_imulN dX11_shows_271 ?_
    refine zA_iload_4 dX11_shows_272 ?_
    refine zA_iaddN dX11_shows_274 ?_
    refine zA_iald (v := ((fForget C e) 73 (p * 8 + v))) ((8 * p) + v) sh_129 dX11_shows_275 rfl (by omega) (by decide) y129 ?_
    refine zA_isub dX11_shows_276 ?_
    refine zA_istore_8 dX11_shows_277 rfl ?_
    obtain ⟨H, hH⟩ : ∃ H, H = fHeads (fForget C e) v p := ⟨_, rfl⟩
    obtain ⟨hh1, hh2, hh3⟩ := hd_ok (l := (fForget C e) (5 + v) 0 * (fForget C e) (5 + v) (4 + gn) / nI 100 - (fForget C e) 73 (p * 8 + v)) (hSY.2.2.2.2.2.2.2.2.2.2.2.2.2 v hv)
    have hHe : fHeads (fForget C e) v p = zmin (zmax ((fForget C e) (5 + v) 0 * (fForget C e) (5 + v) (4 + gn) / nI 100 - (fForget C e) 73 (p * 8 + v)) (nI 0)) ((fForget C e) (5 + v) 1) := by unfold fHeads; rw [zgn]
    rw [← hHe, ← hH] at hh1 hh2 hh3
    have a89 : (zs (zs (zs (zs (zs Y 122 w ((nI v))) 123 w (((Y 123 w) + wy))) 124 w (((Y 124 w) + (wy + pm)))) 125 w ((nI (k + 1)))) 126 v ((nI 1))) 89 ((8 * v) + 1) = (fForget C e) (5 + v) 1 := y89 v 1 hv (by decide)
    obtain ⟨Z0, hZ0⟩ : ∃ Z, Z = (zs (zs (zs (zs (zs Y 122 w ((nI v))) 123 w (((Y 123 w) + wy))) 124 w (((Y 124 w) + (wy + pm)))) 125 w ((nI (k + 1)))) 126 v ((nI 1))) := ⟨_, rfl⟩
    rw [← hZ0] at a89 ⊢
    have cont : ∀ (l8 : Option Value), zB_v x g mX11_shows 5 zSH (fun gi' gl' gr' => zOut W Pn w e (if (fCau (fForget C e) cl w v p s n).1 = 0 then fShow (fDrive (zs (fForget C e) 59 e (fCau (fForget C e) cl w v p s n).1) e w v s) (fCau (fForget C e) cl w v p s n).2 e v p n else ((zs (fForget C e) 59 e (fCau (fForget C e) cl w v p s n).1), (fCau (fForget C e) cl w v p s n).2)).1 gi gi' ∧ (∀ q, q ≠ 121 → gl' q = gl q) ∧ gr' = zRT r) 322 [some (.ref 87), some (.int (nI e)), some (.int (nI n)), some (.int (nI w)), some (.int (nI v)), some (.int (nI p)), some (.int wy), some (.int ((fCau (fForget C e) cl w v p s n).1)), l8, none, none, none, none, none] [.int H] Z0 gl1 (zRT r) := by
      intro l8
      refine zA_istore_8 dX11_shows_322 rfl ?_
      refine zA_aload_0 dX11_shows_324 ?_
      refine zA_getR sh_87 fX11_139 dX11_shows_325 rfl (rt_87_74 _) ?_
      refine zA_bipush (nI 8) dX11_shows_328 bc_8 ?_
      refine zA_iload_5 dX11_shows_330 ?_
      refine zA_imulN dX11_shows_332 ?_
      refine zA_iload_4 dX11_shows_333 ?_
      refine zA_iaddN dX11_shows_335 ?_
      refine zA_dup2 dX11_shows_336 rfl rfl ?_
      refine zA_iald (v := (Z0 129 ((8 * p) + v))) ((8 * p) + v) sh_129 dX11_shows_337 rfl (by omega) (by decide) rfl ?_
      refine zA_iload_8 dX11_shows_338 ?_
      refine zA_iadd dX11_shows_340 ?_
      refine zS_iast ((8 * p) + v) sh_129 dX11_shows_341 rfl (by omega) (by decide) ?_
      refine zA_aload_0 dX11_shows_342 ?_
      refine zA_getR sh_87 fX11_136 dX11_shows_343 rfl (rt_87_73 _) ?_
      refine zA_iload_5 dX11_shows_346 ?_
      refine zA_dup2 dX11_shows_348 rfl rfl ?_
      refine zA_iald (v := (Z0 128 p)) p sh_128 dX11_shows_349 rfl (by omega) (by decide) rfl ?_
      refine zA_iconst (nI 1) dX11_shows_350 ic_1 ?_
      refine zA_iadd dX11_shows_351 ?_
      refine zS_iast p sh_128 dX11_shows_352 rfl (by omega) (by decide) ?_
      have c74 : (fCau (fForget C e) cl w v p s n).2 74 = fFacts (fForget C e) cl v p 74 := by rw [z3]; exact zm_une (by decide)
      have hM3 : zAg (fForget C e) (fDrive (zs (fForget C e) 59 e (fCau (fForget C e) cl w v p s n).1) e w v s) := ((zAg.rf (fForget C e)).zs (by omega)).tr (fDrive_ag _ _ _ _ _)
      have hLn : ∀ (Z : zm_I) (l : Nat), l < 5 → (∀ a, 109 ≤ a → a ≤ 116 → Z a = Y a) → zLn (fDrive (zs (fForget C e) 59 e (fCau (fForget C e) cl w v p s n).1) e w v s) Z l := fun Z l hl hz => zLn_cg (fun a h1 h2 => hM3 a (by omega)) hz (hSY.2.2.2.2.2.2.2.2.2.2.2.1 l hl)
      have hNmZ : ∀ (Z : zm_I), Z 89 = Y 89 → Z 97 = Y 97 → (∀ j, 61 ≤ j → j ≤ 64 → Z 87 j = Y 87 j) → (∀ k, k < 10 → fFacts (fForget C e) cl v p 74 k = (rNm Z k).toInt64) ∧ rAt Z := fun Z h1 h2 h3 => by
        have hy := rNm_cg (X := X1) (X' := Y) (hXY.1 89 (by omega) (by decide)) (hXY.1 97 (by omega) (by decide)) (by rw [hY]; rfl) (by rw [hY]; rfl) (by rw [hY]; rfl) (by rw [hY]; rfl)
        have hz := rNm_cg (X := Y) (X' := Z) h1 h2 (h3 61 (by decide) (by decide)) (h3 62 (by decide) (by decide)) (h3 63 (by decide) (by decide)) (h3 64 (by decide) (by decide))
        exact ⟨fun k hk => by rw [hz.1 k hk, hy.1 k hk]; exact hF10 k hk, hz.2 (hy.2 hA1)⟩
      have hZ0a : ∀ a, (a < 122 ∨ 132 < a) → Z0 a = Y a := fun a ha => by rw [hZ0, zs_nq (by omega), zs_nq (by omega), zs_nq (by omega), zs_nq (by omega), zs_nq (by omega)]
      have hfH : fFacts (fForget C e) cl v p 74 10 = H.toInt64 := by rw [hH]; rfl
      obtain ⟨Z1, hZ1⟩ : ∃ Z, Z = (zs (zs Z0 129 ((8 * p) + v) (((Z0 129 ((8 * p) + v)) + H))) 128 p (((Z0 128 p) + (nI 1)))) := ⟨_, rfl⟩
      rw [← hZ1]
      have hZ1a : ∀ a, (a < 122 ∨ 132 < a) → Z1 a = Y a := fun a ha => by rw [hZ1, zs_nq (by omega), zs_nq (by omega)]; exact hZ0a a ha
      obtain ⟨hn1, ha1⟩ := hNmZ Z1 (hZ1a 89 (by omega)) (hZ1a 97 (by omega)) (fun j _ _ => by rw [hZ1a 87 (by omega)])
      refine zA_aload_0 dX11_shows_353 ?_
      refine zA_iconst (nI 1) dX11_shows_354 ic_1 ?_
      refine zA_sipush (nI 999) dX11_shows_355 sc_999 ?_
      refine zA_bipush (nI 10) dX11_shows_358 bc_10 ?_
      refine zA_cVi (ct_rWithin g Z1 gl1 r (fDrive (zs (fForget C e) 59 e (fCau (fForget C e) cl w v p s n).1) e w v s) (fCau (fForget C e) cl w v p s n).2 (l := 1) (by decide) ha1 (fun k hk hk2 => by rw [c74]; exact hn1 k (by omega)) (hLn Z1 1 (by decide) (fun a h1 h2 => hZ1a a (by omega))) (m := 999) (by decide) (d := nI 10) (by decide +kernel)) calX11_within stX11_within lX11_385 dX11_shows_360 (by decide) (by simp [Value.category]) rfl (Nat.le_refl _) (Nat.le_refl _) sh_87 rfl (fun zz gi1 gl2 gr1 ⟨hz, ⟨ve1, e1⟩, e2_1, e3⟩ => ?_)
      rw [hz, e1, e3]
      clear hz e1 e3
      refine zA_istore_9 dX11_shows_363 rfl ?_
      refine zA_aload_0 dX11_shows_365 ?_
      refine zA_iload_8 dX11_shows_366 ?_
      refine zS_putI sh_87 fX11_361 dX11_shows_368 rfl rfl ?_
      obtain ⟨Z2, hZ2⟩ : ∃ Z, Z = (zs (zs Z1 87 60 ve1) 87 65 H) := ⟨_, rfl⟩
      rw [← hZ2]
      have hZ2a : ∀ a, (a < 122 ∨ 132 < a) → a ≠ 87 → Z2 a = Y a := fun a ha h7 => by rw [hZ2, zs_nq h7, zs_nq h7]; exact hZ1a a ha
      have hZ2b : ∀ j, 61 ≤ j → j ≤ 64 → Z2 87 j = Y 87 j := fun j h1 h2 => by rw [hZ2, zs_nj (by omega), zs_nj (by omega), hZ1a 87 (by omega)]
      have hZ2c : Z2 87 65 = H := by rw [hZ2]; rfl
      obtain ⟨hn2, ha2⟩ := hNmZ Z2 (hZ2a 89 (by omega) (by decide)) (hZ2a 97 (by omega) (by decide)) hZ2b
      have hn2' : ∀ k, k < 11 → fFacts (fForget C e) cl v p 74 k = (rNm Z2 k).toInt64 := fun k hk => by
        by_cases k10 : k = 10
        · subst k10
          rw [hfH]
          show _ = (Z2 87 65).toInt64
          rw [hZ2c]
        · exact hn2 k (by omega)
      have c74b : (va_up (fCau (fForget C e) cl w v p s n).2 41 (fWor (fDrive (zs (fForget C e) 59 e (fCau (fForget C e) cl w v p s n).1) e w v s) (fCau (fForget C e) cl w v p s n).2 1).2) 74 = fFacts (fForget C e) cl v p 74 := by rw [← c74]; exact zm_une (by decide)
      have c74c : (va_up (va_up (fCau (fForget C e) cl w v p s n).2 41 (fWor (fDrive (zs (fForget C e) 59 e (fCau (fForget C e) cl w v p s n).1) e w v s) (fCau (fForget C e) cl w v p s n).2 1).2) 41 (fWor (fDrive (zs (fForget C e) 59 e (fCau (fForget C e) cl w v p s n).1) e w v s) (va_up (fCau (fForget C e) cl w v p s n).2 41 (fWor (fDrive (zs (fForget C e) 59 e (fCau (fForget C e) cl w v p s n).1) e w v s) (fCau (fForget C e) cl w v p s n).2 1).2) 2).2) 74 = fFacts (fForget C e) cl v p 74 := by rw [← c74b]; exact zm_une (by decide)
      have c74d : (va_up (va_up (va_up (fCau (fForget C e) cl w v p s n).2 41 (fWor (fDrive (zs (fForget C e) 59 e (fCau (fForget C e) cl w v p s n).1) e w v s) (fCau (fForget C e) cl w v p s n).2 1).2) 41 (fWor (fDrive (zs (fForget C e) 59 e (fCau (fForget C e) cl w v p s n).1) e w v s) (va_up (fCau (fForget C e) cl w v p s n).2 41 (fWor (fDrive (zs (fForget C e) 59 e (fCau (fForget C e) cl w v p s n).1) e w v s) (fCau (fForget C e) cl w v p s n).2 1).2) 2).2) 41 (fWor (fDrive (zs (fForget C e) 59 e (fCau (fForget C e) cl w v p s n).1) e w v s) (va_up (va_up (fCau (fForget C e) cl w v p s n).2 41 (fWor (fDrive (zs (fForget C e) 59 e (fCau (fForget C e) cl w v p s n).1) e w v s) (fCau (fForget C e) cl w v p s n).2 1).2) 41 (fWor (fDrive (zs (fForget C e) 59 e (fCau (fForget C e) cl w v p s n).1) e w v s) (va_up (fCau (fForget C e) cl w v p s n).2 41 (fWor (fDrive (zs (fForget C e) 59 e (fCau (fForget C e) cl w v p s n).1) e w v s) (fCau (fForget C e) cl w v p s n).2 1).2) 2).2) 3).2) 74 = fFacts (fForget C e) cl v p 74 := by rw [← c74c]; exact zm_une (by decide)
      refine zA_iload_8 dX11_shows_371 ?_
      refine zA_iload_9 dX11_shows_373 ?_
      refine zA_imul dX11_shows_375 ?_
      refine zA_istore_10 dX11_shows_376 rfl ?_
      refine zA_iload_10 dX11_shows_378 ?_
      refine zA_aload_0 dX11_shows_380 ?_
      refine zA_iconst (nI 2) dX11_shows_381 ic_2 ?_
      refine zA_bipush (nI 100) dX11_shows_382 bc_100 ?_
      refine zA_bipush (nI 40) dX11_shows_384 bc_40 ?_
      refine zA_cVi (ct_rWithin g Z2 gl2 r (fDrive (zs (fForget C e) 59 e (fCau (fForget C e) cl w v p s n).1) e w v s) (va_up (fCau (fForget C e) cl w v p s n).2 41 (fWor (fDrive (zs (fForget C e) 59 e (fCau (fForget C e) cl w v p s n).1) e w v s) (fCau (fForget C e) cl w v p s n).2 1).2) (l := 2) (by decide) ha2 (fun k hk hk2 => by rw [c74b]; exact hn2' k hk) (hLn Z2 2 (by decide) (fun a h1 h2 => hZ2a a (by omega) (by omega))) (m := 100) (by decide) (d := nI 40) (by decide +kernel)) calX11_within stX11_within lX11_385 dX11_shows_386 (by decide) (by simp [Value.category]) rfl (Nat.le_refl _) (Nat.le_refl _) sh_87 rfl (fun zz gi1 gl3 gr1 ⟨hz, ⟨ve2, e1⟩, e2_2, e3⟩ => ?_)
      rw [hz, e1, e3]
      clear hz e1 e3
      refine zA_imul dX11_shows_389 ?_
      refine zA_bipush (nI 100) dX11_shows_390 bc_100 ?_
      refine zA_idiv dX11_shows_392 (by decide) ?_
      refine zA_istore_11 dX11_shows_393 rfl ?_
      refine zA_iload_10 dX11_shows_395 ?_
      refine zA_iload_11 dX11_shows_397 ?_
      refine zA_isub dX11_shows_399 ?_
      refine zA_aload_0 dX11_shows_400 ?_
      refine zA_iconst (nI 3) dX11_shows_401 ic_3 ?_
      refine zA_bipush (nI 100) dX11_shows_402 bc_100 ?_
      refine zA_bipush (nI 10) dX11_shows_404 bc_10 ?_
      obtain ⟨Z3, hZ3⟩ : ∃ Z, Z = (zs Z2 87 60 ve2) := ⟨_, rfl⟩
      rw [← hZ3]
      have hZ3a : ∀ a, (a < 122 ∨ 132 < a) → a ≠ 87 → Z3 a = Y a := fun a ha h7 => by rw [hZ3, zs_nq h7]; exact hZ2a a ha h7
      have hZ3b : ∀ j, 61 ≤ j → Z3 87 j = Z2 87 j := fun j h1 => by rw [hZ3, zs_nj (by omega)]
      have rn3 : (∀ k, k < 10 → rNm Z3 k = rNm Z2 k) ∧ (rAt Z2 → rAt Z3) := rNm_cg (by rw [hZ3a 89 (by omega) (by decide), hZ2a 89 (by omega) (by decide)]) (by rw [hZ3a 97 (by omega) (by decide), hZ2a 97 (by omega) (by decide)]) (hZ3b 61 (by decide)) (hZ3b 62 (by decide)) (hZ3b 63 (by decide)) (hZ3b 64 (by decide))
      have ha3 := rn3.2 ha2
      have hn3' : ∀ k, k < 11 → fFacts (fForget C e) cl v p 74 k = (rNm Z3 k).toInt64 := fun k hk => by
        by_cases k10 : k = 10
        · subst k10
          rw [hn2' 10 hk]
          show (Z2 87 65).toInt64 = (Z3 87 65).toInt64
          rw [hZ3b 65 (by decide)]
        · rw [rn3.1 k (by omega)]
          exact hn2' k hk
      refine zA_cVi (ct_rWithin g Z3 gl3 r (fDrive (zs (fForget C e) 59 e (fCau (fForget C e) cl w v p s n).1) e w v s) (va_up (va_up (fCau (fForget C e) cl w v p s n).2 41 (fWor (fDrive (zs (fForget C e) 59 e (fCau (fForget C e) cl w v p s n).1) e w v s) (fCau (fForget C e) cl w v p s n).2 1).2) 41 (fWor (fDrive (zs (fForget C e) 59 e (fCau (fForget C e) cl w v p s n).1) e w v s) (va_up (fCau (fForget C e) cl w v p s n).2 41 (fWor (fDrive (zs (fForget C e) 59 e (fCau (fForget C e) cl w v p s n).1) e w v s) (fCau (fForget C e) cl w v p s n).2 1).2) 2).2) (l := 3) (by decide) ha3 (fun k hk hk2 => by rw [c74c]; exact hn3' k hk) (hLn Z3 3 (by decide) (fun a h1 h2 => hZ3a a (by omega) (by omega))) (m := 100) (by decide) (d := nI 10) (by decide +kernel)) calX11_within stX11_within lX11_385 dX11_shows_406 (by decide) (by simp [Value.category]) rfl (Nat.le_refl _) (Nat.le_refl _) sh_87 rfl (fun zz gi1 gl4 gr1 ⟨hz, ⟨ve3, e1⟩, e2_3, e3⟩ => ?_)
      rw [hz, e1, e3]
      clear hz e1 e3
      refine zA_imul dX11_shows_409 ?_
      refine zA_bipush (nI 100) dX11_shows_410 bc_100 ?_
      refine zA_idiv dX11_shows_412 (by decide) ?_
      refine zA_istore_12 dX11_shows_413 rfl ?_
      refine zA_iload_8 dX11_shows_415 ?_
      refine zA_aload_0 dX11_shows_417 ?_
      refine zA_iconst (nI 4) dX11_shows_418 ic_4 ?_
      refine zA_bipush (nI 100) dX11_shows_419 bc_100 ?_
      refine zA_iconst (nI 0) dX11_shows_421 ic_0 ?_
      obtain ⟨Z4, hZ4⟩ : ∃ Z, Z = (zs Z3 87 60 ve3) := ⟨_, rfl⟩
      rw [← hZ4]
      have hZ4a : ∀ a, (a < 122 ∨ 132 < a) → a ≠ 87 → Z4 a = Y a := fun a ha h7 => by rw [hZ4, zs_nq h7]; exact hZ3a a ha h7
      have hZ4b : ∀ j, 61 ≤ j → Z4 87 j = Z3 87 j := fun j h1 => by rw [hZ4, zs_nj (by omega)]
      have rn4 : (∀ k, k < 10 → rNm Z4 k = rNm Z3 k) ∧ (rAt Z3 → rAt Z4) := rNm_cg (by rw [hZ4a 89 (by omega) (by decide), hZ3a 89 (by omega) (by decide)]) (by rw [hZ4a 97 (by omega) (by decide), hZ3a 97 (by omega) (by decide)]) (hZ4b 61 (by decide)) (hZ4b 62 (by decide)) (hZ4b 63 (by decide)) (hZ4b 64 (by decide))
      have ha4 := rn4.2 ha3
      have hn4' : ∀ k, k < 11 → fFacts (fForget C e) cl v p 74 k = (rNm Z4 k).toInt64 := fun k hk => by
        by_cases k10 : k = 10
        · subst k10
          rw [hn3' 10 hk]
          show (Z3 87 65).toInt64 = (Z4 87 65).toInt64
          rw [hZ4b 65 (by decide)]
        · rw [rn4.1 k (by omega)]
          exact hn3' k hk
      refine zA_cVi (ct_rWithin g Z4 gl4 r (fDrive (zs (fForget C e) 59 e (fCau (fForget C e) cl w v p s n).1) e w v s) (va_up (va_up (va_up (fCau (fForget C e) cl w v p s n).2 41 (fWor (fDrive (zs (fForget C e) 59 e (fCau (fForget C e) cl w v p s n).1) e w v s) (fCau (fForget C e) cl w v p s n).2 1).2) 41 (fWor (fDrive (zs (fForget C e) 59 e (fCau (fForget C e) cl w v p s n).1) e w v s) (va_up (fCau (fForget C e) cl w v p s n).2 41 (fWor (fDrive (zs (fForget C e) 59 e (fCau (fForget C e) cl w v p s n).1) e w v s) (fCau (fForget C e) cl w v p s n).2 1).2) 2).2) 41 (fWor (fDrive (zs (fForget C e) 59 e (fCau (fForget C e) cl w v p s n).1) e w v s) (va_up (va_up (fCau (fForget C e) cl w v p s n).2 41 (fWor (fDrive (zs (fForget C e) 59 e (fCau (fForget C e) cl w v p s n).1) e w v s) (fCau (fForget C e) cl w v p s n).2 1).2) 41 (fWor (fDrive (zs (fForget C e) 59 e (fCau (fForget C e) cl w v p s n).1) e w v s) (va_up (fCau (fForget C e) cl w v p s n).2 41 (fWor (fDrive (zs (fForget C e) 59 e (fCau (fForget C e) cl w v p s n).1) e w v s) (fCau (fForget C e) cl w v p s n).2 1).2) 2).2) 3).2) (l := 4) (by decide) ha4 (fun k hk hk2 => by rw [c74d]; exact hn4' k hk) (hLn Z4 4 (by decide) (fun a h1 h2 => hZ4a a (by omega) (by omega))) (m := 100) (by decide) (d := nI 0) (by decide +kernel)) calX11_within stX11_within lX11_385 dX11_shows_422 (by decide) (by simp [Value.category]) rfl (Nat.le_refl _) (Nat.le_refl _) sh_87 rfl (fun zz gi1 gl5 gr1 ⟨hz, ⟨ve4, e1⟩, e2_4, e3⟩ => ?_)
      rw [hz, e1, e3]
      clear hz e1 e3
      obtain ⟨eg0, hge1, hge2, heg⟩ := (hSY.2.2.2.2.2.2.2.1 n hn).2
      have y98 : Z4 98 n = nI eg0 := by rw [hZ4a 98 (by omega) (by decide), (hSY.2.2.2.2.2.2.2.1 n hn).1]; exact heg
      have hegd : ¬ nI eg0 = 0 := nI_ne0 (by omega) (by omega)
      have hfe : ∀ pr : Int32, fEggs (fDrive (zs (fForget C e) 59 e (fCau (fForget C e) cl w v p s n).1) e w v s) n pr = (pr + nI eg0 - nI 1) / nI eg0 := fun pr => by
        have e1 : (fDrive (zs (fForget C e) 59 e (fCau (fForget C e) cl w v p s n).1) e w v s) 2 n = nI eg0 := by rw [hM3 2 (by omega)]; exact heg
        have e2 : zmax (nI eg0) (nI 1) = nI eg0 := if_neg (fun z => absurd ((nI_ltI (by omega) (by decide)).mp z) (by omega))
        unfold fEggs
        rw [e1, e2]
      refine zA_imul dX11_shows_425 ?_
      refine zA_bipush (nI 100) dX11_shows_426 bc_100 ?_
      refine zA_idiv dX11_shows_428 (by decide) ?_
      refine zA_iload_9 dX11_shows_429 ?_
      refine zA_aload_0 dX11_shows_431 ?_
      refine zA_getR sh_87 fX11_40 dX11_shows_432 rfl (rt_87_17 _) ?_
      refine zA_iload_2 dX11_shows_435 ?_
      refine zA_iald (v := (nI eg0)) n sh_98 dX11_shows_436 rfl (by omega) (by decide) y98 ?_
      refine zA_iadd dX11_shows_437 ?_
      refine zA_iconst (nI 1) dX11_shows_438 ic_1 ?_
      refine zA_isub dX11_shows_439 ?_
      refine zA_aload_0 dX11_shows_440 ?_
      refine zA_getR sh_87 fX11_40 dX11_shows_441 rfl (rt_87_17 _) ?_
      refine zA_iload_2 dX11_shows_444 ?_
      refine zA_iald (v := (nI eg0)) n sh_98 dX11_shows_445 rfl (by omega) (by decide) y98 ?_
      refine zA_idiv dX11_shows_446 (hegd) ?_
      refine zA_imul dX11_shows_447 ?_
      refine zA_istore_13 dX11_shows_448 rfl ?_
      refine zA_aload_0 dX11_shows_450 ?_
      refine zA_getR sh_87 fX11_142 dX11_shows_451 rfl (rt_87_75 _) ?_
      refine zA_bipush (nI 7) dX11_shows_454 bc_7 ?_
      refine zA_iload_1 dX11_shows_456 ?_
      refine zA_imulN dX11_shows_457 ?_
      refine zA_iconst (nI 1) dX11_shows_458 ic_1 ?_
      refine zA_iaddN dX11_shows_459 ?_
      refine zA_iload_8 dX11_shows_460 ?_
      refine zS_iast ((7 * e) + 1) sh_130 dX11_shows_462 rfl (by omega) (by decide) ?_
      refine zA_aload_0 dX11_shows_463 ?_
      refine zA_getR sh_87 fX11_142 dX11_shows_464 rfl (rt_87_75 _) ?_
      refine zA_bipush (nI 7) dX11_shows_467 bc_7 ?_
      refine zA_iload_1 dX11_shows_469 ?_
      refine zA_imulN dX11_shows_470 ?_
      refine zA_iconst (nI 2) dX11_shows_471 ic_2 ?_
      refine zA_iaddN dX11_shows_472 ?_
      refine zA_iload_10 dX11_shows_473 ?_
      refine zS_iast ((7 * e) + 2) sh_130 dX11_shows_475 rfl (by omega) (by decide) ?_
      refine zA_aload_0 dX11_shows_476 ?_
      refine zA_getR sh_87 fX11_142 dX11_shows_477 rfl (rt_87_75 _) ?_
      refine zA_bipush (nI 7) dX11_shows_480 bc_7 ?_
      refine zA_iload_1 dX11_shows_482 ?_
      refine zA_imulN dX11_shows_483 ?_
      refine zA_iconst (nI 3) dX11_shows_484 ic_3 ?_
      refine zA_iaddN dX11_shows_485 ?_
      refine zA_iload_11 dX11_shows_486 ?_
      refine zS_iast ((7 * e) + 3) sh_130 dX11_shows_488 rfl (by omega) (by decide) ?_
      refine zA_aload_0 dX11_shows_489 ?_
      refine zA_getR sh_87 fX11_142 dX11_shows_490 rfl (rt_87_75 _) ?_
      refine zA_bipush (nI 7) dX11_shows_493 bc_7 ?_
      refine zA_iload_1 dX11_shows_495 ?_
      refine zA_imulN dX11_shows_496 ?_
      refine zA_iconst (nI 4) dX11_shows_497 ic_4 ?_
      refine zA_iaddN dX11_shows_498 ?_
      refine zA_iload_12 dX11_shows_499 ?_
      refine zS_iast ((7 * e) + 4) sh_130 dX11_shows_501 rfl (by omega) (by decide) ?_
      refine zA_aload_0 dX11_shows_502 ?_
      refine zA_getR sh_87 fX11_142 dX11_shows_503 rfl (rt_87_75 _) ?_
      refine zA_bipush (nI 7) dX11_shows_506 bc_7 ?_
      refine zA_iload_1 dX11_shows_508 ?_
      refine zA_imulN dX11_shows_509 ?_
      refine zA_iconst (nI 5) dX11_shows_510 ic_5 ?_
      refine zA_iaddN dX11_shows_511 ?_
      refine zA_iload_13 dX11_shows_512 ?_
      refine zS_iast ((7 * e) + 5) sh_130 dX11_shows_514 rfl (by omega) (by decide) ?_
      refine zA_aload_0 dX11_shows_515 ?_
      refine zA_getR sh_87 fX11_142 dX11_shows_516 rfl (rt_87_75 _) ?_
      refine zA_bipush (nI 7) dX11_shows_519 bc_7 ?_
      refine zA_iload_1 dX11_shows_521 ?_
      refine zA_imulN dX11_shows_522 ?_
      refine zA_bipush (nI 6) dX11_shows_523 bc_6 ?_
      refine zA_iaddN dX11_shows_525 ?_
      refine zA_iload_6 dX11_shows_526 ?_
      refine zS_iast ((7 * e) + 6) sh_130 dX11_shows_528 rfl (by omega) (by decide) ?_
      refine zA_aload_0 dX11_shows_529 ?_
      refine zA_dup dX11_shows_530 rfl ?_
      refine zA_getI (v := ((zs Z4 87 60 ve4) 87 79)) sh_87 fX11_389 dX11_shows_531 rfl rfl ?_
      refine zA_iload_8 dX11_shows_534 ?_
      refine zA_iadd dX11_shows_536 ?_
      refine zS_putI sh_87 fX11_389 dX11_shows_537 rfl rfl ?_
      refine zA_aload_0 dX11_shows_540 ?_
      refine zA_dup dX11_shows_541 rfl ?_
      refine zA_getI (v := ((zs Z4 87 60 ve4) 87 80)) sh_87 fX11_392 dX11_shows_542 rfl rfl ?_
      refine zA_iconst (nI 1) dX11_shows_545 ic_1 ?_
      refine zA_iadd dX11_shows_546 ?_
      refine zS_putI sh_87 fX11_392 dX11_shows_547 rfl rfl ?_
      refine zA_aload_0 dX11_shows_550 ?_
      refine zA_dup dX11_shows_551 rfl ?_
      refine zA_getI (v := ((zs Z4 87 60 ve4) 87 82)) sh_87 fX11_395 dX11_shows_552 rfl rfl ?_
      refine zA_iload_13 dX11_shows_555 ?_
      refine zA_iadd dX11_shows_557 ?_
      refine zS_putI sh_87 fX11_395 dX11_shows_558 rfl rfl ?_
      refine zA_aload_0 dX11_shows_561 ?_
      refine zA_dup dX11_shows_562 rfl ?_
      refine zA_getI (v := ((zs Z4 87 60 ve4) 87 78)) sh_87 fX11_398 dX11_shows_563 rfl rfl ?_
      refine zA_iload_10 dX11_shows_566 ?_
      refine zA_iload_11 dX11_shows_568 ?_
      refine zA_isub dX11_shows_570 ?_
      refine zA_iload_12 dX11_shows_571 ?_
      refine zA_isub dX11_shows_573 ?_
      refine zA_iadd dX11_shows_574 ?_
      refine zS_putI sh_87 fX11_398 dX11_shows_575 rfl rfl ?_
      have hfs : (fShow (fDrive (zs (fForget C e) 59 e (fCau (fForget C e) cl w v p s n).1) e w v s) (fCau (fForget C e) cl w v p s n).2 e v p n).1 = cShow (fDrive (zs (fForget C e) 59 e (fCau (fForget C e) cl w v p s n).1) e w v s) e v p H (H * fCut (fWor (fDrive (zs (fForget C e) 59 e (fCau (fForget C e) cl w v p s n).1) e w v s) (fCau (fForget C e) cl w v p s n).2 1).1 (nI 999)) ((H * fCut (fWor (fDrive (zs (fForget C e) 59 e (fCau (fForget C e) cl w v p s n).1) e w v s) (fCau (fForget C e) cl w v p s n).2 1).1 (nI 999)) * fCut (fWor (fDrive (zs (fForget C e) 59 e (fCau (fForget C e) cl w v p s n).1) e w v s) (va_up (fCau (fForget C e) cl w v p s n).2 41 (fWor (fDrive (zs (fForget C e) 59 e (fCau (fForget C e) cl w v p s n).1) e w v s) (fCau (fForget C e) cl w v p s n).2 1).2) 2).1 (nI 100) / nI 100) (((H * fCut (fWor (fDrive (zs (fForget C e) 59 e (fCau (fForget C e) cl w v p s n).1) e w v s) (fCau (fForget C e) cl w v p s n).2 1).1 (nI 999)) - ((H * fCut (fWor (fDrive (zs (fForget C e) 59 e (fCau (fForget C e) cl w v p s n).1) e w v s) (fCau (fForget C e) cl w v p s n).2 1).1 (nI 999)) * fCut (fWor (fDrive (zs (fForget C e) 59 e (fCau (fForget C e) cl w v p s n).1) e w v s) (va_up (fCau (fForget C e) cl w v p s n).2 41 (fWor (fDrive (zs (fForget C e) 59 e (fCau (fForget C e) cl w v p s n).1) e w v s) (fCau (fForget C e) cl w v p s n).2 1).2) 2).1 (nI 100) / nI 100)) * fCut (fWor (fDrive (zs (fForget C e) 59 e (fCau (fForget C e) cl w v p s n).1) e w v s) (va_up (va_up (fCau (fForget C e) cl w v p s n).2 41 (fWor (fDrive (zs (fForget C e) 59 e (fCau (fForget C e) cl w v p s n).1) e w v s) (fCau (fForget C e) cl w v p s n).2 1).2) 41 (fWor (fDrive (zs (fForget C e) 59 e (fCau (fForget C e) cl w v p s n).1) e w v s) (va_up (fCau (fForget C e) cl w v p s n).2 41 (fWor (fDrive (zs (fForget C e) 59 e (fCau (fForget C e) cl w v p s n).1) e w v s) (fCau (fForget C e) cl w v p s n).2 1).2) 2).2) 3).1 (nI 100) / nI 100) (H * fCut (fWor (fDrive (zs (fForget C e) 59 e (fCau (fForget C e) cl w v p s n).1) e w v s) (va_up (va_up (va_up (fCau (fForget C e) cl w v p s n).2 41 (fWor (fDrive (zs (fForget C e) 59 e (fCau (fForget C e) cl w v p s n).1) e w v s) (fCau (fForget C e) cl w v p s n).2 1).2) 41 (fWor (fDrive (zs (fForget C e) 59 e (fCau (fForget C e) cl w v p s n).1) e w v s) (va_up (fCau (fForget C e) cl w v p s n).2 41 (fWor (fDrive (zs (fForget C e) 59 e (fCau (fForget C e) cl w v p s n).1) e w v s) (fCau (fForget C e) cl w v p s n).2 1).2) 2).2) 41 (fWor (fDrive (zs (fForget C e) 59 e (fCau (fForget C e) cl w v p s n).1) e w v s) (va_up (va_up (fCau (fForget C e) cl w v p s n).2 41 (fWor (fDrive (zs (fForget C e) 59 e (fCau (fForget C e) cl w v p s n).1) e w v s) (fCau (fForget C e) cl w v p s n).2 1).2) 41 (fWor (fDrive (zs (fForget C e) 59 e (fCau (fForget C e) cl w v p s n).1) e w v s) (va_up (fCau (fForget C e) cl w v p s n).2 41 (fWor (fDrive (zs (fForget C e) 59 e (fCau (fForget C e) cl w v p s n).1) e w v s) (fCau (fForget C e) cl w v p s n).2 1).2) 2).2) 3).2) 4).1 (nI 100) / nI 100 * ((fCut (fWor (fDrive (zs (fForget C e) 59 e (fCau (fForget C e) cl w v p s n).1) e w v s) (fCau (fForget C e) cl w v p s n).2 1).1 (nI 999) + nI eg0 - nI 1) / nI eg0)) := by
        have hh : ((fCau (fForget C e) cl w v p s n).2 74 10).toInt32 = H := by rw [c74, hfH]; exact i32_64 H
        unfold fShow
        dsimp only
        rw [hh, hfe]
        rfl
      have hlg : ∀ q, q ≠ 121 → gl5 q = gl q := fun q hq => by rw [e2_4 q hq, e2_3 q hq, e2_2 q hq, e2_1 q hq, e2 q hq]
      subst hZ4 hZ3 hZ2 hZ1 hZ0
      exact zB_vret rfl dX11_shows_578 (⟨by rw [if_pos hc0, hfs, hwy, hpm]; exact zOut_yes hw hv hp hP4 hk3 (by rw [zs_nq (by decide)]; exact hk) hO, hlg, rfl⟩)
    refine zA_iload_8 dX11_shows_279 ?_
    refine zA_if_ge 288 dX11_shows_281 (by decide) (fun q1 => ?_) (fun q1 => ?_)
    · refine zA_iload_8 dX11_shows_288 ?_
      refine zA_aload_0 dX11_shows_290 ?_
      refine zA_getR sh_87 fX11_13 dX11_shows_291 rfl (rt_87_4 _) ?_
      refine zA_bipush (nI 8) dX11_shows_294 bc_8 ?_
      refine zA_iload_4 dX11_shows_296 ?_
      refine zA_imulN dX11_shows_298 ?_
      refine zA_iconst (nI 1) dX11_shows_299 ic_1 ?_
      refine zA_iaddN dX11_shows_300 ?_
      refine zA_iald (v := ((fForget C e) (5 + v) 1)) ((8 * v) + 1) sh_89 dX11_shows_301 rfl (by omega) (by decide) a89 ?_
      refine zA_icmp_le 320 dX11_shows_302 (by decide) (fun q2 => ?_) (fun q2 => ?_)
      · refine zA_iload_8 dX11_shows_320 ?_
        have h9 := hh3 q1 q2
        rw [← h9]
        exact cont _
      · refine zA_aload_0 dX11_shows_305 ?_
        refine zA_getR sh_87 fX11_13 dX11_shows_306 rfl (rt_87_4 _) ?_
        refine zA_bipush (nI 8) dX11_shows_309 bc_8 ?_
        refine zA_iload_4 dX11_shows_311 ?_
        refine zA_imulN dX11_shows_313 ?_
        refine zA_iconst (nI 1) dX11_shows_314 ic_1 ?_
        refine zA_iaddN dX11_shows_315 ?_
        refine zA_iald (v := ((fForget C e) (5 + v) 1)) ((8 * v) + 1) sh_89 dX11_shows_316 rfl (by omega) (by decide) a89 ?_
        refine zA_goto 322 dX11_shows_317 (by decide) ?_
        have h9 := hh2 q1 q2
        rw [← h9]
        exact cont _
    · refine zA_iconst (nI 0) dX11_shows_284 ic_0 ?_
      refine zA_goto 322 dX11_shows_285 (by decide) ?_
      rw [← hh1 q1]
      exact cont _
  · exact zB_vret rfl dX11_shows_164 (⟨by rw [if_neg (fun z => hc (by rw [z]; exact Int32.le_refl _)), hX1]; exact zOut_no hD hN hT, e2, rfl⟩)
