/-! round -/
/-- what a round leaves alone -/
def zXr (X X' : zm_I) : Prop := (∀ a, (a < 122 ∨ 134 < a) → a ≠ 87 → a ≠ 105 → a ≠ 99 → X' a = X a) ∧ (∀ j, (j < 60 ∨ 85 < j) → j ≠ 2 → X' 87 j = X 87 j) ∧ ∀ j, j < 108 → X' 99 j = X 99 j
theorem zPw {Cc n : Nat} (hC : Cc ≤ 33) (hn : n ≤ 3) : Cc ^ n ≤ 35937 := Nat.le_trans (Nat.pow_le_pow_left hC n) (Nat.pow_le_pow_right (n := 33) (by decide) hn)
theorem ct_rRound (g : zm_G) (gi : zm_I) (gl : zm_J) (r : Nat) (C : zm_I) (cl : zm_J) {V W Pn E K Rd : Nat} (hH : zRH V W Pn E K Rd C gi) (hSe : zSe C) (a b : Int32)  : zC_i g yX11_round mX11_round 7 [.ref 87, .int a, .int b] zSH gi gl (zRT r) (fun z gi' gl' gr' => ((zin W a ∧ (nI 1 ≤ b ∧ b ≤ nI 3) ∧ (V * Pn + 1) ^ zi b ≤ 1200) ∧ z = (fSeek V W Pn E K (zi b) (zi a) (C, cl)).1 75 6 ∧ gi' 87 83 = nI 1 ∧ gi' 87 84 = (fSeek V W Pn E K (zi b) (zi a) (C, cl)).1 75 7 ∧ gi' 87 85 = (fSeek V W Pn E K (zi b) (zi a) (C, cl)).1 75 8 ∧ (∀ j, j < 3 → gi' 133 j = (fSeek V W Pn E K (zi b) (zi a) (C, cl)).1 86 j) ∧ zXr gi gi' ∧ (∀ q, q ≠ 121 → gl' q = gl q) ∧ gr' = zRT r) ∨ (¬ ((zin W a ∧ (nI 1 ≤ b ∧ b ≤ nI 3) ∧ (V * Pn + 1) ^ zi b ≤ 1200)) ∧ z = -1 ∧ zXh gi gi' ∧ (∀ q, q ≠ 121 → gl' q = gl q) ∧ gr' = zRT r)) := by
  obtain ⟨hRs, hS0, hPl, hDue, ⟨hV, hV8, hR, hRd, hw, hT, hC⟩, hE, hE24, hW, hP⟩ := id hH
  have hW3 := hRs.2.1
  have hP4 := hRs.2.2.2.1
  refine zC_i_of [some (.ref 87), some (.int a), some (.int b), none, none, none, none, none, none, none, none, none, none, none] (by decide) rfl rfl (Nat.le_of_ble_eq_true rfl) (fun x => ?_)
  refine zA_aload_0 dX11_round_0 ?_
  refine zA_iconst (nI 0) dX11_round_1 ic_0 ?_
  refine zS_putI sh_87 fX11_163 dX11_round_2 rfl rfl ?_
  refine zA_aload_0 dX11_round_5 ?_
  refine zA_iload_1 dX11_round_6 ?_
  refine zA_cVi (ct_risVan g (zs gi 87 2 (nI 0)) gl r hW (by omega) a) calX11_isVan stX11_isVan lX11_189 dX11_round_7 (by decide) (by simp [Value.category]) rfl (Nat.le_refl _) (Nat.le_refl _) sh_87 rfl (fun zz gi' gl' gr' ⟨hz, q1, q2, q3⟩ => ?_)
  rw [hz, q1, q2, q3]
  clear hz q1 q2 q3
  refine zA_if_eqB 22 dX11_round_10 (by decide) (fun g0 => ?_) (fun g0 => ?_)
  · refine zA_iconst (-1) dX11_round_22 ic_m1 ?_
    exact zB_iret rfl dX11_round_23 (Or.inr ⟨fun q => g0 q.1, rfl, zXh_thr _ _, fun _ _ => rfl, rfl⟩)
  · refine zA_iload_2 dX11_round_13 ?_
    refine zA_iconst (nI 1) dX11_round_14 ic_1 ?_
    refine zA_iconst (nI 3) dX11_round_15 ic_3 ?_
    refine zA_cSi (ct_rIsIn g _ _ _ b ((nI 1)) ((nI 3))) calX11_isIn stX11_isIn lX11_172 dX11_round_16 (by decide) (by simp [Value.category]) rfl (Nat.le_refl _) (Nat.le_refl _) (fun zz gi' gl' gr' ⟨hz, q1, q2, q3⟩ => ?_)
    rw [hz, q1, q2, q3]
    clear hz q1 q2 q3
    refine zA_if_neB 24 dX11_round_19 (by decide) (fun g1 => ?_) (fun g1 => ?_)
    · obtain ⟨v, hv, rfl⟩ := zin_nat g0 (by omega)
      obtain ⟨n, hn, rfl⟩ : ∃ n, n ≤ 3 ∧ b = nI n := zwi_nat ⟨Int32.le_trans (by decide) g1.1, g1.2⟩ (by omega)
      have hzn : zi (nI n) = n := zi_nI (by omega)
      have hzv : zi (nI v) = v := zi_nI (by omega)
      obtain ⟨Cc, hCc⟩ : ∃ Cc, Cc = V * Pn + 1 := ⟨_, rfl⟩
      have hC33 : Cc ≤ 33 := by
        have := Nat.mul_le_mul hV8 hP4
        omega
      have hVP : V * Pn ≤ 32 := by omega
      rw [hzn, hzv]
      refine zA_iconst (nI 1) dX11_round_24 ic_1 ?_
      refine zA_aload_0 dX11_round_25 ?_
      refine zA_getI (v := (nI V)) sh_87 fX11_169 dX11_round_26 rfl hV ?_
      refine zA_aload_0 dX11_round_29 ?_
      refine zA_getI (v := (nI Pn)) sh_87 fX11_192 dX11_round_30 rfl hP ?_
      refine zA_imulN dX11_round_33 ?_
      refine zA_iaddN dX11_round_34 ?_
      rw [show 1 + V * Pn = Cc by omega]
      refine zA_istore_3 dX11_round_35 rfl ?_
      refine zA_iconst (nI 1) dX11_round_36 ic_1 ?_
      refine zA_istore_4 dX11_round_37 rfl ?_
      refine zA_iconst (nI 0) dX11_round_39 ic_0 ?_
      refine zA_istore_5 dX11_round_40 rfl ?_
      have krow : ∀ (m j : Nat) (l6 l7 l8 l9 l10 l11 l12 l13 : Option Value), j + m = n → zB_i x g mX11_round 7 zSH (fun z gi' gl' gr' => ((zin W (nI v) ∧ (nI 1 ≤ nI n ∧ nI n ≤ nI 3) ∧ (V * Pn + 1) ^ n ≤ 1200) ∧ z = (fSeek V W Pn E K n v (C, cl)).1 75 6 ∧ gi' 87 83 = nI 1 ∧ gi' 87 84 = (fSeek V W Pn E K n v (C, cl)).1 75 7 ∧ gi' 87 85 = (fSeek V W Pn E K n v (C, cl)).1 75 8 ∧ (∀ j, j < 3 → gi' 133 j = (fSeek V W Pn E K n v (C, cl)).1 86 j) ∧ zXr gi gi' ∧ (∀ q, q ≠ 121 → gl' q = gl q) ∧ gr' = zRT r) ∨ (¬ ((zin W (nI v) ∧ (nI 1 ≤ nI n ∧ nI n ≤ nI 3) ∧ (V * Pn + 1) ^ n ≤ 1200)) ∧ z = -1 ∧ zXh gi gi' ∧ (∀ q, q ≠ 121 → gl' q = gl q) ∧ gr' = zRT r)) 42 [some (.ref 87), some (.int (nI v)), some (.int (nI n)), some (.int (nI Cc)), some (.int (nI (Cc ^ j))), some (.int (nI j)), l6, l7, l8, l9, l10, l11, l12, l13] [] (zs gi 87 2 (nI 0)) gl (zRT r) := by
        intro m
        induction m with
        | zero =>
          intro j l6 l7 l8 l9 l10 l11 l12 l13 hj
          have hpj : Cc ^ j ≤ 35937 := zPw hC33 (by omega)
          refine zA_iload_5 dX11_round_42 ?_
          refine zA_iload_2 dX11_round_44 ?_
          refine zA_icmp_geN 60 dX11_round_45 (by decide) (by omega) (by omega) (fun h => ?_) (fun h => ?_)
          · have e9 : j = n := by omega
            rw [e9]
            clear e9 hpj
            have hpn : Cc ^ n ≤ 35937 := zPw hC33 hn
            refine zA_iload_4 dX11_round_60 ?_
            refine zA_sipush (nI 1200) dX11_round_62 sc_1200 ?_
            refine zA_icmp_leN 70 dX11_round_65 (by decide) (by omega) (by omega) (fun g2 => ?_) (fun g2 => ?_)
            · refine zA_aload_0 dX11_round_70 ?_
              refine zA_cVv (ct_rLay g (zs gi 87 2 (nI 0)) gl r hV hV8 hR hRd hw (fun s hs => by rw [zs_nq (by omega)]; exact hT s hs)) calX11_lay stX11_lay lX11_199 dX11_round_71 (by decide) (by simp [Value.category]) rfl (Nat.le_refl _) (Nat.le_refl _) sh_87 rfl (fun X1 gl1 gr1 ⟨hL, e2, e3⟩ => ?_)
              rw [e2, e3]
              clear e2 e3
              have hSX : zSR 27 W Pn E K C X1 := zRH_sr (zRH_thr hH) hL
              have x1a : ∀ a, a ≠ 87 → a ≠ 105 → X1 a = gi a := fun a h1 h2 => by rw [hL.1 a h2, zs_nq h1]
              have x87 : ∀ j, j ≠ 2 → X1 87 j = gi 87 j := fun j hj => by rw [hL.1 87 (by decide), zs_nj hj]
              have x18 : X1 87 18 = nI E := by rw [x87 18 (by decide)]; exact hE
              refine zA_aload_0 dX11_round_74 ?_
              refine zA_getI (v := (nI E)) sh_87 fX11_202 dX11_round_75 rfl x18 ?_
              refine zA_istore_5 dX11_round_78 rfl ?_
              refine zA_iconst (nI 0) dX11_round_80 ic_0 ?_
              refine zA_istore_6 dX11_round_81 rfl ?_
              have kend : ∀ (k : Nat) (bs : Int32) (m c : Nat) (X : zm_I) (Y : zm_J) (l9 l10 l11 l12 l13 : Option Value), c + m = 108 → X 87 18 = nI E → bs = (fSeek V W Pn E K n v (C, cl)).1 75 6 → X 87 84 = (fSeek V W Pn E K n v (C, cl)).1 75 7 → (fSeek V W Pn E K n v (C, cl)).1 75 8 = nI (Cc ^ n) → (∀ j, j < 3 → X 133 j = (fSeek V W Pn E K n v (C, cl)).1 86 j) → (∀ a, (a < 122 ∨ 133 < a) → a ≠ 87 → a ≠ 99 → a ≠ 134 → X a = X1 a) → (∀ j, (j < 60 ∨ 82 < j) → j ≠ 84 → j ≠ 2 → X 87 j = X1 87 j) → (∀ j, j < 108 → X 134 j = X1 99 j) → (∀ j, j < c → X 99 j = X1 99 j) → (∀ q, q ≠ 121 → Y q = gl q) → zB_i x g mX11_round 7 zSH (fun z gi' gl' gr' => ((zin W (nI v) ∧ (nI 1 ≤ nI n ∧ nI n ≤ nI 3) ∧ (V * Pn + 1) ^ n ≤ 1200) ∧ z = (fSeek V W Pn E K n v (C, cl)).1 75 6 ∧ gi' 87 83 = nI 1 ∧ gi' 87 84 = (fSeek V W Pn E K n v (C, cl)).1 75 7 ∧ gi' 87 85 = (fSeek V W Pn E K n v (C, cl)).1 75 8 ∧ (∀ j, j < 3 → gi' 133 j = (fSeek V W Pn E K n v (C, cl)).1 86 j) ∧ zXr gi gi' ∧ (∀ q, q ≠ 121 → gl' q = gl q) ∧ gr' = zRT r) ∨ (¬ ((zin W (nI v) ∧ (nI 1 ≤ nI n ∧ nI n ≤ nI 3) ∧ (V * Pn + 1) ^ n ≤ 1200)) ∧ z = -1 ∧ zXh gi gi' ∧ (∀ q, q ≠ 121 → gl' q = gl q) ∧ gr' = zRT r)) 393 [some (.ref 87), some (.int (nI v)), some (.int (nI n)), some (.int (nI Cc)), some (.int (nI (Cc ^ n))), some (.int (nI E)), some (.int (nI k)), some (.int bs), some (.int (nI c)), l9, l10, l11, l12, l13] [] X Y (zRT r) := by
                intro k bs m
                induction m with
                | zero =>
                  intro c X Y l9 l10 l11 l12 l13 hc h18 hb1 hb2 hb3 hb4 hx1 hx2 hx3 hx4 hY
                  refine zA_iload_8 dX11_round_393 ?_
                  refine zA_bipush (nI 108) dX11_round_395 bc_108 ?_
                  refine zA_icmp_geN 420 dX11_round_397 (by decide) (by omega) (by omega) (fun h9 => ?_) (fun h9 => ?_)
                  · refine zA_aload_0 dX11_round_420 ?_
                    refine zA_iconst (nI 1) dX11_round_421 ic_1 ?_
                    refine zS_putZ sh_87 fX11_430 dX11_round_422 rfl rfl (by decide) ?_
                    refine zA_aload_0 dX11_round_425 ?_
                    refine zA_iload_4 dX11_round_426 ?_
                    refine zS_putI sh_87 fX11_433 dX11_round_428 rfl rfl ?_
                    refine zA_iload_7 dX11_round_431 ?_
                    exact zB_iret rfl dX11_round_433 (Or.inl ⟨⟨g0, g1, by rw [← hCc]; exact g2⟩, hb1, rfl, hb2, hb3.symm, hb4, ⟨fun a h1 h2 h3 h4 => by rw [zs_nq h2, zs_nq h2, hx1 a (by omega) h2 h4 (by omega), x1a a h2 h3], fun j h1 h2 => by rw [zs_nj (by omega), zs_nj (by omega), hx2 j (by omega) (by omega) h2, x87 j h2], fun j hj => by rw [zs_nq (by decide), zs_nq (by decide), hx4 j (by omega), x1a 99 (by decide) (by decide)]⟩, hY, rfl⟩)
                  · exact absurd h9 (by omega)
                | succ m ih =>
                  intro c X Y l9 l10 l11 l12 l13 hc h18 hb1 hb2 hb3 hb4 hx1 hx2 hx3 hx4 hY
                  refine zA_iload_8 dX11_round_393 ?_
                  refine zA_bipush (nI 108) dX11_round_395 bc_108 ?_
                  refine zA_icmp_geN 420 dX11_round_397 (by decide) (by omega) (by omega) (fun h9 => ?_) (fun h9 => ?_)
                  · exact absurd h9 (by omega)
                  · refine zA_aload_0 dX11_round_400 ?_
                    refine zA_getR sh_87 fX11_43 dX11_round_401 rfl (rt_87_19 _) ?_
                    refine zA_iload_8 dX11_round_404 ?_
                    refine zA_aload_0 dX11_round_406 ?_
                    refine zA_getR sh_87 fX11_154 dX11_round_407 rfl (rt_87_87 _) ?_
                    refine zA_iload_8 dX11_round_410 ?_
                    refine zA_iald (v := (X 134 c)) c sh_134 dX11_round_412 rfl (by omega) (by decide) rfl ?_
                    refine zS_iast c sh_99 dX11_round_413 rfl (by omega) (by decide) ?_
                    refine zA_iinc_8 (v := nI (c + 1)) dX11_round_414 (zn_inc _) rfl ?_
                    refine zA_goto 393 dX11_round_417 (by decide) ?_
                    refine ih (c + 1) _ Y _ _ _ _ _ (by omega) h18 hb1 hb2 hb3 hb4 (fun a h1 h2 h3 h4 => (zs_nq h3).trans (hx1 a h1 h2 h3 h4)) hx2 hx3 (fun j hj => ?_) hY
                    rw [zs_at]
                    by_cases e : j = c
                    · rw [if_pos ⟨rfl, e⟩, e]
                      exact hx3 c h9
                    · rw [if_neg (fun z => e z.2)]
                      exact hx4 j (by omega)
              have kmain : ∀ (k : Nat) (Xc : zm_I), k ≤ E → fSk0 C E K v 76 8 = nI k → zSkI W Pn K k C (fSk0 C E K v) → zRow k (fSk0 C E K v) Xc → (∀ a, a ≠ 99 → a ≠ 87 → a ≠ 134 → Xc a = X1 a) → (∀ j, j ≠ 18 → j ≠ 2 → Xc 87 j = X1 87 j) → (∀ j, j < 108 → Xc 134 j = X1 99 j) → ∀ (m i : Nat) (bs : Int32) (X : zm_I) (Y : zm_J) (l9 l10 l11 l12 l13 : Option Value), i + m = Cc ^ n → ((∀ a, (a < 122 ∨ 133 < a) → a ≠ 87 → a ≠ 99 → X a = Xc a) ∧ (∀ j, (j < 60 ∨ 82 < j) → j ≠ 84 → X 87 j = Xc 87 j)) → zSkI W Pn K k C (zit2 (fSkS V W Pn K n v k) (fSk0 C E K v, cl) i).1 → zRow k (zit2 (fSkS V W Pn K n v k) (fSk0 C E K v, cl) i).1 X → ((i = 0 ∧ bs = -1) ∨ (0 < i ∧ bs = (zit2 (fSkS V W Pn K n v k) (fSk0 C E K v, cl) i).1 75 6 ∧ 0 ≤ bs ∧ X 87 84 = (zit2 (fSkS V W Pn K n v k) (fSk0 C E K v, cl) i).1 75 7 ∧ ∀ j, j < 3 → X 133 j = (zit2 (fSkS V W Pn K n v k) (fSk0 C E K v, cl) i).1 86 j)) → (∀ q, q ≠ 121 → Y q = gl q) → zB_i x g mX11_round 7 zSH (fun z gi' gl' gr' => ((zin W (nI v) ∧ (nI 1 ≤ nI n ∧ nI n ≤ nI 3) ∧ (V * Pn + 1) ^ n ≤ 1200) ∧ z = (fSeek V W Pn E K n v (C, cl)).1 75 6 ∧ gi' 87 83 = nI 1 ∧ gi' 87 84 = (fSeek V W Pn E K n v (C, cl)).1 75 7 ∧ gi' 87 85 = (fSeek V W Pn E K n v (C, cl)).1 75 8 ∧ (∀ j, j < 3 → gi' 133 j = (fSeek V W Pn E K n v (C, cl)).1 86 j) ∧ zXr gi gi' ∧ (∀ q, q ≠ 121 → gl' q = gl q) ∧ gr' = zRT r) ∨ (¬ ((zin W (nI v) ∧ (nI 1 ≤ nI n ∧ nI n ≤ nI 3) ∧ (V * Pn + 1) ^ n ≤ 1200)) ∧ z = -1 ∧ zXh gi gi' ∧ (∀ q, q ≠ 121 → gl' q = gl q) ∧ gr' = zRT r)) 128 [some (.ref 87), some (.int (nI v)), some (.int (nI n)), some (.int (nI Cc)), some (.int (nI (Cc ^ n))), some (.int (nI E)), some (.int (nI k)), some (.int bs), some (.int (nI i)), l9, l10, l11, l12, l13] [] X Y (zRT r) := by
                intro k Xc hkE h08 hI0 hRow0 hxc1 hxc2 hxc3 m
                have hk24 : k ≤ 24 := by omega
                induction m with
                | zero =>
                  intro i bs X Y l9 l10 l11 l12 l13 hi hX hI hRw hB hY
                  refine zA_iload_8 dX11_round_128 ?_
                  refine zA_iload_4 dX11_round_130 ?_
                  refine zA_icmp_geN 384 dX11_round_132 (by decide) (by omega) (by omega) (fun h5 => ?_) (fun h5 => ?_)
                  · have e9 : i = Cc ^ n := by omega
                    have hpos : 0 < i := by rw [e9]; exact Nat.pow_pos (by omega)
                    rcases hB with ⟨q, _⟩ | ⟨_, b1, b2, b3, b4⟩
                    · omega
                    have hSk : fSeek V W Pn E K n v (C, cl) = (zs (zit2 (fSkS V W Pn K n v k) (fSk0 C E K v, cl) i).1 75 8 (nI i), (zit2 (fSkS V W Pn K n v k) (fSk0 C E K v, cl) i).2) := by
                      unfold fSeek
                      dsimp only
                      rw [h08, zi_nI (by omega), ← hCc, ← e9]
                    refine zA_aload_0 dX11_round_384 ?_
                    refine zA_iload_5 dX11_round_385 ?_
                    refine zS_putI sh_87 fX11_202 dX11_round_387 rfl rfl ?_
                    refine zA_iconst (nI 0) dX11_round_390 ic_0 ?_
                    refine zA_istore_8 dX11_round_391 rfl ?_
                    refine kend k bs 108 0 _ Y _ _ _ _ _ (by omega) rfl ?_ ?_ ?_ ?_ (fun a h1 h2 h3 h4 => by rw [zs_nq h2, hX.1 a h1 h2 h3]; exact hxc1 a h3 h2 h4) (fun j h1 h2 h3 => ?_) (fun j hj => by rw [zs_nq (by decide), hX.1 134 (by omega) (by decide) (by decide)]; exact hxc3 j hj) (fun j hj => absurd hj (Nat.not_lt_zero _)) hY
                    · rw [hSk]
                      show bs = zs (zit2 (fSkS V W Pn K n v k) (fSk0 C E K v, cl) i).1 75 8 (nI i) 75 6
                      rw [zs_nj (show 6 ≠ 8 by decide)]
                      exact b1
                    · rw [hSk]
                      show _ = zs (zit2 (fSkS V W Pn K n v k) (fSk0 C E K v, cl) i).1 75 8 (nI i) 75 7
                      rw [zs_nj (show 7 ≠ 8 by decide)]
                      exact b3
                    · rw [hSk, ← e9]
                      show zs (zit2 (fSkS V W Pn K n v k) (fSk0 C E K v, cl) i).1 75 8 (nI i) 75 8 = nI i
                      exact zs_eq _ _ _ _
                    · intro j hj
                      rw [hSk]
                      show _ = zs (zit2 (fSkS V W Pn K n v k) (fSk0 C E K v, cl) i).1 75 8 (nI i) 86 j
                      rw [zs_nq (show 86 ≠ 75 by decide)]
                      exact b4 j hj
                    · by_cases e : j = 18
                      · subst e
                        rw [zs_eq, x18]
                      · rw [zs_nj e, hX.2 j h1 h2]
                        exact hxc2 j e h3
                  · exact absurd h5 (by omega)
                | succ m ih =>
                  intro i bs X Y l9 l10 l11 l12 l13 hi hX hI hRw hB hY
                  refine zA_iload_8 dX11_round_128 ?_
                  refine zA_iload_4 dX11_round_130 ?_
                  refine zA_icmp_geN 384 dX11_round_132 (by decide) (by omega) (by omega) (fun h5 => ?_) (fun h5 => ?_)
                  · exact absurd h5 (by omega)
                  · have hnx : zit2 (fSkS V W Pn K n v k) (fSk0 C E K v, cl) (i + 1) = fSkS V W Pn K n v k (zit2 (fSkS V W Pn K n v k) (fSk0 C E K v, cl) i) i := rfl
                    have ih2 := fun (bs : Int32) (X : zm_I) (Y : zm_J) (l9 l10 l11 l12 l13 : Option Value) => ih (i + 1) bs X Y l9 l10 l11 l12 l13 (by omega)
                    rw [hnx] at ih2
                    clear hnx ih
                    generalize (zit2 (fSkS V W Pn K n v k) (fSk0 C E K v, cl) i) = D at *
                    have hcut := zSk_cut (V := V) (n := n) (i := i) (Cc := Cc) (P := if Pn = 0 then 1 else Pn) hk24 hn hI
                    have hS1 : fSk1 V Pn n v k D.1 i = zit (fLayS v) (fCutB (fCho D.1 Cc (if Pn = 0 then 1 else Pn) n i) k (zi (D.1 76 8))) 3 := by unfold fSk1; rw [hCc]
                    generalize hBB : fCutB (fCho D.1 Cc (if Pn = 0 then 1 else Pn) n i) k (zi (D.1 76 8)) = B at *
                    obtain ⟨cb1, cb2, cb3, cb4⟩ := hcut
                    have hRB : zRow k B X := fun e he => by
                      rw [cb4 77 (by decide) (by decide) (by decide), cb4 78 (by decide) (by decide) (by decide), cb4 79 (by decide) (by decide) (by decide), cb4 80 (by decide) (by decide) (by decide)]
                      exact hRw e he
                    have hCp : 0 < Cc := by omega
                    have h1200 : Cc ^ n ≤ 1200 := g2
                    refine zA_iload_6 dX11_round_135 ?_
                    refine zA_istore_9 dX11_round_137 rfl ?_
                    refine zA_iload_8 dX11_round_139 ?_
                    refine zA_istore_10 dX11_round_141 rfl ?_
                    refine zA_iload_4 dX11_round_143 ?_
                    refine zA_istore_11 dX11_round_145 rfl ?_
                    refine zA_iconst (nI 0) dX11_round_147 ic_0 ?_
                    refine zA_istore_12 dX11_round_148 rfl ?_
                    have klay : ∀ (m j Kj : Nat) (X2 : zm_I) (l13 : Option Value), j + m = n → k ≤ Kj → Kj ≤ k + j → (zit (fLayS v) B j) 76 8 = nI Kj → zPlX 76 Kj (zit (fLayS v) B j) → zRow Kj (zit (fLayS v) B j) X2 → (∀ a, a ≠ 99 → X2 a = X a) → zB_i x g mX11_round 7 zSH (fun z gi' gl' gr' => ((zin W (nI v) ∧ (nI 1 ≤ nI n ∧ nI n ≤ nI 3) ∧ (V * Pn + 1) ^ n ≤ 1200) ∧ z = (fSeek V W Pn E K n v (C, cl)).1 75 6 ∧ gi' 87 83 = nI 1 ∧ gi' 87 84 = (fSeek V W Pn E K n v (C, cl)).1 75 7 ∧ gi' 87 85 = (fSeek V W Pn E K n v (C, cl)).1 75 8 ∧ (∀ j, j < 3 → gi' 133 j = (fSeek V W Pn E K n v (C, cl)).1 86 j) ∧ zXr gi gi' ∧ (∀ q, q ≠ 121 → gl' q = gl q) ∧ gr' = zRT r) ∨ (¬ ((zin W (nI v) ∧ (nI 1 ≤ nI n ∧ nI n ≤ nI 3) ∧ (V * Pn + 1) ^ n ≤ 1200)) ∧ z = -1 ∧ zXh gi gi' ∧ (∀ q, q ≠ 121 → gl' q = gl q) ∧ gr' = zRT r)) 150 [some (.ref 87), some (.int (nI v)), some (.int (nI n)), some (.int (nI Cc)), some (.int (nI (Cc ^ n))), some (.int (nI E)), some (.int (nI k)), some (.int bs), some (.int (nI i)), some (.int (nI Kj)), some (.int (nI (i % Cc ^ (n - j)))), some (.int (nI (Cc ^ (n - j)))), some (.int (nI j)), l13] [] X2 Y (zRT r) := by
                      intro m
                      induction m with
                      | zero =>
                        intro j Kj X2 l13 hj hKj hKj2 hl8 hlp hlr hX2
                        have hpj : Cc ^ (n - j) ≤ 35937 := zPw hC33 (by omega)
                        refine zA_iload_12 dX11_round_150 ?_
                        refine zA_iload_2 dX11_round_152 ?_
                        refine zA_icmp_geN 220 dX11_round_153 (by decide) (by omega) (by omega) (fun h6 => ?_) (fun h6 => ?_)
                        · have e9 : j = n := by omega
                          have hD' : fSk1 V Pn n v k D.1 i = (zit (fLayS v) B j) := by
                            rw [hS1, e9]
                            have := zSk_rest (v := v) (n := n) (B := B) (fun j h1 h2 => by rw [cb3 j h2, if_neg (by omega)]) (3 - n) (by omega)
                            rw [show n + (3 - n) = 3 by omega] at this
                            exact this
                          rw [← hD'] at hl8 hlp hlr
                          obtain ⟨n1, n2, n3, n4, n5, n6, n7, n8⟩ := zSk_next (V := V) (i := i) hV8 hv hk24 hn hI hl8 (by omega) hlp
                          have hSR3 : zSR 76 W Pn Kj K (fSk1 V Pn n v k D.1 i) X2 := zSR_row hP4 hSX (fun a ha => n4 a (Or.inl ha)) (fun a ha => by rw [hX2 a (by omega), hX.1 a (by omega) (by omega) (by omega)]; exact hxc1 a (by omega) (by omega) (by omega)) (by rw [hX2 87 (by decide), hX.2 12 (by omega) (by decide)]; exact hxc2 12 (by decide) (by decide)) (by rw [hX2 87 (by decide), hX.2 15 (by omega) (by decide)]; exact hxc2 15 (by decide) (by decide)) (by rw [hX2 87 (by decide), hX.2 20 (by omega) (by decide)]; exact hxc2 20 (by decide) (by decide)) hlr n5
                          have hdue3 : ∀ p, p < Pn → zx (fSk1 V Pn n v k D.1 i (23 + p) 5) 5 := fun p hp => by rw [n4 (23 + p) (by omega)]; exact hDue p hp
                          have hhd : zHd 162000 (fGo 76 (nI 0) W Pn Kj K (fSk1 V Pn n v k D.1 i, D.2)).1 := zHd_go (P := (fSk1 V Pn n v k D.1 i, D.2)) (by decide) n1 (fun v' hv' => by
                            show zx (fSk1 V Pn n v k D.1 i (5 + v') 1) 501
                            rw [n4 (5 + v') (by omega)]
                            exact hSe v' hv')
                          have hGr : ∀ e, e < k → ∀ a, 77 ≤ a → a ≤ 80 → (fSkS V W Pn K n v k D i).1 a e = D.1 a e := fun e he a h1 h2 => n8 a e h1 h2 he
                          refine zA_aload_0 dX11_round_220 ?_
                          refine zA_iconst (nI 0) dX11_round_221 ic_0 ?_
                          refine zA_iload_9 dX11_round_222 ?_
                          refine zA_cVv (ct_rRunIt g X2 Y r (fSk1 V Pn n v k D.1 i) D.2 (by decide) n1 hSR3 (zPlX_h hW3 (by omega) hlp) hdue3 (nI 0)) calX11_runIt stX11_runIt lX11_416 dX11_round_224 (by decide) (by simp [Value.category]) rfl (Nat.le_refl _) (Nat.le_refl _) sh_87 rfl (fun X3 Y3 gr3 ⟨hF, hBk, hX3, hY3, e3⟩ => ?_)
                          rw [e3]
                          clear e3
                          obtain ⟨t0, t1, t2, t3, t4⟩ := hF.2.1
                          have hY4 : ∀ q, q ≠ 121 → Y3 q = gl q := fun q hq => (hY3 q hq).trans (hY q hq)
                          obtain ⟨hh, hh1, hh2⟩ := hhd
                          have h66 : (fSk2 V W Pn K n v k D i).1 66 0 = nI hh := by rw [n6]; exact hh2
                          have hA3 : zAg (fSk1 V Pn n v k D.1 i) (fSk2 V W Pn K n v k D i).1 := by rw [n6]; exact fGo_ag (P := (fSk1 V Pn n v k D.1 i, D.2)) (by decide) n1
                          have hb75 : (fSk2 V W Pn K n v k D i).1 75 = D.1 75 := by
                            rw [hA3 75 (by omega), hD', zit_nq (fLayS_nq (by omega) (by decide))]
                            exact cb4 75 (by decide) (by decide) (by decide)
                          have hb86 : (fSk2 V W Pn K n v k D i).1 86 = D.1 86 := by
                            rw [hA3 86 (by omega), hD', zit_nq (fLayS_nq (by omega) (by decide))]
                            exact cb4 86 (by decide) (by decide) (by decide)
                          have hb85 : ∀ j, j < 3 → (fSk2 V W Pn K n v k D i).1 85 j = if j < n then zDv (if Pn = 0 then 1 else Pn) (zDg Cc n i j) else -1 := fun j hj => by
                            rw [hA3 85 (by omega), hD', zit_nq (fLayS_nq (by omega) (by decide))]
                            exact cb3 j hj
                          rw [← n6] at t0 t1
                          have x3a : ∀ a, (a < 122 ∨ 133 < a) → a ≠ 87 → a ≠ 99 → X3 a = Xc a := fun a h1 h2 h3 => by rw [hX3.1 a (by omega) h2, hX2 a h3]; exact hX.1 a h1 h2 h3
                          have x3b : ∀ j, (j < 60 ∨ 82 < j) → j ≠ 84 → X3 87 j = Xc 87 j := fun j h1 h2 => by rw [hX3.2 j h1, hX2 87 (by decide)]; exact hX.2 j h1 h2
                          have x384 : X3 87 84 = X 87 84 := by rw [hX3.2 84 (by omega), hX2 87 (by decide)]
                          have x399 : X3 99 = X2 99 := hX3.1 99 (by omega) (by decide)
                          have x3133 : X3 133 = X 133 := by rw [hX3.1 133 (by omega) (by decide), hX2 133 (by decide)]
                          have hRw3 : zRow k (fSkS V W Pn K n v k D i).1 X3 := fun e he => by
                            rw [x399, hGr e he 77 (by decide) (by decide), hGr e he 78 (by decide) (by decide), hGr e he 79 (by decide) (by decide), hGr e he 80 (by decide) (by decide), ← cb4 77 (by decide) (by decide) (by decide), ← cb4 78 (by decide) (by decide) (by decide), ← cb4 79 (by decide) (by decide) (by decide), ← cb4 80 (by decide) (by decide) (by decide)]
                            have := hlr e (by omega)
                            rw [hD', zSk_77 cb1 hk24 (by omega) he j (by omega), zSk_77 cb1 hk24 (by omega) he j (by omega), zSk_77 cb1 hk24 (by omega) he j (by omega), zSk_77 cb1 hk24 (by omega) he j (by omega)] at this
                            exact this
                          have kkeep : (i = 0 ∨ ((fSk2 V W Pn K n v k D i).1 75 6 < (fSk2 V W Pn K n v k D i).1 66 0 ∨ ((fSk2 V W Pn K n v k D i).1 66 0 = (fSk2 V W Pn K n v k D i).1 75 6 ∧ ¬ (fSk2 V W Pn K n v k D i).1 66 1 ≤ (fSk2 V W Pn K n v k D i).1 75 7))) → ∀ (m jj ww by_ : Nat) (X4 : zm_I) (l13 : Option Value), jj + m = 3 → (jj ≤ n → by_ = Cc ^ (n - jj) ∧ ww = i % Cc ^ (n - jj)) → by_ ≤ 35937 → ww ≤ 35937 → 0 < by_ → (∀ j, j < jj → X4 133 j = (fSk2 V W Pn K n v k D i).1 85 j) → X4 87 84 = (fSk2 V W Pn K n v k D i).1 66 1 → (∀ a, a ≠ 133 → a ≠ 87 → X4 a = X3 a) → (∀ j, j ≠ 84 → X4 87 j = X3 87 j) → zB_i x g mX11_round 7 zSH (fun z gi' gl' gr' => ((zin W (nI v) ∧ (nI 1 ≤ nI n ∧ nI n ≤ nI 3) ∧ (V * Pn + 1) ^ n ≤ 1200) ∧ z = (fSeek V W Pn E K n v (C, cl)).1 75 6 ∧ gi' 87 83 = nI 1 ∧ gi' 87 84 = (fSeek V W Pn E K n v (C, cl)).1 75 7 ∧ gi' 87 85 = (fSeek V W Pn E K n v (C, cl)).1 75 8 ∧ (∀ j, j < 3 → gi' 133 j = (fSeek V W Pn E K n v (C, cl)).1 86 j) ∧ zXr gi gi' ∧ (∀ q, q ≠ 121 → gl' q = gl q) ∧ gr' = zRT r) ∨ (¬ ((zin W (nI v) ∧ (nI 1 ≤ nI n ∧ nI n ≤ nI 3) ∧ (V * Pn + 1) ^ n ≤ 1200)) ∧ z = -1 ∧ zXh gi gi' ∧ (∀ q, q ≠ 121 → gl' q = gl q) ∧ gr' = zRT r)) 289 [some (.ref 87), some (.int (nI v)), some (.int (nI n)), some (.int (nI Cc)), some (.int (nI (Cc ^ n))), some (.int (nI E)), some (.int (nI k)), some (.int (((fSk2 V W Pn K n v k D i).1 66 0))), some (.int (nI i)), some (.int (nI Kj)), some (.int (nI ww)), some (.int (nI by_)), some (.int (nI jj)), l13] [] X4 Y3 (zRT r) := by
                            intro hcnd m
                            induction m with
                            | zero =>
                              intro jj ww by_ X4 l13 hjj hbw hb1 hw1 hb0 hr1 hr2 hr3 hr4
                              refine zA_iload_12 dX11_round_289 ?_
                              refine zA_iconst (nI 3) dX11_round_291 ic_3 ?_
                              refine zA_icmp_geN 378 dX11_round_292 (by decide) (by omega) (by omega) (fun h7 => ?_) (fun h7 => ?_)
                              · refine zA_iinc_8 (v := nI (i + 1)) dX11_round_378 (zn_inc _) rfl ?_
                                refine zA_goto 128 dX11_round_381 (by decide) ?_
                                have hSS : fSkS V W Pn K n v k D i = (fKeep (fSk2 V W Pn K n v k D i).1, (fSk2 V W Pn K n v k D i).2) := by
                                  unfold fSkS
                                  rw [if_pos hcnd]
                                have k6 : fKeep (fSk2 V W Pn K n v k D i).1 75 6 = (fSk2 V W Pn K n v k D i).1 66 0 := by unfold fKeep; simp [zs_at]
                                have k7 : fKeep (fSk2 V W Pn K n v k D i).1 75 7 = (fSk2 V W Pn K n v k D i).1 66 1 := by unfold fKeep; simp [zs_at]
                                have k86 : ∀ j, j < 3 → fKeep (fSk2 V W Pn K n v k D i).1 86 j = (fSk2 V W Pn K n v k D i).1 85 j := fun j hj => by
                                  rcases (show j = 0 ∨ j = 1 ∨ j = 2 by omega) with rfl | rfl | rfl <;> (unfold fKeep; simp [zs_at])
                                rw [hSS] at ih2 n7 hRw3
                                refine ih2 _ X4 Y3 _ _ _ _ _ ⟨fun a h1 h2 h3 => (hr3 a (by omega) h2).trans (x3a a h1 h2 h3), fun j h1 h2 => (hr4 j h2).trans (x3b j h1 h2)⟩ n7 (fun e he => ?_) (Or.inr ⟨by omega, k6.symm, ?_, hr2.trans k7.symm, fun j hj => (hr1 j (by omega)).trans (k86 j hj).symm⟩) hY4
                                · rw [hr3 99 (by decide) (by decide)]; exact hRw3 e he
                                · rw [h66]; exact nI_pos' (by omega)
                              · exact absurd h7 (by omega)
                            | succ m ihk =>
                              intro jj ww by_ X4 l13 hjj hbw hb1 hw1 hb0 hr1 hr2 hr3 hr4
                              have hp4 : X4 87 15 = nI Pn := by rw [hr4 15 (by decide), x3b 15 (by omega) (by decide), hxc2 15 (by decide) (by decide), x87 15 (by decide)]; exact hP
                              have hpw : ∀ d, Cc ^ (n - d) ≤ 35937 := fun d => zPw hC33 (by omega)
                              refine zA_iload_12 dX11_round_289 ?_
                              refine zA_iconst (nI 3) dX11_round_291 ic_3 ?_
                              refine zA_icmp_geN 378 dX11_round_292 (by decide) (by omega) (by omega) (fun h7 => ?_) (fun h7 => ?_)
                              · exact absurd h7 (by omega)
                              · refine zA_iload_12 dX11_round_295 ?_
                                refine zA_iload_2 dX11_round_297 ?_
                                refine zA_icmp_geN 308 dX11_round_298 (by decide) (by omega) (by omega) (fun h8 => ?_) (fun h8 => ?_)
                                · refine zA_iconst (nI 1) dX11_round_308 ic_1 ?_
                                  refine zA_istore_11 dX11_round_309 rfl ?_
                                  refine zA_iload_12 dX11_round_311 ?_
                                  refine zA_iload_2 dX11_round_313 ?_
                                  refine zA_icmp_geN 325 dX11_round_314 (by decide) (by omega) (by omega) (fun h8b => ?_) (fun h8b => ?_)
                                  · refine zA_iconst (nI 0) dX11_round_325 ic_0 ?_
                                    refine zA_istore_13 dX11_round_326 rfl ?_
                                    refine zA_iload_10 dX11_round_328 ?_
                                    refine zA_iload_11 dX11_round_330 ?_
                                    refine zA_iremN dX11_round_332 (by decide) (by omega) (by omega) ?_
                                    refine zA_istore_10 dX11_round_333 rfl ?_
                                    refine zA_aload_0 dX11_round_335 ?_
                                    refine zA_getR sh_87 fX11_151 dX11_round_336 rfl (rt_87_86 _) ?_
                                    refine zA_iload_12 dX11_round_339 ?_
                                    refine zA_iload_13 dX11_round_341 ?_
                                    refine zA_if_ne 350 dX11_round_343 (by decide) (fun hh => absurd hh (by decide)) (fun _ => ?_)
                                    refine zA_iconst (-1) dX11_round_346 ic_m1 ?_
                                    refine zA_goto 371 dX11_round_347 (by decide) ?_
                                    refine zS_iast jj sh_133 dX11_round_371 rfl (by omega) (by decide) ?_
                                    refine zA_iinc_12 (v := nI (jj + 1)) dX11_round_372 (zn_inc _) rfl ?_
                                    refine zA_goto 289 dX11_round_375 (by decide) ?_
                                    refine ihk (jj + 1) _ _ _ _ (by omega) (fun q => absurd q (by omega)) (by decide) (by rw [Nat.mod_one]; omega) (by decide) (fun j hj => ?_) hr2 (fun a h1 h2 => (zs_nq h1).trans (hr3 a h1 h2)) hr4
                                    rw [zs_at]
                                    by_cases e : j = jj
                                    · rw [if_pos ⟨rfl, e⟩, e]
                                      rw [hb85 jj h7, if_neg (by omega)]
                                    · rw [if_neg (fun z => e z.2)]
                                      exact hr1 j (by omega)
                                  · exact absurd h8b (by omega)
                                · obtain ⟨ebb, eww⟩ := hbw (by omega)
                                  subst ebb eww
                                  obtain ⟨d1, d2, d3⟩ := zDg_step (C := Cc) (num := i) hCp h8
                                  have hpp : 0 < Cc ^ (n - (jj + 1)) := Nat.pow_pos hCp
                                  have hdl := zDg_lt (C := Cc) (n := n) (num := i) (k := jj) hCp h8
                                  have hpq := hpw (jj + 1)
                                  have e85 : (fSk2 V W Pn K n v k D i).1 85 jj = zDv (if Pn = 0 then 1 else Pn) (zDg Cc n i jj) := by rw [hb85 jj h7, if_pos h8]
                                  have hml := Nat.mod_lt i hpp
                                  refine zA_iload_11 dX11_round_301 ?_
                                  refine zA_iload_3 dX11_round_303 ?_
                                  refine zA_idivN dX11_round_304 (by omega) (by omega) (by omega) ?_
                                  refine zA_goto 309 dX11_round_305 (by decide) ?_
                                  rw [d1]
                                  refine zA_istore_11 dX11_round_309 rfl ?_
                                  refine zA_iload_12 dX11_round_311 ?_
                                  refine zA_iload_2 dX11_round_313 ?_
                                  refine zA_icmp_geN 325 dX11_round_314 (by decide) (by omega) (by omega) (fun h8b => ?_) (fun h8b => ?_)
                                  · exact absurd h8b (by omega)
                                  · refine zA_iload_10 dX11_round_317 ?_
                                    refine zA_iload_11 dX11_round_319 ?_
                                    refine zA_idivN dX11_round_321 (by omega) (by omega) (by omega) ?_
                                    refine zA_goto 326 dX11_round_322 (by decide) ?_
                                    rw [d2]
                                    refine zA_istore_13 dX11_round_326 rfl ?_
                                    refine zA_iload_10 dX11_round_328 ?_
                                    refine zA_iload_11 dX11_round_330 ?_
                                    refine zA_iremN dX11_round_332 (by omega) (by omega) (by omega) ?_
                                    rw [d3]
                                    refine zA_istore_10 dX11_round_333 rfl ?_
                                    refine zA_aload_0 dX11_round_335 ?_
                                    refine zA_getR sh_87 fX11_151 dX11_round_336 rfl (rt_87_86 _) ?_
                                    refine zA_iload_12 dX11_round_339 ?_
                                    refine zA_iload_13 dX11_round_341 ?_
                                    refine zA_if_ne 350 dX11_round_343 (by decide) (fun h10 => ?_) (fun h10 => ?_)
                                    · have hd0 : zDg Cc n i jj ≠ 0 := fun e => h10 (by rw [e]; rfl)
                                      obtain ⟨z1, z2, z3, z4, z5⟩ := zDv_rd hV8 hP4 (by omega) hd0
                                      refine zA_iconst (nI 4) dX11_round_350 ic_4 ?_
                                      refine zA_iload_13 dX11_round_351 ?_
                                      refine zA_iconst (nI 1) dX11_round_353 ic_1 ?_
                                      refine zA_isubN dX11_round_354 (by omega) ?_
                                      refine zA_aload_0 dX11_round_355 ?_
                                      refine zA_getI (v := (nI Pn)) sh_87 fX11_192 dX11_round_356 rfl hp4 ?_
                                      refine zA_idivN dX11_round_359 (by omega) (by omega) (by omega) ?_
                                      refine zA_imulN dX11_round_360 ?_
                                      refine zA_iload_13 dX11_round_361 ?_
                                      refine zA_iconst (nI 1) dX11_round_363 ic_1 ?_
                                      refine zA_isubN dX11_round_364 (by omega) ?_
                                      refine zA_aload_0 dX11_round_365 ?_
                                      refine zA_getI (v := (nI Pn)) sh_87 fX11_192 dX11_round_366 rfl hp4 ?_
                                      refine zA_iremN dX11_round_369 (by omega) (by omega) (by omega) ?_
                                      refine zA_iaddN dX11_round_370 ?_
                                      refine zS_iast jj sh_133 dX11_round_371 rfl (by omega) (by decide) ?_
                                      refine zA_iinc_12 (v := nI (jj + 1)) dX11_round_372 (zn_inc _) rfl ?_
                                      refine zA_goto 289 dX11_round_375 (by decide) ?_
                                      refine ihk (jj + 1) _ _ _ _ (by omega) (fun _ => ⟨rfl, rfl⟩) hpq (by omega) hpp (fun j hj => ?_) hr2 (fun a h1 h2 => (zs_nq h1).trans (hr3 a h1 h2)) hr4
                                      rw [zs_at]
                                      by_cases e : j = jj
                                      · rw [if_pos ⟨rfl, e⟩, e]
                                        rw [e85, if_neg (by omega)]
                                        exact (if_neg hd0).symm
                                      · rw [if_neg (fun z => e z.2)]
                                        exact hr1 j (by omega)
                                    · have hd0 : zDg Cc n i jj = 0 := by
                                        have h := congrArg zi h10
                                        rw [zi_nI (by omega)] at h
                                        exact h
                                      refine zA_iconst (-1) dX11_round_346 ic_m1 ?_
                                      refine zA_goto 371 dX11_round_347 (by decide) ?_
                                      refine zS_iast jj sh_133 dX11_round_371 rfl (by omega) (by decide) ?_
                                      refine zA_iinc_12 (v := nI (jj + 1)) dX11_round_372 (zn_inc _) rfl ?_
                                      refine zA_goto 289 dX11_round_375 (by decide) ?_
                                      refine ihk (jj + 1) _ _ _ _ (by omega) (fun _ => ⟨rfl, rfl⟩) hpq (by omega) hpp (fun j hj => ?_) hr2 (fun a h1 h2 => (zs_nq h1).trans (hr3 a h1 h2)) hr4
                                      rw [zs_at]
                                      by_cases e : j = jj
                                      · rw [if_pos ⟨rfl, e⟩, e]
                                        rw [e85, hd0]
                                        rfl
                                      · rw [if_neg (fun z => e z.2)]
                                        exact hr1 j (by omega)
                          refine zA_iload_7 dX11_round_227 ?_
                          refine zA_if_lt 264 dX11_round_229 (by decide) (fun h7 => ?_) (fun h7 => ?_)
                          · have hi0 : i = 0 := by
                              rcases hB with ⟨q, _⟩ | ⟨_, _, q, _⟩
                              · exact q
                              · exact absurd h7 (Int32.not_lt.mpr q)
                            refine zA_aload_0 dX11_round_264 ?_
                            refine zA_getI (v := (((fSk2 V W Pn K n v k D i).1 66 0))) sh_87 fX11_389 dX11_round_265 rfl t0 ?_
                            refine zA_istore_7 dX11_round_268 rfl ?_
                            refine zA_aload_0 dX11_round_270 ?_
                            refine zA_aload_0 dX11_round_271 ?_
                            refine zA_getI (v := (((fSk2 V W Pn K n v k D i).1 66 1))) sh_87 fX11_398 dX11_round_272 rfl t1 ?_
                            refine zS_putI sh_87 fX11_427 dX11_round_275 rfl rfl ?_
                            refine zA_iload_4 dX11_round_278 ?_
                            refine zA_istore_11 dX11_round_280 rfl ?_
                            refine zA_iload_8 dX11_round_282 ?_
                            refine zA_istore_10 dX11_round_284 rfl ?_
                            refine zA_iconst (nI 0) dX11_round_286 ic_0 ?_
                            refine zA_istore_12 dX11_round_287 rfl ?_
                            refine kkeep (Or.inl hi0) 3 0 _ _ _ _ (by omega) (fun _ => ⟨rfl, (Nat.mod_eq_of_lt h5).symm⟩) hpn (by omega) (Nat.pow_pos hCp) (fun j hj => absurd hj (Nat.not_lt_zero _)) (zs_eq _ _ _ _) (fun a h1 h2 => zs_nq h2) (fun j h1 => zs_nj h1)
                          · obtain ⟨q0, q1, q2, q3, q4⟩ : 0 < i ∧ bs = D.1 75 6 ∧ 0 ≤ bs ∧ X 87 84 = D.1 75 7 ∧ ∀ j, j < 3 → X 133 j = D.1 86 j := by
                              rcases hB with ⟨_, q⟩ | q
                              · rw [q] at h7
                                exact absurd (by decide) h7
                              · exact q
                            have q75 : (fSk2 V W Pn K n v k D i).1 75 6 = bs := by rw [hb75]; exact q1.symm
                            have q757 : X3 87 84 = (fSk2 V W Pn K n v k D i).1 75 7 := by rw [x384, hb75]; exact q3
                            have q0' : ¬ i = 0 := by omega
                            refine zA_aload_0 dX11_round_232 ?_
                            refine zA_getI (v := (((fSk2 V W Pn K n v k D i).1 66 0))) sh_87 fX11_389 dX11_round_233 rfl t0 ?_
                            refine zA_iload_7 dX11_round_236 ?_
                            refine zA_icmp_lt 378 dX11_round_238 (by decide) (fun h8 => ?_) (fun h8 => ?_)
                            · refine zA_iinc_8 (v := nI (i + 1)) dX11_round_378 (zn_inc _) rfl ?_
                              refine zA_goto 128 dX11_round_381 (by decide) ?_
                              have hSS : fSkS V W Pn K n v k D i = fSk2 V W Pn K n v k D i := by
                                unfold fSkS
                                rw [if_neg (fun z => z.elim q0' (fun z => z.elim (fun z => by rw [q75] at z; exact Int32.lt_irrefl (Int32.lt_trans h8 z)) (fun z => by rw [q75] at z; rw [z.1] at h8; exact Int32.lt_irrefl h8)))]
                              rw [hSS] at ih2 n7 hRw3
                              refine ih2 bs X3 Y3 _ _ _ _ _ ⟨x3a, x3b⟩ n7 hRw3 (Or.inr ⟨by omega, ?_, q2, ?_, fun j hj => ?_⟩) hY4
                              · rw [hb75]; exact q1
                              · rw [x384, hb75]; exact q3
                              · rw [x3133, hb86]; exact q4 j hj
                            · refine zA_aload_0 dX11_round_241 ?_
                              refine zA_getI (v := (((fSk2 V W Pn K n v k D i).1 66 0))) sh_87 fX11_389 dX11_round_242 rfl t0 ?_
                              refine zA_iload_7 dX11_round_245 ?_
                              refine zA_icmp_ne 264 dX11_round_247 (by decide) (fun h11 => ?_) (fun h11 => ?_)
                              · refine zA_aload_0 dX11_round_264 ?_
                                refine zA_getI (v := (((fSk2 V W Pn K n v k D i).1 66 0))) sh_87 fX11_389 dX11_round_265 rfl t0 ?_
                                refine zA_istore_7 dX11_round_268 rfl ?_
                                refine zA_aload_0 dX11_round_270 ?_
                                refine zA_aload_0 dX11_round_271 ?_
                                refine zA_getI (v := (((fSk2 V W Pn K n v k D i).1 66 1))) sh_87 fX11_398 dX11_round_272 rfl t1 ?_
                                refine zS_putI sh_87 fX11_427 dX11_round_275 rfl rfl ?_
                                refine zA_iload_4 dX11_round_278 ?_
                                refine zA_istore_11 dX11_round_280 rfl ?_
                                refine zA_iload_8 dX11_round_282 ?_
                                refine zA_istore_10 dX11_round_284 rfl ?_
                                refine zA_iconst (nI 0) dX11_round_286 ic_0 ?_
                                refine zA_istore_12 dX11_round_287 rfl ?_
                                refine kkeep (Or.inr (Or.inl (by rw [q75]; exact Int32.lt_of_le_of_ne (Int32.not_lt.mp h8) (Ne.symm h11)))) 3 0 _ _ _ _ (by omega) (fun _ => ⟨rfl, (Nat.mod_eq_of_lt h5).symm⟩) hpn (by omega) (Nat.pow_pos hCp) (fun j hj => absurd hj (Nat.not_lt_zero _)) (zs_eq _ _ _ _) (fun a h1 h2 => zs_nq h2) (fun j h1 => zs_nj h1)
                              · refine zA_aload_0 dX11_round_250 ?_
                                refine zA_getI (v := (((fSk2 V W Pn K n v k D i).1 66 1))) sh_87 fX11_398 dX11_round_251 rfl t1 ?_
                                refine zA_aload_0 dX11_round_254 ?_
                                refine zA_getI (v := (((fSk2 V W Pn K n v k D i).1 75 7))) sh_87 fX11_427 dX11_round_255 rfl q757 ?_
                                refine zA_icmp_gt 264 dX11_round_258 (by decide) (fun h12 => ?_) (fun h12 => ?_)
                                · refine zA_aload_0 dX11_round_264 ?_
                                  refine zA_getI (v := (((fSk2 V W Pn K n v k D i).1 66 0))) sh_87 fX11_389 dX11_round_265 rfl t0 ?_
                                  refine zA_istore_7 dX11_round_268 rfl ?_
                                  refine zA_aload_0 dX11_round_270 ?_
                                  refine zA_aload_0 dX11_round_271 ?_
                                  refine zA_getI (v := (((fSk2 V W Pn K n v k D i).1 66 1))) sh_87 fX11_398 dX11_round_272 rfl t1 ?_
                                  refine zS_putI sh_87 fX11_427 dX11_round_275 rfl rfl ?_
                                  refine zA_iload_4 dX11_round_278 ?_
                                  refine zA_istore_11 dX11_round_280 rfl ?_
                                  refine zA_iload_8 dX11_round_282 ?_
                                  refine zA_istore_10 dX11_round_284 rfl ?_
                                  refine zA_iconst (nI 0) dX11_round_286 ic_0 ?_
                                  refine zA_istore_12 dX11_round_287 rfl ?_
                                  refine kkeep (Or.inr (Or.inr ⟨by rw [q75]; exact h11, Int32.not_le.mpr h12⟩)) 3 0 _ _ _ _ (by omega) (fun _ => ⟨rfl, (Nat.mod_eq_of_lt h5).symm⟩) hpn (by omega) (Nat.pow_pos hCp) (fun j hj => absurd hj (Nat.not_lt_zero _)) (zs_eq _ _ _ _) (fun a h1 h2 => zs_nq h2) (fun j h1 => zs_nj h1)
                                · refine zA_goto 378 dX11_round_261 (by decide) ?_
                                  refine zA_iinc_8 (v := nI (i + 1)) dX11_round_378 (zn_inc _) rfl ?_
                                  refine zA_goto 128 dX11_round_381 (by decide) ?_
                                  have hSS : fSkS V W Pn K n v k D i = fSk2 V W Pn K n v k D i := by
                                    unfold fSkS
                                    rw [if_neg (fun z => z.elim q0' (fun z => z.elim (fun z => by rw [q75, h11] at z; exact Int32.lt_irrefl z) (fun z => z.2 (Int32.not_lt.mp h12))))]
                                  rw [hSS] at ih2 n7 hRw3
                                  refine ih2 bs X3 Y3 _ _ _ _ _ ⟨x3a, x3b⟩ n7 hRw3 (Or.inr ⟨by omega, ?_, q2, ?_, fun j hj => ?_⟩) hY4
                                  · rw [hb75]; exact q1
                                  · rw [x384, hb75]; exact q3
                                  · rw [x3133, hb86]; exact q4 j hj
                        · exact absurd h6 (by omega)
                      | succ m ihl =>
                        intro j Kj X2 l13 hj hKj hKj2 hl8 hlp hlr hX2
                        have hpj : Cc ^ (n - j) ≤ 35937 := zPw hC33 (by omega)
                        have hpj1 : Cc ^ (n - (j + 1)) ≤ 35937 := zPw hC33 (by omega)
                        have hjn : j < n := by omega
                        obtain ⟨d1, d2, d3⟩ := zDg_step (C := Cc) (num := i) hCp hjn
                        have hpp : 0 < Cc ^ (n - (j + 1)) := Nat.pow_pos hCp
                        have hdl := zDg_lt (C := Cc) (n := n) (num := i) (k := j) hCp hjn
                        have hmi : i % Cc ^ (n - j) ≤ 35937 := Nat.le_trans (Nat.mod_le _ _) (by omega)
                        have hp2 : X2 87 15 = nI Pn := by rw [hX2 87 (by decide), hX.2 15 (by omega) (by decide), hxc2 15 (by decide) (by decide), x87 15 (by decide)]; exact hP
                        obtain ⟨s1, s2⟩ := zSk_lay (Cc := Cc) (i := i) hV8 hP4 (show v < 3 by omega) hk24 hjn hn hCc cb3 hl8 hKj2 hlp hlr
                        refine zA_iload_12 dX11_round_150 ?_
                        refine zA_iload_2 dX11_round_152 ?_
                        refine zA_icmp_geN 220 dX11_round_153 (by decide) (by omega) (by omega) (fun h6 => ?_) (fun h6 => ?_)
                        · exact absurd h6 (by omega)
                        · refine zA_iload_11 dX11_round_156 ?_
                          refine zA_iload_3 dX11_round_158 ?_
                          refine zA_idivN dX11_round_159 (by omega) (by omega) (by omega) ?_
                          rw [d1]
                          refine zA_istore_11 dX11_round_160 rfl ?_
                          refine zA_iload_10 dX11_round_162 ?_
                          refine zA_iload_11 dX11_round_164 ?_
                          refine zA_idivN dX11_round_166 (by omega) (by omega) (by omega) ?_
                          rw [d2]
                          refine zA_istore_13 dX11_round_167 rfl ?_
                          refine zA_iload_10 dX11_round_169 ?_
                          refine zA_iload_11 dX11_round_171 ?_
                          refine zA_iremN dX11_round_173 (by omega) (by omega) (by omega) ?_
                          rw [d3]
                          refine zA_istore_10 dX11_round_174 rfl ?_
                          refine zA_iload_13 dX11_round_176 ?_
                          refine zA_if_ne 184 dX11_round_178 (by decide) (fun h10 => ?_) (fun h10 => ?_)
                          · have hd0 : zDg Cc n i j ≠ 0 := fun e => h10 (by rw [e]; rfl)
                            obtain ⟨z1, z2, z3, z4, z5⟩ := zDv_rd hV8 hP4 (by omega) hd0
                            obtain ⟨s3, s4, s5⟩ := s2 hd0
                            refine zA_aload_0 dX11_round_184 ?_
                            refine zA_iload_9 dX11_round_185 ?_
                            refine zA_iload_12 dX11_round_187 ?_
                            refine zA_iload_1 dX11_round_189 ?_
                            refine zA_iload_13 dX11_round_190 ?_
                            refine zA_iconst (nI 1) dX11_round_192 ic_1 ?_
                            refine zA_isubN dX11_round_193 (by omega) ?_
                            refine zA_aload_0 dX11_round_194 ?_
                            refine zA_getI (v := (nI Pn)) sh_87 fX11_192 dX11_round_195 rfl hp2 ?_
                            refine zA_idivN dX11_round_198 (by omega) (by omega) (by omega) ?_
                            refine zA_iload_13 dX11_round_199 ?_
                            refine zA_iconst (nI 1) dX11_round_201 ic_1 ?_
                            refine zA_isubN dX11_round_202 (by omega) ?_
                            refine zA_aload_0 dX11_round_203 ?_
                            refine zA_getI (v := (nI Pn)) sh_87 fX11_192 dX11_round_204 rfl hp2 ?_
                            refine zA_iremN dX11_round_207 (by omega) (by omega) (by omega) ?_
                            refine zA_cVv (ct_rSets g X2 Y r (e := Kj) (by omega) (nI j) (nI v) (nI ((zDg Cc n i j - 1) / Pn)) (nI ((zDg Cc n i j - 1) % Pn))) calX11_sets stX11_sets lX11_208 dX11_round_208 (by decide) (by simp [Value.category]) rfl (Nat.le_refl _) (Nat.le_refl _) sh_87 rfl (fun gi' gl' gr' ⟨e1, e2, e3⟩ => ?_)
                            rw [e1, e2, e3]
                            clear e1 e2 e3
                            refine zA_iinc_9 (v := nI (Kj + 1)) dX11_round_211 (zn_inc _) rfl ?_
                            refine zA_iinc_12 (v := nI (j + 1)) dX11_round_214 (zn_inc _) rfl ?_
                            refine zA_goto 150 dX11_round_217 (by decide) ?_
                            exact ihl (j + 1) (Kj + 1) _ _ (by omega) (by omega) (by omega) s3 s4 s5 (fun a ha => by unfold rSets; rw [zs_nq ha, zs_nq ha, zs_nq ha, zs_nq ha]; exact hX2 a ha)
                          · have hd0 : zDg Cc n i j = 0 := by
                              have h := congrArg zi h10
                              rw [zi_nI (by omega)] at h
                              exact h
                            have es := s1 hd0
                            refine zA_goto 214 dX11_round_181 (by decide) ?_
                            refine zA_iinc_12 (v := nI (j + 1)) dX11_round_214 (zn_inc _) rfl ?_
                            refine zA_goto 150 dX11_round_217 (by decide) ?_
                            exact ihl (j + 1) Kj X2 _ (by omega) hKj (by omega) (by rw [es]; exact hl8) (by rw [es]; exact hlp) (by rw [es]; exact hlr) hX2
                    have hkl := fun (l13 : Option Value) => klay n 0 k X l13 (by omega) (Nat.le_refl _) (by omega) cb1 cb2 hRB (fun _ _ => rfl)
                    rw [Nat.sub_zero, Nat.mod_eq_of_lt h5] at hkl
                    exact hkl _
              have ksav : ∀ (m c : Nat) (X : zm_I) (l7 l8 l9 l10 l11 l12 l13 : Option Value), c + m = 108 → (∀ a, a ≠ 134 → X a = X1 a) → (∀ j, j < c → X 134 j = X1 99 j) → zB_i x g mX11_round 7 zSH (fun z gi' gl' gr' => ((zin W (nI v) ∧ (nI 1 ≤ nI n ∧ nI n ≤ nI 3) ∧ (V * Pn + 1) ^ n ≤ 1200) ∧ z = (fSeek V W Pn E K n v (C, cl)).1 75 6 ∧ gi' 87 83 = nI 1 ∧ gi' 87 84 = (fSeek V W Pn E K n v (C, cl)).1 75 7 ∧ gi' 87 85 = (fSeek V W Pn E K n v (C, cl)).1 75 8 ∧ (∀ j, j < 3 → gi' 133 j = (fSeek V W Pn E K n v (C, cl)).1 86 j) ∧ zXr gi gi' ∧ (∀ q, q ≠ 121 → gl' q = gl q) ∧ gr' = zRT r) ∨ (¬ ((zin W (nI v) ∧ (nI 1 ≤ nI n ∧ nI n ≤ nI 3) ∧ (V * Pn + 1) ^ n ≤ 1200)) ∧ z = -1 ∧ zXh gi gi' ∧ (∀ q, q ≠ 121 → gl' q = gl q) ∧ gr' = zRT r)) 83 [some (.ref 87), some (.int (nI v)), some (.int (nI n)), some (.int (nI Cc)), some (.int (nI (Cc ^ n))), some (.int (nI E)), some (.int (nI c)), l7, l8, l9, l10, l11, l12, l13] [] X gl (zRT r) := by
                intro m
                induction m with
                | zero =>
                  intro c X l7 l8 l9 l10 l11 l12 l13 hc hx1 hx2
                  refine zA_iload_6 dX11_round_83 ?_
                  refine zA_bipush (nI 108) dX11_round_85 bc_108 ?_
                  refine zA_icmp_geN 110 dX11_round_87 (by decide) (by omega) (by omega) (fun h9 => ?_) (fun h9 => ?_)
                  · have hc18 : X 87 18 = nI E := by rw [hx1 87 (by decide)]; exact x18
                    have hc12 : X 87 12 = nI W := by rw [hx1 87 (by decide), x87 12 (by decide)]; exact hW
                    have hm1 : ¬ nI v = -1 := fun z => absurd (by rw [z]; decide) (nI_pos (n := v) (by omega))
                    refine zA_aload_0 dX11_round_110 ?_
                    refine zA_iload_1 dX11_round_111 ?_
                    refine zA_cVi (ct_rClear g X gl r hc12 hW3 hc18 hE24 (nI v)) calX11_clear stX11_clear lX11_424 dX11_round_112 (by decide) (by simp [Value.category]) rfl (Nat.le_refl _) (Nat.le_refl _) sh_87 rfl (fun zz Xc gl1 gr1 hcl => ?_)
                    obtain ⟨hc1, hc2, hc3⟩ : Xc = zit (rClrS (nI v)) (zs (zs X 87 2 (nI 0)) 87 18 (nI 0)) E ∧ gl1 = gl ∧ gr1 = zRT r := by
                      rcases hcl with ⟨q, _⟩ | ⟨_, _, _, q⟩ | ⟨_, q, _⟩
                      · exact absurd q hm1
                      · exact q
                      · exact absurd g0 q
                    rw [hc2, hc3]
                    obtain ⟨k, k1, k2, k3, k4, k5, k6, k7⟩ := zSk_0 (v := v) (X := (zs (zs X 87 2 (nI 0)) 87 18 (nI 0))) hRs hE24 rfl (fun e he => by
                      rw [zs_nq (by decide), zs_nq (by decide), hx1 99 (by decide)]
                      exact hSX.2.2.2.2.2.2.2.2.1 e he)
                    rw [← hc1] at k4 k5 k6 k7
                    clear hcl hc1 hc2 hc3
                    refine zA_pop dX11_round_115 rfl ?_
                    refine zA_aload_0 dX11_round_116 ?_
                    refine zA_getI (v := (nI k)) sh_87 fX11_202 dX11_round_117 rfl k4 ?_
                    refine zA_istore_6 dX11_round_120 rfl ?_
                    refine zA_iconst (-1) dX11_round_122 ic_m1 ?_
                    refine zA_istore_7 dX11_round_123 rfl ?_
                    refine zA_iconst (nI 0) dX11_round_125 ic_0 ?_
                    refine zA_istore_8 dX11_round_126 rfl ?_
                    have kk := kmain k Xc k1 k2 k3 k5 (fun a h1 h2 h3 => by rw [k6 a h1 h2, zs_nq h2, zs_nq h2, hx1 a h3]) (fun j h1 h2 => by rw [k7 j h1, zs_nj h1, zs_nj h2, hx1 87 (by decide)]) (fun j hj => by rw [k6 134 (by decide) (by decide), zs_nq (by decide), zs_nq (by decide)]; exact hx2 j (by omega))
                    exact kk (Cc ^ n) 0 (-1) Xc gl _ _ _ _ _ (by omega) ⟨fun _ _ _ _ => rfl, fun _ _ _ => rfl⟩ k3 k5 (Or.inl ⟨rfl, rfl⟩) (fun _ _ => rfl)
                  · exact absurd h9 (by omega)
                | succ m ih =>
                  intro c X l7 l8 l9 l10 l11 l12 l13 hc hx1 hx2
                  have h99 : ∀ j, X 99 j = X1 99 j := fun j => by rw [hx1 99 (by decide)]
                  refine zA_iload_6 dX11_round_83 ?_
                  refine zA_bipush (nI 108) dX11_round_85 bc_108 ?_
                  refine zA_icmp_geN 110 dX11_round_87 (by decide) (by omega) (by omega) (fun h9 => ?_) (fun h9 => ?_)
                  · exact absurd h9 (by omega)
                  · refine zA_aload_0 dX11_round_90 ?_
                    refine zA_getR sh_87 fX11_154 dX11_round_91 rfl (rt_87_87 _) ?_
                    refine zA_iload_6 dX11_round_94 ?_
                    refine zA_aload_0 dX11_round_96 ?_
                    refine zA_getR sh_87 fX11_43 dX11_round_97 rfl (rt_87_19 _) ?_
                    refine zA_iload_6 dX11_round_100 ?_
                    refine zA_iald (v := (X 99 c)) c sh_99 dX11_round_102 rfl (by omega) (by decide) rfl ?_
                    refine zS_iast c sh_134 dX11_round_103 rfl (by omega) (by decide) ?_
                    refine zA_iinc_6 (v := nI (c + 1)) dX11_round_104 (zn_inc _) rfl ?_
                    refine zA_goto 83 dX11_round_107 (by decide) ?_
                    refine ih (c + 1) _ _ _ _ _ _ _ _ (by omega) (fun a ha => (zs_nq ha).trans (hx1 a ha)) (fun j hj => ?_)
                    rw [zs_at]
                    by_cases e : j = c
                    · rw [if_pos ⟨rfl, e⟩, e]
                      exact h99 c
                    · rw [if_neg (fun z => e z.2)]
                      exact hx2 j (by omega)
              exact ksav 108 0 X1 _ _ _ _ _ _ _ (by omega) (fun _ _ => rfl) (fun j hj => absurd hj (Nat.not_lt_zero _))
            · refine zA_iconst (-1) dX11_round_68 ic_m1 ?_
              exact zB_iret rfl dX11_round_69 (Or.inr ⟨fun q => absurd q.2.2 (by rw [← hCc]; omega), rfl, zXh_thr _ _, fun _ _ => rfl, rfl⟩)
          · exact absurd h (by omega)
        | succ m ih =>
          intro j l6 l7 l8 l9 l10 l11 l12 l13 hj
          have hpj : Cc ^ j ≤ 35937 := zPw hC33 (by omega)
          refine zA_iload_5 dX11_round_42 ?_
          refine zA_iload_2 dX11_round_44 ?_
          refine zA_icmp_geN 60 dX11_round_45 (by decide) (by omega) (by omega) (fun h => ?_) (fun h => ?_)
          · exact absurd h (by omega)
          · refine zA_iload_4 dX11_round_48 ?_
            refine zA_iload_3 dX11_round_50 ?_
            refine zA_imulN dX11_round_51 ?_
            refine zA_istore_4 dX11_round_52 rfl ?_
            refine zA_iinc_5 (v := nI (j + 1)) dX11_round_54 (zn_inc _) rfl ?_
            refine zA_goto 42 dX11_round_57 (by decide) ?_
            exact ih (j + 1) _ _ _ _ _ _ _ _ (by omega)
      exact krow n 0 _ _ _ _ _ _ _ _ (by omega)
    · refine zA_iconst (-1) dX11_round_22 ic_m1 ?_
      exact zB_iret rfl dX11_round_23 (Or.inr ⟨fun q => g1 q.2.1, rfl, zXh_thr _ _, fun _ _ => rfl, rfl⟩)
